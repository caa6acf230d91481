section
-- ===== PART A: goes FIRST, ahead of the names: the tables' words, and 'selects' of the private methods out of them =====
/-- a private method of a class that the tables say can be made, by its rows of tables_1 -/
def lw_okq (q : MethodName × Nat) : Prop := (q.1.cls ≠ "java/lang/invoke/MethodHandle" ∧ q.1.cls ≠ "java/lang/invoke/VarHandle") ∧ Cond.instantiable q.1.cls q.2 ∈ tables_1 ∧ Cond.privateMethod q.1 ∈ tables_1 ∧ Cond.instanceMethod q.1 ∈ tables_1
theorem lw_p0 : lw_okq (⟨"LaneTrunks", "growTree", "()V"⟩, 15) := ⟨⟨by decide +kernel, by decide +kernel⟩, List.mem_of_getElem? (i := 12) (by decide +kernel), List.mem_of_getElem? (i := 23) (by decide +kernel), List.mem_of_getElem? (i := 24) (by decide +kernel)⟩
theorem lw_p1 : lw_okq (⟨"LaneTrunks", "findRoots", "()V"⟩, 15) := ⟨⟨by decide +kernel, by decide +kernel⟩, List.mem_of_getElem? (i := 12) (by decide +kernel), List.mem_of_getElem? (i := 27) (by decide +kernel), List.mem_of_getElem? (i := 28) (by decide +kernel)⟩
theorem lw_p2 : lw_okq (⟨"LaneTrunks", "leastSums", "([I[I)V"⟩, 15) := ⟨⟨by decide +kernel, by decide +kernel⟩, List.mem_of_getElem? (i := 12) (by decide +kernel), List.mem_of_getElem? (i := 34) (by decide +kernel), List.mem_of_getElem? (i := 35) (by decide +kernel)⟩
theorem lw_p3 : lw_okq (⟨"LaneTrunks", "lowerSum", "([I[II)V"⟩, 15) := ⟨⟨by decide +kernel, by decide +kernel⟩, List.mem_of_getElem? (i := 12) (by decide +kernel), List.mem_of_getElem? (i := 38) (by decide +kernel), List.mem_of_getElem? (i := 39) (by decide +kernel)⟩
theorem lw_p4 : lw_okq (⟨"LaneTrunks", "findCosts", "()V"⟩, 15) := ⟨⟨by decide +kernel, by decide +kernel⟩, List.mem_of_getElem? (i := 12) (by decide +kernel), List.mem_of_getElem? (i := 45) (by decide +kernel), List.mem_of_getElem? (i := 46) (by decide +kernel)⟩
theorem lw_p5 : lw_okq (⟨"LaneTrunks", "bestWayUp", "(I)I"⟩, 15) := ⟨⟨by decide +kernel, by decide +kernel⟩, List.mem_of_getElem? (i := 12) (by decide +kernel), List.mem_of_getElem? (i := 49) (by decide +kernel), List.mem_of_getElem? (i := 50) (by decide +kernel)⟩
theorem lw_p6 : lw_okq (⟨"LaneTrunks", "forgetWalks", "()V"⟩, 15) := ⟨⟨by decide +kernel, by decide +kernel⟩, List.mem_of_getElem? (i := 12) (by decide +kernel), List.mem_of_getElem? (i := 115) (by decide +kernel), List.mem_of_getElem? (i := 116) (by decide +kernel)⟩
theorem lw_p7 : lw_okq (⟨"LaneTrunks", "isUsed", "(II)Z"⟩, 15) := ⟨⟨by decide +kernel, by decide +kernel⟩, List.mem_of_getElem? (i := 12) (by decide +kernel), List.mem_of_getElem? (i := 119) (by decide +kernel), List.mem_of_getElem? (i := 120) (by decide +kernel)⟩
theorem lw_p8 : lw_okq (⟨"LaneTrunks", "isTagged", "(II)Z"⟩, 15) := ⟨⟨by decide +kernel, by decide +kernel⟩, List.mem_of_getElem? (i := 12) (by decide +kernel), List.mem_of_getElem? (i := 123) (by decide +kernel), List.mem_of_getElem? (i := 124) (by decide +kernel)⟩
theorem lw_p9 : lw_okq (⟨"LaneTrunks", "walkFrom", "(I)V"⟩, 15) := ⟨⟨by decide +kernel, by decide +kernel⟩, List.mem_of_getElem? (i := 12) (by decide +kernel), List.mem_of_getElem? (i := 127) (by decide +kernel), List.mem_of_getElem? (i := 128) (by decide +kernel)⟩
theorem lw_p10 : lw_okq (⟨"LaneTrunks", "reach", "(II)V"⟩, 15) := ⟨⟨by decide +kernel, by decide +kernel⟩, List.mem_of_getElem? (i := 12) (by decide +kernel), List.mem_of_getElem? (i := 131) (by decide +kernel), List.mem_of_getElem? (i := 132) (by decide +kernel)⟩
theorem lw_p11 : lw_okq (⟨"LaneTrunks", "reachNeighbours", "(I)V"⟩, 15) := ⟨⟨by decide +kernel, by decide +kernel⟩, List.mem_of_getElem? (i := 12) (by decide +kernel), List.mem_of_getElem? (i := 135) (by decide +kernel), List.mem_of_getElem? (i := 136) (by decide +kernel)⟩
theorem lw_p12 : lw_okq (⟨"LaneTrunks", "placeBeyond", "(II)I"⟩, 15) := ⟨⟨by decide +kernel, by decide +kernel⟩, List.mem_of_getElem? (i := 12) (by decide +kernel), List.mem_of_getElem? (i := 139) (by decide +kernel), List.mem_of_getElem? (i := 140) (by decide +kernel)⟩
theorem lw_p13 : lw_okq (⟨"LaneTrunks", "hasLiveCable", "(I)Z"⟩, 15) := ⟨⟨by decide +kernel, by decide +kernel⟩, List.mem_of_getElem? (i := 12) (by decide +kernel), List.mem_of_getElem? (i := 143) (by decide +kernel), List.mem_of_getElem? (i := 144) (by decide +kernel)⟩
theorem lw_p14 : lw_okq (⟨"LaneTrunks", "laneBeyond", "(II)I"⟩, 15) := ⟨⟨by decide +kernel, by decide +kernel⟩, List.mem_of_getElem? (i := 12) (by decide +kernel), List.mem_of_getElem? (i := 147) (by decide +kernel), List.mem_of_getElem? (i := 148) (by decide +kernel)⟩
theorem lw_p15 : lw_okq (⟨"LaneTrunks", "countWays", "()I"⟩, 15) := ⟨⟨by decide +kernel, by decide +kernel⟩, List.mem_of_getElem? (i := 12) (by decide +kernel), List.mem_of_getElem? (i := 155) (by decide +kernel), List.mem_of_getElem? (i := 156) (by decide +kernel)⟩
def lw_privs_1 : List (MethodName × Nat) := [(⟨"LaneTrunks", "growTree", "()V"⟩, 15), (⟨"LaneTrunks", "findRoots", "()V"⟩, 15), (⟨"LaneTrunks", "leastSums", "([I[I)V"⟩, 15), (⟨"LaneTrunks", "lowerSum", "([I[II)V"⟩, 15), (⟨"LaneTrunks", "findCosts", "()V"⟩, 15), (⟨"LaneTrunks", "bestWayUp", "(I)I"⟩, 15), (⟨"LaneTrunks", "forgetWalks", "()V"⟩, 15), (⟨"LaneTrunks", "isUsed", "(II)Z"⟩, 15), (⟨"LaneTrunks", "isTagged", "(II)Z"⟩, 15), (⟨"LaneTrunks", "walkFrom", "(I)V"⟩, 15), (⟨"LaneTrunks", "reach", "(II)V"⟩, 15), (⟨"LaneTrunks", "reachNeighbours", "(I)V"⟩, 15), (⟨"LaneTrunks", "placeBeyond", "(II)I"⟩, 15), (⟨"LaneTrunks", "hasLiveCable", "(I)Z"⟩, 15), (⟨"LaneTrunks", "laneBeyond", "(II)I"⟩, 15), (⟨"LaneTrunks", "countWays", "()I"⟩, 15)]
theorem lw_r1 : ∀ q ∈ lw_privs_1, lw_okq q := List.forall_mem_cons.mpr ⟨lw_p0, List.forall_mem_cons.mpr ⟨lw_p1, List.forall_mem_cons.mpr ⟨lw_p2, List.forall_mem_cons.mpr ⟨lw_p3, List.forall_mem_cons.mpr ⟨lw_p4, List.forall_mem_cons.mpr ⟨lw_p5, List.forall_mem_cons.mpr ⟨lw_p6, List.forall_mem_cons.mpr ⟨lw_p7, List.forall_mem_cons.mpr ⟨lw_p8, List.forall_mem_cons.mpr ⟨lw_p9, List.forall_mem_cons.mpr ⟨lw_p10, List.forall_mem_cons.mpr ⟨lw_p11, List.forall_mem_cons.mpr ⟨lw_p12, List.forall_mem_cons.mpr ⟨lw_p13, List.forall_mem_cons.mpr ⟨lw_p14, List.forall_mem_cons.mpr ⟨lw_p15, fun _ h => absurd h List.not_mem_nil⟩⟩⟩⟩⟩⟩⟩⟩⟩⟩⟩⟩⟩⟩⟩⟩
theorem lw_p16 : lw_okq (⟨"LaneTrunks", "waysOver", "(II)I"⟩, 15) := ⟨⟨by decide +kernel, by decide +kernel⟩, List.mem_of_getElem? (i := 12) (by decide +kernel), List.mem_of_getElem? (i := 159) (by decide +kernel), List.mem_of_getElem? (i := 160) (by decide +kernel)⟩
theorem lw_p17 : lw_okq (⟨"LaneTrunks", "countUsedPlaces", "()I"⟩, 15) := ⟨⟨by decide +kernel, by decide +kernel⟩, List.mem_of_getElem? (i := 12) (by decide +kernel), List.mem_of_getElem? (i := 169) (by decide +kernel), List.mem_of_getElem? (i := 170) (by decide +kernel)⟩
theorem lw_p18 : lw_okq (⟨"java/lang/Throwable", "fillInStackTrace", "(I)Ljava/lang/Throwable;"⟩, 6) := ⟨⟨by decide +kernel, by decide +kernel⟩, List.mem_of_getElem? (i := 227) (by decide +kernel), List.mem_of_getElem? (i := 225) (by decide +kernel), List.mem_of_getElem? (i := 226) (by decide +kernel)⟩
theorem lw_p19 : lw_okq (⟨"LaneTrunks", "hasCable", "(I)Z"⟩, 15) := ⟨⟨by decide +kernel, by decide +kernel⟩, List.mem_of_getElem? (i := 12) (by decide +kernel), List.mem_of_getElem? (i := 295) (by decide +kernel), List.mem_of_getElem? (i := 296) (by decide +kernel)⟩
theorem lw_p20 : lw_okq (⟨"LaneTrunks", "setCable", "(III)V"⟩, 15) := ⟨⟨by decide +kernel, by decide +kernel⟩, List.mem_of_getElem? (i := 12) (by decide +kernel), List.mem_of_getElem? (i := 300) (by decide +kernel), List.mem_of_getElem? (i := 301) (by decide +kernel)⟩
theorem lw_p21 : lw_okq (⟨"LaneTrunks", "slotWithCable", "(II)I"⟩, 15) := ⟨⟨by decide +kernel, by decide +kernel⟩, List.mem_of_getElem? (i := 12) (by decide +kernel), List.mem_of_getElem? (i := 312) (by decide +kernel), List.mem_of_getElem? (i := 313) (by decide +kernel)⟩
theorem lw_p22 : lw_okq (⟨"LaneTrunks", "changesOver", "(II)I"⟩, 15) := ⟨⟨by decide +kernel, by decide +kernel⟩, List.mem_of_getElem? (i := 12) (by decide +kernel), List.mem_of_getElem? (i := 420) (by decide +kernel), List.mem_of_getElem? (i := 421) (by decide +kernel)⟩
theorem lw_p23 : lw_okq (⟨"LaneTrunksModel", "isTagged", "(II)Z"⟩, 15) := ⟨⟨by decide +kernel, by decide +kernel⟩, List.mem_of_getElem? (i := 424) (by decide +kernel), List.mem_of_getElem? (i := 490) (by decide +kernel), List.mem_of_getElem? (i := 491) (by decide +kernel)⟩
theorem lw_p24 : lw_okq (⟨"LaneTrunksModel", "hasCable", "(II)Z"⟩, 15) := ⟨⟨by decide +kernel, by decide +kernel⟩, List.mem_of_getElem? (i := 424) (by decide +kernel), List.mem_of_getElem? (i := 509) (by decide +kernel), List.mem_of_getElem? (i := 510) (by decide +kernel)⟩
theorem lw_p25 : lw_okq (⟨"LaneTrunksModel", "layTree", "()V"⟩, 15) := ⟨⟨by decide +kernel, by decide +kernel⟩, List.mem_of_getElem? (i := 424) (by decide +kernel), List.mem_of_getElem? (i := 529) (by decide +kernel), List.mem_of_getElem? (i := 530) (by decide +kernel)⟩
theorem lw_p26 : lw_okq (⟨"LaneTrunksModel", "isLive", "(I)Z"⟩, 15) := ⟨⟨by decide +kernel, by decide +kernel⟩, List.mem_of_getElem? (i := 424) (by decide +kernel), List.mem_of_getElem? (i := 534) (by decide +kernel), List.mem_of_getElem? (i := 535) (by decide +kernel)⟩
theorem lw_p27 : lw_okq (⟨"LaneTrunksModel", "carried", "(II)I"⟩, 15) := ⟨⟨by decide +kernel, by decide +kernel⟩, List.mem_of_getElem? (i := 424) (by decide +kernel), List.mem_of_getElem? (i := 542) (by decide +kernel), List.mem_of_getElem? (i := 543) (by decide +kernel)⟩
theorem lw_p28 : lw_okq (⟨"LaneTrunksModel", "asksFor", "(I)Z"⟩, 15) := ⟨⟨by decide +kernel, by decide +kernel⟩, List.mem_of_getElem? (i := 424) (by decide +kernel), List.mem_of_getElem? (i := 561) (by decide +kernel), List.mem_of_getElem? (i := 562) (by decide +kernel)⟩
theorem lw_p29 : lw_okq (⟨"LaneTrunksModel", "spread", "(I)V"⟩, 15) := ⟨⟨by decide +kernel, by decide +kernel⟩, List.mem_of_getElem? (i := 424) (by decide +kernel), List.mem_of_getElem? (i := 580) (by decide +kernel), List.mem_of_getElem? (i := 581) (by decide +kernel)⟩
theorem lw_p30 : lw_okq (⟨"LaneTrunksModel", "islandMany", "()I"⟩, 15) := ⟨⟨by decide +kernel, by decide +kernel⟩, List.mem_of_getElem? (i := 424) (by decide +kernel), List.mem_of_getElem? (i := 596) (by decide +kernel), List.mem_of_getElem? (i := 597) (by decide +kernel)⟩
theorem lw_p31 : lw_okq (⟨"LaneTrunksModel", "isUsed", "(I)Z"⟩, 15) := ⟨⟨by decide +kernel, by decide +kernel⟩, List.mem_of_getElem? (i := 424) (by decide +kernel), List.mem_of_getElem? (i := 600) (by decide +kernel), List.mem_of_getElem? (i := 601) (by decide +kernel)⟩
def lw_privs_2 : List (MethodName × Nat) := [(⟨"LaneTrunks", "waysOver", "(II)I"⟩, 15), (⟨"LaneTrunks", "countUsedPlaces", "()I"⟩, 15), (⟨"java/lang/Throwable", "fillInStackTrace", "(I)Ljava/lang/Throwable;"⟩, 6), (⟨"LaneTrunks", "hasCable", "(I)Z"⟩, 15), (⟨"LaneTrunks", "setCable", "(III)V"⟩, 15), (⟨"LaneTrunks", "slotWithCable", "(II)I"⟩, 15), (⟨"LaneTrunks", "changesOver", "(II)I"⟩, 15), (⟨"LaneTrunksModel", "isTagged", "(II)Z"⟩, 15), (⟨"LaneTrunksModel", "hasCable", "(II)Z"⟩, 15), (⟨"LaneTrunksModel", "layTree", "()V"⟩, 15), (⟨"LaneTrunksModel", "isLive", "(I)Z"⟩, 15), (⟨"LaneTrunksModel", "carried", "(II)I"⟩, 15), (⟨"LaneTrunksModel", "asksFor", "(I)Z"⟩, 15), (⟨"LaneTrunksModel", "spread", "(I)V"⟩, 15), (⟨"LaneTrunksModel", "islandMany", "()I"⟩, 15), (⟨"LaneTrunksModel", "isUsed", "(I)Z"⟩, 15)]
theorem lw_r2 : ∀ q ∈ lw_privs_2, lw_okq q := List.forall_mem_cons.mpr ⟨lw_p16, List.forall_mem_cons.mpr ⟨lw_p17, List.forall_mem_cons.mpr ⟨lw_p18, List.forall_mem_cons.mpr ⟨lw_p19, List.forall_mem_cons.mpr ⟨lw_p20, List.forall_mem_cons.mpr ⟨lw_p21, List.forall_mem_cons.mpr ⟨lw_p22, List.forall_mem_cons.mpr ⟨lw_p23, List.forall_mem_cons.mpr ⟨lw_p24, List.forall_mem_cons.mpr ⟨lw_p25, List.forall_mem_cons.mpr ⟨lw_p26, List.forall_mem_cons.mpr ⟨lw_p27, List.forall_mem_cons.mpr ⟨lw_p28, List.forall_mem_cons.mpr ⟨lw_p29, List.forall_mem_cons.mpr ⟨lw_p30, List.forall_mem_cons.mpr ⟨lw_p31, fun _ h => absurd h List.not_mem_nil⟩⟩⟩⟩⟩⟩⟩⟩⟩⟩⟩⟩⟩⟩⟩⟩
theorem lw_p32 : lw_okq (⟨"LaneTrunksModel", "changesAt", "(II)I"⟩, 15) := ⟨⟨by decide +kernel, by decide +kernel⟩, List.mem_of_getElem? (i := 424) (by decide +kernel), List.mem_of_getElem? (i := 612) (by decide +kernel), List.mem_of_getElem? (i := 613) (by decide +kernel)⟩
def lw_privs_3 : List (MethodName × Nat) := [(⟨"LaneTrunksModel", "changesAt", "(II)I"⟩, 15)]
theorem lw_r3 : ∀ q ∈ lw_privs_3, lw_okq q := List.forall_mem_cons.mpr ⟨lw_p32, fun _ h => absurd h List.not_mem_nil⟩
def lw_privs : List (MethodName × Nat) := lw_privs_1 ++ (lw_privs_2 ++ (lw_privs_3))
def lw_tbl : List Cond := k2_sels lw_privs ++ tables_1
theorem lw_privs_ok : ∀ q ∈ lw_privs, lw_okq q := by
  show ∀ q ∈ lw_privs_1 ++ (lw_privs_2 ++ (lw_privs_3)), lw_okq q
  exact List.forall_mem_append.mpr ⟨lw_r1, List.forall_mem_append.mpr ⟨lw_r2, lw_r3⟩⟩

/-! ===== BEGIN words of one list among another's, by their places ===== -/
theorem goodIn_r {big : List Cond} (ws : List Cond) (ps : List Nat) (hp : ws = ps.filterMap (fun i => big[i]?)) (h : ws.all goodWord = true) : GoodIn big ws := by
  intro w hw
  have h1 := List.all_eq_true.mp h w hw
  rw [hp] at hw
  obtain ⟨i, -, hi⟩ := List.mem_filterMap.mp hw
  have hm : w ∈ big := by first | exact List.mem_of_getElem? hi | exact List.getElem?_mem hi
  exact ⟨hm, good_of_word h1⟩
theorem goodIn_app {big a b : List Cond} (ha : GoodIn big a) (hb : GoodIn big b) : GoodIn big (a ++ b) := fun w h => (List.mem_append.mp h).elim (ha w) (hb w)
theorem goodIn_ca {big a b : List Cond} {c : Cond} (ha : GoodIn big (c :: a)) (hb : GoodIn big b) : GoodIn big (c :: (a ++ b)) := fun w h => (List.mem_cons.mp h).elim (fun e => ha w (List.mem_cons.mpr (Or.inl e))) (fun h => (List.mem_append.mp h).elim (fun h => ha w (List.mem_cons.mpr (Or.inr h))) (hb w))
theorem goodIn_sub {big ws : List Cond} (hm : ∀ w ∈ ws, w ∈ big) (h : ws.all goodWord = true) : GoodIn big ws := fun w hw => ⟨hm w hw, good_of_word (List.all_eq_true.mp h w hw)⟩
/-! ===== END ===== -/

/-! ===== BEGIN exceptions that leave a method, and their catching by the caller (launches without stack traces) ===== -/
section VXA
/-! The laws vx_back, vx_callV, vx_callS, vx_callSW, vx_throw0, vx_throwS follow proofs of the library, with one case more: JvmDerived/Free/Laws.lean (Back.of_free), Shelf42/LK1.lean (callV, callS), Shelf/KitTraced.lean (throwNew0V, throwNewS). -/
/-- where a method has thrown q: the class by its name, the cell, what was written, the world -/
def vx_T (XC : String → State → State → Prop) (st : State) (q : Addr) (t : State) (mc ms : Nat) (free : Addr → Prop) : Prop :=
  ∃ (E : String) (ce : Cell) (L : List Loc), XC E st t ∧ t.heap[q]? = some ce ∧ ce.vm = .none ∧ st.vm.findClass E = some ce.cls ∧ st.WarmedH t.vm ∧ st.sameButNew ({ t with vm := st.vm } : State) L mc ms ∧ ∀ z ∈ L, free z.base
def vx_Q (Qc : Array Value → State → Outcome → State → Prop) (XC : String → State → State → Prop) (mc ms : Nat) (free : Addr → Prop) : Array Value → State → Outcome → State → Prop := fun a st o t =>
  (Qc a st o t ∧ ∃ L, FrameEnd st o t L mc ms ∧ ∀ q ∈ L, free q.base) ∨ ∃ q, o = .threw q ∧ vx_T XC st q t mc ms free
/-- a callee that returns or throws -/
def vx_Met (l : Launch) (y : MethodName) (ws : List Cond) (rm : Room) (Pc : Array Value → State → Prop) (Qc : Array Value → State → Outcome → State → Prop) (XC : String → State → State → Prop) (mc ms : Nat) (free : Addr → Prop) : Prop :=
  MetFree l y (headSpec ws rm) Pc (fun _ _ _ _ _ => True) (vx_Q Qc XC mc ms free)
def vx_Post (XC : String → State → State → Prop) (mc ms : Nat) (free : Addr → Prop) : Pt → Array Value → Addr → Pt → Prop := fun A a q B =>
  ∃ (g : JFrame) (mk : MethodId) (t : State) (L : List Loc) (E : String) (ce : Cell), B.U.heap = t.heap ∧ B.U.vm = t.vm ∧ XC E (A.U.calling g mk a) t ∧ t.heap[q]? = some ce ∧ ce.vm = .none ∧ A.U.vm.findClass E = some ce.cls ∧ B.locs = A.locs ++ L ∧ (∀ z ∈ L, free z.base) ∧ B.cells = A.cells + mc ∧ B.slots = A.slots + ms
def vx_Back (l : Launch) (R : Room) (p : Program) (e : Env) (below : List Frame) (s : State) (sargs : Array Value) (y : MethodName) (len W9 : Nat)
    (Pre : Pt → Array Value → Prop) (Post : Pt → Array Value → Option Value → Pt → Prop) (PostX : Pt → Array Value → Addr → Pt → Prop) : Prop :=
  ∀ (m : MethodId) (meth : Method) (c : Code) (A : Pt) (g : JFrame) (ig : Instr) (mk : MethodId) (a : Array Value),
    Stand p l e R s m sargs below meth c A.U A.locs A.cells A.slots → g.method = m → g.locals.size = c.maxLocals → decode c.code g.pc = .ok (ig, len) →
    2 * g.monitorRoom + (g.stack.map fun v => v.category).sum ≤ W9 → A.U.methodNamed? y = some mk → Pre A a →
    (∃ (v : Option Value) (B : Pt), Stand p l e R s m sargs below meth c B.U B.locs B.cells B.slots ∧ Post A a v B ∧
      Steps p.tables e below (doInvoke e (A.U.setTop g) [] mk a).1 (B.U.setTop { g with pc := g.pc + len, stack := v.toList ++ g.stack })) ∨
    (∃ (q : Addr) (B : Pt), Stand p l e R s m sargs below meth c B.U B.locs B.cells B.slots ∧ PostX A a q B ∧
      Steps p.tables e below (doInvoke e (A.U.setTop g) [] mk a).1 ((B.U.setTop g).pushFrame (.throwing q)))
section Payer
variable {l : Launch} {R : Room} {p : Program} {e : Env} {below : List Frame} {s : State} {sargs : Array Value} {y : MethodName} {len W9 : Nat}
theorem vx_back {ws : List Cond} {rm : Room} {Pc : Array Value → State → Prop} {Qc : Array Value → State → Outcome → State → Prop} {XC : String → State → State → Prop} {mc ms : Nat} {free : Addr → Prop} {bytes : ByteArray} {maxL : Nat} {ret : Option FieldType}
    (hM : vx_Met l y ws rm Pc Qc XC mc ms free) (hblind : FrameBlind Pc) (hrc : rm.cells = mc) (hrs : rm.slots = ms)
    (hframes : rm.frames + 1 ≤ R.frames) (hlocals : W9 + (maxL + 11) + rm.locals ≤ R.locals)
    (hws : ∀ w ∈ ws, ∀ a' U, s.WarmedH U.vm → w.before a' U = true) (hcode : Cond.code y bytes maxL ret ∈ ws) (hinit : ∀ a' U, s.WarmedH U.vm → (Cond.initialized y.cls).before a' U = true) :
    vx_Back l R p e below s sargs y len W9 (PreOf R mc ms Pc) (PostOf Qc mc ms free) (vx_Post XC mc ms free) := by
  intro m meth c A g ig mk a X hg hsize hdg hW hn hp
  have h1 : (headSpec ws rm).pre.before a A.U = true := atoms_intro fun w hw => hws w hw _ _ X.warmed
  have h2 : (Cond.code y bytes maxL ret).before a A.U = true := hws _ hcode _ _ X.warmed
  have h3 : (Cond.initialized y.cls).before a A.U = true := hinit _ _ X.warmed
  have h4 : A.cells + (headSpec ws rm).room.cells ≤ R.cells := by rw [show (headSpec ws rm).room.cells = mc from hrc]; exact hp.1
  have h5 : A.slots + (headSpec ws rm).room.slots ≤ R.slots := by rw [show (headSpec ws rm).room.slots = ms from hrs]; exact hp.2.1
  have hPc : Pc a (A.U.calling g mk a) := hblind _ _ _ _ hp.2.2
  obtain ⟨U, Ls, c0, s0⟩ := A
  dsimp only [Pt.U, Pt.locs, Pt.cells, Pt.slots] at h1 h2 h3 h4 h5 X hn hPc ⊢
  obtain ⟨methY, cY, hmY, hcY, -, hlY, -, -, -, -⟩ := Cond.code_spec hn h2
  obtain ⟨kY, hkY, -⟩ := className_of_methodNamed hn
  have hinitY : kY.init = .initialized := Cond.initialized_spec (findClass_of_methodNamed hn) hkY h3
  have h : At U g.method c below := by rw [hg]; exact X.here
  have hlocals9 : W9 + (maxL + 11) + (headSpec ws rm).room.locals ≤ R.locals := hlocals
  have happ : (headSpec ws rm).appliesLoose y e.platform (U.calling g mk a) = true :=
    Spec.appliesLoose_calling (g := g) h hdg hn hkY hinitY
      (X.room_calling (g := g) (R' := (headSpec ws rm).room) hsize hmY hcY hframes (by rw [hlY]; omega) h4 h5) h1
  obtain ⟨mid, hmid⟩ := h.above
  have hfr : (U.setTop g).frames = (.java g :: mid) ++ below := by rw [State.frames_setTop' g h.top, hmid]; rfl
  obtain ⟨o, s₂, hsteps, -, hend, hq⟩ := Steps.callFree hM p X.admits X.cas X.clock (acts := []) hfr happ hPc trivial
  have hq' : vx_Q Qc XC mc ms free a (U.calling g mk a) o s₂ := hq
  rw [State.frames_setTop' g h.top] at hend
  obtain ⟨g₀, hg0⟩ := Option.isSome_iff_exists.mp h.top
  obtain ⟨r, hr⟩ := State.topJava?_eq_some.mp hg0
  have hr' : (({ U with heap := s₂.heap, slotsUsed := s₂.slotsUsed } : State).setVm s₂.vm).frames = .java g₀ :: r := hr
  rcases hq' with ⟨hqc, L, hfe, hL⟩ | ⟨q, rfl, E, ce, L, hx, hce, hcv, hcl, hW₂, hsm, hL⟩
  · obtain ⟨⟨v, rfl⟩, hW₂, e2, q2, q3, q4, q5, q6⟩ := id hfe
    have e3 : s₂ = ({ (U.calling g mk a).setFrames s₂.frames with heap := s₂.heap, slotsUsed := s₂.slotsUsed } : State).setVm s₂.vm := by
      have : s₂ = ({ s₂ with vm := (U.calling g mk a).vm } : State).setVm s₂.vm := rfl
      rw [e2] at this
      exact this
    obtain ⟨c₂, i₂, len₂, hc₂, hd₂, hf₂⟩ := hend
    have hW' : U.WarmedH s₂.vm := hW₂
    have hcc : c₂ = c := by
      have h1 : s₂.code? g.method = U.code? g.method := by
        rw [State.code?_eq, State.code?_eq, hW'.alike.method?]
      exact Option.some.inj (hc₂.symm.trans (h1.trans h.code))
    subst hcc
    have hlen : len₂ = len := by rw [hdg] at hd₂; cases hd₂; rfl
    subst hlen
    have hs₂ : s₂ = (({ U with heap := s₂.heap, slotsUsed := s₂.slotsUsed } : State).setVm s₂.vm).setTop { g with pc := g.pc + len₂, stack := v.toList ++ g.stack } := by
      refine e3.trans ?_
      rw [hf₂, State.calling_eq h.top, State.setFrames_setFrames, State.setTop_of_frames _ hr', hr]
      rfl
    have hsame : U.sameButNew ({ U with heap := s₂.heap, slotsUsed := s₂.slotsUsed } : State) L mc ms := by
      refine ⟨?_, q2, q3, q4, q5, q6⟩
      obtain ⟨t, ht, -⟩ := State.frames_cons hr
      show ({ U with heap := s₂.heap, slotsUsed := s₂.slotsUsed } : State) = { U.setFrames U.frames with heap := s₂.heap, slotsUsed := s₂.slotsUsed }
      rw [State.setFrames_self ht]
    subst hg
    refine Or.inl ⟨v, ⟨(({ U with heap := s₂.heap, slotsUsed := s₂.slotsUsed } : State).setVm s₂.vm), Ls ++ L, c0 + mc, s0 + ms⟩,
      ⟨X.admits, X.cas, X.clock, X.frames, X.room, X.hears, X.method, X.code, (X.here.setHeapUsed s₂.heap s₂.slotsUsed).setVm hW'.alike, X.tail, State.WarmedH.trans X.warmed hW', X.limits, X.bytes, X.same.trans (hsame.setVm s.vm)⟩,
      ⟨g, mk, s₂, L, rfl, rfl, hqc, rfl, hL, rfl, rfl⟩, ?_⟩
    show Steps p.tables e below _ ((({ U with heap := s₂.heap, slotsUsed := s₂.slotsUsed } : State).setVm s₂.vm).setTop { g with pc := g.pc + len₂, stack := v.toList ++ g.stack })
    rw [← hs₂]
    exact hsteps
  · obtain ⟨e2, q2, q3, q4, q5, q6⟩ := id hsm
    have e3 : s₂ = ({ (U.calling g mk a).setFrames s₂.frames with heap := s₂.heap, slotsUsed := s₂.slotsUsed } : State).setVm s₂.vm := by
      have : s₂ = ({ s₂ with vm := (U.calling g mk a).vm } : State).setVm s₂.vm := rfl
      rw [e2] at this
      exact this
    have hf₂ : s₂.frames = .throwing q :: .java g :: U.frames.tail := hend
    have hW' : U.WarmedH s₂.vm := hW₂
    have hs₂ : s₂ = ((({ U with heap := s₂.heap, slotsUsed := s₂.slotsUsed } : State).setVm s₂.vm).setTop g).pushFrame (.throwing q) := by
      refine e3.trans ?_
      rw [hf₂, State.calling_eq h.top, State.setFrames_setFrames, State.pushFrame, State.frames_setTop _ hr', State.setTop_of_frames _ hr', State.setFrames_setFrames, hr]
      rfl
    have hsame : U.sameButNew ({ U with heap := s₂.heap, slotsUsed := s₂.slotsUsed } : State) L mc ms := by
      refine ⟨?_, q2, q3, q4, q5, q6⟩
      obtain ⟨t, ht, -⟩ := State.frames_cons hr
      show ({ U with heap := s₂.heap, slotsUsed := s₂.slotsUsed } : State) = { U.setFrames U.frames with heap := s₂.heap, slotsUsed := s₂.slotsUsed }
      rw [State.setFrames_self ht]
    subst hg
    refine Or.inr ⟨q, ⟨(({ U with heap := s₂.heap, slotsUsed := s₂.slotsUsed } : State).setVm s₂.vm), Ls ++ L, c0 + mc, s0 + ms⟩,
      ⟨X.admits, X.cas, X.clock, X.frames, X.room, X.hears, X.method, X.code, (X.here.setHeapUsed s₂.heap s₂.slotsUsed).setVm hW'.alike, X.tail, State.WarmedH.trans X.warmed hW', X.limits, X.bytes, X.same.trans (hsame.setVm s.vm)⟩,
      ⟨g, mk, s₂, L, E, ce, rfl, rfl, hx, hce, hcv, hcl, rfl, hL, rfl, rfl⟩, ?_⟩
    show Steps p.tables e below _ (((({ U with heap := s₂.heap, slotsUsed := s₂.slotsUsed } : State).setVm s₂.vm).setTop g).pushFrame (.throwing q))
    rw [← hs₂]
    exact hsteps
end Payer
section Calls
variable {p : Program} {l : Launch} {e : Env} {R : Room} {s : State} {m : MethodId} {args : Array Value} {below : List Frame} {meth : Method} {c : Code} {T : State} {locs : List Loc} {cells slots : Nat}
theorem vx_callV (X : Stand p l e R s m args below meth c T locs cells slots) (hexec : p.tables.exec = Jvm.exec) {own C : String} {index : Nat} {y : MethodName} {bytes : ByteArray} {maxL : Nat} {ret : Option FieldType}
    (hown : s.vm.findClass own = some m.cls) (hlink : (Cond.methodLink own index y).before args s = true) (hinst : (Cond.instanceMethod y).before args s = true) (hsel : (Cond.selects C y y).before args s = true)
    (hcode : (Cond.code y bytes maxL ret).before args s = true) (hy : y.cls ≠ "java/lang/invoke/MethodHandle" ∧ y.cls ≠ "java/lang/invoke/VarHandle")
    {W9 : Nat} {Pre : Pt → Array Value → Prop} {Post : Pt → Array Value → Option Value → Pt → Prop} {PostX : Pt → Array Value → Addr → Pt → Prop} (hK : vx_Back l R p e below s args y 3 W9 Pre Post PostX)
    {b : Addr} {cellB : Cell} (hcell : T.heap[b]? = some cellB) (hobj : cellB.vm.isStatics = false) (hcls : s.vm.findClass C = some cellB.cls)
    {g : JFrame} (hg : g.method = m) (hsize : g.locals.size = c.maxLocals) {argsL rest : List Value} (hlen : ∀ sig, parseMethodDescriptor y.desc = some sig → argsL.length = sig.parameters.length)
    (hstack : g.stack = argsL.reverse ++ .ref b :: rest) (hW : 2 * g.monitorRoom + (rest.map fun v => v.category).sum ≤ W9) (hdg : decode c.code g.pc = .ok (.invokevirtual index, 3))
    (hpre : ∀ vm₁, s.WarmedH vm₁ → Pre ⟨T.setVm vm₁, locs, cells, slots⟩ (Value.ref b :: argsL).toArray) :
    (∃ (v : Option Value) (vm₁ : Vm) (B : Pt), s.WarmedH vm₁ ∧ Stand p l e R s m args below meth c B.U B.locs B.cells B.slots ∧ Post ⟨T.setVm vm₁, locs, cells, slots⟩ (Value.ref b :: argsL).toArray v B ∧
      ∀ target, Steps p.tables e below (B.U.setTop { g with pc := g.pc + 3, stack := v.toList ++ rest }) target → Steps p.tables e below (T.setTop g) target) ∨
    (∃ (q : Addr) (vm₁ : Vm) (B : Pt), s.WarmedH vm₁ ∧ Stand p l e R s m args below meth c B.U B.locs B.cells B.slots ∧ PostX ⟨T.setVm vm₁, locs, cells, slots⟩ (Value.ref b :: argsL).toArray q B ∧
      Steps p.tables e below (T.setTop g) ((B.U.setTop { g with stack := rest }).pushFrame (.throwing q))) := by
  obtain ⟨mk, methM, hnamed, hmethM, hstM, habM⟩ := Cond.instanceMethod_spec hinst
  obtain ⟨methM', cM, hmethM', -, -, -, -, -, -, hsigM⟩ := Cond.code_spec hnamed hcode
  cases hmethM.symm.trans hmethM'
  obtain ⟨c2, r2, m2, q1, q2, q3, q4, kP, hkP, hkPi⟩ := Cond.selects_spec hsel
  cases hcls.symm.trans q1
  cases (State.methodFound?_of_named hnamed hy).symm.trans q2
  cases hnamed.symm.trans q3
  have hselP : selectMethod e.platform s.vm cellB.cls mk = .method mk := by rw [Launch.admits_selectMethod X.admits]; exact q4
  obtain ⟨vm₁, X₁, hstep₁⟩ := X.invokevirtual hexec hown hlink hnamed hmethM hstM hkP hkPi hy (a := b) (cell := cellB) hcell
    (fun z h => by rw [h] at hobj; cases hobj) hselP hmethM habM hkP hkPi (g := g) hg (argsL := argsL) (rest := rest) (hlen _ hsigM) hstack hdg
  rcases hK m meth c ⟨T.setVm vm₁, locs, cells, slots⟩ { g with stack := rest } (.invokevirtual index) mk (Value.ref b :: argsL).toArray X₁ hg hsize hdg hW (X₁.named hnamed) (hpre vm₁ X₁.warmed) with ⟨v, B, X', hpost, hsteps⟩ | ⟨q, B, X', hpost, hsteps⟩
  · exact Or.inl ⟨v, vm₁, B, X₁.warmed, X', hpost, fun target h => hstep₁ _ fun acts => by rw [doInvoke_state]; exact hsteps.trans h⟩
  · exact Or.inr ⟨q, vm₁, B, X₁.warmed, X', hpost, hstep₁ _ fun acts => by rw [doInvoke_state]; exact hsteps⟩
theorem vx_callS (X : Stand p l e R s m args below meth c T locs cells slots) (hexec : p.tables.exec = Jvm.exec) {own : String} {index : Nat} {y : MethodName} {bytes : ByteArray} {maxL : Nat} {ret : Option FieldType}
    (hown : s.vm.findClass own = some m.cls) (hlink : (Cond.methodLink own index y).before args s = true) (hstat : (Cond.static y).before args s = true) (hinit : (Cond.initialized y.cls).before args s = true)
    (hcode : (Cond.code y bytes maxL ret).before args s = true) (hy : y.cls ≠ "java/lang/invoke/MethodHandle" ∧ y.cls ≠ "java/lang/invoke/VarHandle")
    {W9 : Nat} {Pre : Pt → Array Value → Prop} {Post : Pt → Array Value → Option Value → Pt → Prop} {PostX : Pt → Array Value → Addr → Pt → Prop} (hK : vx_Back l R p e below s args y 3 W9 Pre Post PostX)
    {g : JFrame} (hg : g.method = m) (hsize : g.locals.size = c.maxLocals) {argsL rest : List Value} (hlen : ∀ sig, parseMethodDescriptor y.desc = some sig → argsL.length = sig.parameters.length)
    (hstack : g.stack = argsL.reverse ++ rest) (hW : 2 * g.monitorRoom + (rest.map fun v => v.category).sum ≤ W9) (hdg : decode c.code g.pc = .ok (.invokestatic index, 3))
    (hpre : ∀ vm₁, s.WarmedH vm₁ → Pre ⟨T.setVm vm₁, locs, cells, slots⟩ argsL.toArray) :
    (∃ (v : Option Value) (vm₁ : Vm) (B : Pt), s.WarmedH vm₁ ∧ Stand p l e R s m args below meth c B.U B.locs B.cells B.slots ∧ Post ⟨T.setVm vm₁, locs, cells, slots⟩ argsL.toArray v B ∧
      ∀ target, Steps p.tables e below (B.U.setTop { g with pc := g.pc + 3, stack := v.toList ++ rest }) target → Steps p.tables e below (T.setTop g) target) ∨
    (∃ (q : Addr) (vm₁ : Vm) (B : Pt), s.WarmedH vm₁ ∧ Stand p l e R s m args below meth c B.U B.locs B.cells B.slots ∧ PostX ⟨T.setVm vm₁, locs, cells, slots⟩ argsL.toArray q B ∧
      Steps p.tables e below (T.setTop g) ((B.U.setTop { g with stack := rest }).pushFrame (.throwing q))) := by
  obtain ⟨mk, hnamed⟩ := Cond.code_named hcode
  obtain ⟨methM, cM, hmethM, -, -, -, -, -, -, hsigM⟩ := Cond.code_spec hnamed hcode
  have hstatic : methM.isStatic = true := Cond.static_spec hnamed hmethM hstat
  obtain ⟨kP, hkP, -⟩ := className_of_methodNamed hnamed
  have hinitP : kP.init = .initialized := Cond.initialized_spec (findClass_of_methodNamed hnamed) hkP hinit
  obtain ⟨vm₁, X₁, hstep₁⟩ := X.invokestatic hexec hown hlink hnamed hmethM hstatic hkP hinitP hy (g := g) hg (argsL := argsL) (rest := rest) (hlen _ hsigM) hstack hdg
  rcases hK m meth c ⟨T.setVm vm₁, locs, cells, slots⟩ { g with stack := rest } (.invokestatic index) mk argsL.toArray X₁ hg hsize hdg hW (X₁.named hnamed) (hpre vm₁ X₁.warmed) with ⟨v, B, X', hpost, hsteps⟩ | ⟨q, B, X', hpost, hsteps⟩
  · exact Or.inl ⟨v, vm₁, B, X₁.warmed, X', hpost, fun target h => hstep₁ _ fun acts => by rw [doInvoke_state]; exact hsteps.trans h⟩
  · exact Or.inr ⟨q, vm₁, B, X₁.warmed, X', hpost, hstep₁ _ fun acts => by rw [doInvoke_state]; exact hsteps⟩
end Calls
theorem vx_cls {s : State} {T : State} {vm₁ : Vm} {E : String} {k : ClassId} (hW : s.WarmedH vm₁) (h : (T.setVm vm₁).vm.findClass E = some k) : s.vm.findClass E = some k := by
  have h1 : vm₁.findClass E = some k := h
  rw [hW.alike.findClass] at h1
  exact h1
/-- the method's frame g, with q thrown over it -/
def vx_W (p : Program) (l : Launch) (e : Env) (R : Room) (s : State) (m : MethodId) (args : Array Value) (below : List Frame) (meth : Method) (c : Code) (H : Heap) (locs : List Loc) (cells slots : Nat) (Q : State → Prop) (g : JFrame) (q : Addr) : Prop :=
  ∀ T : State, T.heap = H → Stand p l e R s m args below meth c T locs cells slots → ∃ t, Steps p.tables e below ((T.setTop g).pushFrame (.throwing q)) t ∧ Q t
def vx_Run (p : Program) (l : Launch) (e : Env) (R : Room) (s : State) (m : MethodId) (args : Array Value) (below : List Frame) (meth : Method) (c : Code) (H : Heap) (locs : List Loc) (cells slots mc ms : Nat) (g : JFrame) (rest : List Value) (Qa : State → Outcome → State → Prop) (XC : String → State → State → Prop) (free : Addr → Prop) : Prop :=
  ∀ T : State, T.heap = H → Stand p l e R s m args below meth c T locs cells slots →
    (∃ (v : Option Value) (st₀ t T' : State) (L : List Loc), st₀.heap = H ∧ Stand p l e R s m args below meth c T' (locs ++ L) (cells + mc) (slots + ms) ∧ (∀ q ∈ L, free q.base) ∧ T'.heap = t.heap ∧ T'.vm = t.vm ∧ Qa st₀ (.returned v) t ∧
      Goes p e below T g T' { g with pc := g.pc + 3, stack := v.toList ++ rest }) ∨
    (∃ (q : Addr) (st₀ t T' : State) (L : List Loc) (E : String) (ce : Cell), st₀.heap = H ∧ Stand p l e R s m args below meth c T' (locs ++ L) (cells + mc) (slots + ms) ∧ (∀ z ∈ L, free z.base) ∧ T'.heap = t.heap ∧ T'.vm = t.vm ∧ XC E st₀ t ∧ t.heap[q]? = some ce ∧ ce.vm = .none ∧ s.vm.findClass E = some ce.cls ∧
      Steps p.tables e below (T.setTop g) ((T'.setTop { g with stack := rest }).pushFrame (.throwing q)))
def vx_X {S : Type} (px : S → Prop) (B : String → S → State → Prop) (A : Nat → Prop) : String → State → State → Prop := fun E st t => ∃ u : S, px u ∧ B E u t ∧ va_F A st t
section Runs
variable {p : Program} {l : Launch} {e : Env} {R : Room} {s : State} {m : MethodId} {args : Array Value} {below : List Frame} {meth : Method} {c : Code} {H : Heap} {locs : List Loc} {cells slots : Nat}
variable {y : MethodName} {bytes cc : ByteArray} {maxL nL mc ms n index : Nat} {ret : Option FieldType} {ws : List Cond} {rm : Room} {Pc : Array Value → State → Prop} {Qc : Array Value → State → Outcome → State → Prop} {XC : String → State → State → Prop} {free : Addr → Prop} {Ts : List Cond} {own C : String} {b : Addr} {As rest : List Value} {g : JFrame}
theorem vx_callBack (cb : CallB R s args own index y bytes maxL ret ws rm mc ms n) (hM : vx_Met l y ws rm Pc Qc XC mc ms free) (hbl : FrameBlind Pc) : vx_Back l R p e below s args y 3 8 (PreOf R mc ms Pc) (PostOf Qc mc ms free) (vx_Post XC mc ms free) := by
  obtain ⟨hrc, hrs, hfr, hlo, hws, hcw, -, hini, -⟩ := cb
  exact vx_back (bytes := bytes) (maxL := maxL) (ret := ret) hM hbl hrc hrs hfr hlo hws hcw (fun a' U hW => word_at hW (Or.inl (by first | rfl | simp [Cond.onTables, Cond.keeps, Cond.steady])) hini)
theorem vx_runV (S : CallFix p m c cc nL s args Ts own) (hM : vx_Met l y ws rm Pc Qc XC mc ms free) (cw : CallW R s args own C index y bytes maxL ret ws rm mc ms n) (hp : PreV s H C b Pc As)
    (hg : g.method = m) (hn : As.length = n) (hsize : g.locals.size = nL) (hstack : g.stack = As.reverse ++ .ref b :: rest) (hW : 2 * g.monitorRoom + (rest.map fun v => v.category).sum ≤ 8) (hdg : decode cc g.pc = .ok (.invokevirtual index, 3)) (hf : cells + mc ≤ R.cells ∧ slots + ms ≤ R.slots) :
    vx_Run p l e R s m args below meth c H locs cells slots mc ms g rest (Qc (Value.ref b :: As).toArray) XC free := by
  have hK : vx_Back l R p e below s args y 3 8 (PreOf R mc ms Pc) (PostOf Qc mc ms free) (vx_Post XC mc ms free) := vx_callBack cw.1 hM hp.1
  obtain ⟨⟨-, -, -, -, -, -, hcode, -, hy, hlen, hl⟩, hin, hse⟩ := cw
  obtain ⟨hx, hb, hml, ho, -⟩ := S
  obtain ⟨-, ⟨cellB, hcB, hoB, hclB⟩, hPc⟩ := hp
  intro T hT X
  rcases vx_callV X hx (C := C) (bytes := bytes) (maxL := maxL) (ret := ret) ho hl hin hse hcode hy hK (by rw [hT]; exact hcB) hoB hclB hg (hsize.trans hml.symm) (argsL := As) (rest := rest) (fun sig h => hn.trans (hlen sig h)) hstack hW (by rw [hb]; exact hdg)
    (fun vm₁ hW₁ => ⟨hf.1, hf.2, hPc (T.setVm vm₁) hT hW₁⟩) with ⟨v, vm₁, ⟨U', l2, c2, s2⟩, hW₁, X', ⟨g', mk, t, L, e1, e2, hq, h1, hL, h2, h3⟩, st⟩ | ⟨q, vm₁, ⟨U', l2, c2, s2⟩, hW₁, X', ⟨g', mk, t, L, E, ce, e1, e2, hq, hce, hcv, hcl, h1, hL, h2, h3⟩, st⟩
  · dsimp only [Pt.U, Pt.locs, Pt.cells, Pt.slots] at X' e1 e2 h1 h2 h3 st
    subst h1; subst h2; subst h3
    exact Or.inl ⟨v, (T.setVm vm₁).calling g' mk (Value.ref b :: As).toArray, t, U', L, hT, X', hL, e1, e2, hq, st⟩
  · dsimp only [Pt.U, Pt.locs, Pt.cells, Pt.slots] at X' e1 e2 h1 h2 h3 st hcl
    subst h1; subst h2; subst h3
    exact Or.inr ⟨q, (T.setVm vm₁).calling g' mk (Value.ref b :: As).toArray, t, U', L, E, ce, hT, X', hL, e1, e2, hq, hce, hcv, vx_cls hW₁ hcl, st⟩
theorem vx_runS (S : CallFix p m c cc nL s args Ts own) (hM : vx_Met l y ws rm Pc Qc XC mc ms free) (cw : CallB R s args own index y bytes maxL ret ws rm mc ms n ∧ (Cond.static y).before args s = true) (hp : PreS s H Pc As)
    (hg : g.method = m) (hn : As.length = n) (hsize : g.locals.size = nL) (hstack : g.stack = As.reverse ++ rest) (hW : 2 * g.monitorRoom + (rest.map fun v => v.category).sum ≤ 8) (hdg : decode cc g.pc = .ok (.invokestatic index, 3)) (hf : cells + mc ≤ R.cells ∧ slots + ms ≤ R.slots) :
    vx_Run p l e R s m args below meth c H locs cells slots mc ms g rest (Qc As.toArray) XC free := by
  have hK : vx_Back l R p e below s args y 3 8 (PreOf R mc ms Pc) (PostOf Qc mc ms free) (vx_Post XC mc ms free) := vx_callBack cw.1 hM hp.1
  obtain ⟨⟨-, -, -, -, -, -, hcode, hini, hy, hlen, hl⟩, hstt⟩ := cw
  obtain ⟨hx, hb, hml, ho, -⟩ := S
  intro T hT X
  rcases vx_callS X hx (bytes := bytes) (maxL := maxL) (ret := ret) ho hl hstt hini hcode hy hK hg (hsize.trans hml.symm) (argsL := As) (rest := rest) (fun sig h => hn.trans (hlen sig h)) hstack hW (by rw [hb]; exact hdg)
    (fun vm₁ hW₁ => ⟨hf.1, hf.2, hp.2 (T.setVm vm₁) hT hW₁⟩) with ⟨v, vm₁, ⟨U', l2, c2, s2⟩, hW₁, X', ⟨g', mk, t, L, e1, e2, hq, h1, hL, h2, h3⟩, st⟩ | ⟨q, vm₁, ⟨U', l2, c2, s2⟩, hW₁, X', ⟨g', mk, t, L, E, ce, e1, e2, hq, hce, hcv, hcl, h1, hL, h2, h3⟩, st⟩
  · dsimp only [Pt.U, Pt.locs, Pt.cells, Pt.slots] at X' e1 e2 h1 h2 h3 st
    subst h1; subst h2; subst h3
    exact Or.inl ⟨v, (T.setVm vm₁).calling g' mk As.toArray, t, U', L, hT, X', hL, e1, e2, hq, st⟩
  · dsimp only [Pt.U, Pt.locs, Pt.cells, Pt.slots] at X' e1 e2 h1 h2 h3 st hcl
    subst h1; subst h2; subst h3
    exact Or.inr ⟨q, (T.setVm vm₁).calling g' mk As.toArray, t, U', L, E, ce, hT, X', hL, e1, e2, hq, hce, hcv, vx_cls hW₁ hcl, st⟩
end Runs
section Rows
variable {p : Program} {l : Launch} {e : Env} {R : Room} {s : State} {m : MethodId} {args : Array Value} {below : List Frame} {meth : Method} {c : Code} {H : Heap} {locs : List Loc} {cells slots : Nat} {Q : State → Prop}
variable {mc ms : Nat} {free : Addr → Prop} {A0 A1 : Nat → Prop} {H0 : Heap} {a : Array Value} {pc : Nat} {ls : Array Slot} {st0 rest : List Value}
theorem vx_keep {st₀ t T' : State} {L : List Loc} (h0 : st₀.heap = H) (e1 : T'.heap = t.heap) (hS : va_S A0 H0 H locs) (hA : ∀ q, q < H.size → A1 q → A0 q) (hf : ∀ q, free q → A0 q) (hL : ∀ q ∈ L, free q.base) (hF : va_F A1 st₀ t) :
    H.size ≤ T'.heap.size ∧ (∀ q : Nat, q < H.size → ¬ A1 q → T'.heap[q]? = H[q]?) ∧ va_S A0 H0 T'.heap (locs ++ L) := by
  obtain ⟨hz, hk⟩ := hF
  rw [h0] at hz hk
  exact ⟨by rw [e1]; exact hz, fun q h1 h2 => by rw [e1]; exact hk q h1 h2,
    ⟨Nat.le_trans hS.1 (by rw [e1]; exact hz), fun q h1 h2 => by rw [e1, hk q (Nat.lt_of_lt_of_le h1 hS.1) (fun z => h2 (hA q (Nat.lt_of_lt_of_le h1 hS.1) z))]; exact hS.2.1 q h1 h2, fun q hq => by
      rcases List.mem_append.mp hq with h | h
      · exact hS.2.2 q h
      · exact hf _ (hL q h)⟩⟩
theorem vx_calli {S SX : Type} {post : Int32 → S → Prop} {px : SX → Prop} {B : S → State → Prop} {BX : String → SX → State → Prop} {AX : Nat → Prop} (hr : vx_Run p l e R s m args below meth c H locs cells slots mc ms (F0 m pc ls st0) rest (va_Qi post B A1 a) (vx_X px BX AX) free) (hS : va_S A0 H0 H locs) (hA : ∀ q, q < H.size → A1 q → A0 q) (hf : ∀ q, free q → A0 q) (hAX : ∀ q, q < H.size → AX q → A0 q)
    (kx : ∀ (E : String) (ce : Cell) (q9 : Addr) (u : SX) (t : State) (H1 : Heap) (locs1 : List Loc), t.heap = H1 → s.vm.Alike t.vm → px u → BX E u t → H.size ≤ H1.size → (∀ q : Nat, q < H.size → ¬ AX q → H1[q]? = H[q]?) → va_S A0 H0 H1 locs1 → H1[q9]? = some ce → ce.vm = .none → s.vm.findClass E = some ce.cls → vx_W p l e R s m args below meth c H1 locs1 (cells + mc) (slots + ms) Q (F0 m pc ls rest) q9)
    (kk : ∀ (r : Int32) (u : S) (t : State) (H1 : Heap) (locs1 : List Loc), t.heap = H1 → s.vm.Alike t.vm → post r u → B u t → H.size ≤ H1.size → (∀ q : Nat, q < H.size → ¬ A1 q → H1[q]? = H[q]?) → va_S A0 H0 H1 locs1 → W p l e R s m args below meth c H1 locs1 (cells + mc) (slots + ms) Q (F0 m (pc + 3) ls (.int r :: rest))) : W p l e R s m args below meth c H locs cells slots Q (F0 m pc ls st0) := by
  intro T hT X
  rcases hr T hT X with ⟨v, st₀, t, T', L, h0, X', hL, e1, e2, ⟨⟨r, u, hv, hp, hb⟩, hF⟩, st⟩ | ⟨q, st₀, t, T', L, E, ce, h0, X', hL, e1, e2, ⟨u, hp, hb, hF⟩, hce, hcv, hcl, st⟩
  · cases hv
    obtain ⟨k1, k2, k3⟩ := vx_keep h0 e1 hS hA hf hL hF
    obtain ⟨t2, a1, b1⟩ := kk r u t T'.heap (locs ++ L) e1.symm (by rw [← e2]; exact X'.warmed.alike) hp hb k1 k2 k3 T' rfl X'
    exact ⟨t2, st t2 a1, b1⟩
  · obtain ⟨k1, k2, k3⟩ := vx_keep h0 e1 hS hAX hf hL hF
    obtain ⟨t2, a1, b1⟩ := kx E ce q u t T'.heap (locs ++ L) e1.symm (by rw [← e2]; exact X'.warmed.alike) hp hb k1 k2 k3 (by rw [e1]; exact hce) hcv hcl T' rfl X'
    exact ⟨t2, st.trans a1, b1⟩
theorem vx_calll {S SX : Type} {post : Int64 → S → Prop} {px : SX → Prop} {B : S → State → Prop} {BX : String → SX → State → Prop} {AX : Nat → Prop} (hr : vx_Run p l e R s m args below meth c H locs cells slots mc ms (F0 m pc ls st0) rest (va_Ql post B A1 a) (vx_X px BX AX) free) (hS : va_S A0 H0 H locs) (hA : ∀ q, q < H.size → A1 q → A0 q) (hf : ∀ q, free q → A0 q) (hAX : ∀ q, q < H.size → AX q → A0 q)
    (kx : ∀ (E : String) (ce : Cell) (q9 : Addr) (u : SX) (t : State) (H1 : Heap) (locs1 : List Loc), t.heap = H1 → s.vm.Alike t.vm → px u → BX E u t → H.size ≤ H1.size → (∀ q : Nat, q < H.size → ¬ AX q → H1[q]? = H[q]?) → va_S A0 H0 H1 locs1 → H1[q9]? = some ce → ce.vm = .none → s.vm.findClass E = some ce.cls → vx_W p l e R s m args below meth c H1 locs1 (cells + mc) (slots + ms) Q (F0 m pc ls rest) q9)
    (kk : ∀ (r : Int64) (u : S) (t : State) (H1 : Heap) (locs1 : List Loc), t.heap = H1 → s.vm.Alike t.vm → post r u → B u t → H.size ≤ H1.size → (∀ q : Nat, q < H.size → ¬ A1 q → H1[q]? = H[q]?) → va_S A0 H0 H1 locs1 → W p l e R s m args below meth c H1 locs1 (cells + mc) (slots + ms) Q (F0 m (pc + 3) ls (.long r :: rest))) : W p l e R s m args below meth c H locs cells slots Q (F0 m pc ls st0) := by
  intro T hT X
  rcases hr T hT X with ⟨v, st₀, t, T', L, h0, X', hL, e1, e2, ⟨⟨r, u, hv, hp, hb⟩, hF⟩, st⟩ | ⟨q, st₀, t, T', L, E, ce, h0, X', hL, e1, e2, ⟨u, hp, hb, hF⟩, hce, hcv, hcl, st⟩
  · cases hv
    obtain ⟨k1, k2, k3⟩ := vx_keep h0 e1 hS hA hf hL hF
    obtain ⟨t2, a1, b1⟩ := kk r u t T'.heap (locs ++ L) e1.symm (by rw [← e2]; exact X'.warmed.alike) hp hb k1 k2 k3 T' rfl X'
    exact ⟨t2, st t2 a1, b1⟩
  · obtain ⟨k1, k2, k3⟩ := vx_keep h0 e1 hS hAX hf hL hF
    obtain ⟨t2, a1, b1⟩ := kx E ce q u t T'.heap (locs ++ L) e1.symm (by rw [← e2]; exact X'.warmed.alike) hp hb k1 k2 k3 (by rw [e1]; exact hce) hcv hcl T' rfl X'
    exact ⟨t2, st.trans a1, b1⟩
theorem vx_callf {S SX : Type} {post : UInt32 → S → Prop} {px : SX → Prop} {B : S → State → Prop} {BX : String → SX → State → Prop} {AX : Nat → Prop} (hr : vx_Run p l e R s m args below meth c H locs cells slots mc ms (F0 m pc ls st0) rest (va_Qf post B A1 a) (vx_X px BX AX) free) (hS : va_S A0 H0 H locs) (hA : ∀ q, q < H.size → A1 q → A0 q) (hf : ∀ q, free q → A0 q) (hAX : ∀ q, q < H.size → AX q → A0 q)
    (kx : ∀ (E : String) (ce : Cell) (q9 : Addr) (u : SX) (t : State) (H1 : Heap) (locs1 : List Loc), t.heap = H1 → s.vm.Alike t.vm → px u → BX E u t → H.size ≤ H1.size → (∀ q : Nat, q < H.size → ¬ AX q → H1[q]? = H[q]?) → va_S A0 H0 H1 locs1 → H1[q9]? = some ce → ce.vm = .none → s.vm.findClass E = some ce.cls → vx_W p l e R s m args below meth c H1 locs1 (cells + mc) (slots + ms) Q (F0 m pc ls rest) q9)
    (kk : ∀ (r : UInt32) (u : S) (t : State) (H1 : Heap) (locs1 : List Loc), t.heap = H1 → s.vm.Alike t.vm → post r u → B u t → H.size ≤ H1.size → (∀ q : Nat, q < H.size → ¬ A1 q → H1[q]? = H[q]?) → va_S A0 H0 H1 locs1 → W p l e R s m args below meth c H1 locs1 (cells + mc) (slots + ms) Q (F0 m (pc + 3) ls (.float r :: rest))) : W p l e R s m args below meth c H locs cells slots Q (F0 m pc ls st0) := by
  intro T hT X
  rcases hr T hT X with ⟨v, st₀, t, T', L, h0, X', hL, e1, e2, ⟨⟨r, u, hv, hp, hb⟩, hF⟩, st⟩ | ⟨q, st₀, t, T', L, E, ce, h0, X', hL, e1, e2, ⟨u, hp, hb, hF⟩, hce, hcv, hcl, st⟩
  · cases hv
    obtain ⟨k1, k2, k3⟩ := vx_keep h0 e1 hS hA hf hL hF
    obtain ⟨t2, a1, b1⟩ := kk r u t T'.heap (locs ++ L) e1.symm (by rw [← e2]; exact X'.warmed.alike) hp hb k1 k2 k3 T' rfl X'
    exact ⟨t2, st t2 a1, b1⟩
  · obtain ⟨k1, k2, k3⟩ := vx_keep h0 e1 hS hAX hf hL hF
    obtain ⟨t2, a1, b1⟩ := kx E ce q u t T'.heap (locs ++ L) e1.symm (by rw [← e2]; exact X'.warmed.alike) hp hb k1 k2 k3 (by rw [e1]; exact hce) hcv hcl T' rfl X'
    exact ⟨t2, st.trans a1, b1⟩
theorem vx_calld {S SX : Type} {post : UInt64 → S → Prop} {px : SX → Prop} {B : S → State → Prop} {BX : String → SX → State → Prop} {AX : Nat → Prop} (hr : vx_Run p l e R s m args below meth c H locs cells slots mc ms (F0 m pc ls st0) rest (va_Qd post B A1 a) (vx_X px BX AX) free) (hS : va_S A0 H0 H locs) (hA : ∀ q, q < H.size → A1 q → A0 q) (hf : ∀ q, free q → A0 q) (hAX : ∀ q, q < H.size → AX q → A0 q)
    (kx : ∀ (E : String) (ce : Cell) (q9 : Addr) (u : SX) (t : State) (H1 : Heap) (locs1 : List Loc), t.heap = H1 → s.vm.Alike t.vm → px u → BX E u t → H.size ≤ H1.size → (∀ q : Nat, q < H.size → ¬ AX q → H1[q]? = H[q]?) → va_S A0 H0 H1 locs1 → H1[q9]? = some ce → ce.vm = .none → s.vm.findClass E = some ce.cls → vx_W p l e R s m args below meth c H1 locs1 (cells + mc) (slots + ms) Q (F0 m pc ls rest) q9)
    (kk : ∀ (r : UInt64) (u : S) (t : State) (H1 : Heap) (locs1 : List Loc), t.heap = H1 → s.vm.Alike t.vm → post r u → B u t → H.size ≤ H1.size → (∀ q : Nat, q < H.size → ¬ A1 q → H1[q]? = H[q]?) → va_S A0 H0 H1 locs1 → W p l e R s m args below meth c H1 locs1 (cells + mc) (slots + ms) Q (F0 m (pc + 3) ls (.double r :: rest))) : W p l e R s m args below meth c H locs cells slots Q (F0 m pc ls st0) := by
  intro T hT X
  rcases hr T hT X with ⟨v, st₀, t, T', L, h0, X', hL, e1, e2, ⟨⟨r, u, hv, hp, hb⟩, hF⟩, st⟩ | ⟨q, st₀, t, T', L, E, ce, h0, X', hL, e1, e2, ⟨u, hp, hb, hF⟩, hce, hcv, hcl, st⟩
  · cases hv
    obtain ⟨k1, k2, k3⟩ := vx_keep h0 e1 hS hA hf hL hF
    obtain ⟨t2, a1, b1⟩ := kk r u t T'.heap (locs ++ L) e1.symm (by rw [← e2]; exact X'.warmed.alike) hp hb k1 k2 k3 T' rfl X'
    exact ⟨t2, st t2 a1, b1⟩
  · obtain ⟨k1, k2, k3⟩ := vx_keep h0 e1 hS hAX hf hL hF
    obtain ⟨t2, a1, b1⟩ := kx E ce q u t T'.heap (locs ++ L) e1.symm (by rw [← e2]; exact X'.warmed.alike) hp hb k1 k2 k3 (by rw [e1]; exact hce) hcv hcl T' rfl X'
    exact ⟨t2, st.trans a1, b1⟩
theorem vx_callv {S SX : Type} {post : S → Prop} {px : SX → Prop} {B : S → State → Prop} {BX : String → SX → State → Prop} {AX : Nat → Prop} (hr : vx_Run p l e R s m args below meth c H locs cells slots mc ms (F0 m pc ls st0) rest (va_Qv post B A1 a) (vx_X px BX AX) free) (hS : va_S A0 H0 H locs) (hA : ∀ q, q < H.size → A1 q → A0 q) (hf : ∀ q, free q → A0 q) (hAX : ∀ q, q < H.size → AX q → A0 q)
    (kx : ∀ (E : String) (ce : Cell) (q9 : Addr) (u : SX) (t : State) (H1 : Heap) (locs1 : List Loc), t.heap = H1 → s.vm.Alike t.vm → px u → BX E u t → H.size ≤ H1.size → (∀ q : Nat, q < H.size → ¬ AX q → H1[q]? = H[q]?) → va_S A0 H0 H1 locs1 → H1[q9]? = some ce → ce.vm = .none → s.vm.findClass E = some ce.cls → vx_W p l e R s m args below meth c H1 locs1 (cells + mc) (slots + ms) Q (F0 m pc ls rest) q9)
    (kk : ∀ (u : S) (t : State) (H1 : Heap) (locs1 : List Loc), t.heap = H1 → s.vm.Alike t.vm → post u → B u t → H.size ≤ H1.size → (∀ q : Nat, q < H.size → ¬ A1 q → H1[q]? = H[q]?) → va_S A0 H0 H1 locs1 → W p l e R s m args below meth c H1 locs1 (cells + mc) (slots + ms) Q (F0 m (pc + 3) ls (rest))) : W p l e R s m args below meth c H locs cells slots Q (F0 m pc ls st0) := by
  intro T hT X
  rcases hr T hT X with ⟨v, st₀, t, T', L, h0, X', hL, e1, e2, ⟨⟨u, hv, hp, hb⟩, hF⟩, st⟩ | ⟨q, st₀, t, T', L, E, ce, h0, X', hL, e1, e2, ⟨u, hp, hb, hF⟩, hce, hcv, hcl, st⟩
  · cases hv
    obtain ⟨k1, k2, k3⟩ := vx_keep h0 e1 hS hA hf hL hF
    obtain ⟨t2, a1, b1⟩ := kk u t T'.heap (locs ++ L) e1.symm (by rw [← e2]; exact X'.warmed.alike) hp hb k1 k2 k3 T' rfl X'
    exact ⟨t2, st t2 a1, b1⟩
  · obtain ⟨k1, k2, k3⟩ := vx_keep h0 e1 hS hAX hf hL hF
    obtain ⟨t2, a1, b1⟩ := kx E ce q u t T'.heap (locs ++ L) e1.symm (by rw [← e2]; exact X'.warmed.alike) hp hb k1 k2 k3 (by rw [e1]; exact hce) hcv hcl T' rfl X'
    exact ⟨t2, st.trans a1, b1⟩
/-- caught by the row x of this method's table; the rows ahead don't take it -/
theorem vx_catch {own name : String} {E : String} {ce : Cell} {q : Addr} (hown : s.vm.findClass own = some m.cls) (pre : List ExceptionTableEntry) (x : ExceptionTableEntry) (suf : List ExceptionTableEntry) (hsplit : c.exceptionTable.toList = pre ++ x :: suf)
    (hpass : ∀ z ∈ pre, covers z pc = false ∨ (z.catchType ≠ 0 ∧ ∃ nm : String, (Cond.classLink own z.catchType nm).before args s = true ∧ va_Nc E nm s)) (hx : covers x pc = true) (h0 : x.catchType ≠ 0)
    (hlink : (Cond.classLink own x.catchType name).before args s = true) (hcast : (Cond.castable E name).before args s = true) (hcell : H[q]? = some ce) (hv : ce.vm = .none) (hcl : s.vm.findClass E = some ce.cls)
    (kk : W p l e R s m args below meth c H locs cells slots Q (F0 m x.handlerPc ls [.ref q])) : vx_W p l e R s m args below meth c H locs cells slots Q (F0 m pc ls rest) q := by
  intro T hT X
  have hpl : e.platform.magicAccessors = ({} : Platform).magicAccessors := by rw [X.admits.platform]
  obtain ⟨c3, c4, hc3, hc4, hasg⟩ := Cond.castable_spec hcast
  cases Option.some.inj (hc3.symm.trans hcl)
  obtain ⟨c5, hc5, hcl5⟩ := Cond.classLink_spec hown hlink e.platform hpl
  cases Option.some.inj (hc4.symm.trans hc5)
  obtain ⟨vm', X', st⟩ := X.thenCaughtThrough q (g := F0 m pc ls rest) rfl (Steps.refl _) (by rw [hT]; exact hcell) (by rw [hv]; rfl) (by obtain ⟨k9, h9, -⟩ := Vm.findClass_spec hcl; exact ⟨k9, h9⟩) pre x suf hsplit
    (fun z hz => by
      rcases hpass z hz with h | ⟨hz0, nm, hl1, hn1⟩
      · exact Or.inl h
      · obtain ⟨c6, hc6, hcl6⟩ := Cond.classLink_spec hown hl1 e.platform hpl
        obtain ⟨a8, b8, h1, h2, h3⟩ := hn1
        cases Option.some.inj (h1.symm.trans hcl)
        cases Option.some.inj (h2.symm.trans hc6)
        exact Or.inr ⟨hz0, _, hcl6, h3⟩) hx (Or.inr ⟨h0, c4, hcl5, hasg⟩)
  obtain ⟨t, a1, b1⟩ := kk (T.setVm vm') hT X'
  exact ⟨t, st.trans a1, b1⟩
end Rows
section Ends
variable {p : Program} {l : Launch} {e : Env} {R : Room} {s : State} {m : MethodId} {args : Array Value} {below : List Frame} {meth : Method} {c : Code} {H : Heap} {locs : List Loc} {cells slots : Nat} {Q : State → Prop}
variable {mc ms : Nat} {free : Addr → Prop} {A0 A1 : Nat → Prop} {H0 : Heap} {a : Array Value} {ls : Array Slot} {st0 rest : List Value}
variable {Qc : Array Value → State → Outcome → State → Prop} {XC : String → State → State → Prop}
/-- what a body that may throw owes at its end -/
def vx_MQ (below : List Frame) (Qc : Array Value → State → Outcome → State → Prop) (XC : String → State → State → Prop) (a : Array Value) (s : State) (mc ms : Nat) (free : Addr → Prop) : State → Prop := fun t =>
  ∃ o, t.status = .running ∧ Ended t below o ∧ vx_Q Qc XC mc ms free a s o t
theorem vx_ret {g : JFrame} {mc ms : Nat} (k : W p l e R s m args below meth c H locs cells slots (MQ below Qc args s mc ms free) g) : W p l e R s m args below meth c H locs cells slots (vx_MQ below Qc XC args s mc ms free) g := by
  intro T hT X
  obtain ⟨t, a1, o, b1, b2, b3, b4⟩ := k T hT X
  exact ⟨t, a1, o, b1, b2, Or.inl ⟨b3, b4⟩⟩
/-- not caught here: it goes on to the caller -/
theorem vx_widen {g : JFrame} {q : Addr} {k n : Nat} (h1 : cells ≤ k) (h2 : slots ≤ n) (kk : vx_W p l e R s m args below meth c H locs k n Q g q) : vx_W p l e R s m args below meth c H locs cells slots Q g q := fun T hT X => kk T hT (stand_widen X h1 h2)
theorem vx_out {pc : Nat} {E : String} {ce : Cell} {q : Addr} {mc ms : Nat} (hout : ∀ x ∈ c.exceptionTable.toList, covers x pc = false) (hlocks : meth.locks = false) (hcell : H[q]? = some ce) (hv : ce.vm = .none) (hcl : s.vm.findClass E = some ce.cls)
    (hx : ∀ t : State, t.heap = H → s.vm.Alike t.vm → XC E s t) (hf : ∀ z ∈ locs, free z.base) (hc : cells ≤ mc) (hs : slots ≤ ms) :
    vx_W p l e R s m args below meth c H locs cells slots (vx_MQ below Qc XC args s mc ms free) (F0 m pc ls rest) q := by
  intro T hT X
  obtain ⟨st1, hrun, hend, hW, hsm⟩ := X.leaveThrown q (g := F0 m pc ls rest) rfl rfl rfl hout hlocks
  have hcell9 : (T.setFrames (.throwing q :: below)).heap[q]? = some ce := by
    show T.heap[q]? = some ce
    rw [hT]; exact hcell
  exact ⟨_, st1, .threw q, hrun, hend, Or.inr ⟨q, rfl, E, ce, locs, hx _ hT hW.alike, hcell9, hv, hcl, hW, hsm.mono hc hs, hf⟩⟩
theorem vx_frame {U : State} {k n : Nat} (h : s.sameButNew ({ U with vm := s.vm } : State) locs k n) : s.heap.size ≤ U.heap.size ∧ ∀ q : Nat, q < s.heap.size → (∀ z ∈ locs, z.base ≠ q) → U.heap[q]? = s.heap[q]? := by
  obtain ⟨-, h2, -, -, -, h6⟩ := h
  refine ⟨h2, fun q hq hz => ?_⟩
  obtain ⟨c9, e1, e2, e3, e4⟩ := h6 q _ (Array.getElem?_eq_getElem hq)
  have hs : c9.slots = (s.heap[q]).slots := Array.ext_getElem? fun i => e4 i fun hm => hz _ hm rfl
  have h9 : c9 = s.heap[q] := by
    rw [hs] at e2
    exact e2
  have e5 : U.heap[q]? = some c9 := e1
  rw [e5, h9, Array.getElem?_eq_getElem hq]
/-- the words of a throw but the four that speak of the heap -/
def vx_no (w : Cond) : Bool := decide (w ≠ .isRef (.static Bundle.tN "UNASSIGNED_STACK" Bundle.steD)) && decide (w ≠ .isRef (.static Bundle.tN "SUPPRESSED_SENTINEL" Bundle.listD)) && decide (w ≠ .laysStatic Bundle.tN "UNASSIGNED_STACK" Bundle.steD) && decide (w ≠ .laysStatic Bundle.tN "SUPPRESSED_SENTINEL" Bundle.listD)
def vx_at0 (own : String) (ic : Nat) (X : String) (names : List String) : List Cond := (Bundle.ownAtoms0 own ic X names).filter vx_no
def vx_atS (own : String) (ic : Nat) (X : String) (names : List String) : List Cond := (Bundle.ownAtoms own ic X names).filter vx_no
/-- a word that the tables alone decide, or a good one -/
def vx_ot (w : Cond) : Bool := w.onTables || goodWord w
theorem vx_ot_at {args a' : Array Value} {s U : State} {w : Cond} (hW : s.WarmedH U.vm) (hvm : s.vm = U.vm) (hg : vx_ot w = true) (h : w.before args s = true) : w.before a' U = true := by
  simp only [vx_ot, Bool.or_eq_true] at hg
  rcases hg with hg | hg
  · exact va_tabs hg hvm h
  · exact word_at hW (good_of_word hg) h
/-- a list's words: the good ones out of the method's own list, the others by premises of their own -/
theorem vx_hat {args : Array Value} {s : State} {L B : List Cond} (h1 : ∀ w ∈ L.filter goodWord, w.before args s = true) (h2 : ∀ w ∈ L.filter (fun w => !goodWord w), w ∈ B) (h3 : ∀ w ∈ B, w.before args s = true) : ∀ w ∈ L, w.before args s = true := by
  intro w hw
  by_cases g : goodWord w = true
  · exact h1 w (List.mem_filter.mpr ⟨hw, g⟩)
  · refine h3 w (h2 w (List.mem_filter.mpr ⟨hw, ?_⟩))
    show (!goodWord w) = true
    cases hgw : goodWord w
    · rfl
    · exact absurd hgw g
theorem vx_c {args : Array Value} {s : State} {w : Cond} {B : List Cond} (h : w.before args s = true) (t : ∀ w ∈ B, w.before args s = true) : ∀ w' ∈ w :: B, w'.before args s = true := fun w' h' => (List.mem_cons.mp h').elim (fun e => by rw [e]; exact h) (t w')
theorem vx_n {args : Array Value} {s : State} : ∀ w ∈ ([] : List Cond), w.before args s = true := fun _ h => nomatch h
theorem vx_own {args : Array Value} {s : State} {L : List Cond} (h1 : ∀ w ∈ L.filter vx_no, w.before args s = true)
    (hU : (Cond.isRef (.static Bundle.tN "UNASSIGNED_STACK" Bundle.steD)).before args s = true) (hN : (Cond.isRef (.static Bundle.tN "SUPPRESSED_SENTINEL" Bundle.listD)).before args s = true)
    (lU : (Cond.laysStatic Bundle.tN "UNASSIGNED_STACK" Bundle.steD).before args s = true) (lN : (Cond.laysStatic Bundle.tN "SUPPRESSED_SENTINEL" Bundle.listD).before args s = true) : ∀ w ∈ L, w.before args s = true := by
  intro w hw
  by_cases e1 : w = .isRef (.static Bundle.tN "UNASSIGNED_STACK" Bundle.steD)
  · rw [e1]; exact hU
  · by_cases e2 : w = .isRef (.static Bundle.tN "SUPPRESSED_SENTINEL" Bundle.listD)
    · rw [e2]; exact hN
    · by_cases e3 : w = .laysStatic Bundle.tN "UNASSIGNED_STACK" Bundle.steD
      · rw [e3]; exact lU
      · by_cases e4 : w = .laysStatic Bundle.tN "SUPPRESSED_SENTINEL" Bundle.listD
        · rw [e4]; exact lN
        · exact h1 w (List.mem_filter.mpr ⟨hw, by unfold vx_no; rw [decide_eq_true e1, decide_eq_true e2, decide_eq_true e3, decide_eq_true e4]; rfl⟩)
/-- where a static field lies, its class's statics cell in H -/
def vx_L (C n d : String) (A : Nat → Prop) (U : State) (H : Heap) : Prop := ∃ (c : ClassId) (k : Class) (i : Nat) (f : Field) (a : Nat) (cell : Cell), U.vm.findClass C = some c ∧ U.fieldFound? C n d = some (c, k, i, f) ∧ f.isStatic = true ∧ k.statics = some a ∧ H[a]? = some cell ∧ cell.vm.isStatics = true ∧ cell.cls = c ∧ f.slot < cell.slots.size ∧ k.staticTypes[f.slot]? = some f.type ∧ ¬ A a
theorem vx_L.moved {C n d : String} {A : Nat → Prop} {u U : State} {H : Heap} (hvm : u.vm.Alike U.vm) (h : vx_L C n d A u H) : vx_L C n d A U H := by
  obtain ⟨c, k, i, f, a, cell, h1, h2, h3, h4, h5, h6, h7, h8, h9, h10⟩ := h
  obtain ⟨k', hi', he⟩ := State.fieldFound?_setVm hvm h2
  exact ⟨c, k', i, f, a, cell, by rw [hvm.findClass]; exact h1, hi', h3, by rw [he]; exact h4, h5, h6, h7, h8, by rw [he]; exact h9, h10⟩
theorem vx_L.kept {C n d : String} {A : Nat → Prop} {U : State} {H H1 : Heap} (h : vx_L C n d A U H) (hq : ∀ a : Nat, a < H.size → ¬ A a → H1[a]? = H[a]?) : vx_L C n d A U H1 := by
  obtain ⟨c, k, i, f, a, cell, h1, h2, h3, h4, h5, h6, h7, h8, h9, h10⟩ := h
  exact ⟨c, k, i, f, a, cell, h1, h2, h3, h4, by rw [hq a (Array.getElem?_eq_some_iff.mp h5).1 h10]; exact h5, h6, h7, h8, h9, h10⟩
theorem vx_L.narrow {C n d : String} {A B : Nat → Prop} {U : State} {H : Heap} (h : vx_L C n d A U H) (hAB : ∀ q, B q → A q) : vx_L C n d B U H := by
  obtain ⟨c, k, i, f, a, cell, h1, h2, h3, h4, h5, h6, h7, h8, h9, h10⟩ := h
  exact ⟨c, k, i, f, a, cell, h1, h2, h3, h4, h5, h6, h7, h8, h9, fun z => h10 (hAB _ z)⟩
theorem vx_L.word {C n d : String} {A : Nat → Prop} {s : State} {args : Array Value} (h : vx_L C n d A s s.heap) : (Cond.laysStatic C n d).before args s = true := by
  obtain ⟨c, k, i, f, a, cell, h1, h2, h3, h4, h5, h6, h7, h8, h9, -⟩ := h
  show (Cond.laysStatic C n d).holds args s none s [] = true
  exact Cond.laysStatic_of h1 h2 h3 h4 h5 h6 h7 h8 h9
/-- .. and what it holds: null or some reference -/
def vx_Zq (C n d : String) (A : Nat → Prop) (U : State) (H : Heap) : Prop := va_Zq C n d A U H ∧ vx_L C n d A U H
theorem vx_Zq.moved {C n d : String} {A : Nat → Prop} {u U : State} {H : Heap} (hvm : u.vm.Alike U.vm) (h : vx_Zq C n d A u H) : vx_Zq C n d A U H := ⟨va_Zq.moved hvm h.1, vx_L.moved hvm h.2⟩
theorem vx_Zq.kept {C n d : String} {A : Nat → Prop} {U : State} {H H1 : Heap} (h : vx_Zq C n d A U H) (hq : ∀ a : Nat, a < H.size → ¬ A a → H1[a]? = H[a]?) : vx_Zq C n d A U H1 := ⟨va_Zq.kept h.1 hq, vx_L.kept h.2 hq⟩
theorem vx_Zq.narrow {C n d : String} {A B : Nat → Prop} {U : State} {H : Heap} (h : vx_Zq C n d A U H) (hAB : ∀ q, B q → A q) : vx_Zq C n d B U H := ⟨va_Zq.narrow h.1 hAB, vx_L.narrow h.2 hAB⟩
theorem vx_Zqof {args : Array Value} {s : State} {C n d : String} {A : Nat → Prop} (hl : (Cond.laysStatic C n d).before args s = true) (hini : (Cond.initialized C).before args s = true) (h : (Cond.isRef (.static C n d)).before args s = true) (hA : ∀ a : Nat, a < s.heap.size → ¬ A a) : vx_Zq C n d A s s.heap := by
  refine ⟨va_Zqof hl hini h hA, ?_⟩
  obtain ⟨c, k, i, f, a, cell, h1, h2, h3, h4, h5, h6, h7, h8, h9⟩ := Cond.laysStatic_spec hl
  exact ⟨c, k, i, f, a, cell, h1, h2, h3, h4, h5, h6, h7, h8, h9, hA a (Array.getElem?_eq_some_iff.mp h5).1⟩
theorem vx_isRef {C n d : String} {v : Value} {A : Nat → Prop} {s : State} {args : Array Value} (h : va_Z C n d v A s s.heap) (hv : v.isRef = true) : (Cond.isRef (.static C n d)).before args s = true := by
  obtain ⟨cf, kf, fi, f, a, cell, h1, h2, h3, h4, h5, h6, h7, -⟩ := h
  have he : (Term.static C n d).eval args s none [] s = some v := by
    simp [Term.eval, State.fieldNamed?, h1, h2, h4, h5, h6, h7]
  simp only [Cond.before, Cond.holds, Cond.value, he]
  cases v <;> simp_all [Value.isRef]
theorem vx_isRefq {C n d : String} {A : Nat → Prop} {s : State} {args : Array Value} (h : va_Zq C n d A s s.heap) : (Cond.isRef (.static C n d)).before args s = true := by
  rcases h with h | ⟨t, h⟩
  · exact vx_isRef h rfl
  · exact vx_isRef h rfl
/-- the same frame, seen from here: as if the method were called anew in this heap -/
theorem vx_rebase {T : State} (X : Stand p l e R s m args below meth c T locs cells slots) {R' : Room} (hf : R'.frames ≤ R.frames) (hl : R'.locals ≤ R.locals) (hc : cells + R'.cells ≤ R.cells) (hs : slots + R'.slots ≤ R.slots) :
    Stand p l e R' ((T.setVm s.vm).setFrames (.invoking m args :: below)) m args below meth c T [] 0 0 := by
  have htop : (T.setVm s.vm).topJava?.isSome := X.here.top
  have hF : ((T.setVm s.vm).setFrames (.invoking m args :: below)).frames = .invoking m args :: below := State.frames_setFrames _ (State.cur_lt_of_top htop)
  obtain ⟨g₀, hg0⟩ := Option.isSome_iff_exists.mp htop
  obtain ⟨r, hr⟩ := State.topJava?_eq_some.mp hg0
  have hl9 : e.platform.stackLimits (T.setVm s.vm).me = e.platform.stackLimits s.me := X.limits
  have hb9 : (T.setVm s.vm).me.stackBytes = s.me.stackBytes := X.bytes
  refine ⟨X.admits, X.cas, X.clock, hF, ?_, X.hears, X.method, X.code, X.here, X.tail, X.warmed, ?_, ?_, ?_⟩
  · have h := X.room
    have hU : ((T.setVm s.vm).setFrames (.invoking m args :: below)).localsInUse = s.localsInUse := by
      rw [State.localsInUse_invoking hF (meth := meth) (c := c) X.method X.code, State.localsInUse_invoking X.frames X.method X.code]
    simp only [State.hasRoom, Bool.and_eq_true, decide_eq_true_eq] at h ⊢
    obtain ⟨⟨⟨⟨h1, h2, h3, h4, h5, h6⟩, h7⟩, h8⟩, h9⟩ := h
    rw [X.frames, List.length_cons] at h2 h3
    have q1 := X.heapSize
    have q2 := X.used
    simp only [hF, hU, List.length_cons, State.stackLimits_setFrames, State.stackBytes_setFrames, hl9, hb9]
    refine ⟨⟨⟨⟨by omega, by omega, by omega, by omega, by omega, h6⟩, ?_⟩, ?_⟩, X.book⟩
    · show T.heap.size + R'.cells ≤ e.platform.maxCells
      omega
    · show T.slotsUsed + R'.slots ≤ e.platform.maxSlots
      omega
  · rw [State.stackLimits_setFrames]; rfl
  · rw [State.stackBytes_setFrames]; rfl
  · refine ⟨?_, Nat.le_refl _, Nat.le_refl _, ?_, ?_, fun a c9 h9 => ⟨c9, h9, rfl, rfl, fun _ _ => rfl⟩⟩
    · obtain ⟨t, ht, -⟩ := State.frames_cons hr
      show T.setVm s.vm = { ((T.setVm s.vm).setFrames (.invoking m args :: below)).setFrames (T.setVm s.vm).frames with heap := T.heap, slotsUsed := T.slotsUsed }
      rw [State.setFrames_setFrames, State.setFrames_self ht]
      rfl
    · show T.slotsUsed = T.slotsUsed + ((T.heap.toList.drop T.heap.size).map (·.slots.size)).sum
      rw [List.drop_eq_nil_of_le (Nat.le_of_eq Array.length_toList)]
      rfl
    · show ((T.heap.toList.drop T.heap.size).map (·.slots.size)).sum ≤ 0
      rw [List.drop_eq_nil_of_le (Nat.le_of_eq Array.length_toList)]
      exact Nat.le_refl _
/-- 'throw new E()': new; dup; invokespecial; athrow -/
theorem vx_throw0 {cc : ByteArray} {pc : Nat} (hexec : p.tables.exec = Jvm.exec) (hb : c.code = cc) (hl : l.stackTraces = false) {own cls : String} {names : List String} {ik ic mc ms : Nat} {A : Nat → Prop}
    (hown : s.vm.findClass own = some m.cls) (hcls : Bundle.fit cls = true) (hnames : ∀ n ∈ names, Bundle.fit n = true)
    (hk : (Cond.classLink own ik cls).before args s = true) (hini : (Cond.initialized cls).before args s = true) (hat : ∀ w ∈ vx_at0 own ic cls names, w.before args s = true)
    (hgood : ∀ w ∈ Cond.classLink own ik cls :: Cond.initialized cls :: vx_at0 own ic cls names, vx_ot w = true)
    (hU : vx_Zq Bundle.tN "UNASSIGNED_STACK" Bundle.steD A s s.heap) (hN : vx_Zq Bundle.tN "SUPPRESSED_SENTINEL" Bundle.listD A s s.heap) (hS : va_S A s.heap H locs) (hsize : ls.size = c.maxLocals)
    (d0 : decode cc pc = .ok (.new ik, 3)) (d3 : decode cc (pc + 3) = .ok (.dup, 1)) (d4 : decode cc (pc + 4) = .ok (.invokespecial ic, 3)) (d7 : decode cc (pc + 7) = .ok (.athrow, 1))
    (hout : ∀ x ∈ c.exceptionTable.toList, covers x (pc + 7) = false)
    (hRframes : names.length + 3 < R.frames) (hRlocals : (rest.map fun v => v.category).sum + (13 * (names.length + 1) + 42) ≤ R.locals) (hRcells : cells + 1 ≤ R.cells) (hRslots : slots + 6 ≤ R.slots) (hlocks : meth.locks = false)
    (hx : ∀ t : State, s.vm.Alike t.vm → H.size ≤ t.heap.size → (∀ q : Nat, q < H.size → t.heap[q]? = H[q]?) → XC cls s t)
    (hf : ∀ z ∈ locs, free z.base) (hc : cells + 1 ≤ mc) (hs : slots + 6 ≤ ms) :
    W p l e R s m args below meth c H locs cells slots (vx_MQ below Qc XC args s mc ms free) (F0 m pc ls rest) := by
  intro T hT X
  have htr : e.platform.stackTraces = false := (show e.platform.stackTraces = l.stackTraces by rw [X.admits.platform]).trans hl
  have Y := vx_rebase X (R' := { frames := R.frames, locals := R.locals, cells := 1, slots := 6 }) (Nat.le_refl _) (Nat.le_refl _) hRcells hRslots
  obtain ⟨s', hA⟩ : ∃ z, z = (T.setVm s.vm).setFrames (.invoking m args :: below) := ⟨_, rfl⟩
  rw [← hA] at Y
  have hvm : s'.vm = s.vm := by rw [hA]; rfl
  have hhp : s'.heap = H := by rw [hA]; exact hT
  have hW0 : s.WarmedH s'.vm := by rw [hvm]; exact State.WarmedH.refl s
  have hat' : ∀ w ∈ vx_at0 own ic cls names, w.before args s' = true := fun w hw => vx_ot_at hW0 hvm.symm (hgood w (List.mem_cons_of_mem _ (List.mem_cons_of_mem _ hw))) (hat w hw)
  have hk' : (Cond.classLink own ik cls).before args s' = true := vx_ot_at hW0 hvm.symm (hgood _ List.mem_cons_self) hk
  have hini' : (Cond.initialized cls).before args s' = true := vx_ot_at hW0 hvm.symm (hgood _ (List.mem_cons_of_mem _ List.mem_cons_self)) hini
  have hU' : vx_Zq Bundle.tN "UNASSIGNED_STACK" Bundle.steD A s' s'.heap := by rw [hhp]; exact vx_Zq.moved hW0.alike (hU.kept hS.2.1)
  have hN' : vx_Zq Bundle.tN "SUPPRESSED_SENTINEL" Bundle.listD A s' s'.heap := by rw [hhp]; exact vx_Zq.moved hW0.alike (hN.kept hS.2.1)
  have h : ∀ w ∈ Bundle.ownAtoms0 own ic cls names, w.before args s' = true := vx_own hat' (vx_isRefq hU'.1) (vx_isRefq hN'.1) hU'.2.word hN'.2.word
  have hown' : s'.vm.findClass own = some m.cls := by rw [hvm]; exact hown
  have hins : (Cond.instantiable cls 6).before args s' = true := h _ (by simp [Bundle.ownAtoms0])
  obtain ⟨vm₁, cX, kX, hfX, hkX, -, -, X₁, st1⟩ := Y.newCold hexec (own := own) (C := cls) (index := ik) (n := 6) hown' hk' hins hini'
    (g := F0 m pc ls rest) rfl (by rw [hb]; exact d0) (Nat.le_refl _) (Nat.le_refl _)
  generalize hT1 : (T.setVm vm₁).pushCell { cls := cX, slots := kX.instanceTypes.map defaultValue, vm := .none } = T1 at X₁ st1
  have hcat : (Value.ref T.heap.size).category = 1 := rfl
  have hcellA : T1.heap[T.heap.size]? = some (freshCell cX kX) := by rw [← hT1]; exact State.heap_pushCell_size _ _
  have d3' : decode c.code (pc + 3) = .ok (.dup, 1) := by rw [hb]; exact d3
  obtain ⟨U, hsteps, hrun, hend, hW, hsame, ce, hce, hO⟩ := X₁.ctorThrow0 hexec htr (own := own) (cls := cls) (names := names) (ic := ic) hown' hcls hnames h (fun x hx => nomatch hx) hfX hkX hcellA (by rw [hhp, hT]; exact Nat.le_refl _)
    (g := { method := m, pc := pc + 4, locals := ls, stack := .ref T.heap.size :: .ref T.heap.size :: rest, locked := none }) rfl hsize rfl rfl (rest := rest) rfl
    (by rw [hb]; exact d4) (by rw [hb]; exact d7) hout hRframes (by simp only [List.map_cons, List.sum_cons, hcat]; omega) hlocks
  obtain ⟨f1, f2⟩ := vx_frame hsame
  rw [hhp] at f1 f2
  have hWs : s.WarmedH U.vm := State.WarmedH.trans hW0 hW
  have hcl : s.vm.findClass cls = some ce.cls := by
    have h9 := hO.cls
    rw [hvm] at h9
    exact h9
  have hall : s.sameButNew ({ U with vm := s.vm } : State) locs mc ms := by
    subst hA
    obtain ⟨e1, e2⟩ := hsame
    rw [State.setFrames_setFrames] at e1
    have h2 : (T.setVm s.vm).sameButNew ({ U with vm := s.vm } : State) [] (0 + 1) (0 + 6) := ⟨e1, e2⟩
    have h3 := X.same.trans h2
    rw [List.append_nil] at h3
    exact h3.mono hc hs
  refine ⟨U, ?_, .threw T.heap.size, hrun, hend, Or.inr ⟨T.heap.size, rfl, cls, ce, locs, hx U hWs.alike f1 (fun q hq => f2 q hq (fun z hz => nomatch hz)), hce, hO.vm, hcl, hWs, hall, hf⟩⟩
  refine st1 _ ?_
  show Steps p.tables e below (T1.setTop { method := m, pc := pc + 3, locals := ls, stack := .ref T.heap.size :: rest, locked := none }) _
  jvm_step X₁.here [X₁.here.top, hexec, d3', Value.category]
  exact hsteps
/-- 'throw new E("text")': new; dup; ldc; invokespecial; athrow -/
theorem vx_throwS {cc : ByteArray} {pc : Nat} (hexec : p.tables.exec = Jvm.exec) (hb : c.code = cc) (hl : l.stackTraces = false) {own cls text : String} {names : List String} {ik is ic mc ms sa : Nat} {A : Nat → Prop}
    (hown : s.vm.findClass own = some m.cls) (hcls : Bundle.fit cls = true) (hnames : ∀ n ∈ names, Bundle.fit n = true)
    (hk : (Cond.classLink own ik cls).before args s = true) (hini : (Cond.initialized cls).before args s = true) (hstr : vk_R own is text sa s) (hat : ∀ w ∈ vx_atS own ic cls names, w.before args s = true)
    (hgood : ∀ w ∈ Cond.classLink own ik cls :: Cond.initialized cls :: vx_atS own ic cls names, vx_ot w = true)
    (hU : vx_Zq Bundle.tN "UNASSIGNED_STACK" Bundle.steD A s s.heap) (hN : vx_Zq Bundle.tN "SUPPRESSED_SENTINEL" Bundle.listD A s s.heap) (hS : va_S A s.heap H locs) (hsize : ls.size = c.maxLocals)
    (d0 : decode cc pc = .ok (.new ik, 3)) (d3 : decode cc (pc + 3) = .ok (.dup, 1)) (d4 : decode cc (pc + 4) = .ok (.ldc is, 2)) (d6 : decode cc (pc + 6) = .ok (.invokespecial ic, 3)) (d9 : decode cc (pc + 9) = .ok (.athrow, 1))
    (hout : ∀ x ∈ c.exceptionTable.toList, covers x (pc + 9) = false)
    (hRframes : names.length + 3 < R.frames) (hRlocals : (rest.map fun v => v.category).sum + (13 * (names.length + 1) + 43) ≤ R.locals) (hRcells : cells + 1 ≤ R.cells) (hRslots : slots + 6 ≤ R.slots) (hlocks : meth.locks = false)
    (hx : ∀ t : State, s.vm.Alike t.vm → H.size ≤ t.heap.size → (∀ q : Nat, q < H.size → t.heap[q]? = H[q]?) → XC cls s t)
    (hf : ∀ z ∈ locs, free z.base) (hc : cells + 1 ≤ mc) (hs : slots + 6 ≤ ms) :
    W p l e R s m args below meth c H locs cells slots (vx_MQ below Qc XC args s mc ms free) (F0 m pc ls rest) := by
  intro T hT X
  have htr : e.platform.stackTraces = false := (show e.platform.stackTraces = l.stackTraces by rw [X.admits.platform]).trans hl
  have Y := vx_rebase X (R' := { frames := R.frames, locals := R.locals, cells := 1, slots := 6 }) (Nat.le_refl _) (Nat.le_refl _) hRcells hRslots
  obtain ⟨s', hA⟩ : ∃ z, z = (T.setVm s.vm).setFrames (.invoking m args :: below) := ⟨_, rfl⟩
  rw [← hA] at Y
  have hvm : s'.vm = s.vm := by rw [hA]; rfl
  have hhp : s'.heap = H := by rw [hA]; exact hT
  have hW0 : s.WarmedH s'.vm := by rw [hvm]; exact State.WarmedH.refl s
  have hat' : ∀ w ∈ vx_atS own ic cls names, w.before args s' = true := fun w hw => vx_ot_at hW0 hvm.symm (hgood w (List.mem_cons_of_mem _ (List.mem_cons_of_mem _ hw))) (hat w hw)
  have hk' : (Cond.classLink own ik cls).before args s' = true := vx_ot_at hW0 hvm.symm (hgood _ List.mem_cons_self) hk
  have hini' : (Cond.initialized cls).before args s' = true := vx_ot_at hW0 hvm.symm (hgood _ (List.mem_cons_of_mem _ List.mem_cons_self)) hini
  have hU' : vx_Zq Bundle.tN "UNASSIGNED_STACK" Bundle.steD A s' s'.heap := by rw [hhp]; exact vx_Zq.moved hW0.alike (hU.kept hS.2.1)
  have hN' : vx_Zq Bundle.tN "SUPPRESSED_SENTINEL" Bundle.listD A s' s'.heap := by rw [hhp]; exact vx_Zq.moved hW0.alike (hN.kept hS.2.1)
  have h : ∀ w ∈ Bundle.ownAtoms own ic cls names, w.before args s' = true := vx_own hat' (vx_isRefq hU'.1) (vx_isRefq hN'.1) hU'.2.word hN'.2.word
  have hown' : s'.vm.findClass own = some m.cls := by rw [hvm]; exact hown
  have hins : (Cond.instantiable cls 6).before args s' = true := h _ (by simp [Bundle.ownAtoms])
  obtain ⟨vm₁, cX, kX, hfX, hkX, -, -, X₁, st1⟩ := Y.newCold hexec (own := own) (C := cls) (index := ik) (n := 6) hown' hk' hins hini'
    (g := F0 m pc ls rest) rfl (by rw [hb]; exact d0) (Nat.le_refl _) (Nat.le_refl _)
  generalize hT1 : (T.setVm vm₁).pushCell { cls := cX, slots := kX.instanceTypes.map defaultValue, vm := .none } = T1 at X₁ st1
  have hcat : (Value.ref T.heap.size).category = 1 := rfl
  have hcellA : T1.heap[T.heap.size]? = some (freshCell cX kX) := by rw [← hT1]; exact State.heap_pushCell_size _ _
  have d3' : decode c.code (pc + 3) = .ok (.dup, 1) := by rw [hb]; exact d3
  have d4' : decode c.code (pc + 4) = .ok (.ldc is, 2) := by rw [hb]; exact d4
  have hstr' : vk_R own is text sa s' := vk_R.warm hW0 hstr
  obtain ⟨U, hsteps, hrun, hend, hW, hsame, ce, hce, hO⟩ := X₁.ctorThrowS hexec htr (own := own) (cls := cls) (names := names) (ic := ic) hown' hcls hnames h (fun x hx => nomatch hx) hfX hkX hcellA (by rw [hhp, hT]; exact Nat.le_refl _) (msg := .ref sa) rfl
    (g := { method := m, pc := pc + 6, locals := ls, stack := .ref sa :: .ref T.heap.size :: .ref T.heap.size :: rest, locked := none }) rfl hsize rfl rfl (rest := rest) rfl
    (by rw [hb]; exact d6) (by rw [hb]; exact d9) hout hRframes (by simp only [List.map_cons, List.sum_cons, hcat]; omega) hlocks
  obtain ⟨f1, f2⟩ := vx_frame hsame
  rw [hhp] at f1 f2
  have hWs : s.WarmedH U.vm := State.WarmedH.trans hW0 hW
  have hcl : s.vm.findClass cls = some ce.cls := by
    have h9 := hO.cls
    rw [hvm] at h9
    exact h9
  have hall : s.sameButNew ({ U with vm := s.vm } : State) locs mc ms := by
    subst hA
    obtain ⟨e1, e2⟩ := hsame
    rw [State.setFrames_setFrames] at e1
    have h2 : (T.setVm s.vm).sameButNew ({ U with vm := s.vm } : State) [] (0 + 1) (0 + 6) := ⟨e1, e2⟩
    have h3 := X.same.trans h2
    rw [List.append_nil] at h3
    exact h3.mono hc hs
  refine ⟨U, ?_, .threw T.heap.size, hrun, hend, Or.inr ⟨T.heap.size, rfl, cls, ce, locs, hx U hWs.alike f1 (fun q hq => f2 q hq (fun z hz => nomatch hz)), hce, hO.vm, hcl, hWs, hall, hf⟩⟩
  refine st1 _ ?_
  show Steps p.tables e below (T1.setTop { method := m, pc := pc + 3, locals := ls, stack := .ref T.heap.size :: rest, locked := none }) _
  jvm_step X₁.here [X₁.here.top, hexec, d3', Value.category]
  exact X₁.ldcString hexec (own := own) (text := text) (index := is) (a := sa) hown' hstr'.1 hstr'.2
    (g := { method := m, pc := pc + 4, locals := ls, stack := .ref T.heap.size :: .ref T.heap.size :: rest, locked := none }) rfl d4' _ hsteps
/-- 'throw new E("text")', the text by a wide index -/
theorem vx_throwSW {cc : ByteArray} {pc : Nat} (hexec : p.tables.exec = Jvm.exec) (hb : c.code = cc) (hl : l.stackTraces = false) {own cls text : String} {names : List String} {ik is ic mc ms sa : Nat} {A : Nat → Prop}
    (hown : s.vm.findClass own = some m.cls) (hcls : Bundle.fit cls = true) (hnames : ∀ n ∈ names, Bundle.fit n = true)
    (hk : (Cond.classLink own ik cls).before args s = true) (hini : (Cond.initialized cls).before args s = true) (hstr : vk_R own is text sa s) (hat : ∀ w ∈ vx_atS own ic cls names, w.before args s = true)
    (hgood : ∀ w ∈ Cond.classLink own ik cls :: Cond.initialized cls :: vx_atS own ic cls names, vx_ot w = true)
    (hU : vx_Zq Bundle.tN "UNASSIGNED_STACK" Bundle.steD A s s.heap) (hN : vx_Zq Bundle.tN "SUPPRESSED_SENTINEL" Bundle.listD A s s.heap) (hS : va_S A s.heap H locs) (hsize : ls.size = c.maxLocals)
    (d0 : decode cc pc = .ok (.new ik, 3)) (d3 : decode cc (pc + 3) = .ok (.dup, 1)) (d4 : decode cc (pc + 4) = .ok (.ldc_w is, 3)) (d7 : decode cc (pc + 7) = .ok (.invokespecial ic, 3)) (d10 : decode cc (pc + 10) = .ok (.athrow, 1))
    (hout : ∀ x ∈ c.exceptionTable.toList, covers x (pc + 10) = false)
    (hRframes : names.length + 3 < R.frames) (hRlocals : (rest.map fun v => v.category).sum + (13 * (names.length + 1) + 43) ≤ R.locals) (hRcells : cells + 1 ≤ R.cells) (hRslots : slots + 6 ≤ R.slots) (hlocks : meth.locks = false)
    (hx : ∀ t : State, s.vm.Alike t.vm → H.size ≤ t.heap.size → (∀ q : Nat, q < H.size → t.heap[q]? = H[q]?) → XC cls s t)
    (hf : ∀ z ∈ locs, free z.base) (hc : cells + 1 ≤ mc) (hs : slots + 6 ≤ ms) :
    W p l e R s m args below meth c H locs cells slots (vx_MQ below Qc XC args s mc ms free) (F0 m pc ls rest) := by
  intro T hT X
  have htr : e.platform.stackTraces = false := (show e.platform.stackTraces = l.stackTraces by rw [X.admits.platform]).trans hl
  have Y := vx_rebase X (R' := { frames := R.frames, locals := R.locals, cells := 1, slots := 6 }) (Nat.le_refl _) (Nat.le_refl _) hRcells hRslots
  obtain ⟨s', hA⟩ : ∃ z, z = (T.setVm s.vm).setFrames (.invoking m args :: below) := ⟨_, rfl⟩
  rw [← hA] at Y
  have hvm : s'.vm = s.vm := by rw [hA]; rfl
  have hhp : s'.heap = H := by rw [hA]; exact hT
  have hW0 : s.WarmedH s'.vm := by rw [hvm]; exact State.WarmedH.refl s
  have hat' : ∀ w ∈ vx_atS own ic cls names, w.before args s' = true := fun w hw => vx_ot_at hW0 hvm.symm (hgood w (List.mem_cons_of_mem _ (List.mem_cons_of_mem _ hw))) (hat w hw)
  have hk' : (Cond.classLink own ik cls).before args s' = true := vx_ot_at hW0 hvm.symm (hgood _ List.mem_cons_self) hk
  have hini' : (Cond.initialized cls).before args s' = true := vx_ot_at hW0 hvm.symm (hgood _ (List.mem_cons_of_mem _ List.mem_cons_self)) hini
  have hU' : vx_Zq Bundle.tN "UNASSIGNED_STACK" Bundle.steD A s' s'.heap := by rw [hhp]; exact vx_Zq.moved hW0.alike (hU.kept hS.2.1)
  have hN' : vx_Zq Bundle.tN "SUPPRESSED_SENTINEL" Bundle.listD A s' s'.heap := by rw [hhp]; exact vx_Zq.moved hW0.alike (hN.kept hS.2.1)
  have h : ∀ w ∈ Bundle.ownAtoms own ic cls names, w.before args s' = true := vx_own hat' (vx_isRefq hU'.1) (vx_isRefq hN'.1) hU'.2.word hN'.2.word
  have hown' : s'.vm.findClass own = some m.cls := by rw [hvm]; exact hown
  have hins : (Cond.instantiable cls 6).before args s' = true := h _ (by simp [Bundle.ownAtoms])
  obtain ⟨vm₁, cX, kX, hfX, hkX, -, -, X₁, st1⟩ := Y.newCold hexec (own := own) (C := cls) (index := ik) (n := 6) hown' hk' hins hini'
    (g := F0 m pc ls rest) rfl (by rw [hb]; exact d0) (Nat.le_refl _) (Nat.le_refl _)
  generalize hT1 : (T.setVm vm₁).pushCell { cls := cX, slots := kX.instanceTypes.map defaultValue, vm := .none } = T1 at X₁ st1
  have hcat : (Value.ref T.heap.size).category = 1 := rfl
  have hcellA : T1.heap[T.heap.size]? = some (freshCell cX kX) := by rw [← hT1]; exact State.heap_pushCell_size _ _
  have d3' : decode c.code (pc + 3) = .ok (.dup, 1) := by rw [hb]; exact d3
  have d4' : decode c.code (pc + 4) = .ok (.ldc_w is, 3) := by rw [hb]; exact d4
  have hstr' : vk_R own is text sa s' := vk_R.warm hW0 hstr
  obtain ⟨U, hsteps, hrun, hend, hW, hsame, ce, hce, hO⟩ := X₁.ctorThrowS hexec htr (own := own) (cls := cls) (names := names) (ic := ic) hown' hcls hnames h (fun x hx => nomatch hx) hfX hkX hcellA (by rw [hhp, hT]; exact Nat.le_refl _) (msg := .ref sa) rfl
    (g := { method := m, pc := pc + 7, locals := ls, stack := .ref sa :: .ref T.heap.size :: .ref T.heap.size :: rest, locked := none }) rfl hsize rfl rfl (rest := rest) rfl
    (by rw [hb]; exact d7) (by rw [hb]; exact d10) hout hRframes (by simp only [List.map_cons, List.sum_cons, hcat]; omega) hlocks
  obtain ⟨f1, f2⟩ := vx_frame hsame
  rw [hhp] at f1 f2
  have hWs : s.WarmedH U.vm := State.WarmedH.trans hW0 hW
  have hcl : s.vm.findClass cls = some ce.cls := by
    have h9 := hO.cls
    rw [hvm] at h9
    exact h9
  have hall : s.sameButNew ({ U with vm := s.vm } : State) locs mc ms := by
    subst hA
    obtain ⟨e1, e2⟩ := hsame
    rw [State.setFrames_setFrames] at e1
    have h2 : (T.setVm s.vm).sameButNew ({ U with vm := s.vm } : State) [] (0 + 1) (0 + 6) := ⟨e1, e2⟩
    have h3 := X.same.trans h2
    rw [List.append_nil] at h3
    exact h3.mono hc hs
  refine ⟨U, ?_, .threw T.heap.size, hrun, hend, Or.inr ⟨T.heap.size, rfl, cls, ce, locs, hx U hWs.alike f1 (fun q hq => f2 q hq (fun z hz => nomatch hz)), hce, hO.vm, hcl, hWs, hall, hf⟩⟩
  refine st1 _ ?_
  show Steps p.tables e below (T1.setTop { method := m, pc := pc + 3, locals := ls, stack := .ref T.heap.size :: rest, locked := none }) _
  jvm_step X₁.here [X₁.here.top, hexec, d3', Value.category]
  exact X₁.ldcStringW hexec (own := own) (text := text) (index := is) (a := sa) hown' hstr'.1 hstr'.2
    (g := { method := m, pc := pc + 4, locals := ls, stack := .ref T.heap.size :: .ref T.heap.size :: rest, locked := none }) rfl d4' _ hsteps
end Ends
section Bodies
variable {l : Launch}
theorem vx_ofW {y : MethodName} {ws ws' : List Cond} {rm : Room} {Pc : Array Value → State → Prop} {Qc : Array Value → State → Outcome → State → Prop} {XC : String → State → State → Prop} {mc ms : Nat} {free : Addr → Prop} {cc : ByteArray} {maxL : Nat} {ret : Option FieldType}
    (hy : plainName y.cls = true) (hw : ws = Cond.code y cc maxL ret :: ws')
    (body : ∀ p e s m args below meth c s₁, BodyLoose p l y (headSpec ws rm) cc maxL ret e s m args below meth c s₁ → c.maxLocals = maxL → (∀ x ∈ c.exceptionTable.toList, False) → Pc args s →
      W p l e (headSpec ws rm).room s m args below meth c s.heap [] 0 0 (vx_MQ below Qc XC args s mc ms free) (entryFrame m args maxL)) : vx_Met l y ws rm Pc Qc XC mc ms free := by
  refine MetFree.of_bodyS (code := cc) (maxLocals := maxL) (ret := ret) hy ?_ ?_
  · intro args s m h hn
    obtain ⟨meth, c, h1, h2, h3, h4, h5, h6, -, -⟩ := Cond.code_spec hn (atoms_spec (ws := ws) h _ (by rw [hw]; exact List.mem_cons_self))
    exact ⟨meth, c, h1, h2, h3, h4, h5, h6⟩
  · intro p e s m args below meth c s₁ B hml hP _
    have hh0 : s₁.heap = s.heap := by rw [B.state]; rfl
    have ht : ∀ x ∈ c.exceptionTable.toList, False := by
      obtain ⟨meth9, c9, h1, h2, -, -, -, -, h7, -⟩ := Cond.code_spec B.named (atoms_spec (ws := ws) B.pre _ (by rw [hw]; exact List.mem_cons_self))
      cases Option.some.inj (h1.symm.trans B.method)
      cases Option.some.inj (h2.symm.trans (Stand.of_body B).code)
      intro x hx
      rw [Array.isEmpty_iff.mp h7] at hx
      cases hx
    obtain ⟨t, a1, o, b1, b2, b3⟩ := body p e s m args below meth c s₁ B hml ht hP s₁ hh0 (Stand.of_body B)
    exact ⟨t, o, a1, b1, b2, b3⟩
/-- the table of a body with handlers -/
theorem vx_table {p : Program} {x y : MethodName} {S : Spec} {cc bytes : ByteArray} {maxL maxL' : Nat} {ret ret' : Option FieldType} {e : Env} {s s₁ : State} {m : MethodId} {args : Array Value} {below : List Frame} {meth : Method} {c : Code} {hh : List (Nat × Nat × Nat × Nat)}
    (B : BodyLoose p l y S cc maxL ret e s m args below meth c s₁) (h : (Cond.codeWith y bytes maxL' ret' hh).before args s = true) : c.exceptionTable.toList = tableOf hh := by
  obtain ⟨m9, meth9, c9, hn9, h1, h2, -, -, h6, -⟩ := Cond.codeWith_spec h
  cases Option.some.inj (hn9.symm.trans B.named)
  cases Option.some.inj (h1.symm.trans B.method)
  cases Option.some.inj (h2.symm.trans (Stand.of_body B).code)
  rw [← h6, table_eq]
end Bodies
end VXA
/-! ===== END ===== -/
/-! ===== BEGIN a static call of a method with an exception table ===== -/
section VXS
variable {p : Program} {l : Launch} {e : Env} {R : Room} {s : State} {m : MethodId} {args : Array Value} {below : List Frame} {meth : Method} {c : Code} {T : State} {H : Heap} {locs : List Loc} {cells slots : Nat}
abbrev vx_CSW (R : Room) (s : State) (args : Array Value) (own : String) (index : Nat) (y : MethodName) (bytes : ByteArray) (maxL : Nat) (ret : Option FieldType) (hh : List (Nat × Nat × Nat × Nat)) (ws : List Cond) (rm : Room) (mc ms n : Nat) : Prop :=
  (rm.cells = mc ∧ rm.slots = ms ∧ rm.frames + 1 ≤ R.frames ∧ 8 + (maxL + 11) + rm.locals ≤ R.locals ∧ (∀ w ∈ ws, ∀ (a' : Array Value) (U : State), s.WarmedH U.vm → w.before a' U = true) ∧ Cond.codeWith y bytes maxL ret hh ∈ ws) ∧
  (Cond.codeWith y bytes maxL ret hh).before args s = true ∧ (Cond.initialized y.cls).before args s = true ∧ (y.cls ≠ "java/lang/invoke/MethodHandle" ∧ y.cls ≠ "java/lang/invoke/VarHandle") ∧
  (∀ sig, parseMethodDescriptor y.desc = some sig → n = sig.parameters.length) ∧ (Cond.methodLink own index y).before args s = true ∧ (Cond.static y).before args s = true
theorem vx_cwSW {own : String} {index maxL mc ms : Nat} {y : MethodName} {bytes : ByteArray} {ret : Option FieldType} {hh : List (Nat × Nat × Nat × Nat)} {Ts ws ws' : List Cond} {rm : Room} (n : Nat) (ht : ∀ w ∈ Ts, w.before args s = true) (hT : GoodIn Ts (va_wsS own index y ws)) (hw : ws = Cond.codeWith y bytes maxL ret hh :: ws') (hrc : rm.cells = mc) (hrs : rm.slots = ms)
    (hd : y.cls ≠ "java/lang/invoke/MethodHandle" ∧ y.cls ≠ "java/lang/invoke/VarHandle" ∧ (parseMethodDescriptor y.desc).map (fun d => d.parameters.length) = some n) (hR : rm.frames + 1 ≤ R.frames ∧ 8 + (maxL + 11) + rm.locals ≤ R.locals) :
    vx_CSW R s args own index y bytes maxL ret hh ws rm mc ms n := by
  have ok : ∀ w ∈ va_wsS own index y ws, w.before args s = true := fun w h => ht w (hT w h).1
  have hG : GoodIn Ts ws := fun w h => hT w (by unfold va_wsS; exact List.mem_append_right _ h)
  have hc : Cond.codeWith y bytes maxL ret hh ∈ ws := by rw [hw]; exact List.mem_cons_self
  refine ⟨⟨hrc, hrs, hR.1, hR.2, pay_in ht hG, hc⟩, ht _ (hG _ hc).1, ok _ (by simp [va_wsS]), ⟨hd.1, hd.2.1⟩, fun sig h => ?_, ok _ (by simp [va_wsS]), ok _ (by simp [va_wsS])⟩
  have h2 := hd.2.2
  rw [h] at h2
  exact (Option.some.inj h2).symm
theorem vx_callSW (X : Stand p l e R s m args below meth c T locs cells slots) (hexec : p.tables.exec = Jvm.exec) {own : String} {index : Nat} {y : MethodName} {bytes : ByteArray} {maxL : Nat} {ret : Option FieldType} {hh : List (Nat × Nat × Nat × Nat)}
    (hown : s.vm.findClass own = some m.cls) (hlink : (Cond.methodLink own index y).before args s = true) (hstat : (Cond.static y).before args s = true) (hinit : (Cond.initialized y.cls).before args s = true)
    (hcode : (Cond.codeWith y bytes maxL ret hh).before args s = true) (hy : y.cls ≠ "java/lang/invoke/MethodHandle" ∧ y.cls ≠ "java/lang/invoke/VarHandle")
    {W9 : Nat} {Pre : Pt → Array Value → Prop} {Post : Pt → Array Value → Option Value → Pt → Prop} (hK : Back l R p e below s args y 3 W9 Pre Post)
    {g : JFrame} (hg : g.method = m) (hsize : g.locals.size = c.maxLocals) {argsL rest : List Value} (hlen : ∀ sig, parseMethodDescriptor y.desc = some sig → argsL.length = sig.parameters.length)
    (hstack : g.stack = argsL.reverse ++ rest) (hW : 2 * g.monitorRoom + (rest.map fun v => v.category).sum ≤ W9) (hdg : decode c.code g.pc = .ok (.invokestatic index, 3))
    (hpre : ∀ vm₁, s.WarmedH vm₁ → Pre ⟨T.setVm vm₁, locs, cells, slots⟩ argsL.toArray) :
    ∃ (v : Option Value) (vm₁ : Vm) (B : Pt), s.WarmedH vm₁ ∧ Stand p l e R s m args below meth c B.U B.locs B.cells B.slots ∧ Post ⟨T.setVm vm₁, locs, cells, slots⟩ argsL.toArray v B ∧
      ∀ target, Steps p.tables e below (B.U.setTop { g with pc := g.pc + 3, stack := v.toList ++ rest }) target → Steps p.tables e below (T.setTop g) target := by
  obtain ⟨mk, methM, cM, hnamed, hmethM, -, -, -, -, -, -, hsigM⟩ := Cond.codeWith_spec hcode
  have hstatic : methM.isStatic = true := Cond.static_spec hnamed hmethM hstat
  obtain ⟨kP, hkP, -⟩ := className_of_methodNamed hnamed
  have hinitP : kP.init = .initialized := Cond.initialized_spec (findClass_of_methodNamed hnamed) hkP hinit
  obtain ⟨vm₁, X₁, hstep₁⟩ := X.invokestatic hexec hown hlink hnamed hmethM hstatic hkP hinitP hy (g := g) hg (argsL := argsL) (rest := rest) (hlen _ hsigM) hstack hdg
  obtain ⟨v, B, X', hpost, hsteps⟩ := hK m meth c ⟨T.setVm vm₁, locs, cells, slots⟩ { g with stack := rest } (.invokestatic index) mk argsL.toArray X₁ hg hsize hdg hW (X₁.named hnamed) (hpre vm₁ X₁.warmed)
  exact ⟨v, vm₁, B, X₁.warmed, X', hpost, fun target h => hstep₁ _ fun acts => by rw [doInvoke_state]; exact hsteps.trans h⟩
theorem vx_runSW {y : MethodName} {bytes cc : ByteArray} {maxL nL mc ms n index : Nat} {ret : Option FieldType} {hh : List (Nat × Nat × Nat × Nat)} {ws : List Cond} {rm : Room} {Pc : Array Value → State → Prop} {Qc : Array Value → State → Outcome → State → Prop} {free : Addr → Prop} {Ts : List Cond} {own : String} {As rest : List Value} {g : JFrame}
    (S : CallFix p m c cc nL s args Ts own) (hM : Met l y ws rm Pc Qc mc ms free) (cw : vx_CSW R s args own index y bytes maxL ret hh ws rm mc ms n) (hp : PreS s H Pc As)
    (hg : g.method = m) (hn : As.length = n) (hsize : g.locals.size = nL) (hstack : g.stack = As.reverse ++ rest) (hW : 2 * g.monitorRoom + (rest.map fun v => v.category).sum ≤ 8) (hdg : decode cc g.pc = .ok (.invokestatic index, 3)) (hf : cells + mc ≤ R.cells ∧ slots + ms ≤ R.slots) :
    va_Run p l e R s m args below meth c H locs cells slots mc ms g rest (Qc As.toArray) (free) := by
  obtain ⟨⟨hrc, hrs, hfr, hlo, hws, hcw⟩, hcode, hini, hy, hlen, hl, hstt⟩ := cw
  have hK : Back l R p e below s args y 3 8 (PreOf R mc ms Pc) (PostOf Qc mc ms free) := va_backW (hh := hh) (bytes := bytes) (maxL := maxL) (ret := ret) hM hp.1 hrc hrs hfr hlo hws hcw (fun a' U hW => word_at hW (Or.inl (by first | rfl | simp [Cond.onTables, Cond.keeps, Cond.steady])) hini)
  obtain ⟨hx, hb, hml, ho, -⟩ := S
  intro T hT X
  obtain ⟨v, vm₁, ⟨U', l2, c2, s2⟩, hW₁, X', ⟨g', mk, t, L, e1, e2, hq, h1, hL, h2, h3⟩, st⟩ := vx_callSW X hx (hh := hh) (bytes := bytes) (maxL := maxL) (ret := ret) ho hl hstt hini hcode hy hK hg (hsize.trans hml.symm) (argsL := As) (rest := rest) (fun sig h => hn.trans (hlen sig h)) hstack hW (by rw [hb]; exact hdg)
    (fun vm₁ hW₁ => ⟨hf.1, hf.2, hp.2 (T.setVm vm₁) hT hW₁⟩)
  dsimp only [Pt.U, Pt.locs, Pt.cells, Pt.slots] at X' e1 e2 h1 h2 h3 st
  subst h1; subst h2; subst h3
  exact ⟨v, (T.setVm vm₁).calling g' mk As.toArray, t, U', L, hT, X', hL, e1, e2, hq, st⟩
/-- not caught here, past rows that name other classes: it goes on to the caller -/
theorem vx_outP {p : Program} {l : Launch} {e : Env} {R : Room} {s : State} {m : MethodId} {args : Array Value} {below : List Frame} {meth : Method} {c : Code} {H : Heap} {locs : List Loc} {cells slots : Nat} {free : Addr → Prop} {ls : Array Slot} {rest : List Value} {Qc : Array Value → State → Outcome → State → Prop} {XC : String → State → State → Prop}
    {pc : Nat} {own E : String} {ce : Cell} {q : Addr} {mc ms : Nat} (hown : s.vm.findClass own = some m.cls) (hlocks : meth.locks = false)
    (hpass : ∀ z ∈ c.exceptionTable.toList, covers z pc = false ∨ (z.catchType ≠ 0 ∧ ∃ nm : String, (Cond.classLink own z.catchType nm).before args s = true ∧ va_Nc E nm s)) (hcell : H[q]? = some ce) (hv : ce.vm = .none) (hcl : s.vm.findClass E = some ce.cls)
    (hx : ∀ t : State, t.heap = H → s.vm.Alike t.vm → XC E s t) (hf : ∀ z ∈ locs, free z.base) (hc : cells ≤ mc) (hs : slots ≤ ms) :
    vx_W p l e R s m args below meth c H locs cells slots (vx_MQ below Qc XC args s mc ms free) (F0 m pc ls rest) q := by
  intro T hT X
  have hpl : e.platform.magicAccessors = ({} : Platform).magicAccessors := by rw [X.admits.platform]
  obtain ⟨vm', hW', X', st⟩ := X.outThrough hlocks q (g := F0 m pc ls rest) rfl rfl rfl (cell := ce) (by rw [hT]; exact hcell) (by rw [hv]; rfl)
    (by obtain ⟨k9, h9, -⟩ := Vm.findClass_spec hcl; exact ⟨k9, h9⟩) (fun z hz => by
      rcases hpass z hz with h | ⟨hz0, nm, hl1, hn1⟩
      · exact Or.inl h
      · obtain ⟨c6, hc6, hcl6⟩ := Cond.classLink_spec hown hl1 e.platform hpl
        obtain ⟨a8, b8, h1, h2, h3⟩ := hn1
        cases Option.some.inj (h1.symm.trans hcl)
        cases Option.some.inj (h2.symm.trans hc6)
        exact Or.inr ⟨hz0, _, hcl6, h3⟩)
  obtain ⟨g₀, hfr⟩ := X'.frames_eq
  have hcell9 : ((T.setVm vm').setFrames (.throwing q :: below)).heap[q]? = some ce := by
    show T.heap[q]? = some ce
    rw [hT]; exact hcell
  have hend : Ended ((T.setVm vm').setFrames (.throwing q :: below)) below (.threw q) := State.frames_setFrames _ (State.cur_lt_of_frames hfr)
  refine ⟨(T.setVm vm').setFrames (.throwing q :: below), ?_, .threw q, X'.here.running, hend, Or.inr ⟨q, rfl, E, ce, locs, hx _ hT (X'.ends _).1.alike, hcell9, hv, hcl, (X'.ends _).1, (X'.ends _).2.mono hc hs, hf⟩⟩
  rw [X.pushThrowing_eq]
  exact st
/-- a thing of a world lies in the heap -/
theorem vx_lt {D : va_G} {cl : List vw_C} {ws : va_W} {H1 : Heap} (h : va_P D cl ws H1) {k : Nat} {q : Nat × va_E} (hk : ws[k]? = some q) : q.1 < H1.size := (h k q hk).lt
end VXS
/-! ===== END ===== -/
/-! ===== BEGIN methods with a table of their own: called by a name, returning or throwing ===== -/
section VXH
/-! vx_backW, vx_callVX, vx_callSX, vx_callVW, vx_runVW, vx_runVX, vx_runSX, vx_ofWH follow the same proofs as their sisters above (Free/Laws.lean, Shelf42/LK1.lean); vx_outP calls Shelf42/NT130.lean (outThrough). -/
section
variable {l : Launch} {R : Room} {p : Program} {e : Env} {below : List Frame} {s : State} {sargs : Array Value} {y : MethodName} {len W9 : Nat}
theorem vx_backW {ws : List Cond} {rm : Room} {Pc : Array Value → State → Prop} {Qc : Array Value → State → Outcome → State → Prop} {XC : String → State → State → Prop} {mc ms : Nat} {free : Addr → Prop} {bytes : ByteArray} {maxL : Nat} {ret : Option FieldType} {hh : List (Nat × Nat × Nat × Nat)}
    (hM : vx_Met l y ws rm Pc Qc XC mc ms free) (hblind : FrameBlind Pc) (hrc : rm.cells = mc) (hrs : rm.slots = ms)
    (hframes : rm.frames + 1 ≤ R.frames) (hlocals : W9 + (maxL + 11) + rm.locals ≤ R.locals)
    (hws : ∀ w ∈ ws, ∀ a' U, s.WarmedH U.vm → w.before a' U = true) (hcode : Cond.codeWith y bytes maxL ret hh ∈ ws) (hinit : ∀ a' U, s.WarmedH U.vm → (Cond.initialized y.cls).before a' U = true) :
    vx_Back l R p e below s sargs y len W9 (PreOf R mc ms Pc) (PostOf Qc mc ms free) (vx_Post XC mc ms free) := by
  intro m meth c A g ig mk a X hg hsize hdg hW hn hp
  have h1 : (headSpec ws rm).pre.before a A.U = true := atoms_intro fun w hw => hws w hw _ _ X.warmed
  have h2 : (Cond.codeWith y bytes maxL ret hh).before a A.U = true := hws _ hcode _ _ X.warmed
  have h3 : (Cond.initialized y.cls).before a A.U = true := hinit _ _ X.warmed
  have h4 : A.cells + (headSpec ws rm).room.cells ≤ R.cells := by rw [show (headSpec ws rm).room.cells = mc from hrc]; exact hp.1
  have h5 : A.slots + (headSpec ws rm).room.slots ≤ R.slots := by rw [show (headSpec ws rm).room.slots = ms from hrs]; exact hp.2.1
  have hPc : Pc a (A.U.calling g mk a) := hblind _ _ _ _ hp.2.2
  obtain ⟨U, Ls, c0, s0⟩ := A
  dsimp only [Pt.U, Pt.locs, Pt.cells, Pt.slots] at h1 h2 h3 h4 h5 X hn hPc ⊢
  obtain ⟨m9, methY, cY, hn9, hmY, hcY, -, hlY, -⟩ := Cond.codeWith_spec h2
  cases Option.some.inj (hn9.symm.trans hn)
  obtain ⟨kY, hkY, -⟩ := className_of_methodNamed hn
  have hinitY : kY.init = .initialized := Cond.initialized_spec (findClass_of_methodNamed hn) hkY h3
  have h : At U g.method c below := by rw [hg]; exact X.here
  have hlocals9 : W9 + (maxL + 11) + (headSpec ws rm).room.locals ≤ R.locals := hlocals
  have happ : (headSpec ws rm).appliesLoose y e.platform (U.calling g mk a) = true :=
    Spec.appliesLoose_calling (g := g) h hdg hn hkY hinitY
      (X.room_calling (g := g) (R' := (headSpec ws rm).room) hsize hmY hcY hframes (by rw [hlY]; omega) h4 h5) h1
  obtain ⟨mid, hmid⟩ := h.above
  have hfr : (U.setTop g).frames = (.java g :: mid) ++ below := by rw [State.frames_setTop' g h.top, hmid]; rfl
  obtain ⟨o, s₂, hsteps, -, hend, hq⟩ := Steps.callFree hM p X.admits X.cas X.clock (acts := []) hfr happ hPc trivial
  have hq' : vx_Q Qc XC mc ms free a (U.calling g mk a) o s₂ := hq
  rw [State.frames_setTop' g h.top] at hend
  obtain ⟨g₀, hg0⟩ := Option.isSome_iff_exists.mp h.top
  obtain ⟨r, hr⟩ := State.topJava?_eq_some.mp hg0
  have hr' : (({ U with heap := s₂.heap, slotsUsed := s₂.slotsUsed } : State).setVm s₂.vm).frames = .java g₀ :: r := hr
  rcases hq' with ⟨hqc, L, hfe, hL⟩ | ⟨q, rfl, E, ce, L, hx, hce, hcv, hcl, hW₂, hsm, hL⟩
  · obtain ⟨⟨v, rfl⟩, hW₂, e2, q2, q3, q4, q5, q6⟩ := id hfe
    have e3 : s₂ = ({ (U.calling g mk a).setFrames s₂.frames with heap := s₂.heap, slotsUsed := s₂.slotsUsed } : State).setVm s₂.vm := by
      have : s₂ = ({ s₂ with vm := (U.calling g mk a).vm } : State).setVm s₂.vm := rfl
      rw [e2] at this
      exact this
    obtain ⟨c₂, i₂, len₂, hc₂, hd₂, hf₂⟩ := hend
    have hW' : U.WarmedH s₂.vm := hW₂
    have hcc : c₂ = c := by
      have h1 : s₂.code? g.method = U.code? g.method := by
        rw [State.code?_eq, State.code?_eq, hW'.alike.method?]
      exact Option.some.inj (hc₂.symm.trans (h1.trans h.code))
    subst hcc
    have hlen : len₂ = len := by rw [hdg] at hd₂; cases hd₂; rfl
    subst hlen
    have hs₂ : s₂ = (({ U with heap := s₂.heap, slotsUsed := s₂.slotsUsed } : State).setVm s₂.vm).setTop { g with pc := g.pc + len₂, stack := v.toList ++ g.stack } := by
      refine e3.trans ?_
      rw [hf₂, State.calling_eq h.top, State.setFrames_setFrames, State.setTop_of_frames _ hr', hr]
      rfl
    have hsame : U.sameButNew ({ U with heap := s₂.heap, slotsUsed := s₂.slotsUsed } : State) L mc ms := by
      refine ⟨?_, q2, q3, q4, q5, q6⟩
      obtain ⟨t, ht, -⟩ := State.frames_cons hr
      show ({ U with heap := s₂.heap, slotsUsed := s₂.slotsUsed } : State) = { U.setFrames U.frames with heap := s₂.heap, slotsUsed := s₂.slotsUsed }
      rw [State.setFrames_self ht]
    subst hg
    refine Or.inl ⟨v, ⟨(({ U with heap := s₂.heap, slotsUsed := s₂.slotsUsed } : State).setVm s₂.vm), Ls ++ L, c0 + mc, s0 + ms⟩,
      ⟨X.admits, X.cas, X.clock, X.frames, X.room, X.hears, X.method, X.code, (X.here.setHeapUsed s₂.heap s₂.slotsUsed).setVm hW'.alike, X.tail, State.WarmedH.trans X.warmed hW', X.limits, X.bytes, X.same.trans (hsame.setVm s.vm)⟩,
      ⟨g, mk, s₂, L, rfl, rfl, hqc, rfl, hL, rfl, rfl⟩, ?_⟩
    show Steps p.tables e below _ ((({ U with heap := s₂.heap, slotsUsed := s₂.slotsUsed } : State).setVm s₂.vm).setTop { g with pc := g.pc + len₂, stack := v.toList ++ g.stack })
    rw [← hs₂]
    exact hsteps
  · obtain ⟨e2, q2, q3, q4, q5, q6⟩ := id hsm
    have e3 : s₂ = ({ (U.calling g mk a).setFrames s₂.frames with heap := s₂.heap, slotsUsed := s₂.slotsUsed } : State).setVm s₂.vm := by
      have : s₂ = ({ s₂ with vm := (U.calling g mk a).vm } : State).setVm s₂.vm := rfl
      rw [e2] at this
      exact this
    have hf₂ : s₂.frames = .throwing q :: .java g :: U.frames.tail := hend
    have hW' : U.WarmedH s₂.vm := hW₂
    have hs₂ : s₂ = ((({ U with heap := s₂.heap, slotsUsed := s₂.slotsUsed } : State).setVm s₂.vm).setTop g).pushFrame (.throwing q) := by
      refine e3.trans ?_
      rw [hf₂, State.calling_eq h.top, State.setFrames_setFrames, State.pushFrame, State.frames_setTop _ hr', State.setTop_of_frames _ hr', State.setFrames_setFrames, hr]
      rfl
    have hsame : U.sameButNew ({ U with heap := s₂.heap, slotsUsed := s₂.slotsUsed } : State) L mc ms := by
      refine ⟨?_, q2, q3, q4, q5, q6⟩
      obtain ⟨t, ht, -⟩ := State.frames_cons hr
      show ({ U with heap := s₂.heap, slotsUsed := s₂.slotsUsed } : State) = { U.setFrames U.frames with heap := s₂.heap, slotsUsed := s₂.slotsUsed }
      rw [State.setFrames_self ht]
    subst hg
    refine Or.inr ⟨q, ⟨(({ U with heap := s₂.heap, slotsUsed := s₂.slotsUsed } : State).setVm s₂.vm), Ls ++ L, c0 + mc, s0 + ms⟩,
      ⟨X.admits, X.cas, X.clock, X.frames, X.room, X.hears, X.method, X.code, (X.here.setHeapUsed s₂.heap s₂.slotsUsed).setVm hW'.alike, X.tail, State.WarmedH.trans X.warmed hW', X.limits, X.bytes, X.same.trans (hsame.setVm s.vm)⟩,
      ⟨g, mk, s₂, L, E, ce, rfl, rfl, hx, hce, hcv, hcl, rfl, hL, rfl, rfl⟩, ?_⟩
    show Steps p.tables e below _ (((({ U with heap := s₂.heap, slotsUsed := s₂.slotsUsed } : State).setVm s₂.vm).setTop g).pushFrame (.throwing q))
    rw [← hs₂]
    exact hsteps
end
variable {p : Program} {l : Launch} {e : Env} {R : Room} {s : State} {m : MethodId} {args : Array Value} {below : List Frame} {meth : Method} {c : Code} {T : State} {H : Heap} {locs : List Loc} {cells slots : Nat}
theorem vx_callVX (X : Stand p l e R s m args below meth c T locs cells slots) (hexec : p.tables.exec = Jvm.exec) {own C : String} {index : Nat} {y : MethodName} {bytes : ByteArray} {maxL : Nat} {ret : Option FieldType} {hh : List (Nat × Nat × Nat × Nat)}
    (hown : s.vm.findClass own = some m.cls) (hlink : (Cond.methodLink own index y).before args s = true) (hinst : (Cond.instanceMethod y).before args s = true) (hsel : (Cond.selects C y y).before args s = true)
    (hcode : (Cond.codeWith y bytes maxL ret hh).before args s = true) (hy : y.cls ≠ "java/lang/invoke/MethodHandle" ∧ y.cls ≠ "java/lang/invoke/VarHandle")
    {W9 : Nat} {Pre : Pt → Array Value → Prop} {Post : Pt → Array Value → Option Value → Pt → Prop} {PostX : Pt → Array Value → Addr → Pt → Prop} (hK : vx_Back l R p e below s args y 3 W9 Pre Post PostX)
    {b : Addr} {cellB : Cell} (hcell : T.heap[b]? = some cellB) (hobj : cellB.vm.isStatics = false) (hcls : s.vm.findClass C = some cellB.cls)
    {g : JFrame} (hg : g.method = m) (hsize : g.locals.size = c.maxLocals) {argsL rest : List Value} (hlen : ∀ sig, parseMethodDescriptor y.desc = some sig → argsL.length = sig.parameters.length)
    (hstack : g.stack = argsL.reverse ++ .ref b :: rest) (hW : 2 * g.monitorRoom + (rest.map fun v => v.category).sum ≤ W9) (hdg : decode c.code g.pc = .ok (.invokevirtual index, 3))
    (hpre : ∀ vm₁, s.WarmedH vm₁ → Pre ⟨T.setVm vm₁, locs, cells, slots⟩ (Value.ref b :: argsL).toArray) :
    (∃ (v : Option Value) (vm₁ : Vm) (B : Pt), s.WarmedH vm₁ ∧ Stand p l e R s m args below meth c B.U B.locs B.cells B.slots ∧ Post ⟨T.setVm vm₁, locs, cells, slots⟩ (Value.ref b :: argsL).toArray v B ∧
      ∀ target, Steps p.tables e below (B.U.setTop { g with pc := g.pc + 3, stack := v.toList ++ rest }) target → Steps p.tables e below (T.setTop g) target) ∨
    (∃ (q : Addr) (vm₁ : Vm) (B : Pt), s.WarmedH vm₁ ∧ Stand p l e R s m args below meth c B.U B.locs B.cells B.slots ∧ PostX ⟨T.setVm vm₁, locs, cells, slots⟩ (Value.ref b :: argsL).toArray q B ∧
      Steps p.tables e below (T.setTop g) ((B.U.setTop { g with stack := rest }).pushFrame (.throwing q))) := by
  obtain ⟨mk, methM, hnamed, hmethM, hstM, habM⟩ := Cond.instanceMethod_spec hinst
  obtain ⟨m8, methM', cM, hn8, hmethM', -, -, -, -, -, -, hsigM⟩ := Cond.codeWith_spec hcode
  cases Option.some.inj (hn8.symm.trans hnamed)
  cases hmethM.symm.trans hmethM'
  obtain ⟨c2, r2, m2, q1, q2, q3, q4, kP, hkP, hkPi⟩ := Cond.selects_spec hsel
  cases hcls.symm.trans q1
  cases (State.methodFound?_of_named hnamed hy).symm.trans q2
  cases hnamed.symm.trans q3
  have hselP : selectMethod e.platform s.vm cellB.cls mk = .method mk := by rw [Launch.admits_selectMethod X.admits]; exact q4
  obtain ⟨vm₁, X₁, hstep₁⟩ := X.invokevirtual hexec hown hlink hnamed hmethM hstM hkP hkPi hy (a := b) (cell := cellB) hcell
    (fun z h => by rw [h] at hobj; cases hobj) hselP hmethM habM hkP hkPi (g := g) hg (argsL := argsL) (rest := rest) (hlen _ hsigM) hstack hdg
  rcases hK m meth c ⟨T.setVm vm₁, locs, cells, slots⟩ { g with stack := rest } (.invokevirtual index) mk (Value.ref b :: argsL).toArray X₁ hg hsize hdg hW (X₁.named hnamed) (hpre vm₁ X₁.warmed) with ⟨v, B, X', hpost, hsteps⟩ | ⟨q, B, X', hpost, hsteps⟩
  · exact Or.inl ⟨v, vm₁, B, X₁.warmed, X', hpost, fun target h => hstep₁ _ fun acts => by rw [doInvoke_state]; exact hsteps.trans h⟩
  · exact Or.inr ⟨q, vm₁, B, X₁.warmed, X', hpost, hstep₁ _ fun acts => by rw [doInvoke_state]; exact hsteps⟩
theorem vx_callSX (X : Stand p l e R s m args below meth c T locs cells slots) (hexec : p.tables.exec = Jvm.exec) {own : String} {index : Nat} {y : MethodName} {bytes : ByteArray} {maxL : Nat} {ret : Option FieldType} {hh : List (Nat × Nat × Nat × Nat)}
    (hown : s.vm.findClass own = some m.cls) (hlink : (Cond.methodLink own index y).before args s = true) (hstat : (Cond.static y).before args s = true) (hinit : (Cond.initialized y.cls).before args s = true)
    (hcode : (Cond.codeWith y bytes maxL ret hh).before args s = true) (hy : y.cls ≠ "java/lang/invoke/MethodHandle" ∧ y.cls ≠ "java/lang/invoke/VarHandle")
    {W9 : Nat} {Pre : Pt → Array Value → Prop} {Post : Pt → Array Value → Option Value → Pt → Prop} {PostX : Pt → Array Value → Addr → Pt → Prop} (hK : vx_Back l R p e below s args y 3 W9 Pre Post PostX)
    {g : JFrame} (hg : g.method = m) (hsize : g.locals.size = c.maxLocals) {argsL rest : List Value} (hlen : ∀ sig, parseMethodDescriptor y.desc = some sig → argsL.length = sig.parameters.length)
    (hstack : g.stack = argsL.reverse ++ rest) (hW : 2 * g.monitorRoom + (rest.map fun v => v.category).sum ≤ W9) (hdg : decode c.code g.pc = .ok (.invokestatic index, 3))
    (hpre : ∀ vm₁, s.WarmedH vm₁ → Pre ⟨T.setVm vm₁, locs, cells, slots⟩ argsL.toArray) :
    (∃ (v : Option Value) (vm₁ : Vm) (B : Pt), s.WarmedH vm₁ ∧ Stand p l e R s m args below meth c B.U B.locs B.cells B.slots ∧ Post ⟨T.setVm vm₁, locs, cells, slots⟩ argsL.toArray v B ∧
      ∀ target, Steps p.tables e below (B.U.setTop { g with pc := g.pc + 3, stack := v.toList ++ rest }) target → Steps p.tables e below (T.setTop g) target) ∨
    (∃ (q : Addr) (vm₁ : Vm) (B : Pt), s.WarmedH vm₁ ∧ Stand p l e R s m args below meth c B.U B.locs B.cells B.slots ∧ PostX ⟨T.setVm vm₁, locs, cells, slots⟩ argsL.toArray q B ∧
      Steps p.tables e below (T.setTop g) ((B.U.setTop { g with stack := rest }).pushFrame (.throwing q))) := by
  obtain ⟨mk, methM, cM, hnamed, hmethM, -, -, -, -, -, -, hsigM⟩ := Cond.codeWith_spec hcode
  have hstatic : methM.isStatic = true := Cond.static_spec hnamed hmethM hstat
  obtain ⟨kP, hkP, -⟩ := className_of_methodNamed hnamed
  have hinitP : kP.init = .initialized := Cond.initialized_spec (findClass_of_methodNamed hnamed) hkP hinit
  obtain ⟨vm₁, X₁, hstep₁⟩ := X.invokestatic hexec hown hlink hnamed hmethM hstatic hkP hinitP hy (g := g) hg (argsL := argsL) (rest := rest) (hlen _ hsigM) hstack hdg
  rcases hK m meth c ⟨T.setVm vm₁, locs, cells, slots⟩ { g with stack := rest } (.invokestatic index) mk argsL.toArray X₁ hg hsize hdg hW (X₁.named hnamed) (hpre vm₁ X₁.warmed) with ⟨v, B, X', hpost, hsteps⟩ | ⟨q, B, X', hpost, hsteps⟩
  · exact Or.inl ⟨v, vm₁, B, X₁.warmed, X', hpost, fun target h => hstep₁ _ fun acts => by rw [doInvoke_state]; exact hsteps.trans h⟩
  · exact Or.inr ⟨q, vm₁, B, X₁.warmed, X', hpost, hstep₁ _ fun acts => by rw [doInvoke_state]; exact hsteps⟩
theorem vx_callVW (X : Stand p l e R s m args below meth c T locs cells slots) (hexec : p.tables.exec = Jvm.exec) {own C : String} {index : Nat} {y : MethodName} {bytes : ByteArray} {maxL : Nat} {ret : Option FieldType} {hh : List (Nat × Nat × Nat × Nat)}
    (hown : s.vm.findClass own = some m.cls) (hlink : (Cond.methodLink own index y).before args s = true) (hinst : (Cond.instanceMethod y).before args s = true) (hsel : (Cond.selects C y y).before args s = true)
    (hcode : (Cond.codeWith y bytes maxL ret hh).before args s = true) (hy : y.cls ≠ "java/lang/invoke/MethodHandle" ∧ y.cls ≠ "java/lang/invoke/VarHandle")
    {W9 : Nat} {Pre : Pt → Array Value → Prop} {Post : Pt → Array Value → Option Value → Pt → Prop} (hK : Back l R p e below s args y 3 W9 Pre Post)
    {b : Addr} {cellB : Cell} (hcell : T.heap[b]? = some cellB) (hobj : cellB.vm.isStatics = false) (hcls : s.vm.findClass C = some cellB.cls)
    {g : JFrame} (hg : g.method = m) (hsize : g.locals.size = c.maxLocals) {argsL rest : List Value} (hlen : ∀ sig, parseMethodDescriptor y.desc = some sig → argsL.length = sig.parameters.length)
    (hstack : g.stack = argsL.reverse ++ .ref b :: rest) (hW : 2 * g.monitorRoom + (rest.map fun v => v.category).sum ≤ W9) (hdg : decode c.code g.pc = .ok (.invokevirtual index, 3))
    (hpre : ∀ vm₁, s.WarmedH vm₁ → Pre ⟨T.setVm vm₁, locs, cells, slots⟩ (Value.ref b :: argsL).toArray) :
    ∃ (v : Option Value) (vm₁ : Vm) (B : Pt), s.WarmedH vm₁ ∧ Stand p l e R s m args below meth c B.U B.locs B.cells B.slots ∧ Post ⟨T.setVm vm₁, locs, cells, slots⟩ (Value.ref b :: argsL).toArray v B ∧
      ∀ target, Steps p.tables e below (B.U.setTop { g with pc := g.pc + 3, stack := v.toList ++ rest }) target → Steps p.tables e below (T.setTop g) target := by
  obtain ⟨mk, methM, hnamed, hmethM, hstM, habM⟩ := Cond.instanceMethod_spec hinst
  obtain ⟨m8, methM', cM, hn8, hmethM', -, -, -, -, -, -, hsigM⟩ := Cond.codeWith_spec hcode
  cases Option.some.inj (hn8.symm.trans hnamed)
  cases hmethM.symm.trans hmethM'
  obtain ⟨c2, r2, m2, q1, q2, q3, q4, kP, hkP, hkPi⟩ := Cond.selects_spec hsel
  cases hcls.symm.trans q1
  cases (State.methodFound?_of_named hnamed hy).symm.trans q2
  cases hnamed.symm.trans q3
  have hselP : selectMethod e.platform s.vm cellB.cls mk = .method mk := by rw [Launch.admits_selectMethod X.admits]; exact q4
  obtain ⟨vm₁, X₁, hstep₁⟩ := X.invokevirtual hexec hown hlink hnamed hmethM hstM hkP hkPi hy (a := b) (cell := cellB) hcell
    (fun z h => by rw [h] at hobj; cases hobj) hselP hmethM habM hkP hkPi (g := g) hg (argsL := argsL) (rest := rest) (hlen _ hsigM) hstack hdg
  obtain ⟨v, B, X', hpost, hsteps⟩ := hK m meth c ⟨T.setVm vm₁, locs, cells, slots⟩ { g with stack := rest } (.invokevirtual index) mk (Value.ref b :: argsL).toArray X₁ hg hsize hdg hW (X₁.named hnamed) (hpre vm₁ X₁.warmed)
  exact ⟨v, vm₁, B, X₁.warmed, X', hpost, fun target h => hstep₁ _ fun acts => by rw [doInvoke_state]; exact hsteps.trans h⟩
abbrev vx_CVW (R : Room) (s : State) (args : Array Value) (own C : String) (index : Nat) (y : MethodName) (bytes : ByteArray) (maxL : Nat) (ret : Option FieldType) (hh : List (Nat × Nat × Nat × Nat)) (ws : List Cond) (rm : Room) (mc ms n : Nat) : Prop :=
  (rm.cells = mc ∧ rm.slots = ms ∧ rm.frames + 1 ≤ R.frames ∧ 8 + (maxL + 11) + rm.locals ≤ R.locals ∧ (∀ w ∈ ws, ∀ (a' : Array Value) (U : State), s.WarmedH U.vm → w.before a' U = true) ∧ Cond.codeWith y bytes maxL ret hh ∈ ws) ∧
  (Cond.codeWith y bytes maxL ret hh).before args s = true ∧ (Cond.initialized y.cls).before args s = true ∧ (y.cls ≠ "java/lang/invoke/MethodHandle" ∧ y.cls ≠ "java/lang/invoke/VarHandle") ∧
  (∀ sig, parseMethodDescriptor y.desc = some sig → n = sig.parameters.length) ∧ (Cond.methodLink own index y).before args s = true ∧ (Cond.instanceMethod y).before args s = true ∧ (Cond.selects C y y).before args s = true
theorem vx_cwVW {own C : String} {index maxL mc ms : Nat} {y : MethodName} {bytes : ByteArray} {ret : Option FieldType} {hh : List (Nat × Nat × Nat × Nat)} {Ts ws ws' : List Cond} {rm : Room} (n : Nat) (ht : ∀ w ∈ Ts, w.before args s = true) (hT : GoodIn Ts (wsV own index C y ws)) (hw : ws = Cond.codeWith y bytes maxL ret hh :: ws') (hrc : rm.cells = mc) (hrs : rm.slots = ms)
    (hd : y.cls = C ∧ y.cls ≠ "java/lang/invoke/MethodHandle" ∧ y.cls ≠ "java/lang/invoke/VarHandle" ∧ (parseMethodDescriptor y.desc).map (fun d => d.parameters.length) = some n) (hR : rm.frames + 1 ≤ R.frames ∧ 8 + (maxL + 11) + rm.locals ≤ R.locals) :
    vx_CVW R s args own C index y bytes maxL ret hh ws rm mc ms n := by
  obtain ⟨hC, hd⟩ := hd
  subst hC
  have ok : ∀ w ∈ wsV own index y.cls y ws, w.before args s = true := fun w h => ht w (hT w h).1
  have hG : GoodIn Ts ws := fun w h => hT w (by unfold wsV; exact List.mem_append_right _ h)
  have hc : Cond.codeWith y bytes maxL ret hh ∈ ws := by rw [hw]; exact List.mem_cons_self
  refine ⟨⟨hrc, hrs, hR.1, hR.2, pay_in ht hG, hc⟩, ht _ (hG _ hc).1, ok _ (by simp [wsV]), ⟨hd.1, hd.2.1⟩, fun sig h => ?_, ok _ (by simp [wsV]), ok _ (by simp [wsV]), ok _ (by simp [wsV])⟩
  have h2 := hd.2.2
  rw [h] at h2
  exact (Option.some.inj h2).symm
theorem vx_runVW {y : MethodName} {bytes cc : ByteArray} {maxL nL mc ms n index : Nat} {ret : Option FieldType} {hh : List (Nat × Nat × Nat × Nat)} {ws : List Cond} {rm : Room} {Pc : Array Value → State → Prop} {Qc : Array Value → State → Outcome → State → Prop} {free : Addr → Prop} {Ts : List Cond} {own C : String} {b : Addr} {As rest : List Value} {g : JFrame}
    (S : CallFix p m c cc nL s args Ts own) (hM : Met l y ws rm Pc Qc mc ms free) (cw : vx_CVW R s args own C index y bytes maxL ret hh ws rm mc ms n) (hp : PreV s H C b Pc As)
    (hg : g.method = m) (hn : As.length = n) (hsize : g.locals.size = nL) (hstack : g.stack = As.reverse ++ .ref b :: rest) (hW : 2 * g.monitorRoom + (rest.map fun v => v.category).sum ≤ 8) (hdg : decode cc g.pc = .ok (.invokevirtual index, 3)) (hf : cells + mc ≤ R.cells ∧ slots + ms ≤ R.slots) :
    va_Run p l e R s m args below meth c H locs cells slots mc ms g rest (Qc (Value.ref b :: As).toArray) free := by
  obtain ⟨⟨hrc, hrs, hfr, hlo, hws, hcw⟩, hcode, hini, hy, hlen, hl, hin, hse⟩ := cw
  have hK : Back l R p e below s args y 3 8 (PreOf R mc ms Pc) (PostOf Qc mc ms free) := va_backW (hh := hh) (bytes := bytes) (maxL := maxL) (ret := ret) hM hp.1 hrc hrs hfr hlo hws hcw (fun a' U hW => word_at hW (Or.inl (by first | rfl | simp [Cond.onTables, Cond.keeps, Cond.steady])) hini)
  obtain ⟨hx, hb, hml, ho, -⟩ := S
  obtain ⟨-, ⟨cellB, hcB, hoB, hclB⟩, hPc⟩ := hp
  intro T hT X
  obtain ⟨v, vm₁, ⟨U', l2, c2, s2⟩, hW₁, X', ⟨g', mk, t, L, e1, e2, hq, h1, hL, h2, h3⟩, st⟩ := vx_callVW X hx (C := C) (hh := hh) (bytes := bytes) (maxL := maxL) (ret := ret) ho hl hin hse hcode hy hK (by rw [hT]; exact hcB) hoB hclB hg (hsize.trans hml.symm) (argsL := As) (rest := rest) (fun sig h => hn.trans (hlen sig h)) hstack hW (by rw [hb]; exact hdg)
    (fun vm₁ hW₁ => ⟨hf.1, hf.2, hPc (T.setVm vm₁) hT hW₁⟩)
  dsimp only [Pt.U, Pt.locs, Pt.cells, Pt.slots] at X' e1 e2 h1 h2 h3 st
  subst h1; subst h2; subst h3
  exact ⟨v, (T.setVm vm₁).calling g' mk (Value.ref b :: As).toArray, t, U', L, hT, X', hL, e1, e2, hq, st⟩
section
variable {y : MethodName} {bytes cc : ByteArray} {maxL nL mc ms n index : Nat} {ret : Option FieldType} {ws : List Cond} {rm : Room} {Pc : Array Value → State → Prop} {Qc : Array Value → State → Outcome → State → Prop} {XC : String → State → State → Prop} {free : Addr → Prop} {Ts : List Cond} {own C : String} {b : Addr} {As rest : List Value} {g : JFrame}
theorem vx_runVX {hh : List (Nat × Nat × Nat × Nat)} (S : CallFix p m c cc nL s args Ts own) (hM : vx_Met l y ws rm Pc Qc XC mc ms free) (cw : vx_CVW R s args own C index y bytes maxL ret hh ws rm mc ms n) (hp : PreV s H C b Pc As)
    (hg : g.method = m) (hn : As.length = n) (hsize : g.locals.size = nL) (hstack : g.stack = As.reverse ++ .ref b :: rest) (hW : 2 * g.monitorRoom + (rest.map fun v => v.category).sum ≤ 8) (hdg : decode cc g.pc = .ok (.invokevirtual index, 3)) (hf : cells + mc ≤ R.cells ∧ slots + ms ≤ R.slots) :
    vx_Run p l e R s m args below meth c H locs cells slots mc ms g rest (Qc (Value.ref b :: As).toArray) XC free := by
  obtain ⟨⟨hrc, hrs, hfr, hlo, hws, hcw⟩, hcode, hini, hy, hlen, hl, hin, hse⟩ := cw
  have hK : vx_Back l R p e below s args y 3 8 (PreOf R mc ms Pc) (PostOf Qc mc ms free) (vx_Post XC mc ms free) := vx_backW (hh := hh) (bytes := bytes) (maxL := maxL) (ret := ret) hM hp.1 hrc hrs hfr hlo hws hcw (fun a' U hW => word_at hW (Or.inl (by first | rfl | simp [Cond.onTables, Cond.keeps, Cond.steady])) hini)
  obtain ⟨hx, hb, hml, ho, -⟩ := S
  obtain ⟨-, ⟨cellB, hcB, hoB, hclB⟩, hPc⟩ := hp
  intro T hT X
  rcases vx_callVX X hx (C := C) (hh := hh) (bytes := bytes) (maxL := maxL) (ret := ret) ho hl hin hse hcode hy hK (by rw [hT]; exact hcB) hoB hclB hg (hsize.trans hml.symm) (argsL := As) (rest := rest) (fun sig h => hn.trans (hlen sig h)) hstack hW (by rw [hb]; exact hdg)
    (fun vm₁ hW₁ => ⟨hf.1, hf.2, hPc (T.setVm vm₁) hT hW₁⟩) with ⟨v, vm₁, ⟨U', l2, c2, s2⟩, hW₁, X', ⟨g', mk, t, L, e1, e2, hq, h1, hL, h2, h3⟩, st⟩ | ⟨q, vm₁, ⟨U', l2, c2, s2⟩, hW₁, X', ⟨g', mk, t, L, E, ce, e1, e2, hq, hce, hcv, hcl, h1, hL, h2, h3⟩, st⟩
  · dsimp only [Pt.U, Pt.locs, Pt.cells, Pt.slots] at X' e1 e2 h1 h2 h3 st
    subst h1; subst h2; subst h3
    exact Or.inl ⟨v, (T.setVm vm₁).calling g' mk (Value.ref b :: As).toArray, t, U', L, hT, X', hL, e1, e2, hq, st⟩
  · dsimp only [Pt.U, Pt.locs, Pt.cells, Pt.slots] at X' e1 e2 h1 h2 h3 st hcl
    subst h1; subst h2; subst h3
    exact Or.inr ⟨q, (T.setVm vm₁).calling g' mk (Value.ref b :: As).toArray, t, U', L, E, ce, hT, X', hL, e1, e2, hq, hce, hcv, vx_cls hW₁ hcl, st⟩
theorem vx_runSX {hh : List (Nat × Nat × Nat × Nat)} (S : CallFix p m c cc nL s args Ts own) (hM : vx_Met l y ws rm Pc Qc XC mc ms free) (cw : vx_CSW R s args own index y bytes maxL ret hh ws rm mc ms n) (hp : PreS s H Pc As)
    (hg : g.method = m) (hn : As.length = n) (hsize : g.locals.size = nL) (hstack : g.stack = As.reverse ++ rest) (hW : 2 * g.monitorRoom + (rest.map fun v => v.category).sum ≤ 8) (hdg : decode cc g.pc = .ok (.invokestatic index, 3)) (hf : cells + mc ≤ R.cells ∧ slots + ms ≤ R.slots) :
    vx_Run p l e R s m args below meth c H locs cells slots mc ms g rest (Qc As.toArray) XC free := by
  obtain ⟨⟨hrc, hrs, hfr, hlo, hws, hcw⟩, hcode, hini, hy, hlen, hl, hstt⟩ := cw
  have hK : vx_Back l R p e below s args y 3 8 (PreOf R mc ms Pc) (PostOf Qc mc ms free) (vx_Post XC mc ms free) := vx_backW (hh := hh) (bytes := bytes) (maxL := maxL) (ret := ret) hM hp.1 hrc hrs hfr hlo hws hcw (fun a' U hW => word_at hW (Or.inl (by first | rfl | simp [Cond.onTables, Cond.keeps, Cond.steady])) hini)
  obtain ⟨hx, hb, hml, ho, -⟩ := S
  intro T hT X
  rcases vx_callSX X hx (hh := hh) (bytes := bytes) (maxL := maxL) (ret := ret) ho hl hstt hini hcode hy hK hg (hsize.trans hml.symm) (argsL := As) (rest := rest) (fun sig h => hn.trans (hlen sig h)) hstack hW (by rw [hb]; exact hdg)
    (fun vm₁ hW₁ => ⟨hf.1, hf.2, hp.2 (T.setVm vm₁) hT hW₁⟩) with ⟨v, vm₁, ⟨U', l2, c2, s2⟩, hW₁, X', ⟨g', mk, t, L, e1, e2, hq, h1, hL, h2, h3⟩, st⟩ | ⟨q, vm₁, ⟨U', l2, c2, s2⟩, hW₁, X', ⟨g', mk, t, L, E, ce, e1, e2, hq, hce, hcv, hcl, h1, hL, h2, h3⟩, st⟩
  · dsimp only [Pt.U, Pt.locs, Pt.cells, Pt.slots] at X' e1 e2 h1 h2 h3 st
    subst h1; subst h2; subst h3
    exact Or.inl ⟨v, (T.setVm vm₁).calling g' mk As.toArray, t, U', L, hT, X', hL, e1, e2, hq, st⟩
  · dsimp only [Pt.U, Pt.locs, Pt.cells, Pt.slots] at X' e1 e2 h1 h2 h3 st hcl
    subst h1; subst h2; subst h3
    exact Or.inr ⟨q, (T.setVm vm₁).calling g' mk As.toArray, t, U', L, E, ce, hT, X', hL, e1, e2, hq, hce, hcv, vx_cls hW₁ hcl, st⟩
end
end VXH
theorem vx_ofWH {l : Launch} {y : MethodName} {ws ws' : List Cond} {rm : Room} {Pc : Array Value → State → Prop} {Qc : Array Value → State → Outcome → State → Prop} {XC : String → State → State → Prop} {mc ms : Nat} {free : Addr → Prop} {cc : ByteArray} {maxL : Nat} {ret : Option FieldType} {hh : List (Nat × Nat × Nat × Nat)}
    (hy : plainName y.cls = true) (hw : ws = Cond.codeWith y cc maxL ret hh :: ws')
    (body : ∀ p e s m args below meth c s₁, BodyLoose p l y (headSpec ws rm) cc maxL ret e s m args below meth c s₁ → c.maxLocals = maxL → Pc args s →
      W p l e (headSpec ws rm).room s m args below meth c s.heap [] 0 0 (vx_MQ below Qc XC args s mc ms free) (entryFrame m args maxL)) : vx_Met l y ws rm Pc Qc XC mc ms free := by
  refine MetFree.of_bodyS (code := cc) (maxLocals := maxL) (ret := ret) hy ?_ ?_
  · intro args s m h hn
    obtain ⟨m9, meth, c, hn9, h1, h2, h3, h4, -, h5, h6, -⟩ := Cond.codeWith_spec (atoms_spec (ws := ws) h _ (by rw [hw]; exact List.mem_cons_self))
    cases hn.symm.trans hn9
    exact ⟨meth, c, h1, h2, h3, h4, h5, h6⟩
  · intro p e s m args below meth c s₁ B hml hP _
    have hh0 : s₁.heap = s.heap := by rw [B.state]; rfl
    obtain ⟨t, a1, o, b1, b2, b3⟩ := body p e s m args below meth c s₁ B hml hP s₁ hh0 (Stand.of_body B)
    exact ⟨t, o, a1, b1, b2, b3⟩
/-! ===== END ===== -/

/-! ===== BEGIN printed: names, fields, word lists, decode rows ===== -/
def RX0 : String := "LaneTrunks"
def TX0 : u_T := fun k => match k with
  | 0 => ("LaneTrunks", "untaggedLane", "[I", true)
  | 1 => ("LaneTrunks", "taggedLanes", "[I", true)
  | 2 => ("LaneTrunks", "farSlot", "[I", true)
  | 3 => ("LaneTrunks", "cableCost", "[I", true)
  | 4 => ("LaneTrunks", "book", "[I", true)
  | 5 => ("LaneTrunks", "rootUnit", "[I", true)
  | 6 => ("LaneTrunks", "rootCost", "[I", true)
  | 7 => ("LaneTrunks", "wayUpSlot", "[I", true)
  | 8 => ("LaneTrunks", "steps", "[I", true)
  | 9 => ("LaneTrunks", "reachedPlaces", "[I", true)
  | 10 => ("LaneTrunks", "reachedCount", "I", false)
  | 11 => ("LaneTrunks", "weights", "[I", true)
  | 12 => ("LaneTrunks", "sums", "[I", true)
  | 13 => ("LaneTrunks", "cableCount", "I", false)
  | _ => ("LaneTrunks", "isTreeOn", "Z", false)
def tyX0 : Nat → FieldType := fun k => match k with
  | 0 => .array .int
  | 1 => .array .int
  | 2 => .array .int
  | 3 => .array .int
  | 4 => .array .int
  | 5 => .array .int
  | 6 => .array .int
  | 7 => .array .int
  | 8 => .array .int
  | 9 => .array .int
  | 10 => .int
  | 11 => .array .int
  | 12 => .array .int
  | 13 => .int
  | _ => .boolean
abbrev wsX00 : List Cond := u_ws RX0 TX0 15
theorem nmX0 : ∀ a, a < 15 → ∀ b, b < 15 → a ≠ b → (TX0 a).2.1 ≠ (TX0 b).2.1 := by decide +kernel
theorem tyX0_ok : ∀ k, k < 15 → parseFieldDescriptor (TX0 k).2.2.1 = some (tyX0 k) := by decide +kernel
abbrev cX0_init : ByteArray := prog_1_method_1_code
def yX0_init : MethodName := ⟨RX0, "<init>", "()V"⟩
abbrev cX0_untag : ByteArray := prog_1_method_2_code
def yX0_untag : MethodName := ⟨RX0, "untag", "(III)I"⟩
abbrev cX0_tag : ByteArray := prog_1_method_3_code
def yX0_tag : MethodName := ⟨RX0, "tag", "(IIIZ)Z"⟩
abbrev cX0_cable : ByteArray := prog_1_method_4_code
def yX0_cable : MethodName := ⟨RX0, "cable", "(IIIII)I"⟩
abbrev cX0_pull : ByteArray := prog_1_method_5_code
def yX0_pull : MethodName := ⟨RX0, "pull", "(II)I"⟩
abbrev cX0_tree : ByteArray := prog_1_method_6_code
def yX0_tree : MethodName := ⟨RX0, "tree", "(Z)Z"⟩
abbrev cX0_note : ByteArray := prog_1_method_7_code
def yX0_note : MethodName := ⟨RX0, "note", "(IIII)Z"⟩
abbrev cX0_far : ByteArray := prog_1_method_8_code
def yX0_far : MethodName := ⟨RX0, "far", "(II)I"⟩
abbrev cX0_isOn : ByteArray := prog_1_method_9_code
def yX0_isOn : MethodName := ⟨RX0, "isOn", "(II)Z"⟩
abbrev cX0_comesAs : ByteArray := prog_1_method_10_code
def yX0_comesAs : MethodName := ⟨RX0, "comesAs", "(III)I"⟩
abbrev cX0_oneSided : ByteArray := prog_1_method_11_code
def yX0_oneSided : MethodName := ⟨RX0, "oneSided", "(II)I"⟩
abbrev cX0_wrong : ByteArray := prog_1_method_12_code
def yX0_wrong : MethodName := ⟨RX0, "wrong", "()I"⟩
abbrev cX0_root : ByteArray := prog_1_method_13_code
def yX0_root : MethodName := ⟨RX0, "root", "(I)I"⟩
abbrev cX0_costOf : ByteArray := prog_1_method_14_code
def yX0_costOf : MethodName := ⟨RX0, "costOf", "(I)I"⟩
abbrev cX0_wayUp : ByteArray := prog_1_method_15_code
def yX0_wayUp : MethodName := ⟨RX0, "wayUp", "(I)I"⟩
abbrev cX0_hops : ByteArray := prog_1_method_16_code
def yX0_hops : MethodName := ⟨RX0, "hops", "(IIII)I"⟩
abbrev cX0_meet : ByteArray := prog_1_method_17_code
def yX0_meet : MethodName := ⟨RX0, "meet", "(IIII)Z"⟩
abbrev cX0_joined : ByteArray := prog_1_method_18_code
def yX0_joined : MethodName := ⟨RX0, "joined", "(II)I"⟩
abbrev cX0_islands : ByteArray := prog_1_method_19_code
def yX0_islands : MethodName := ⟨RX0, "islands", "()I"⟩
abbrev cX0_loops : ByteArray := prog_1_method_20_code
def yX0_loops : MethodName := ⟨RX0, "loops", "()I"⟩
abbrev cX0_changes : ByteArray := prog_1_method_21_code
def yX0_changes : MethodName := ⟨RX0, "changes", "(IIII)I"⟩
abbrev cX0_checkUnit : ByteArray := prog_1_method_22_code
def yX0_checkUnit : MethodName := ⟨RX0, "checkUnit", "(I)V"⟩
abbrev cX0_checkLane : ByteArray := prog_1_method_23_code
def yX0_checkLane : MethodName := ⟨RX0, "checkLane", "(I)V"⟩
abbrev cX0_slotOf : ByteArray := prog_1_method_24_code
def yX0_slotOf : MethodName := ⟨RX0, "slotOf", "(II)I"⟩
abbrev cX0_placeOf : ByteArray := prog_1_method_25_code
def yX0_placeOf : MethodName := ⟨RX0, "placeOf", "(II)I"⟩
abbrev cX0_slotWithCable : ByteArray := prog_1_method_26_code
def yX0_slotWithCable : MethodName := ⟨RX0, "slotWithCable", "(II)I"⟩
abbrev cX0_at : ByteArray := prog_1_method_27_code
def yX0_at : MethodName := ⟨RX0, "at", "([II)I"⟩
abbrev cX0_put : ByteArray := prog_1_method_28_code
def yX0_put : MethodName := ⟨RX0, "put", "([III)V"⟩
abbrev cX0_isTagged : ByteArray := prog_1_method_29_code
def yX0_isTagged : MethodName := ⟨RX0, "isTagged", "(II)Z"⟩
abbrev cX0_hasCable : ByteArray := prog_1_method_30_code
def yX0_hasCable : MethodName := ⟨RX0, "hasCable", "(I)Z"⟩
abbrev cX0_setCable : ByteArray := prog_1_method_31_code
def yX0_setCable : MethodName := ⟨RX0, "setCable", "(III)V"⟩
abbrev cX0_endName : ByteArray := prog_1_method_32_code
def yX0_endName : MethodName := ⟨RX0, "endName", "(I)I"⟩
abbrev cX0_hasLiveCable : ByteArray := prog_1_method_33_code
def yX0_hasLiveCable : MethodName := ⟨RX0, "hasLiveCable", "(I)Z"⟩
abbrev cX0_laneBeyond : ByteArray := prog_1_method_34_code
def yX0_laneBeyond : MethodName := ⟨RX0, "laneBeyond", "(II)I"⟩
abbrev cX0_growTree : ByteArray := prog_1_method_35_code
def yX0_growTree : MethodName := ⟨RX0, "growTree", "()V"⟩
abbrev cX0_findRoots : ByteArray := prog_1_method_36_code
def yX0_findRoots : MethodName := ⟨RX0, "findRoots", "()V"⟩
abbrev cX0_findCosts : ByteArray := prog_1_method_37_code
def yX0_findCosts : MethodName := ⟨RX0, "findCosts", "()V"⟩
abbrev cX0_bestWayUp : ByteArray := prog_1_method_38_code
def yX0_bestWayUp : MethodName := ⟨RX0, "bestWayUp", "(I)I"⟩
abbrev cX0_leastSums : ByteArray := prog_1_method_39_code
def yX0_leastSums : MethodName := ⟨RX0, "leastSums", "([I[I)V"⟩
abbrev cX0_lowerSum : ByteArray := prog_1_method_40_code
def yX0_lowerSum : MethodName := ⟨RX0, "lowerSum", "([I[II)V"⟩
abbrev cX0_forgetWalks : ByteArray := prog_1_method_41_code
def yX0_forgetWalks : MethodName := ⟨RX0, "forgetWalks", "()V"⟩
abbrev cX0_walkFrom : ByteArray := prog_1_method_42_code
def yX0_walkFrom : MethodName := ⟨RX0, "walkFrom", "(I)V"⟩
abbrev cX0_reach : ByteArray := prog_1_method_43_code
def yX0_reach : MethodName := ⟨RX0, "reach", "(II)V"⟩
abbrev cX0_reachNeighbours : ByteArray := prog_1_method_44_code
def yX0_reachNeighbours : MethodName := ⟨RX0, "reachNeighbours", "(I)V"⟩
abbrev cX0_placeBeyond : ByteArray := prog_1_method_45_code
def yX0_placeBeyond : MethodName := ⟨RX0, "placeBeyond", "(II)I"⟩
abbrev cX0_isUsed : ByteArray := prog_1_method_46_code
def yX0_isUsed : MethodName := ⟨RX0, "isUsed", "(II)Z"⟩
abbrev cX0_countUsedPlaces : ByteArray := prog_1_method_47_code
def yX0_countUsedPlaces : MethodName := ⟨RX0, "countUsedPlaces", "()I"⟩
abbrev cX0_countWays : ByteArray := prog_1_method_48_code
def yX0_countWays : MethodName := ⟨RX0, "countWays", "()I"⟩
abbrev cX0_waysOver : ByteArray := prog_1_method_49_code
def yX0_waysOver : MethodName := ⟨RX0, "waysOver", "(II)I"⟩
abbrev cX0_changesOver : ByteArray := prog_1_method_50_code
def yX0_changesOver : MethodName := ⟨RX0, "changesOver", "(II)I"⟩
def RX1 : String := "LaneTrunksModel"
def TX1 : u_T := fun k => match k with
  | 0 => ("LaneTrunksModel", "untagged", "[I", true)
  | 1 => ("LaneTrunksModel", "tagged", "[I", true)
  | 2 => ("LaneTrunksModel", "ends", "[I", true)
  | 3 => ("LaneTrunksModel", "costs", "[I", true)
  | 4 => ("LaneTrunksModel", "books", "[I", true)
  | 5 => ("LaneTrunksModel", "cableMany", "I", false)
  | 6 => ("LaneTrunksModel", "isTree", "Z", false)
  | 7 => ("LaneTrunksModel", "roots", "[I", true)
  | 8 => ("LaneTrunksModel", "ways", "[I", true)
  | 9 => ("LaneTrunksModel", "sums", "[I", true)
  | 10 => ("LaneTrunksModel", "thrown", "I", false)
  | 11 => ("LaneTrunksModel", "steps", "[I", true)
  | 12 => ("LaneTrunksModel", "queue", "[I", true)
  | 13 => ("LaneTrunksModel", "queued", "I", false)
  | _ => ("LaneTrunksModel", "fewest", "[I", true)
def tyX1 : Nat → FieldType := fun k => match k with
  | 0 => .array .int
  | 1 => .array .int
  | 2 => .array .int
  | 3 => .array .int
  | 4 => .array .int
  | 5 => .int
  | 6 => .boolean
  | 7 => .array .int
  | 8 => .array .int
  | 9 => .array .int
  | 10 => .int
  | 11 => .array .int
  | 12 => .array .int
  | 13 => .int
  | _ => .array .int
abbrev wsX10 : List Cond := u_ws RX1 TX1 15
theorem nmX1 : ∀ a, a < 15 → ∀ b, b < 15 → a ≠ b → (TX1 a).2.1 ≠ (TX1 b).2.1 := by decide +kernel
theorem tyX1_ok : ∀ k, k < 15 → parseFieldDescriptor (TX1 k).2.2.1 = some (tyX1 k) := by decide +kernel
abbrev cX1_init : ByteArray := prog_3_method_1_code
def yX1_init : MethodName := ⟨RX1, "<init>", "()V"⟩
abbrev cX1_thrown : ByteArray := prog_3_method_2_code
def yX1_thrown : MethodName := ⟨RX1, "thrown", "()I"⟩
abbrev cX1_in : ByteArray := prog_3_method_3_code
def yX1_in : MethodName := ⟨RX1, "in", "(III)Z"⟩
abbrev cX1_isPort : ByteArray := prog_3_method_4_code
def yX1_isPort : MethodName := ⟨RX1, "isPort", "(II)Z"⟩
abbrev cX1_isPlace : ByteArray := prog_3_method_5_code
def yX1_isPlace : MethodName := ⟨RX1, "isPlace", "(II)Z"⟩
abbrev cX1_isTagged : ByteArray := prog_3_method_6_code
def yX1_isTagged : MethodName := ⟨RX1, "isTagged", "(II)Z"⟩
abbrev cX1_untag : ByteArray := prog_3_method_7_code
def yX1_untag : MethodName := ⟨RX1, "untag", "(III)I"⟩
abbrev cX1_tag : ByteArray := prog_3_method_8_code
def yX1_tag : MethodName := ⟨RX1, "tag", "(IIIZ)Z"⟩
abbrev cX1_cable : ByteArray := prog_3_method_9_code
def yX1_cable : MethodName := ⟨RX1, "cable", "(IIIII)I"⟩
abbrev cX1_hasCable : ByteArray := prog_3_method_10_code
def yX1_hasCable : MethodName := ⟨RX1, "hasCable", "(II)Z"⟩
abbrev cX1_pull : ByteArray := prog_3_method_11_code
def yX1_pull : MethodName := ⟨RX1, "pull", "(II)I"⟩
abbrev cX1_tree : ByteArray := prog_3_method_12_code
def yX1_tree : MethodName := ⟨RX1, "tree", "(Z)Z"⟩
abbrev cX1_note : ByteArray := prog_3_method_13_code
def yX1_note : MethodName := ⟨RX1, "note", "(IIII)Z"⟩
abbrev cX1_layTree : ByteArray := prog_3_method_14_code
def yX1_layTree : MethodName := ⟨RX1, "layTree", "()V"⟩
abbrev cX1_isLive : ByteArray := prog_3_method_15_code
def yX1_isLive : MethodName := ⟨RX1, "isLive", "(I)Z"⟩
abbrev cX1_far : ByteArray := prog_3_method_16_code
def yX1_far : MethodName := ⟨RX1, "far", "(II)I"⟩
abbrev cX1_isOn : ByteArray := prog_3_method_17_code
def yX1_isOn : MethodName := ⟨RX1, "isOn", "(II)Z"⟩
abbrev cX1_carried : ByteArray := prog_3_method_18_code
def yX1_carried : MethodName := ⟨RX1, "carried", "(II)I"⟩
abbrev cX1_comesAs : ByteArray := prog_3_method_19_code
def yX1_comesAs : MethodName := ⟨RX1, "comesAs", "(III)I"⟩
abbrev cX1_bits : ByteArray := prog_3_method_20_code
def yX1_bits : MethodName := ⟨RX1, "bits", "(I)I"⟩
abbrev cX1_oneSided : ByteArray := prog_3_method_21_code
def yX1_oneSided : MethodName := ⟨RX1, "oneSided", "(II)I"⟩
abbrev cX1_wrong : ByteArray := prog_3_method_22_code
def yX1_wrong : MethodName := ⟨RX1, "wrong", "()I"⟩
abbrev cX1_asksFor : ByteArray := prog_3_method_23_code
def yX1_asksFor : MethodName := ⟨RX1, "asksFor", "(I)Z"⟩
abbrev cX1_root : ByteArray := prog_3_method_24_code
def yX1_root : MethodName := ⟨RX1, "root", "(I)I"⟩
abbrev cX1_costOf : ByteArray := prog_3_method_25_code
def yX1_costOf : MethodName := ⟨RX1, "costOf", "(I)I"⟩
abbrev cX1_wayUp : ByteArray := prog_3_method_26_code
def yX1_wayUp : MethodName := ⟨RX1, "wayUp", "(I)I"⟩
abbrev cX1_place : ByteArray := prog_3_method_27_code
def yX1_place : MethodName := ⟨RX1, "place", "(II)I"⟩
abbrev cX1_spread : ByteArray := prog_3_method_28_code
def yX1_spread : MethodName := ⟨RX1, "spread", "(I)V"⟩
abbrev cX1_hops : ByteArray := prog_3_method_29_code
def yX1_hops : MethodName := ⟨RX1, "hops", "(IIII)I"⟩
abbrev cX1_meet : ByteArray := prog_3_method_30_code
def yX1_meet : MethodName := ⟨RX1, "meet", "(IIII)Z"⟩
abbrev cX1_joined : ByteArray := prog_3_method_31_code
def yX1_joined : MethodName := ⟨RX1, "joined", "(II)I"⟩
abbrev cX1_isUsed : ByteArray := prog_3_method_32_code
def yX1_isUsed : MethodName := ⟨RX1, "isUsed", "(I)Z"⟩
abbrev cX1_islandMany : ByteArray := prog_3_method_33_code
def yX1_islandMany : MethodName := ⟨RX1, "islandMany", "()I"⟩
abbrev cX1_islands : ByteArray := prog_3_method_34_code
def yX1_islands : MethodName := ⟨RX1, "islands", "()I"⟩
abbrev cX1_loops : ByteArray := prog_3_method_35_code
def yX1_loops : MethodName := ⟨RX1, "loops", "()I"⟩
abbrev cX1_changesAt : ByteArray := prog_3_method_36_code
def yX1_changesAt : MethodName := ⟨RX1, "changesAt", "(II)I"⟩
abbrev cX1_changes : ByteArray := prog_3_method_37_code
def yX1_changes : MethodName := ⟨RX1, "changes", "(IIII)I"⟩
def RJx145de : String := "java/io/Serializable"
def TJx145de : u_T := fun k => match k with
  | _ => ("", "", "", false)
def tyJx145de : Nat → FieldType := fun k => match k with
  | _ => .int
abbrev wsJx145de0 : List Cond := u_ws RJx145de TJx145de 0
theorem nmJx145de : ∀ a, a < 0 → ∀ b, b < 0 → a ≠ b → (TJx145de a).2.1 ≠ (TJx145de b).2.1 := by decide +kernel
theorem tyJx145de_ok : ∀ k, k < 0 → parseFieldDescriptor (TJx145de k).2.2.1 = some (tyJx145de k) := by decide +kernel
def RJ6 : String := "java/lang/Integer"
def TJ6 : u_T := fun k => match k with
  | _ => ("", "", "", false)
def tyJ6 : Nat → FieldType := fun k => match k with
  | _ => .int
abbrev wsJ60 : List Cond := u_ws RJ6 TJ6 0
theorem nmJ6 : ∀ a, a < 0 → ∀ b, b < 0 → a ≠ b → (TJ6 a).2.1 ≠ (TJ6 b).2.1 := by decide +kernel
theorem tyJ6_ok : ∀ k, k < 0 → parseFieldDescriptor (TJ6 k).2.2.1 = some (tyJ6 k) := by decide +kernel
abbrev cJ6_bitCount_0f7a4 : ByteArray := prog_8_method_49_code
def yJ6_bitCount_0f7a4 : MethodName := ⟨RJ6, "bitCount", "(I)I"⟩
def RJ0 : String := "java/lang/String"
def TJ0 : u_T := fun k => match k with
  | _ => ("", "", "", false)
def tyJ0 : Nat → FieldType := fun k => match k with
  | _ => .int
abbrev wsJ00 : List Cond := u_ws RJ0 TJ0 0
theorem nmJ0 : ∀ a, a < 0 → ∀ b, b < 0 → a ≠ b → (TJ0 a).2.1 ≠ (TJ0 b).2.1 := by decide +kernel
theorem tyJ0_ok : ∀ k, k < 0 → parseFieldDescriptor (TJ0 k).2.2.1 = some (tyJ0 k) := by decide +kernel
def RJ7 : String := "java/util/Arrays"
def TJ7 : u_T := fun k => match k with
  | _ => ("", "", "", false)
def tyJ7 : Nat → FieldType := fun k => match k with
  | _ => .int
abbrev wsJ70 : List Cond := u_ws RJ7 TJ7 0
theorem nmJ7 : ∀ a, a < 0 → ∀ b, b < 0 → a ≠ b → (TJ7 a).2.1 ≠ (TJ7 b).2.1 := by decide +kernel
theorem tyJ7_ok : ∀ k, k < 0 → parseFieldDescriptor (TJ7 k).2.2.1 = some (tyJ7 k) := by decide +kernel
abbrev cJ7_fill_53178 : ByteArray := prog_12_method_103_code
def yJ7_fill_53178 : MethodName := ⟨RJ7, "fill", "([II)V"⟩
def RL : String := "LaneTrunksLaw"
abbrev cL_untag : ByteArray := method_3_code
def yL_untag : MethodName := ⟨RL, "untag", "(LLaneTrunks;III[J)I"⟩
abbrev cL_tag : ByteArray := method_4_code
def yL_tag : MethodName := ⟨RL, "tag", "(LLaneTrunks;IIIZ[J)I"⟩
abbrev cL_cable : ByteArray := method_5_code
def yL_cable : MethodName := ⟨RL, "cable", "(LLaneTrunks;IIIII[J)I"⟩
abbrev cL_pull : ByteArray := method_6_code
def yL_pull : MethodName := ⟨RL, "pull", "(LLaneTrunks;II[J)I"⟩
abbrev cL_note : ByteArray := method_7_code
def yL_note : MethodName := ⟨RL, "note", "(LLaneTrunks;IIII[J)I"⟩
abbrev cL_far : ByteArray := method_8_code
def yL_far : MethodName := ⟨RL, "far", "(LLaneTrunks;II[J)I"⟩
abbrev cL_isOn : ByteArray := method_9_code
def yL_isOn : MethodName := ⟨RL, "isOn", "(LLaneTrunks;II[J)I"⟩
abbrev cL_comesAs : ByteArray := method_10_code
def yL_comesAs : MethodName := ⟨RL, "comesAs", "(LLaneTrunks;III[J)I"⟩
abbrev cL_oneSided : ByteArray := method_11_code
def yL_oneSided : MethodName := ⟨RL, "oneSided", "(LLaneTrunks;II[J)I"⟩
abbrev cL_root : ByteArray := method_12_code
def yL_root : MethodName := ⟨RL, "root", "(LLaneTrunks;I[J)I"⟩
abbrev cL_costOf : ByteArray := method_13_code
def yL_costOf : MethodName := ⟨RL, "costOf", "(LLaneTrunks;I[J)I"⟩
abbrev cL_wayUp : ByteArray := method_14_code
def yL_wayUp : MethodName := ⟨RL, "wayUp", "(LLaneTrunks;I[J)I"⟩
abbrev cL_hops : ByteArray := method_15_code
def yL_hops : MethodName := ⟨RL, "hops", "(LLaneTrunks;IIII[J)I"⟩
abbrev cL_meet : ByteArray := method_16_code
def yL_meet : MethodName := ⟨RL, "meet", "(LLaneTrunks;IIII[J)I"⟩
abbrev cL_joined : ByteArray := method_17_code
def yL_joined : MethodName := ⟨RL, "joined", "(LLaneTrunks;II[J)I"⟩
abbrev cL_changes : ByteArray := method_18_code
def yL_changes : MethodName := ⟨RL, "changes", "(LLaneTrunks;IIII[J)I"⟩
abbrev cL_law : ByteArray := code
def yL_law : MethodName := ⟨RL, "law", "([I)Z"⟩
def wsJ7_fill_53178 : List Cond := .code yJ7_fill_53178 cJ7_fill_53178 4 none :: ([])
def wsX0_put : List Cond := .code yX0_put cX0_put 3 none :: ([])
def wsX0_at : List Cond := .code yX0_at cX0_at 2 (some .int) :: ([])
def wsX0_lowerSum : List Cond := .code yX0_lowerSum cX0_lowerSum 7 none :: ([.fieldLink RX0 16 "LaneTrunks" "farSlot" "[I", .methodLink RX0 74 yX0_at, .static yX0_at, .initialized RX0, .code yX0_at cX0_at 2 (some .int), .methodLink RX0 78 yX0_put, .static yX0_put, .code yX0_put cX0_put 3 none] ++ wsX00)
def wsX0_leastSums : List Cond := .code yX0_leastSums cX0_leastSums 5 none :: ([.methodLink RX0 186 yX0_lowerSum, .instanceMethod yX0_lowerSum, .selects RX0 yX0_lowerSum yX0_lowerSum, .initialized RX0, .code yX0_lowerSum cX0_lowerSum 7 none, .fieldLink RX0 16 "LaneTrunks" "farSlot" "[I", .methodLink RX0 74 yX0_at, .static yX0_at, .code yX0_at cX0_at 2 (some .int), .methodLink RX0 78 yX0_put, .static yX0_put, .code yX0_put cX0_put 3 none] ++ wsX00)
def wsX0_findRoots : List Cond := .code yX0_findRoots cX0_findRoots 2 none :: ([.fieldLink RX0 25 "LaneTrunks" "rootUnit" "[I", .fieldLink RX0 40 "LaneTrunks" "weights" "[I", .methodLink RX0 78 yX0_put, .static yX0_put, .initialized RX0, .code yX0_put cX0_put 3 none, .methodLink RX0 46 yJ7_fill_53178, .static yJ7_fill_53178, .initialized RJ7, .code yJ7_fill_53178 cJ7_fill_53178 4 none, .methodLink RX0 162 yX0_leastSums, .instanceMethod yX0_leastSums, .selects RX0 yX0_leastSums yX0_leastSums, .code yX0_leastSums cX0_leastSums 5 none, .methodLink RX0 186 yX0_lowerSum, .instanceMethod yX0_lowerSum, .selects RX0 yX0_lowerSum yX0_lowerSum, .code yX0_lowerSum cX0_lowerSum 7 none, .fieldLink RX0 16 "LaneTrunks" "farSlot" "[I", .methodLink RX0 74 yX0_at, .static yX0_at, .code yX0_at cX0_at 2 (some .int)] ++ wsX00)
def wsX0_findCosts : List Cond := .code yX0_findCosts cX0_findCosts 2 none :: ([.fieldLink RX0 28 "LaneTrunks" "rootCost" "[I", .fieldLink RX0 25 "LaneTrunks" "rootUnit" "[I", .fieldLink RX0 19 "LaneTrunks" "cableCost" "[I", .methodLink RX0 74 yX0_at, .static yX0_at, .initialized RX0, .code yX0_at cX0_at 2 (some .int), .methodLink RX0 78 yX0_put, .static yX0_put, .code yX0_put cX0_put 3 none, .methodLink RX0 162 yX0_leastSums, .instanceMethod yX0_leastSums, .selects RX0 yX0_leastSums yX0_leastSums, .code yX0_leastSums cX0_leastSums 5 none, .methodLink RX0 186 yX0_lowerSum, .instanceMethod yX0_lowerSum, .selects RX0 yX0_lowerSum yX0_lowerSum, .code yX0_lowerSum cX0_lowerSum 7 none, .fieldLink RX0 16 "LaneTrunks" "farSlot" "[I"] ++ wsX00)
def wsX0_bestWayUp : List Cond := .code yX0_bestWayUp cX0_bestWayUp 9 (some .int) :: ([.fieldLink RX0 16 "LaneTrunks" "farSlot" "[I", .fieldLink RX0 19 "LaneTrunks" "cableCost" "[I", .fieldLink RX0 28 "LaneTrunks" "rootCost" "[I", .methodLink RX0 74 yX0_at, .static yX0_at, .initialized RX0, .code yX0_at cX0_at 2 (some .int)] ++ wsX00)
def wsX0_growTree_r1 : List Cond := [Cond.fieldLink RX0 31 "LaneTrunks" "wayUpSlot" "[I", Cond.methodLink RX0 177 yX0_findRoots, Cond.instanceMethod yX0_findRoots, Cond.selects RX0 yX0_findRoots yX0_findRoots, Cond.initialized RX0, Cond.code yX0_findRoots cX0_findRoots 2 none, Cond.fieldLink RX0 25 "LaneTrunks" "rootUnit" "[I", Cond.fieldLink RX0 40 "LaneTrunks" "weights" "[I", Cond.methodLink RX0 78 yX0_put, Cond.static yX0_put, Cond.code yX0_put cX0_put 3 none, Cond.methodLink RX0 46 yJ7_fill_53178, Cond.static yJ7_fill_53178, Cond.initialized RJ7, Cond.code yJ7_fill_53178 cJ7_fill_53178 4 none, Cond.methodLink RX0 162 yX0_leastSums, Cond.instanceMethod yX0_leastSums, Cond.selects RX0 yX0_leastSums yX0_leastSums, Cond.code yX0_leastSums cX0_leastSums 5 none, Cond.methodLink RX0 186 yX0_lowerSum, Cond.instanceMethod yX0_lowerSum, Cond.selects RX0 yX0_lowerSum yX0_lowerSum, Cond.code yX0_lowerSum cX0_lowerSum 7 none, Cond.fieldLink RX0 16 "LaneTrunks" "farSlot" "[I"]
def wsX0_growTree_r2 : List Cond := [Cond.methodLink RX0 74 yX0_at, Cond.static yX0_at, Cond.code yX0_at cX0_at 2 (some .int), Cond.methodLink RX0 180 yX0_findCosts, Cond.instanceMethod yX0_findCosts, Cond.selects RX0 yX0_findCosts yX0_findCosts, Cond.code yX0_findCosts cX0_findCosts 2 none, Cond.fieldLink RX0 28 "LaneTrunks" "rootCost" "[I", Cond.fieldLink RX0 19 "LaneTrunks" "cableCost" "[I", Cond.methodLink RX0 183 yX0_bestWayUp, Cond.instanceMethod yX0_bestWayUp, Cond.selects RX0 yX0_bestWayUp yX0_bestWayUp, Cond.code yX0_bestWayUp cX0_bestWayUp 9 (some .int)]
def wsX0_growTree : List Cond := .code yX0_growTree cX0_growTree 2 none :: ((wsX0_growTree_r1 ++ wsX0_growTree_r2) ++ wsX00)
def wsX0_init_r1 : List Cond := [Cond.methodLink RX0 3 objectInit, Cond.instanceMethod objectInit, Cond.code objectInit ⟨#[0xb1]⟩ 1 none, Cond.arrayClass .int, Cond.fieldLink RX0 9 "LaneTrunks" "untaggedLane" "[I", Cond.fieldLink RX0 13 "LaneTrunks" "taggedLanes" "[I", Cond.fieldLink RX0 16 "LaneTrunks" "farSlot" "[I", Cond.fieldLink RX0 19 "LaneTrunks" "cableCost" "[I", Cond.fieldLink RX0 22 "LaneTrunks" "book" "[I", Cond.fieldLink RX0 25 "LaneTrunks" "rootUnit" "[I", Cond.fieldLink RX0 28 "LaneTrunks" "rootCost" "[I", Cond.fieldLink RX0 31 "LaneTrunks" "wayUpSlot" "[I", Cond.fieldLink RX0 34 "LaneTrunks" "steps" "[I", Cond.fieldLink RX0 37 "LaneTrunks" "reachedPlaces" "[I", Cond.fieldLink RX0 40 "LaneTrunks" "weights" "[I", Cond.fieldLink RX0 43 "LaneTrunks" "sums" "[I", Cond.methodLink RX0 46 yJ7_fill_53178, Cond.static yJ7_fill_53178, Cond.initialized RJ7, Cond.code yJ7_fill_53178 cJ7_fill_53178 4 none, Cond.methodLink RX0 52 yX0_growTree, Cond.instanceMethod yX0_growTree, Cond.selects RX0 yX0_growTree yX0_growTree, Cond.initialized RX0]
def wsX0_init_r2 : List Cond := [Cond.code yX0_growTree cX0_growTree 2 none, Cond.methodLink RX0 177 yX0_findRoots, Cond.instanceMethod yX0_findRoots, Cond.selects RX0 yX0_findRoots yX0_findRoots, Cond.code yX0_findRoots cX0_findRoots 2 none, Cond.methodLink RX0 78 yX0_put, Cond.static yX0_put, Cond.code yX0_put cX0_put 3 none, Cond.methodLink RX0 162 yX0_leastSums, Cond.instanceMethod yX0_leastSums, Cond.selects RX0 yX0_leastSums yX0_leastSums, Cond.code yX0_leastSums cX0_leastSums 5 none, Cond.methodLink RX0 186 yX0_lowerSum, Cond.instanceMethod yX0_lowerSum, Cond.selects RX0 yX0_lowerSum yX0_lowerSum, Cond.code yX0_lowerSum cX0_lowerSum 7 none, Cond.methodLink RX0 74 yX0_at, Cond.static yX0_at, Cond.code yX0_at cX0_at 2 (some .int), Cond.methodLink RX0 180 yX0_findCosts, Cond.instanceMethod yX0_findCosts, Cond.selects RX0 yX0_findCosts yX0_findCosts, Cond.code yX0_findCosts cX0_findCosts 2 none, Cond.methodLink RX0 183 yX0_bestWayUp]
def wsX0_init_r3 : List Cond := [Cond.instanceMethod yX0_bestWayUp, Cond.selects RX0 yX0_bestWayUp yX0_bestWayUp, Cond.code yX0_bestWayUp cX0_bestWayUp 9 (some .int)]
def wsX0_init : List Cond := .code yX0_init cX0_init 1 none :: ((wsX0_init_r1 ++ (wsX0_init_r2 ++ wsX0_init_r3)) ++ wsX00)
def wsX0_checkUnit : List Cond := .code yX0_checkUnit cX0_checkUnit 1 none :: ([.classLink RX0 84 "java/lang/IllegalArgumentException", .initialized "java/lang/IllegalArgumentException"] ++ (vx_atS RX0 88 "java/lang/IllegalArgumentException" ["java/lang/RuntimeException", "java/lang/Exception"]).filter goodWord)
def wsX0_slotOf : List Cond := .code yX0_slotOf cX0_slotOf 2 (some .int) :: ([.classLink RX0 84 "java/lang/IllegalArgumentException", .initialized "java/lang/IllegalArgumentException", .methodLink RX0 127 yX0_checkUnit, .static yX0_checkUnit, .initialized RX0, .code yX0_checkUnit cX0_checkUnit 1 none] ++ (vx_atS RX0 88 "java/lang/IllegalArgumentException" ["java/lang/RuntimeException", "java/lang/Exception"]).filter goodWord)
def wsX0_checkLane : List Cond := .code yX0_checkLane cX0_checkLane 1 none :: ([.classLink RX0 84 "java/lang/IllegalArgumentException", .initialized "java/lang/IllegalArgumentException"] ++ (vx_atS RX0 88 "java/lang/IllegalArgumentException" ["java/lang/RuntimeException", "java/lang/Exception"]).filter goodWord)
def wsX0_isTagged : List Cond := .code yX0_isTagged cX0_isTagged 3 (some .boolean) :: ([.fieldLink RX0 13 "LaneTrunks" "taggedLanes" "[I", .methodLink RX0 74 yX0_at, .static yX0_at, .initialized RX0, .code yX0_at cX0_at 2 (some .int)] ++ wsX00)
def wsX0_untag_r1 : List Cond := [Cond.classLink RX0 67 "java/lang/IllegalStateException", Cond.initialized "java/lang/IllegalStateException", Cond.fieldLink RX0 9 "LaneTrunks" "untaggedLane" "[I", Cond.methodLink RX0 55 yX0_slotOf, Cond.static yX0_slotOf, Cond.initialized RX0, Cond.code yX0_slotOf cX0_slotOf 2 (some .int), Cond.classLink RX0 84 "java/lang/IllegalArgumentException", Cond.initialized "java/lang/IllegalArgumentException", Cond.methodLink RX0 127 yX0_checkUnit, Cond.static yX0_checkUnit, Cond.code yX0_checkUnit cX0_checkUnit 1 none, Cond.methodLink RX0 59 yX0_checkLane, Cond.static yX0_checkLane, Cond.code yX0_checkLane cX0_checkLane 1 none, Cond.methodLink RX0 63 yX0_isTagged, Cond.instanceMethod yX0_isTagged, Cond.selects RX0 yX0_isTagged yX0_isTagged, Cond.code yX0_isTagged cX0_isTagged 3 (some .boolean), Cond.fieldLink RX0 13 "LaneTrunks" "taggedLanes" "[I", Cond.methodLink RX0 74 yX0_at, Cond.static yX0_at, Cond.code yX0_at cX0_at 2 (some .int), Cond.methodLink RX0 78 yX0_put]
def wsX0_untag_r2 : List Cond := [Cond.static yX0_put, Cond.code yX0_put cX0_put 3 none]
def wsX0_untag : List Cond := .code yX0_untag cX0_untag 6 (some .int) :: ((wsX0_untag_r1 ++ wsX0_untag_r2) ++ wsX00 ++ (vx_atS RX0 71 "java/lang/IllegalStateException" ["java/lang/RuntimeException", "java/lang/Exception"]).filter goodWord ++ (vx_atS RX0 88 "java/lang/IllegalArgumentException" ["java/lang/RuntimeException", "java/lang/Exception"]).filter goodWord)
def wsX0_tag_r1 : List Cond := [Cond.classLink RX0 67 "java/lang/IllegalStateException", Cond.initialized "java/lang/IllegalStateException", Cond.fieldLink RX0 9 "LaneTrunks" "untaggedLane" "[I", Cond.fieldLink RX0 13 "LaneTrunks" "taggedLanes" "[I", Cond.methodLink RX0 55 yX0_slotOf, Cond.static yX0_slotOf, Cond.initialized RX0, Cond.code yX0_slotOf cX0_slotOf 2 (some .int), Cond.classLink RX0 84 "java/lang/IllegalArgumentException", Cond.initialized "java/lang/IllegalArgumentException", Cond.methodLink RX0 127 yX0_checkUnit, Cond.static yX0_checkUnit, Cond.code yX0_checkUnit cX0_checkUnit 1 none, Cond.methodLink RX0 59 yX0_checkLane, Cond.static yX0_checkLane, Cond.code yX0_checkLane cX0_checkLane 1 none, Cond.methodLink RX0 74 yX0_at, Cond.static yX0_at, Cond.code yX0_at cX0_at 2 (some .int), Cond.methodLink RX0 63 yX0_isTagged, Cond.instanceMethod yX0_isTagged, Cond.selects RX0 yX0_isTagged yX0_isTagged, Cond.code yX0_isTagged cX0_isTagged 3 (some .boolean), Cond.methodLink RX0 78 yX0_put]
def wsX0_tag_r2 : List Cond := [Cond.static yX0_put, Cond.code yX0_put cX0_put 3 none]
def wsX0_tag : List Cond := .code yX0_tag cX0_tag 8 (some .boolean) :: ((wsX0_tag_r1 ++ wsX0_tag_r2) ++ wsX00 ++ (vx_atS RX0 71 "java/lang/IllegalStateException" ["java/lang/RuntimeException", "java/lang/Exception"]).filter goodWord ++ (vx_atS RX0 88 "java/lang/IllegalArgumentException" ["java/lang/RuntimeException", "java/lang/Exception"]).filter goodWord)
def wsX0_hasCable : List Cond := .code yX0_hasCable cX0_hasCable 2 (some .boolean) :: ([.fieldLink RX0 16 "LaneTrunks" "farSlot" "[I", .methodLink RX0 74 yX0_at, .static yX0_at, .initialized RX0, .code yX0_at cX0_at 2 (some .int)] ++ wsX00)
def wsX0_setCable : List Cond := .code yX0_setCable cX0_setCable 4 none :: ([.fieldLink RX0 16 "LaneTrunks" "farSlot" "[I", .fieldLink RX0 19 "LaneTrunks" "cableCost" "[I", .methodLink RX0 78 yX0_put, .static yX0_put, .initialized RX0, .code yX0_put cX0_put 3 none] ++ wsX00)
def wsX0_cable_r1 : List Cond := [Cond.classLink RX0 84 "java/lang/IllegalArgumentException", Cond.initialized "java/lang/IllegalArgumentException", Cond.classLink RX0 67 "java/lang/IllegalStateException", Cond.initialized "java/lang/IllegalStateException", Cond.fieldLink RX0 101 "LaneTrunks" "cableCount" "I", Cond.methodLink RX0 55 yX0_slotOf, Cond.static yX0_slotOf, Cond.initialized RX0, Cond.code yX0_slotOf cX0_slotOf 2 (some .int), Cond.methodLink RX0 127 yX0_checkUnit, Cond.static yX0_checkUnit, Cond.code yX0_checkUnit cX0_checkUnit 1 none, Cond.methodLink RX0 91 yX0_hasCable, Cond.instanceMethod yX0_hasCable, Cond.selects RX0 yX0_hasCable yX0_hasCable, Cond.code yX0_hasCable cX0_hasCable 2 (some .boolean), Cond.fieldLink RX0 16 "LaneTrunks" "farSlot" "[I", Cond.methodLink RX0 74 yX0_at, Cond.static yX0_at, Cond.code yX0_at cX0_at 2 (some .int), Cond.methodLink RX0 97 yX0_setCable, Cond.instanceMethod yX0_setCable, Cond.selects RX0 yX0_setCable yX0_setCable, Cond.code yX0_setCable cX0_setCable 4 none]
def wsX0_cable_r2 : List Cond := [Cond.fieldLink RX0 19 "LaneTrunks" "cableCost" "[I", Cond.methodLink RX0 78 yX0_put, Cond.static yX0_put, Cond.code yX0_put cX0_put 3 none, Cond.methodLink RX0 52 yX0_growTree, Cond.instanceMethod yX0_growTree, Cond.selects RX0 yX0_growTree yX0_growTree, Cond.code yX0_growTree cX0_growTree 2 none, Cond.fieldLink RX0 31 "LaneTrunks" "wayUpSlot" "[I", Cond.methodLink RX0 177 yX0_findRoots, Cond.instanceMethod yX0_findRoots, Cond.selects RX0 yX0_findRoots yX0_findRoots, Cond.code yX0_findRoots cX0_findRoots 2 none, Cond.fieldLink RX0 25 "LaneTrunks" "rootUnit" "[I", Cond.fieldLink RX0 40 "LaneTrunks" "weights" "[I", Cond.methodLink RX0 46 yJ7_fill_53178, Cond.static yJ7_fill_53178, Cond.initialized RJ7, Cond.code yJ7_fill_53178 cJ7_fill_53178 4 none, Cond.methodLink RX0 162 yX0_leastSums, Cond.instanceMethod yX0_leastSums, Cond.selects RX0 yX0_leastSums yX0_leastSums, Cond.code yX0_leastSums cX0_leastSums 5 none, Cond.methodLink RX0 186 yX0_lowerSum]
def wsX0_cable_r3 : List Cond := [Cond.instanceMethod yX0_lowerSum, Cond.selects RX0 yX0_lowerSum yX0_lowerSum, Cond.code yX0_lowerSum cX0_lowerSum 7 none, Cond.methodLink RX0 180 yX0_findCosts, Cond.instanceMethod yX0_findCosts, Cond.selects RX0 yX0_findCosts yX0_findCosts, Cond.code yX0_findCosts cX0_findCosts 2 none, Cond.fieldLink RX0 28 "LaneTrunks" "rootCost" "[I", Cond.methodLink RX0 183 yX0_bestWayUp, Cond.instanceMethod yX0_bestWayUp, Cond.selects RX0 yX0_bestWayUp yX0_bestWayUp, Cond.code yX0_bestWayUp cX0_bestWayUp 9 (some .int)]
def wsX0_cable : List Cond := .code yX0_cable cX0_cable 8 (some .int) :: ((wsX0_cable_r1 ++ (wsX0_cable_r2 ++ wsX0_cable_r3)) ++ wsX00 ++ (vx_atS RX0 88 "java/lang/IllegalArgumentException" ["java/lang/RuntimeException", "java/lang/Exception"]).filter goodWord ++ (vx_atS RX0 71 "java/lang/IllegalStateException" ["java/lang/RuntimeException", "java/lang/Exception"]).filter goodWord)
def wsX0_slotWithCable : List Cond := .code yX0_slotWithCable cX0_slotWithCable 4 (some .int) :: ([.classLink RX0 172 "java/util/NoSuchElementException", .initialized "java/util/NoSuchElementException", .methodLink RX0 55 yX0_slotOf, .static yX0_slotOf, .initialized RX0, .code yX0_slotOf cX0_slotOf 2 (some .int), .classLink RX0 84 "java/lang/IllegalArgumentException", .initialized "java/lang/IllegalArgumentException", .methodLink RX0 127 yX0_checkUnit, .static yX0_checkUnit, .code yX0_checkUnit cX0_checkUnit 1 none, .methodLink RX0 91 yX0_hasCable, .instanceMethod yX0_hasCable, .selects RX0 yX0_hasCable yX0_hasCable, .code yX0_hasCable cX0_hasCable 2 (some .boolean), .fieldLink RX0 16 "LaneTrunks" "farSlot" "[I", .methodLink RX0 74 yX0_at, .static yX0_at, .code yX0_at cX0_at 2 (some .int)] ++ wsX00 ++ (vx_atS RX0 176 "java/util/NoSuchElementException" ["java/lang/RuntimeException", "java/lang/Exception"]).filter goodWord ++ (vx_atS RX0 88 "java/lang/IllegalArgumentException" ["java/lang/RuntimeException", "java/lang/Exception"]).filter goodWord)
def wsX0_pull_r1 : List Cond := [Cond.fieldLink RX0 19 "LaneTrunks" "cableCost" "[I", Cond.fieldLink RX0 16 "LaneTrunks" "farSlot" "[I", Cond.fieldLink RX0 101 "LaneTrunks" "cableCount" "I", Cond.methodLink RX0 105 yX0_slotWithCable, Cond.instanceMethod yX0_slotWithCable, Cond.selects RX0 yX0_slotWithCable yX0_slotWithCable, Cond.initialized RX0, Cond.code yX0_slotWithCable cX0_slotWithCable 4 (some .int), Cond.classLink RX0 172 "java/util/NoSuchElementException", Cond.initialized "java/util/NoSuchElementException", Cond.methodLink RX0 55 yX0_slotOf, Cond.static yX0_slotOf, Cond.code yX0_slotOf cX0_slotOf 2 (some .int), Cond.classLink RX0 84 "java/lang/IllegalArgumentException", Cond.initialized "java/lang/IllegalArgumentException", Cond.methodLink RX0 127 yX0_checkUnit, Cond.static yX0_checkUnit, Cond.code yX0_checkUnit cX0_checkUnit 1 none, Cond.methodLink RX0 91 yX0_hasCable, Cond.instanceMethod yX0_hasCable, Cond.selects RX0 yX0_hasCable yX0_hasCable, Cond.code yX0_hasCable cX0_hasCable 2 (some .boolean), Cond.methodLink RX0 74 yX0_at, Cond.static yX0_at]
def wsX0_pull_r2 : List Cond := [Cond.code yX0_at cX0_at 2 (some .int), Cond.methodLink RX0 97 yX0_setCable, Cond.instanceMethod yX0_setCable, Cond.selects RX0 yX0_setCable yX0_setCable, Cond.code yX0_setCable cX0_setCable 4 none, Cond.methodLink RX0 78 yX0_put, Cond.static yX0_put, Cond.code yX0_put cX0_put 3 none, Cond.methodLink RX0 52 yX0_growTree, Cond.instanceMethod yX0_growTree, Cond.selects RX0 yX0_growTree yX0_growTree, Cond.code yX0_growTree cX0_growTree 2 none, Cond.fieldLink RX0 31 "LaneTrunks" "wayUpSlot" "[I", Cond.methodLink RX0 177 yX0_findRoots, Cond.instanceMethod yX0_findRoots, Cond.selects RX0 yX0_findRoots yX0_findRoots, Cond.code yX0_findRoots cX0_findRoots 2 none, Cond.fieldLink RX0 25 "LaneTrunks" "rootUnit" "[I", Cond.fieldLink RX0 40 "LaneTrunks" "weights" "[I", Cond.methodLink RX0 46 yJ7_fill_53178, Cond.static yJ7_fill_53178, Cond.initialized RJ7, Cond.code yJ7_fill_53178 cJ7_fill_53178 4 none, Cond.methodLink RX0 162 yX0_leastSums]
def wsX0_pull_r3 : List Cond := [Cond.instanceMethod yX0_leastSums, Cond.selects RX0 yX0_leastSums yX0_leastSums, Cond.code yX0_leastSums cX0_leastSums 5 none, Cond.methodLink RX0 186 yX0_lowerSum, Cond.instanceMethod yX0_lowerSum, Cond.selects RX0 yX0_lowerSum yX0_lowerSum, Cond.code yX0_lowerSum cX0_lowerSum 7 none, Cond.methodLink RX0 180 yX0_findCosts, Cond.instanceMethod yX0_findCosts, Cond.selects RX0 yX0_findCosts yX0_findCosts, Cond.code yX0_findCosts cX0_findCosts 2 none, Cond.fieldLink RX0 28 "LaneTrunks" "rootCost" "[I", Cond.methodLink RX0 183 yX0_bestWayUp, Cond.instanceMethod yX0_bestWayUp, Cond.selects RX0 yX0_bestWayUp yX0_bestWayUp, Cond.code yX0_bestWayUp cX0_bestWayUp 9 (some .int)]
def wsX0_pull : List Cond := .code yX0_pull cX0_pull 5 (some .int) :: ((wsX0_pull_r1 ++ (wsX0_pull_r2 ++ wsX0_pull_r3)) ++ wsX00 ++ (vx_atS RX0 176 "java/util/NoSuchElementException" ["java/lang/RuntimeException", "java/lang/Exception"]).filter goodWord ++ (vx_atS RX0 88 "java/lang/IllegalArgumentException" ["java/lang/RuntimeException", "java/lang/Exception"]).filter goodWord)
def wsX0_tree : List Cond := .code yX0_tree cX0_tree 3 (some .boolean) :: ([.fieldLink RX0 108 "LaneTrunks" "isTreeOn" "Z"] ++ wsX00)
def wsX0_endName : List Cond := .code yX0_endName cX0_endName 1 (some .int) :: ([])
def wsX0_note : List Cond := .code yX0_note cX0_note 8 (some .boolean) :: ([.fieldLink RX0 22 "LaneTrunks" "book" "[I", .methodLink RX0 55 yX0_slotOf, .static yX0_slotOf, .initialized RX0, .code yX0_slotOf cX0_slotOf 2 (some .int), .classLink RX0 84 "java/lang/IllegalArgumentException", .initialized "java/lang/IllegalArgumentException", .methodLink RX0 127 yX0_checkUnit, .static yX0_checkUnit, .code yX0_checkUnit cX0_checkUnit 1 none, .methodLink RX0 112 yX0_endName, .static yX0_endName, .code yX0_endName cX0_endName 1 (some .int), .methodLink RX0 74 yX0_at, .static yX0_at, .code yX0_at cX0_at 2 (some .int), .methodLink RX0 78 yX0_put, .static yX0_put, .code yX0_put cX0_put 3 none] ++ wsX00 ++ (vx_atS RX0 88 "java/lang/IllegalArgumentException" ["java/lang/RuntimeException", "java/lang/Exception"]).filter goodWord)
def wsX0_far : List Cond := .code yX0_far cX0_far 3 (some .int) :: ([.fieldLink RX0 16 "LaneTrunks" "farSlot" "[I", .methodLink RX0 55 yX0_slotOf, .static yX0_slotOf, .initialized RX0, .code yX0_slotOf cX0_slotOf 2 (some .int), .classLink RX0 84 "java/lang/IllegalArgumentException", .initialized "java/lang/IllegalArgumentException", .methodLink RX0 127 yX0_checkUnit, .static yX0_checkUnit, .code yX0_checkUnit cX0_checkUnit 1 none, .methodLink RX0 74 yX0_at, .static yX0_at, .code yX0_at cX0_at 2 (some .int), .methodLink RX0 112 yX0_endName, .static yX0_endName, .code yX0_endName cX0_endName 1 (some .int)] ++ wsX00 ++ (vx_atS RX0 88 "java/lang/IllegalArgumentException" ["java/lang/RuntimeException", "java/lang/Exception"]).filter goodWord)
def wsX0_hasLiveCable : List Cond := .code yX0_hasLiveCable cX0_hasLiveCable 3 (some .boolean) :: ([.fieldLink RX0 16 "LaneTrunks" "farSlot" "[I", .fieldLink RX0 108 "LaneTrunks" "isTreeOn" "Z", .fieldLink RX0 31 "LaneTrunks" "wayUpSlot" "[I", .methodLink RX0 74 yX0_at, .static yX0_at, .initialized RX0, .code yX0_at cX0_at 2 (some .int)] ++ wsX00)
def wsX0_isOn_r1 : List Cond := [Cond.methodLink RX0 105 yX0_slotWithCable, Cond.instanceMethod yX0_slotWithCable, Cond.selects RX0 yX0_slotWithCable yX0_slotWithCable, Cond.initialized RX0, Cond.code yX0_slotWithCable cX0_slotWithCable 4 (some .int), Cond.classLink RX0 172 "java/util/NoSuchElementException", Cond.initialized "java/util/NoSuchElementException", Cond.methodLink RX0 55 yX0_slotOf, Cond.static yX0_slotOf, Cond.code yX0_slotOf cX0_slotOf 2 (some .int), Cond.classLink RX0 84 "java/lang/IllegalArgumentException", Cond.initialized "java/lang/IllegalArgumentException", Cond.methodLink RX0 127 yX0_checkUnit, Cond.static yX0_checkUnit, Cond.code yX0_checkUnit cX0_checkUnit 1 none, Cond.methodLink RX0 91 yX0_hasCable, Cond.instanceMethod yX0_hasCable, Cond.selects RX0 yX0_hasCable yX0_hasCable, Cond.code yX0_hasCable cX0_hasCable 2 (some .boolean), Cond.fieldLink RX0 16 "LaneTrunks" "farSlot" "[I", Cond.methodLink RX0 74 yX0_at, Cond.static yX0_at, Cond.code yX0_at cX0_at 2 (some .int), Cond.methodLink RX0 116 yX0_hasLiveCable]
def wsX0_isOn_r2 : List Cond := [Cond.instanceMethod yX0_hasLiveCable, Cond.selects RX0 yX0_hasLiveCable yX0_hasLiveCable, Cond.code yX0_hasLiveCable cX0_hasLiveCable 3 (some .boolean), Cond.fieldLink RX0 108 "LaneTrunks" "isTreeOn" "Z", Cond.fieldLink RX0 31 "LaneTrunks" "wayUpSlot" "[I"]
def wsX0_isOn : List Cond := .code yX0_isOn cX0_isOn 3 (some .boolean) :: ((wsX0_isOn_r1 ++ wsX0_isOn_r2) ++ wsX00 ++ (vx_atS RX0 176 "java/util/NoSuchElementException" ["java/lang/RuntimeException", "java/lang/Exception"]).filter goodWord ++ (vx_atS RX0 88 "java/lang/IllegalArgumentException" ["java/lang/RuntimeException", "java/lang/Exception"]).filter goodWord)
def wsX0_laneBeyond : List Cond := .code yX0_laneBeyond cX0_laneBeyond 5 (some .int) :: ([.fieldLink RX0 16 "LaneTrunks" "farSlot" "[I", .fieldLink RX0 9 "LaneTrunks" "untaggedLane" "[I", .methodLink RX0 74 yX0_at, .static yX0_at, .initialized RX0, .code yX0_at cX0_at 2 (some .int), .methodLink RX0 63 yX0_isTagged, .instanceMethod yX0_isTagged, .selects RX0 yX0_isTagged yX0_isTagged, .code yX0_isTagged cX0_isTagged 3 (some .boolean), .fieldLink RX0 13 "LaneTrunks" "taggedLanes" "[I"] ++ wsX00)
def wsX0_comesAs_r1 : List Cond := [Cond.methodLink RX0 59 yX0_checkLane, Cond.static yX0_checkLane, Cond.initialized RX0, Cond.code yX0_checkLane cX0_checkLane 1 none, Cond.classLink RX0 84 "java/lang/IllegalArgumentException", Cond.initialized "java/lang/IllegalArgumentException", Cond.methodLink RX0 105 yX0_slotWithCable, Cond.instanceMethod yX0_slotWithCable, Cond.selects RX0 yX0_slotWithCable yX0_slotWithCable, Cond.code yX0_slotWithCable cX0_slotWithCable 4 (some .int), Cond.classLink RX0 172 "java/util/NoSuchElementException", Cond.initialized "java/util/NoSuchElementException", Cond.methodLink RX0 55 yX0_slotOf, Cond.static yX0_slotOf, Cond.code yX0_slotOf cX0_slotOf 2 (some .int), Cond.methodLink RX0 127 yX0_checkUnit, Cond.static yX0_checkUnit, Cond.code yX0_checkUnit cX0_checkUnit 1 none, Cond.methodLink RX0 91 yX0_hasCable, Cond.instanceMethod yX0_hasCable, Cond.selects RX0 yX0_hasCable yX0_hasCable, Cond.code yX0_hasCable cX0_hasCable 2 (some .boolean), Cond.fieldLink RX0 16 "LaneTrunks" "farSlot" "[I", Cond.methodLink RX0 74 yX0_at]
def wsX0_comesAs_r2 : List Cond := [Cond.static yX0_at, Cond.code yX0_at cX0_at 2 (some .int), Cond.methodLink RX0 119 yX0_laneBeyond, Cond.instanceMethod yX0_laneBeyond, Cond.selects RX0 yX0_laneBeyond yX0_laneBeyond, Cond.code yX0_laneBeyond cX0_laneBeyond 5 (some .int), Cond.fieldLink RX0 9 "LaneTrunks" "untaggedLane" "[I", Cond.methodLink RX0 63 yX0_isTagged, Cond.instanceMethod yX0_isTagged, Cond.selects RX0 yX0_isTagged yX0_isTagged, Cond.code yX0_isTagged cX0_isTagged 3 (some .boolean), Cond.fieldLink RX0 13 "LaneTrunks" "taggedLanes" "[I"]
def wsX0_comesAs : List Cond := .code yX0_comesAs cX0_comesAs 4 (some .int) :: ((wsX0_comesAs_r1 ++ wsX0_comesAs_r2) ++ wsX00 ++ (vx_atS RX0 88 "java/lang/IllegalArgumentException" ["java/lang/RuntimeException", "java/lang/Exception"]).filter goodWord ++ (vx_atS RX0 176 "java/util/NoSuchElementException" ["java/lang/RuntimeException", "java/lang/Exception"]).filter goodWord)
def wsJ6_bitCount_0f7a4 : List Cond := .code yJ6_bitCount_0f7a4 cJ6_bitCount_0f7a4 1 (some .int) :: ([.constant RJ6 265 (1431655765), .constant RJ6 266 (858993459), .constant RJ6 267 (252645135)])
def wsX0_oneSided_r1 : List Cond := [Cond.fieldLink RX0 13 "LaneTrunks" "taggedLanes" "[I", Cond.fieldLink RX0 16 "LaneTrunks" "farSlot" "[I", Cond.methodLink RX0 105 yX0_slotWithCable, Cond.instanceMethod yX0_slotWithCable, Cond.selects RX0 yX0_slotWithCable yX0_slotWithCable, Cond.initialized RX0, Cond.code yX0_slotWithCable cX0_slotWithCable 4 (some .int), Cond.classLink RX0 172 "java/util/NoSuchElementException", Cond.initialized "java/util/NoSuchElementException", Cond.methodLink RX0 55 yX0_slotOf, Cond.static yX0_slotOf, Cond.code yX0_slotOf cX0_slotOf 2 (some .int), Cond.classLink RX0 84 "java/lang/IllegalArgumentException", Cond.initialized "java/lang/IllegalArgumentException", Cond.methodLink RX0 127 yX0_checkUnit, Cond.static yX0_checkUnit, Cond.code yX0_checkUnit cX0_checkUnit 1 none, Cond.methodLink RX0 91 yX0_hasCable, Cond.instanceMethod yX0_hasCable, Cond.selects RX0 yX0_hasCable yX0_hasCable, Cond.code yX0_hasCable cX0_hasCable 2 (some .boolean), Cond.methodLink RX0 74 yX0_at, Cond.static yX0_at, Cond.code yX0_at cX0_at 2 (some .int)]
def wsX0_oneSided_r2 : List Cond := [Cond.methodLink RX0 122 yJ6_bitCount_0f7a4, Cond.static yJ6_bitCount_0f7a4, Cond.initialized RJ6, Cond.code yJ6_bitCount_0f7a4 cJ6_bitCount_0f7a4 1 (some .int), Cond.constant RJ6 265 (1431655765), Cond.constant RJ6 266 (858993459), Cond.constant RJ6 267 (252645135)]
def wsX0_oneSided : List Cond := .code yX0_oneSided cX0_oneSided 4 (some .int) :: ((wsX0_oneSided_r1 ++ wsX0_oneSided_r2) ++ wsX00 ++ (vx_atS RX0 176 "java/util/NoSuchElementException" ["java/lang/RuntimeException", "java/lang/Exception"]).filter goodWord ++ (vx_atS RX0 88 "java/lang/IllegalArgumentException" ["java/lang/RuntimeException", "java/lang/Exception"]).filter goodWord)
def wsX0_wrong : List Cond := .code yX0_wrong cX0_wrong 4 (some .int) :: ([.fieldLink RX0 22 "LaneTrunks" "book" "[I", .fieldLink RX0 16 "LaneTrunks" "farSlot" "[I", .methodLink RX0 74 yX0_at, .static yX0_at, .initialized RX0, .code yX0_at cX0_at 2 (some .int), .methodLink RX0 112 yX0_endName, .static yX0_endName, .code yX0_endName cX0_endName 1 (some .int)] ++ wsX00)
def wsX0_root : List Cond := .code yX0_root cX0_root 2 (some .int) :: ([.fieldLink RX0 25 "LaneTrunks" "rootUnit" "[I", .methodLink RX0 127 yX0_checkUnit, .static yX0_checkUnit, .initialized RX0, .code yX0_checkUnit cX0_checkUnit 1 none, .classLink RX0 84 "java/lang/IllegalArgumentException", .initialized "java/lang/IllegalArgumentException", .methodLink RX0 74 yX0_at, .static yX0_at, .code yX0_at cX0_at 2 (some .int)] ++ wsX00 ++ (vx_atS RX0 88 "java/lang/IllegalArgumentException" ["java/lang/RuntimeException", "java/lang/Exception"]).filter goodWord)
def wsX0_costOf : List Cond := .code yX0_costOf cX0_costOf 2 (some .int) :: ([.fieldLink RX0 28 "LaneTrunks" "rootCost" "[I", .methodLink RX0 127 yX0_checkUnit, .static yX0_checkUnit, .initialized RX0, .code yX0_checkUnit cX0_checkUnit 1 none, .classLink RX0 84 "java/lang/IllegalArgumentException", .initialized "java/lang/IllegalArgumentException", .methodLink RX0 74 yX0_at, .static yX0_at, .code yX0_at cX0_at 2 (some .int)] ++ wsX00 ++ (vx_atS RX0 88 "java/lang/IllegalArgumentException" ["java/lang/RuntimeException", "java/lang/Exception"]).filter goodWord)
def wsX0_wayUp : List Cond := .code yX0_wayUp cX0_wayUp 3 (some .int) :: ([.fieldLink RX0 31 "LaneTrunks" "wayUpSlot" "[I", .methodLink RX0 127 yX0_checkUnit, .static yX0_checkUnit, .initialized RX0, .code yX0_checkUnit cX0_checkUnit 1 none, .classLink RX0 84 "java/lang/IllegalArgumentException", .initialized "java/lang/IllegalArgumentException", .methodLink RX0 74 yX0_at, .static yX0_at, .code yX0_at cX0_at 2 (some .int)] ++ wsX00 ++ (vx_atS RX0 88 "java/lang/IllegalArgumentException" ["java/lang/RuntimeException", "java/lang/Exception"]).filter goodWord)
def wsX0_placeOf : List Cond := .code yX0_placeOf cX0_placeOf 2 (some .int) :: ([.methodLink RX0 127 yX0_checkUnit, .static yX0_checkUnit, .initialized RX0, .code yX0_checkUnit cX0_checkUnit 1 none, .classLink RX0 84 "java/lang/IllegalArgumentException", .initialized "java/lang/IllegalArgumentException", .methodLink RX0 59 yX0_checkLane, .static yX0_checkLane, .code yX0_checkLane cX0_checkLane 1 none] ++ (vx_atS RX0 88 "java/lang/IllegalArgumentException" ["java/lang/RuntimeException", "java/lang/Exception"]).filter goodWord)
def wsX0_forgetWalks : List Cond := .code yX0_forgetWalks cX0_forgetWalks 1 none :: ([.fieldLink RX0 34 "LaneTrunks" "steps" "[I", .fieldLink RX0 143 "LaneTrunks" "reachedCount" "I", .methodLink RX0 46 yJ7_fill_53178, .static yJ7_fill_53178, .initialized RJ7, .code yJ7_fill_53178 cJ7_fill_53178 4 none] ++ wsX00)
def wsX0_reach : List Cond := .code yX0_reach cX0_reach 3 none :: ([.fieldLink RX0 34 "LaneTrunks" "steps" "[I", .fieldLink RX0 37 "LaneTrunks" "reachedPlaces" "[I", .fieldLink RX0 143 "LaneTrunks" "reachedCount" "I", .methodLink RX0 78 yX0_put, .static yX0_put, .initialized RX0, .code yX0_put cX0_put 3 none] ++ wsX00)
def wsX0_placeBeyond : List Cond := .code yX0_placeBeyond cX0_placeBeyond 4 (some .int) :: ([.fieldLink RX0 16 "LaneTrunks" "farSlot" "[I", .methodLink RX0 116 yX0_hasLiveCable, .instanceMethod yX0_hasLiveCable, .selects RX0 yX0_hasLiveCable yX0_hasLiveCable, .initialized RX0, .code yX0_hasLiveCable cX0_hasLiveCable 3 (some .boolean), .fieldLink RX0 108 "LaneTrunks" "isTreeOn" "Z", .fieldLink RX0 31 "LaneTrunks" "wayUpSlot" "[I", .methodLink RX0 74 yX0_at, .static yX0_at, .code yX0_at cX0_at 2 (some .int), .methodLink RX0 119 yX0_laneBeyond, .instanceMethod yX0_laneBeyond, .selects RX0 yX0_laneBeyond yX0_laneBeyond, .code yX0_laneBeyond cX0_laneBeyond 5 (some .int), .fieldLink RX0 9 "LaneTrunks" "untaggedLane" "[I", .methodLink RX0 63 yX0_isTagged, .instanceMethod yX0_isTagged, .selects RX0 yX0_isTagged yX0_isTagged, .code yX0_isTagged cX0_isTagged 3 (some .boolean), .fieldLink RX0 13 "LaneTrunks" "taggedLanes" "[I"] ++ wsX00)
def wsX0_reachNeighbours_r1 : List Cond := [Cond.fieldLink RX0 34 "LaneTrunks" "steps" "[I", Cond.methodLink RX0 197 yX0_placeBeyond, Cond.instanceMethod yX0_placeBeyond, Cond.selects RX0 yX0_placeBeyond yX0_placeBeyond, Cond.initialized RX0, Cond.code yX0_placeBeyond cX0_placeBeyond 4 (some .int), Cond.fieldLink RX0 16 "LaneTrunks" "farSlot" "[I", Cond.methodLink RX0 116 yX0_hasLiveCable, Cond.instanceMethod yX0_hasLiveCable, Cond.selects RX0 yX0_hasLiveCable yX0_hasLiveCable, Cond.code yX0_hasLiveCable cX0_hasLiveCable 3 (some .boolean), Cond.fieldLink RX0 108 "LaneTrunks" "isTreeOn" "Z", Cond.fieldLink RX0 31 "LaneTrunks" "wayUpSlot" "[I", Cond.methodLink RX0 74 yX0_at, Cond.static yX0_at, Cond.code yX0_at cX0_at 2 (some .int), Cond.methodLink RX0 119 yX0_laneBeyond, Cond.instanceMethod yX0_laneBeyond, Cond.selects RX0 yX0_laneBeyond yX0_laneBeyond, Cond.code yX0_laneBeyond cX0_laneBeyond 5 (some .int), Cond.fieldLink RX0 9 "LaneTrunks" "untaggedLane" "[I", Cond.methodLink RX0 63 yX0_isTagged, Cond.instanceMethod yX0_isTagged, Cond.selects RX0 yX0_isTagged yX0_isTagged]
def wsX0_reachNeighbours_r2 : List Cond := [Cond.code yX0_isTagged cX0_isTagged 3 (some .boolean), Cond.fieldLink RX0 13 "LaneTrunks" "taggedLanes" "[I", Cond.methodLink RX0 190 yX0_reach, Cond.instanceMethod yX0_reach, Cond.selects RX0 yX0_reach yX0_reach, Cond.code yX0_reach cX0_reach 3 none, Cond.fieldLink RX0 37 "LaneTrunks" "reachedPlaces" "[I", Cond.fieldLink RX0 143 "LaneTrunks" "reachedCount" "I", Cond.methodLink RX0 78 yX0_put, Cond.static yX0_put, Cond.code yX0_put cX0_put 3 none]
def wsX0_reachNeighbours : List Cond := .code yX0_reachNeighbours cX0_reachNeighbours 5 none :: ((wsX0_reachNeighbours_r1 ++ wsX0_reachNeighbours_r2) ++ wsX00)
def wsX0_walkFrom_r1 : List Cond := [Cond.fieldLink RX0 143 "LaneTrunks" "reachedCount" "I", Cond.fieldLink RX0 37 "LaneTrunks" "reachedPlaces" "[I", Cond.methodLink RX0 190 yX0_reach, Cond.instanceMethod yX0_reach, Cond.selects RX0 yX0_reach yX0_reach, Cond.initialized RX0, Cond.code yX0_reach cX0_reach 3 none, Cond.fieldLink RX0 34 "LaneTrunks" "steps" "[I", Cond.methodLink RX0 78 yX0_put, Cond.static yX0_put, Cond.code yX0_put cX0_put 3 none, Cond.methodLink RX0 74 yX0_at, Cond.static yX0_at, Cond.code yX0_at cX0_at 2 (some .int), Cond.methodLink RX0 194 yX0_reachNeighbours, Cond.instanceMethod yX0_reachNeighbours, Cond.selects RX0 yX0_reachNeighbours yX0_reachNeighbours, Cond.code yX0_reachNeighbours cX0_reachNeighbours 5 none, Cond.methodLink RX0 197 yX0_placeBeyond, Cond.instanceMethod yX0_placeBeyond, Cond.selects RX0 yX0_placeBeyond yX0_placeBeyond, Cond.code yX0_placeBeyond cX0_placeBeyond 4 (some .int), Cond.fieldLink RX0 16 "LaneTrunks" "farSlot" "[I", Cond.methodLink RX0 116 yX0_hasLiveCable]
def wsX0_walkFrom_r2 : List Cond := [Cond.instanceMethod yX0_hasLiveCable, Cond.selects RX0 yX0_hasLiveCable yX0_hasLiveCable, Cond.code yX0_hasLiveCable cX0_hasLiveCable 3 (some .boolean), Cond.fieldLink RX0 108 "LaneTrunks" "isTreeOn" "Z", Cond.fieldLink RX0 31 "LaneTrunks" "wayUpSlot" "[I", Cond.methodLink RX0 119 yX0_laneBeyond, Cond.instanceMethod yX0_laneBeyond, Cond.selects RX0 yX0_laneBeyond yX0_laneBeyond, Cond.code yX0_laneBeyond cX0_laneBeyond 5 (some .int), Cond.fieldLink RX0 9 "LaneTrunks" "untaggedLane" "[I", Cond.methodLink RX0 63 yX0_isTagged, Cond.instanceMethod yX0_isTagged, Cond.selects RX0 yX0_isTagged yX0_isTagged, Cond.code yX0_isTagged cX0_isTagged 3 (some .boolean), Cond.fieldLink RX0 13 "LaneTrunks" "taggedLanes" "[I"]
def wsX0_walkFrom : List Cond := .code yX0_walkFrom cX0_walkFrom 4 none :: ((wsX0_walkFrom_r1 ++ wsX0_walkFrom_r2) ++ wsX00)
def wsX0_hops_r1 : List Cond := [Cond.fieldLink RX0 34 "LaneTrunks" "steps" "[I", Cond.methodLink RX0 130 yX0_placeOf, Cond.static yX0_placeOf, Cond.initialized RX0, Cond.code yX0_placeOf cX0_placeOf 2 (some .int), Cond.methodLink RX0 127 yX0_checkUnit, Cond.static yX0_checkUnit, Cond.code yX0_checkUnit cX0_checkUnit 1 none, Cond.classLink RX0 84 "java/lang/IllegalArgumentException", Cond.initialized "java/lang/IllegalArgumentException", Cond.methodLink RX0 59 yX0_checkLane, Cond.static yX0_checkLane, Cond.code yX0_checkLane cX0_checkLane 1 none, Cond.methodLink RX0 133 yX0_forgetWalks, Cond.instanceMethod yX0_forgetWalks, Cond.selects RX0 yX0_forgetWalks yX0_forgetWalks, Cond.code yX0_forgetWalks cX0_forgetWalks 1 none, Cond.fieldLink RX0 143 "LaneTrunks" "reachedCount" "I", Cond.methodLink RX0 46 yJ7_fill_53178, Cond.static yJ7_fill_53178, Cond.initialized RJ7, Cond.code yJ7_fill_53178 cJ7_fill_53178 4 none, Cond.methodLink RX0 136 yX0_walkFrom, Cond.instanceMethod yX0_walkFrom]
def wsX0_hops_r2 : List Cond := [Cond.selects RX0 yX0_walkFrom yX0_walkFrom, Cond.code yX0_walkFrom cX0_walkFrom 4 none, Cond.fieldLink RX0 37 "LaneTrunks" "reachedPlaces" "[I", Cond.methodLink RX0 190 yX0_reach, Cond.instanceMethod yX0_reach, Cond.selects RX0 yX0_reach yX0_reach, Cond.code yX0_reach cX0_reach 3 none, Cond.methodLink RX0 78 yX0_put, Cond.static yX0_put, Cond.code yX0_put cX0_put 3 none, Cond.methodLink RX0 74 yX0_at, Cond.static yX0_at, Cond.code yX0_at cX0_at 2 (some .int), Cond.methodLink RX0 194 yX0_reachNeighbours, Cond.instanceMethod yX0_reachNeighbours, Cond.selects RX0 yX0_reachNeighbours yX0_reachNeighbours, Cond.code yX0_reachNeighbours cX0_reachNeighbours 5 none, Cond.methodLink RX0 197 yX0_placeBeyond, Cond.instanceMethod yX0_placeBeyond, Cond.selects RX0 yX0_placeBeyond yX0_placeBeyond, Cond.code yX0_placeBeyond cX0_placeBeyond 4 (some .int), Cond.fieldLink RX0 16 "LaneTrunks" "farSlot" "[I", Cond.methodLink RX0 116 yX0_hasLiveCable, Cond.instanceMethod yX0_hasLiveCable]
def wsX0_hops_r3 : List Cond := [Cond.selects RX0 yX0_hasLiveCable yX0_hasLiveCable, Cond.code yX0_hasLiveCable cX0_hasLiveCable 3 (some .boolean), Cond.fieldLink RX0 108 "LaneTrunks" "isTreeOn" "Z", Cond.fieldLink RX0 31 "LaneTrunks" "wayUpSlot" "[I", Cond.methodLink RX0 119 yX0_laneBeyond, Cond.instanceMethod yX0_laneBeyond, Cond.selects RX0 yX0_laneBeyond yX0_laneBeyond, Cond.code yX0_laneBeyond cX0_laneBeyond 5 (some .int), Cond.fieldLink RX0 9 "LaneTrunks" "untaggedLane" "[I", Cond.methodLink RX0 63 yX0_isTagged, Cond.instanceMethod yX0_isTagged, Cond.selects RX0 yX0_isTagged yX0_isTagged, Cond.code yX0_isTagged cX0_isTagged 3 (some .boolean), Cond.fieldLink RX0 13 "LaneTrunks" "taggedLanes" "[I"]
def wsX0_hops : List Cond := .code yX0_hops cX0_hops 7 (some .int) :: ((wsX0_hops_r1 ++ (wsX0_hops_r2 ++ wsX0_hops_r3)) ++ wsX00 ++ (vx_atS RX0 88 "java/lang/IllegalArgumentException" ["java/lang/RuntimeException", "java/lang/Exception"]).filter goodWord)
def wsX0_meet_r1 : List Cond := [Cond.fieldLink RX0 9 "LaneTrunks" "untaggedLane" "[I", Cond.methodLink RX0 55 yX0_slotOf, Cond.static yX0_slotOf, Cond.initialized RX0, Cond.code yX0_slotOf cX0_slotOf 2 (some .int), Cond.classLink RX0 84 "java/lang/IllegalArgumentException", Cond.initialized "java/lang/IllegalArgumentException", Cond.methodLink RX0 127 yX0_checkUnit, Cond.static yX0_checkUnit, Cond.code yX0_checkUnit cX0_checkUnit 1 none, Cond.methodLink RX0 74 yX0_at, Cond.static yX0_at, Cond.code yX0_at cX0_at 2 (some .int), Cond.methodLink RX0 139 yX0_hops, Cond.instanceMethod yX0_hops, Cond.selects RX0 yX0_hops yX0_hops, Cond.code yX0_hops cX0_hops 7 (some .int), Cond.fieldLink RX0 34 "LaneTrunks" "steps" "[I", Cond.methodLink RX0 130 yX0_placeOf, Cond.static yX0_placeOf, Cond.code yX0_placeOf cX0_placeOf 2 (some .int), Cond.methodLink RX0 59 yX0_checkLane, Cond.static yX0_checkLane, Cond.code yX0_checkLane cX0_checkLane 1 none]
def wsX0_meet_r2 : List Cond := [Cond.methodLink RX0 133 yX0_forgetWalks, Cond.instanceMethod yX0_forgetWalks, Cond.selects RX0 yX0_forgetWalks yX0_forgetWalks, Cond.code yX0_forgetWalks cX0_forgetWalks 1 none, Cond.fieldLink RX0 143 "LaneTrunks" "reachedCount" "I", Cond.methodLink RX0 46 yJ7_fill_53178, Cond.static yJ7_fill_53178, Cond.initialized RJ7, Cond.code yJ7_fill_53178 cJ7_fill_53178 4 none, Cond.methodLink RX0 136 yX0_walkFrom, Cond.instanceMethod yX0_walkFrom, Cond.selects RX0 yX0_walkFrom yX0_walkFrom, Cond.code yX0_walkFrom cX0_walkFrom 4 none, Cond.fieldLink RX0 37 "LaneTrunks" "reachedPlaces" "[I", Cond.methodLink RX0 190 yX0_reach, Cond.instanceMethod yX0_reach, Cond.selects RX0 yX0_reach yX0_reach, Cond.code yX0_reach cX0_reach 3 none, Cond.methodLink RX0 78 yX0_put, Cond.static yX0_put, Cond.code yX0_put cX0_put 3 none, Cond.methodLink RX0 194 yX0_reachNeighbours, Cond.instanceMethod yX0_reachNeighbours, Cond.selects RX0 yX0_reachNeighbours yX0_reachNeighbours]
def wsX0_meet_r3 : List Cond := [Cond.code yX0_reachNeighbours cX0_reachNeighbours 5 none, Cond.methodLink RX0 197 yX0_placeBeyond, Cond.instanceMethod yX0_placeBeyond, Cond.selects RX0 yX0_placeBeyond yX0_placeBeyond, Cond.code yX0_placeBeyond cX0_placeBeyond 4 (some .int), Cond.fieldLink RX0 16 "LaneTrunks" "farSlot" "[I", Cond.methodLink RX0 116 yX0_hasLiveCable, Cond.instanceMethod yX0_hasLiveCable, Cond.selects RX0 yX0_hasLiveCable yX0_hasLiveCable, Cond.code yX0_hasLiveCable cX0_hasLiveCable 3 (some .boolean), Cond.fieldLink RX0 108 "LaneTrunks" "isTreeOn" "Z", Cond.fieldLink RX0 31 "LaneTrunks" "wayUpSlot" "[I", Cond.methodLink RX0 119 yX0_laneBeyond, Cond.instanceMethod yX0_laneBeyond, Cond.selects RX0 yX0_laneBeyond yX0_laneBeyond, Cond.code yX0_laneBeyond cX0_laneBeyond 5 (some .int), Cond.methodLink RX0 63 yX0_isTagged, Cond.instanceMethod yX0_isTagged, Cond.selects RX0 yX0_isTagged yX0_isTagged, Cond.code yX0_isTagged cX0_isTagged 3 (some .boolean), Cond.fieldLink RX0 13 "LaneTrunks" "taggedLanes" "[I"]
def wsX0_meet : List Cond := .code yX0_meet cX0_meet 7 (some .boolean) :: ((wsX0_meet_r1 ++ (wsX0_meet_r2 ++ wsX0_meet_r3)) ++ wsX00 ++ (vx_atS RX0 88 "java/lang/IllegalArgumentException" ["java/lang/RuntimeException", "java/lang/Exception"]).filter goodWord)
def wsX0_joined_r1 : List Cond := [Cond.fieldLink RX0 143 "LaneTrunks" "reachedCount" "I", Cond.methodLink RX0 130 yX0_placeOf, Cond.static yX0_placeOf, Cond.initialized RX0, Cond.code yX0_placeOf cX0_placeOf 2 (some .int), Cond.methodLink RX0 127 yX0_checkUnit, Cond.static yX0_checkUnit, Cond.code yX0_checkUnit cX0_checkUnit 1 none, Cond.classLink RX0 84 "java/lang/IllegalArgumentException", Cond.initialized "java/lang/IllegalArgumentException", Cond.methodLink RX0 59 yX0_checkLane, Cond.static yX0_checkLane, Cond.code yX0_checkLane cX0_checkLane 1 none, Cond.methodLink RX0 133 yX0_forgetWalks, Cond.instanceMethod yX0_forgetWalks, Cond.selects RX0 yX0_forgetWalks yX0_forgetWalks, Cond.code yX0_forgetWalks cX0_forgetWalks 1 none, Cond.fieldLink RX0 34 "LaneTrunks" "steps" "[I", Cond.methodLink RX0 46 yJ7_fill_53178, Cond.static yJ7_fill_53178, Cond.initialized RJ7, Cond.code yJ7_fill_53178 cJ7_fill_53178 4 none, Cond.methodLink RX0 136 yX0_walkFrom, Cond.instanceMethod yX0_walkFrom]
def wsX0_joined_r2 : List Cond := [Cond.selects RX0 yX0_walkFrom yX0_walkFrom, Cond.code yX0_walkFrom cX0_walkFrom 4 none, Cond.fieldLink RX0 37 "LaneTrunks" "reachedPlaces" "[I", Cond.methodLink RX0 190 yX0_reach, Cond.instanceMethod yX0_reach, Cond.selects RX0 yX0_reach yX0_reach, Cond.code yX0_reach cX0_reach 3 none, Cond.methodLink RX0 78 yX0_put, Cond.static yX0_put, Cond.code yX0_put cX0_put 3 none, Cond.methodLink RX0 74 yX0_at, Cond.static yX0_at, Cond.code yX0_at cX0_at 2 (some .int), Cond.methodLink RX0 194 yX0_reachNeighbours, Cond.instanceMethod yX0_reachNeighbours, Cond.selects RX0 yX0_reachNeighbours yX0_reachNeighbours, Cond.code yX0_reachNeighbours cX0_reachNeighbours 5 none, Cond.methodLink RX0 197 yX0_placeBeyond, Cond.instanceMethod yX0_placeBeyond, Cond.selects RX0 yX0_placeBeyond yX0_placeBeyond, Cond.code yX0_placeBeyond cX0_placeBeyond 4 (some .int), Cond.fieldLink RX0 16 "LaneTrunks" "farSlot" "[I", Cond.methodLink RX0 116 yX0_hasLiveCable, Cond.instanceMethod yX0_hasLiveCable]
def wsX0_joined_r3 : List Cond := [Cond.selects RX0 yX0_hasLiveCable yX0_hasLiveCable, Cond.code yX0_hasLiveCable cX0_hasLiveCable 3 (some .boolean), Cond.fieldLink RX0 108 "LaneTrunks" "isTreeOn" "Z", Cond.fieldLink RX0 31 "LaneTrunks" "wayUpSlot" "[I", Cond.methodLink RX0 119 yX0_laneBeyond, Cond.instanceMethod yX0_laneBeyond, Cond.selects RX0 yX0_laneBeyond yX0_laneBeyond, Cond.code yX0_laneBeyond cX0_laneBeyond 5 (some .int), Cond.fieldLink RX0 9 "LaneTrunks" "untaggedLane" "[I", Cond.methodLink RX0 63 yX0_isTagged, Cond.instanceMethod yX0_isTagged, Cond.selects RX0 yX0_isTagged yX0_isTagged, Cond.code yX0_isTagged cX0_isTagged 3 (some .boolean), Cond.fieldLink RX0 13 "LaneTrunks" "taggedLanes" "[I"]
def wsX0_joined : List Cond := .code yX0_joined cX0_joined 4 (some .int) :: ((wsX0_joined_r1 ++ (wsX0_joined_r2 ++ wsX0_joined_r3)) ++ wsX00 ++ (vx_atS RX0 88 "java/lang/IllegalArgumentException" ["java/lang/RuntimeException", "java/lang/Exception"]).filter goodWord)
def wsX0_isUsed : List Cond := .code yX0_isUsed cX0_isUsed 5 (some .boolean) :: ([.fieldLink RX0 9 "LaneTrunks" "untaggedLane" "[I", .methodLink RX0 63 yX0_isTagged, .instanceMethod yX0_isTagged, .selects RX0 yX0_isTagged yX0_isTagged, .initialized RX0, .code yX0_isTagged cX0_isTagged 3 (some .boolean), .fieldLink RX0 13 "LaneTrunks" "taggedLanes" "[I", .methodLink RX0 74 yX0_at, .static yX0_at, .code yX0_at cX0_at 2 (some .int)] ++ wsX00)
def wsX0_islands_r1 : List Cond := [Cond.fieldLink RX0 34 "LaneTrunks" "steps" "[I", Cond.methodLink RX0 133 yX0_forgetWalks, Cond.instanceMethod yX0_forgetWalks, Cond.selects RX0 yX0_forgetWalks yX0_forgetWalks, Cond.initialized RX0, Cond.code yX0_forgetWalks cX0_forgetWalks 1 none, Cond.fieldLink RX0 143 "LaneTrunks" "reachedCount" "I", Cond.methodLink RX0 46 yJ7_fill_53178, Cond.static yJ7_fill_53178, Cond.initialized RJ7, Cond.code yJ7_fill_53178 cJ7_fill_53178 4 none, Cond.methodLink RX0 146 yX0_isUsed, Cond.instanceMethod yX0_isUsed, Cond.selects RX0 yX0_isUsed yX0_isUsed, Cond.code yX0_isUsed cX0_isUsed 5 (some .boolean), Cond.fieldLink RX0 9 "LaneTrunks" "untaggedLane" "[I", Cond.methodLink RX0 63 yX0_isTagged, Cond.instanceMethod yX0_isTagged, Cond.selects RX0 yX0_isTagged yX0_isTagged, Cond.code yX0_isTagged cX0_isTagged 3 (some .boolean), Cond.fieldLink RX0 13 "LaneTrunks" "taggedLanes" "[I", Cond.methodLink RX0 74 yX0_at, Cond.static yX0_at, Cond.code yX0_at cX0_at 2 (some .int)]
def wsX0_islands_r2 : List Cond := [Cond.methodLink RX0 136 yX0_walkFrom, Cond.instanceMethod yX0_walkFrom, Cond.selects RX0 yX0_walkFrom yX0_walkFrom, Cond.code yX0_walkFrom cX0_walkFrom 4 none, Cond.fieldLink RX0 37 "LaneTrunks" "reachedPlaces" "[I", Cond.methodLink RX0 190 yX0_reach, Cond.instanceMethod yX0_reach, Cond.selects RX0 yX0_reach yX0_reach, Cond.code yX0_reach cX0_reach 3 none, Cond.methodLink RX0 78 yX0_put, Cond.static yX0_put, Cond.code yX0_put cX0_put 3 none, Cond.methodLink RX0 194 yX0_reachNeighbours, Cond.instanceMethod yX0_reachNeighbours, Cond.selects RX0 yX0_reachNeighbours yX0_reachNeighbours, Cond.code yX0_reachNeighbours cX0_reachNeighbours 5 none, Cond.methodLink RX0 197 yX0_placeBeyond, Cond.instanceMethod yX0_placeBeyond, Cond.selects RX0 yX0_placeBeyond yX0_placeBeyond, Cond.code yX0_placeBeyond cX0_placeBeyond 4 (some .int), Cond.fieldLink RX0 16 "LaneTrunks" "farSlot" "[I", Cond.methodLink RX0 116 yX0_hasLiveCable, Cond.instanceMethod yX0_hasLiveCable, Cond.selects RX0 yX0_hasLiveCable yX0_hasLiveCable]
def wsX0_islands_r3 : List Cond := [Cond.code yX0_hasLiveCable cX0_hasLiveCable 3 (some .boolean), Cond.fieldLink RX0 108 "LaneTrunks" "isTreeOn" "Z", Cond.fieldLink RX0 31 "LaneTrunks" "wayUpSlot" "[I", Cond.methodLink RX0 119 yX0_laneBeyond, Cond.instanceMethod yX0_laneBeyond, Cond.selects RX0 yX0_laneBeyond yX0_laneBeyond, Cond.code yX0_laneBeyond cX0_laneBeyond 5 (some .int)]
def wsX0_islands : List Cond := .code yX0_islands cX0_islands 5 (some .int) :: ((wsX0_islands_r1 ++ (wsX0_islands_r2 ++ wsX0_islands_r3)) ++ wsX00)
def wsX0_waysOver : List Cond := .code yX0_waysOver cX0_waysOver 5 (some .int) :: ([.fieldLink RX0 13 "LaneTrunks" "taggedLanes" "[I", .fieldLink RX0 9 "LaneTrunks" "untaggedLane" "[I", .methodLink RX0 74 yX0_at, .static yX0_at, .initialized RX0, .code yX0_at cX0_at 2 (some .int), .methodLink RX0 122 yJ6_bitCount_0f7a4, .static yJ6_bitCount_0f7a4, .initialized RJ6, .code yJ6_bitCount_0f7a4 cJ6_bitCount_0f7a4 1 (some .int), .constant RJ6 265 (1431655765), .constant RJ6 266 (858993459), .constant RJ6 267 (252645135)] ++ wsX00)
def wsX0_countWays : List Cond := .code yX0_countWays cX0_countWays 3 (some .int) :: ([.fieldLink RX0 16 "LaneTrunks" "farSlot" "[I", .methodLink RX0 116 yX0_hasLiveCable, .instanceMethod yX0_hasLiveCable, .selects RX0 yX0_hasLiveCable yX0_hasLiveCable, .initialized RX0, .code yX0_hasLiveCable cX0_hasLiveCable 3 (some .boolean), .fieldLink RX0 108 "LaneTrunks" "isTreeOn" "Z", .fieldLink RX0 31 "LaneTrunks" "wayUpSlot" "[I", .methodLink RX0 74 yX0_at, .static yX0_at, .code yX0_at cX0_at 2 (some .int), .methodLink RX0 200 yX0_waysOver, .instanceMethod yX0_waysOver, .selects RX0 yX0_waysOver yX0_waysOver, .code yX0_waysOver cX0_waysOver 5 (some .int), .fieldLink RX0 13 "LaneTrunks" "taggedLanes" "[I", .fieldLink RX0 9 "LaneTrunks" "untaggedLane" "[I", .methodLink RX0 122 yJ6_bitCount_0f7a4, .static yJ6_bitCount_0f7a4, .initialized RJ6, .code yJ6_bitCount_0f7a4 cJ6_bitCount_0f7a4 1 (some .int), .constant RJ6 265 (1431655765), .constant RJ6 266 (858993459), .constant RJ6 267 (252645135)] ++ wsX00)
def wsX0_countUsedPlaces : List Cond := .code yX0_countUsedPlaces cX0_countUsedPlaces 4 (some .int) :: ([.methodLink RX0 146 yX0_isUsed, .instanceMethod yX0_isUsed, .selects RX0 yX0_isUsed yX0_isUsed, .initialized RX0, .code yX0_isUsed cX0_isUsed 5 (some .boolean), .fieldLink RX0 9 "LaneTrunks" "untaggedLane" "[I", .methodLink RX0 63 yX0_isTagged, .instanceMethod yX0_isTagged, .selects RX0 yX0_isTagged yX0_isTagged, .code yX0_isTagged cX0_isTagged 3 (some .boolean), .fieldLink RX0 13 "LaneTrunks" "taggedLanes" "[I", .methodLink RX0 74 yX0_at, .static yX0_at, .code yX0_at cX0_at 2 (some .int)] ++ wsX00)
def wsX0_loops_r1 : List Cond := [Cond.methodLink RX0 149 yX0_countWays, Cond.instanceMethod yX0_countWays, Cond.selects RX0 yX0_countWays yX0_countWays, Cond.initialized RX0, Cond.code yX0_countWays cX0_countWays 3 (some .int), Cond.fieldLink RX0 16 "LaneTrunks" "farSlot" "[I", Cond.methodLink RX0 116 yX0_hasLiveCable, Cond.instanceMethod yX0_hasLiveCable, Cond.selects RX0 yX0_hasLiveCable yX0_hasLiveCable, Cond.code yX0_hasLiveCable cX0_hasLiveCable 3 (some .boolean), Cond.fieldLink RX0 108 "LaneTrunks" "isTreeOn" "Z", Cond.fieldLink RX0 31 "LaneTrunks" "wayUpSlot" "[I", Cond.methodLink RX0 74 yX0_at, Cond.static yX0_at, Cond.code yX0_at cX0_at 2 (some .int), Cond.methodLink RX0 200 yX0_waysOver, Cond.instanceMethod yX0_waysOver, Cond.selects RX0 yX0_waysOver yX0_waysOver, Cond.code yX0_waysOver cX0_waysOver 5 (some .int), Cond.fieldLink RX0 13 "LaneTrunks" "taggedLanes" "[I", Cond.fieldLink RX0 9 "LaneTrunks" "untaggedLane" "[I", Cond.methodLink RX0 122 yJ6_bitCount_0f7a4, Cond.static yJ6_bitCount_0f7a4, Cond.initialized RJ6]
def wsX0_loops_r2 : List Cond := [Cond.code yJ6_bitCount_0f7a4 cJ6_bitCount_0f7a4 1 (some .int), Cond.constant RJ6 265 (1431655765), Cond.constant RJ6 266 (858993459), Cond.constant RJ6 267 (252645135), Cond.methodLink RX0 153 yX0_countUsedPlaces, Cond.instanceMethod yX0_countUsedPlaces, Cond.selects RX0 yX0_countUsedPlaces yX0_countUsedPlaces, Cond.code yX0_countUsedPlaces cX0_countUsedPlaces 4 (some .int), Cond.methodLink RX0 146 yX0_isUsed, Cond.instanceMethod yX0_isUsed, Cond.selects RX0 yX0_isUsed yX0_isUsed, Cond.code yX0_isUsed cX0_isUsed 5 (some .boolean), Cond.methodLink RX0 63 yX0_isTagged, Cond.instanceMethod yX0_isTagged, Cond.selects RX0 yX0_isTagged yX0_isTagged, Cond.code yX0_isTagged cX0_isTagged 3 (some .boolean), Cond.methodLink RX0 156 yX0_islands, Cond.instanceMethod yX0_islands, Cond.selects RX0 yX0_islands yX0_islands, Cond.code yX0_islands cX0_islands 5 (some .int), Cond.fieldLink RX0 34 "LaneTrunks" "steps" "[I", Cond.methodLink RX0 133 yX0_forgetWalks, Cond.instanceMethod yX0_forgetWalks, Cond.selects RX0 yX0_forgetWalks yX0_forgetWalks]
def wsX0_loops_r3 : List Cond := [Cond.code yX0_forgetWalks cX0_forgetWalks 1 none, Cond.fieldLink RX0 143 "LaneTrunks" "reachedCount" "I", Cond.methodLink RX0 46 yJ7_fill_53178, Cond.static yJ7_fill_53178, Cond.initialized RJ7, Cond.code yJ7_fill_53178 cJ7_fill_53178 4 none, Cond.methodLink RX0 136 yX0_walkFrom, Cond.instanceMethod yX0_walkFrom, Cond.selects RX0 yX0_walkFrom yX0_walkFrom, Cond.code yX0_walkFrom cX0_walkFrom 4 none, Cond.fieldLink RX0 37 "LaneTrunks" "reachedPlaces" "[I", Cond.methodLink RX0 190 yX0_reach, Cond.instanceMethod yX0_reach, Cond.selects RX0 yX0_reach yX0_reach, Cond.code yX0_reach cX0_reach 3 none, Cond.methodLink RX0 78 yX0_put, Cond.static yX0_put, Cond.code yX0_put cX0_put 3 none, Cond.methodLink RX0 194 yX0_reachNeighbours, Cond.instanceMethod yX0_reachNeighbours, Cond.selects RX0 yX0_reachNeighbours yX0_reachNeighbours, Cond.code yX0_reachNeighbours cX0_reachNeighbours 5 none, Cond.methodLink RX0 197 yX0_placeBeyond, Cond.instanceMethod yX0_placeBeyond]
def wsX0_loops_r4 : List Cond := [Cond.selects RX0 yX0_placeBeyond yX0_placeBeyond, Cond.code yX0_placeBeyond cX0_placeBeyond 4 (some .int), Cond.methodLink RX0 119 yX0_laneBeyond, Cond.instanceMethod yX0_laneBeyond, Cond.selects RX0 yX0_laneBeyond yX0_laneBeyond, Cond.code yX0_laneBeyond cX0_laneBeyond 5 (some .int)]
def wsX0_loops : List Cond := .code yX0_loops cX0_loops 1 (some .int) :: ((wsX0_loops_r1 ++ (wsX0_loops_r2 ++ (wsX0_loops_r3 ++ wsX0_loops_r4))) ++ wsX00)
def wsX0_changesOver : List Cond := .code yX0_changesOver cX0_changesOver 6 (some .int) :: ([.fieldLink RX0 16 "LaneTrunks" "farSlot" "[I", .fieldLink RX0 9 "LaneTrunks" "untaggedLane" "[I", .methodLink RX0 116 yX0_hasLiveCable, .instanceMethod yX0_hasLiveCable, .selects RX0 yX0_hasLiveCable yX0_hasLiveCable, .initialized RX0, .code yX0_hasLiveCable cX0_hasLiveCable 3 (some .boolean), .fieldLink RX0 108 "LaneTrunks" "isTreeOn" "Z", .fieldLink RX0 31 "LaneTrunks" "wayUpSlot" "[I", .methodLink RX0 74 yX0_at, .static yX0_at, .code yX0_at cX0_at 2 (some .int), .methodLink RX0 63 yX0_isTagged, .instanceMethod yX0_isTagged, .selects RX0 yX0_isTagged yX0_isTagged, .code yX0_isTagged cX0_isTagged 3 (some .boolean), .fieldLink RX0 13 "LaneTrunks" "taggedLanes" "[I"] ++ wsX00)
def wsX0_changes_r1 : List Cond := [Cond.fieldLink RX0 9 "LaneTrunks" "untaggedLane" "[I", Cond.fieldLink RX0 40 "LaneTrunks" "weights" "[I", Cond.fieldLink RX0 43 "LaneTrunks" "sums" "[I", Cond.methodLink RX0 55 yX0_slotOf, Cond.static yX0_slotOf, Cond.initialized RX0, Cond.code yX0_slotOf cX0_slotOf 2 (some .int), Cond.classLink RX0 84 "java/lang/IllegalArgumentException", Cond.initialized "java/lang/IllegalArgumentException", Cond.methodLink RX0 127 yX0_checkUnit, Cond.static yX0_checkUnit, Cond.code yX0_checkUnit cX0_checkUnit 1 none, Cond.methodLink RX0 74 yX0_at, Cond.static yX0_at, Cond.code yX0_at cX0_at 2 (some .int), Cond.methodLink RX0 159 yX0_changesOver, Cond.instanceMethod yX0_changesOver, Cond.selects RX0 yX0_changesOver yX0_changesOver, Cond.code yX0_changesOver cX0_changesOver 6 (some .int), Cond.fieldLink RX0 16 "LaneTrunks" "farSlot" "[I", Cond.methodLink RX0 116 yX0_hasLiveCable, Cond.instanceMethod yX0_hasLiveCable, Cond.selects RX0 yX0_hasLiveCable yX0_hasLiveCable, Cond.code yX0_hasLiveCable cX0_hasLiveCable 3 (some .boolean)]
def wsX0_changes_r2 : List Cond := [Cond.fieldLink RX0 108 "LaneTrunks" "isTreeOn" "Z", Cond.fieldLink RX0 31 "LaneTrunks" "wayUpSlot" "[I", Cond.methodLink RX0 63 yX0_isTagged, Cond.instanceMethod yX0_isTagged, Cond.selects RX0 yX0_isTagged yX0_isTagged, Cond.code yX0_isTagged cX0_isTagged 3 (some .boolean), Cond.fieldLink RX0 13 "LaneTrunks" "taggedLanes" "[I", Cond.methodLink RX0 78 yX0_put, Cond.static yX0_put, Cond.code yX0_put cX0_put 3 none, Cond.methodLink RX0 46 yJ7_fill_53178, Cond.static yJ7_fill_53178, Cond.initialized RJ7, Cond.code yJ7_fill_53178 cJ7_fill_53178 4 none, Cond.methodLink RX0 162 yX0_leastSums, Cond.instanceMethod yX0_leastSums, Cond.selects RX0 yX0_leastSums yX0_leastSums, Cond.code yX0_leastSums cX0_leastSums 5 none, Cond.methodLink RX0 186 yX0_lowerSum, Cond.instanceMethod yX0_lowerSum, Cond.selects RX0 yX0_lowerSum yX0_lowerSum, Cond.code yX0_lowerSum cX0_lowerSum 7 none]
def wsX0_changes : List Cond := .code yX0_changes cX0_changes 8 (some .int) :: ((wsX0_changes_r1 ++ wsX0_changes_r2) ++ wsX00 ++ (vx_atS RX0 88 "java/lang/IllegalArgumentException" ["java/lang/RuntimeException", "java/lang/Exception"]).filter goodWord)
def wsX1_init : List Cond := .code yX1_init cX1_init 2 none :: ([.methodLink RX1 1 objectInit, .instanceMethod objectInit, .code objectInit ⟨#[0xb1]⟩ 1 none, .arrayClass .int, .fieldLink RX1 7 "LaneTrunksModel" "untagged" "[I", .fieldLink RX1 13 "LaneTrunksModel" "tagged" "[I", .fieldLink RX1 16 "LaneTrunksModel" "ends" "[I", .fieldLink RX1 19 "LaneTrunksModel" "costs" "[I", .fieldLink RX1 22 "LaneTrunksModel" "books" "[I", .fieldLink RX1 25 "LaneTrunksModel" "roots" "[I", .fieldLink RX1 28 "LaneTrunksModel" "ways" "[I", .fieldLink RX1 31 "LaneTrunksModel" "sums" "[I", .fieldLink RX1 34 "LaneTrunksModel" "steps" "[I", .fieldLink RX1 37 "LaneTrunksModel" "queue" "[I", .fieldLink RX1 40 "LaneTrunksModel" "fewest" "[I"] ++ wsX10)
def wsX1_thrown : List Cond := .code yX1_thrown cX1_thrown 1 (some .int) :: ([.fieldLink RX1 43 "LaneTrunksModel" "thrown" "I"] ++ wsX10)
def wsX1_in : List Cond := .code yX1_in cX1_in 3 (some .boolean) :: ([])
def wsX1_isPort : List Cond := .code yX1_isPort cX1_isPort 2 (some .boolean) :: ([.methodLink RX1 47 yX1_in, .static yX1_in, .initialized RX1, .code yX1_in cX1_in 3 (some .boolean)])
def wsX1_isPlace : List Cond := .code yX1_isPlace cX1_isPlace 2 (some .boolean) :: ([.methodLink RX1 47 yX1_in, .static yX1_in, .initialized RX1, .code yX1_in cX1_in 3 (some .boolean)])
def wsX1_isTagged : List Cond := .code yX1_isTagged cX1_isTagged 3 (some .boolean) :: ([.fieldLink RX1 13 "LaneTrunksModel" "tagged" "[I"] ++ wsX10)
def wsX1_untag : List Cond := .code yX1_untag cX1_untag 6 (some .int) :: ([.fieldLink RX1 43 "LaneTrunksModel" "thrown" "I", .fieldLink RX1 7 "LaneTrunksModel" "untagged" "[I", .methodLink RX1 51 yX1_isPort, .static yX1_isPort, .initialized RX1, .code yX1_isPort cX1_isPort 2 (some .boolean), .methodLink RX1 47 yX1_in, .static yX1_in, .code yX1_in cX1_in 3 (some .boolean), .methodLink RX1 55 yX1_isTagged, .instanceMethod yX1_isTagged, .selects RX1 yX1_isTagged yX1_isTagged, .code yX1_isTagged cX1_isTagged 3 (some .boolean), .fieldLink RX1 13 "LaneTrunksModel" "tagged" "[I"] ++ wsX10)
def wsX1_tag : List Cond := .code yX1_tag cX1_tag 7 (some .boolean) :: ([.fieldLink RX1 7 "LaneTrunksModel" "untagged" "[I", .fieldLink RX1 43 "LaneTrunksModel" "thrown" "I", .fieldLink RX1 13 "LaneTrunksModel" "tagged" "[I", .methodLink RX1 51 yX1_isPort, .static yX1_isPort, .initialized RX1, .code yX1_isPort cX1_isPort 2 (some .boolean), .methodLink RX1 47 yX1_in, .static yX1_in, .code yX1_in cX1_in 3 (some .boolean), .methodLink RX1 58 yX1_isPlace, .static yX1_isPlace, .code yX1_isPlace cX1_isPlace 2 (some .boolean), .methodLink RX1 55 yX1_isTagged, .instanceMethod yX1_isTagged, .selects RX1 yX1_isTagged yX1_isTagged, .code yX1_isTagged cX1_isTagged 3 (some .boolean)] ++ wsX10)
def wsX1_cable : List Cond := .code yX1_cable cX1_cable 8 (some .int) :: ([.fieldLink RX1 16 "LaneTrunksModel" "ends" "[I", .fieldLink RX1 43 "LaneTrunksModel" "thrown" "I", .fieldLink RX1 19 "LaneTrunksModel" "costs" "[I", .fieldLink RX1 61 "LaneTrunksModel" "cableMany" "I", .methodLink RX1 51 yX1_isPort, .static yX1_isPort, .initialized RX1, .code yX1_isPort cX1_isPort 2 (some .boolean), .methodLink RX1 47 yX1_in, .static yX1_in, .code yX1_in cX1_in 3 (some .boolean)] ++ wsX10)
def wsX1_hasCable : List Cond := .code yX1_hasCable cX1_hasCable 3 (some .boolean) :: ([.fieldLink RX1 16 "LaneTrunksModel" "ends" "[I", .fieldLink RX1 43 "LaneTrunksModel" "thrown" "I", .methodLink RX1 51 yX1_isPort, .static yX1_isPort, .initialized RX1, .code yX1_isPort cX1_isPort 2 (some .boolean), .methodLink RX1 47 yX1_in, .static yX1_in, .code yX1_in cX1_in 3 (some .boolean)] ++ wsX10)
def wsX1_pull : List Cond := .code yX1_pull cX1_pull 4 (some .int) :: ([.fieldLink RX1 16 "LaneTrunksModel" "ends" "[I", .fieldLink RX1 61 "LaneTrunksModel" "cableMany" "I", .fieldLink RX1 19 "LaneTrunksModel" "costs" "[I", .methodLink RX1 64 yX1_hasCable, .instanceMethod yX1_hasCable, .selects RX1 yX1_hasCable yX1_hasCable, .initialized RX1, .code yX1_hasCable cX1_hasCable 3 (some .boolean), .fieldLink RX1 43 "LaneTrunksModel" "thrown" "I", .methodLink RX1 51 yX1_isPort, .static yX1_isPort, .code yX1_isPort cX1_isPort 2 (some .boolean), .methodLink RX1 47 yX1_in, .static yX1_in, .code yX1_in cX1_in 3 (some .boolean)] ++ wsX10)
def wsX1_tree : List Cond := .code yX1_tree cX1_tree 3 (some .boolean) :: ([.fieldLink RX1 43 "LaneTrunksModel" "thrown" "I", .fieldLink RX1 67 "LaneTrunksModel" "isTree" "Z"] ++ wsX10)
def wsX1_note : List Cond := .code yX1_note cX1_note 7 (some .boolean) :: ([.fieldLink RX1 43 "LaneTrunksModel" "thrown" "I", .fieldLink RX1 22 "LaneTrunksModel" "books" "[I", .methodLink RX1 51 yX1_isPort, .static yX1_isPort, .initialized RX1, .code yX1_isPort cX1_isPort 2 (some .boolean), .methodLink RX1 47 yX1_in, .static yX1_in, .code yX1_in cX1_in 3 (some .boolean)] ++ wsX10)
def wsX1_layTree : List Cond := .code yX1_layTree cX1_layTree 5 none :: ([.fieldLink RX1 25 "LaneTrunksModel" "roots" "[I", .fieldLink RX1 16 "LaneTrunksModel" "ends" "[I", .fieldLink RX1 31 "LaneTrunksModel" "sums" "[I", .constant RX1 71 (1000000), .fieldLink RX1 19 "LaneTrunksModel" "costs" "[I", .fieldLink RX1 28 "LaneTrunksModel" "ways" "[I"] ++ wsX10)
def wsX1_isLive : List Cond := .code yX1_isLive cX1_isLive 2 (some .boolean) :: ([.fieldLink RX1 16 "LaneTrunksModel" "ends" "[I", .fieldLink RX1 67 "LaneTrunksModel" "isTree" "Z", .fieldLink RX1 28 "LaneTrunksModel" "ways" "[I"] ++ wsX10)
def wsX1_far : List Cond := .code yX1_far cX1_far 4 (some .int) :: ([.fieldLink RX1 43 "LaneTrunksModel" "thrown" "I", .fieldLink RX1 16 "LaneTrunksModel" "ends" "[I", .methodLink RX1 51 yX1_isPort, .static yX1_isPort, .initialized RX1, .code yX1_isPort cX1_isPort 2 (some .boolean), .methodLink RX1 47 yX1_in, .static yX1_in, .code yX1_in cX1_in 3 (some .boolean)] ++ wsX10)
def wsX1_isOn_r1 : List Cond := [Cond.methodLink RX1 64 yX1_hasCable, Cond.instanceMethod yX1_hasCable, Cond.selects RX1 yX1_hasCable yX1_hasCable, Cond.initialized RX1, Cond.code yX1_hasCable cX1_hasCable 3 (some .boolean), Cond.fieldLink RX1 16 "LaneTrunksModel" "ends" "[I", Cond.fieldLink RX1 43 "LaneTrunksModel" "thrown" "I", Cond.methodLink RX1 51 yX1_isPort, Cond.static yX1_isPort, Cond.code yX1_isPort cX1_isPort 2 (some .boolean), Cond.methodLink RX1 47 yX1_in, Cond.static yX1_in, Cond.code yX1_in cX1_in 3 (some .boolean), Cond.methodLink RX1 72 yX1_layTree, Cond.instanceMethod yX1_layTree, Cond.selects RX1 yX1_layTree yX1_layTree, Cond.code yX1_layTree cX1_layTree 5 none, Cond.fieldLink RX1 25 "LaneTrunksModel" "roots" "[I", Cond.fieldLink RX1 31 "LaneTrunksModel" "sums" "[I", Cond.constant RX1 71 (1000000), Cond.fieldLink RX1 19 "LaneTrunksModel" "costs" "[I", Cond.fieldLink RX1 28 "LaneTrunksModel" "ways" "[I", Cond.methodLink RX1 75 yX1_isLive, Cond.instanceMethod yX1_isLive]
def wsX1_isOn_r2 : List Cond := [Cond.selects RX1 yX1_isLive yX1_isLive, Cond.code yX1_isLive cX1_isLive 2 (some .boolean), Cond.fieldLink RX1 67 "LaneTrunksModel" "isTree" "Z"]
def wsX1_isOn : List Cond := .code yX1_isOn cX1_isOn 3 (some .boolean) :: ((wsX1_isOn_r1 ++ wsX1_isOn_r2) ++ wsX10)
def wsX1_carried : List Cond := .code yX1_carried cX1_carried 4 (some .int) :: ([.fieldLink RX1 16 "LaneTrunksModel" "ends" "[I", .fieldLink RX1 7 "LaneTrunksModel" "untagged" "[I", .methodLink RX1 55 yX1_isTagged, .instanceMethod yX1_isTagged, .selects RX1 yX1_isTagged yX1_isTagged, .initialized RX1, .code yX1_isTagged cX1_isTagged 3 (some .boolean), .fieldLink RX1 13 "LaneTrunksModel" "tagged" "[I"] ++ wsX10)
def wsX1_comesAs_r1 : List Cond := [Cond.fieldLink RX1 43 "LaneTrunksModel" "thrown" "I", Cond.methodLink RX1 51 yX1_isPort, Cond.static yX1_isPort, Cond.initialized RX1, Cond.code yX1_isPort cX1_isPort 2 (some .boolean), Cond.methodLink RX1 47 yX1_in, Cond.static yX1_in, Cond.code yX1_in cX1_in 3 (some .boolean), Cond.methodLink RX1 58 yX1_isPlace, Cond.static yX1_isPlace, Cond.code yX1_isPlace cX1_isPlace 2 (some .boolean), Cond.methodLink RX1 64 yX1_hasCable, Cond.instanceMethod yX1_hasCable, Cond.selects RX1 yX1_hasCable yX1_hasCable, Cond.code yX1_hasCable cX1_hasCable 3 (some .boolean), Cond.fieldLink RX1 16 "LaneTrunksModel" "ends" "[I", Cond.methodLink RX1 79 yX1_carried, Cond.instanceMethod yX1_carried, Cond.selects RX1 yX1_carried yX1_carried, Cond.code yX1_carried cX1_carried 4 (some .int), Cond.fieldLink RX1 7 "LaneTrunksModel" "untagged" "[I", Cond.methodLink RX1 55 yX1_isTagged, Cond.instanceMethod yX1_isTagged, Cond.selects RX1 yX1_isTagged yX1_isTagged]
def wsX1_comesAs_r2 : List Cond := [Cond.code yX1_isTagged cX1_isTagged 3 (some .boolean), Cond.fieldLink RX1 13 "LaneTrunksModel" "tagged" "[I"]
def wsX1_comesAs : List Cond := .code yX1_comesAs cX1_comesAs 4 (some .int) :: ((wsX1_comesAs_r1 ++ wsX1_comesAs_r2) ++ wsX10)
def wsX1_bits : List Cond := .code yX1_bits cX1_bits 3 (some .int) :: ([])
def wsX1_oneSided : List Cond := .code yX1_oneSided cX1_oneSided 4 (some .int) :: ([.fieldLink RX1 13 "LaneTrunksModel" "tagged" "[I", .fieldLink RX1 16 "LaneTrunksModel" "ends" "[I", .methodLink RX1 64 yX1_hasCable, .instanceMethod yX1_hasCable, .selects RX1 yX1_hasCable yX1_hasCable, .initialized RX1, .code yX1_hasCable cX1_hasCable 3 (some .boolean), .fieldLink RX1 43 "LaneTrunksModel" "thrown" "I", .methodLink RX1 51 yX1_isPort, .static yX1_isPort, .code yX1_isPort cX1_isPort 2 (some .boolean), .methodLink RX1 47 yX1_in, .static yX1_in, .code yX1_in cX1_in 3 (some .boolean), .methodLink RX1 83 yX1_bits, .static yX1_bits, .code yX1_bits cX1_bits 3 (some .int)] ++ wsX10)
def wsX1_wrong : List Cond := .code yX1_wrong cX1_wrong 3 (some .int) :: ([.fieldLink RX1 43 "LaneTrunksModel" "thrown" "I", .fieldLink RX1 22 "LaneTrunksModel" "books" "[I", .fieldLink RX1 16 "LaneTrunksModel" "ends" "[I"] ++ wsX10)
def wsX1_asksFor : List Cond := .code yX1_asksFor cX1_asksFor 2 (some .boolean) :: ([.fieldLink RX1 43 "LaneTrunksModel" "thrown" "I", .methodLink RX1 47 yX1_in, .static yX1_in, .initialized RX1, .code yX1_in cX1_in 3 (some .boolean), .methodLink RX1 72 yX1_layTree, .instanceMethod yX1_layTree, .selects RX1 yX1_layTree yX1_layTree, .code yX1_layTree cX1_layTree 5 none, .fieldLink RX1 25 "LaneTrunksModel" "roots" "[I", .fieldLink RX1 16 "LaneTrunksModel" "ends" "[I", .fieldLink RX1 31 "LaneTrunksModel" "sums" "[I", .constant RX1 71 (1000000), .fieldLink RX1 19 "LaneTrunksModel" "costs" "[I", .fieldLink RX1 28 "LaneTrunksModel" "ways" "[I"] ++ wsX10)
def wsX1_root : List Cond := .code yX1_root cX1_root 2 (some .int) :: ([.fieldLink RX1 25 "LaneTrunksModel" "roots" "[I", .methodLink RX1 87 yX1_asksFor, .instanceMethod yX1_asksFor, .selects RX1 yX1_asksFor yX1_asksFor, .initialized RX1, .code yX1_asksFor cX1_asksFor 2 (some .boolean), .fieldLink RX1 43 "LaneTrunksModel" "thrown" "I", .methodLink RX1 47 yX1_in, .static yX1_in, .code yX1_in cX1_in 3 (some .boolean), .methodLink RX1 72 yX1_layTree, .instanceMethod yX1_layTree, .selects RX1 yX1_layTree yX1_layTree, .code yX1_layTree cX1_layTree 5 none, .fieldLink RX1 16 "LaneTrunksModel" "ends" "[I", .fieldLink RX1 31 "LaneTrunksModel" "sums" "[I", .constant RX1 71 (1000000), .fieldLink RX1 19 "LaneTrunksModel" "costs" "[I", .fieldLink RX1 28 "LaneTrunksModel" "ways" "[I"] ++ wsX10)
def wsX1_costOf : List Cond := .code yX1_costOf cX1_costOf 2 (some .int) :: ([.fieldLink RX1 31 "LaneTrunksModel" "sums" "[I", .methodLink RX1 87 yX1_asksFor, .instanceMethod yX1_asksFor, .selects RX1 yX1_asksFor yX1_asksFor, .initialized RX1, .code yX1_asksFor cX1_asksFor 2 (some .boolean), .fieldLink RX1 43 "LaneTrunksModel" "thrown" "I", .methodLink RX1 47 yX1_in, .static yX1_in, .code yX1_in cX1_in 3 (some .boolean), .methodLink RX1 72 yX1_layTree, .instanceMethod yX1_layTree, .selects RX1 yX1_layTree yX1_layTree, .code yX1_layTree cX1_layTree 5 none, .fieldLink RX1 25 "LaneTrunksModel" "roots" "[I", .fieldLink RX1 16 "LaneTrunksModel" "ends" "[I", .constant RX1 71 (1000000), .fieldLink RX1 19 "LaneTrunksModel" "costs" "[I", .fieldLink RX1 28 "LaneTrunksModel" "ways" "[I"] ++ wsX10)
def wsX1_wayUp : List Cond := .code yX1_wayUp cX1_wayUp 2 (some .int) :: ([.fieldLink RX1 28 "LaneTrunksModel" "ways" "[I", .methodLink RX1 87 yX1_asksFor, .instanceMethod yX1_asksFor, .selects RX1 yX1_asksFor yX1_asksFor, .initialized RX1, .code yX1_asksFor cX1_asksFor 2 (some .boolean), .fieldLink RX1 43 "LaneTrunksModel" "thrown" "I", .methodLink RX1 47 yX1_in, .static yX1_in, .code yX1_in cX1_in 3 (some .boolean), .methodLink RX1 72 yX1_layTree, .instanceMethod yX1_layTree, .selects RX1 yX1_layTree yX1_layTree, .code yX1_layTree cX1_layTree 5 none, .fieldLink RX1 25 "LaneTrunksModel" "roots" "[I", .fieldLink RX1 16 "LaneTrunksModel" "ends" "[I", .fieldLink RX1 31 "LaneTrunksModel" "sums" "[I", .constant RX1 71 (1000000), .fieldLink RX1 19 "LaneTrunksModel" "costs" "[I"] ++ wsX10)
def wsX1_place : List Cond := .code yX1_place cX1_place 2 (some .int) :: ([])
def wsX1_spread_r1 : List Cond := [Cond.fieldLink RX1 34 "LaneTrunksModel" "steps" "[I", Cond.fieldLink RX1 37 "LaneTrunksModel" "queue" "[I", Cond.fieldLink RX1 90 "LaneTrunksModel" "queued" "I", Cond.fieldLink RX1 16 "LaneTrunksModel" "ends" "[I", Cond.methodLink RX1 72 yX1_layTree, Cond.instanceMethod yX1_layTree, Cond.selects RX1 yX1_layTree yX1_layTree, Cond.initialized RX1, Cond.code yX1_layTree cX1_layTree 5 none, Cond.fieldLink RX1 25 "LaneTrunksModel" "roots" "[I", Cond.fieldLink RX1 31 "LaneTrunksModel" "sums" "[I", Cond.constant RX1 71 (1000000), Cond.fieldLink RX1 19 "LaneTrunksModel" "costs" "[I", Cond.fieldLink RX1 28 "LaneTrunksModel" "ways" "[I", Cond.methodLink RX1 75 yX1_isLive, Cond.instanceMethod yX1_isLive, Cond.selects RX1 yX1_isLive yX1_isLive, Cond.code yX1_isLive cX1_isLive 2 (some .boolean), Cond.fieldLink RX1 67 "LaneTrunksModel" "isTree" "Z", Cond.methodLink RX1 79 yX1_carried, Cond.instanceMethod yX1_carried, Cond.selects RX1 yX1_carried yX1_carried, Cond.code yX1_carried cX1_carried 4 (some .int), Cond.fieldLink RX1 7 "LaneTrunksModel" "untagged" "[I"]
def wsX1_spread_r2 : List Cond := [Cond.methodLink RX1 55 yX1_isTagged, Cond.instanceMethod yX1_isTagged, Cond.selects RX1 yX1_isTagged yX1_isTagged, Cond.code yX1_isTagged cX1_isTagged 3 (some .boolean), Cond.fieldLink RX1 13 "LaneTrunksModel" "tagged" "[I", Cond.methodLink RX1 93 yX1_place, Cond.static yX1_place, Cond.code yX1_place cX1_place 2 (some .int)]
def wsX1_spread : List Cond := .code yX1_spread cX1_spread 7 none :: ((wsX1_spread_r1 ++ wsX1_spread_r2) ++ wsX10)
def wsX1_hops_r1 : List Cond := [Cond.fieldLink RX1 43 "LaneTrunksModel" "thrown" "I", Cond.fieldLink RX1 34 "LaneTrunksModel" "steps" "[I", Cond.methodLink RX1 58 yX1_isPlace, Cond.static yX1_isPlace, Cond.initialized RX1, Cond.code yX1_isPlace cX1_isPlace 2 (some .boolean), Cond.methodLink RX1 47 yX1_in, Cond.static yX1_in, Cond.code yX1_in cX1_in 3 (some .boolean), Cond.methodLink RX1 93 yX1_place, Cond.static yX1_place, Cond.code yX1_place cX1_place 2 (some .int), Cond.methodLink RX1 96 yX1_spread, Cond.instanceMethod yX1_spread, Cond.selects RX1 yX1_spread yX1_spread, Cond.code yX1_spread cX1_spread 7 none, Cond.fieldLink RX1 37 "LaneTrunksModel" "queue" "[I", Cond.fieldLink RX1 90 "LaneTrunksModel" "queued" "I", Cond.fieldLink RX1 16 "LaneTrunksModel" "ends" "[I", Cond.methodLink RX1 72 yX1_layTree, Cond.instanceMethod yX1_layTree, Cond.selects RX1 yX1_layTree yX1_layTree, Cond.code yX1_layTree cX1_layTree 5 none, Cond.fieldLink RX1 25 "LaneTrunksModel" "roots" "[I"]
def wsX1_hops_r2 : List Cond := [Cond.fieldLink RX1 31 "LaneTrunksModel" "sums" "[I", Cond.constant RX1 71 (1000000), Cond.fieldLink RX1 19 "LaneTrunksModel" "costs" "[I", Cond.fieldLink RX1 28 "LaneTrunksModel" "ways" "[I", Cond.methodLink RX1 75 yX1_isLive, Cond.instanceMethod yX1_isLive, Cond.selects RX1 yX1_isLive yX1_isLive, Cond.code yX1_isLive cX1_isLive 2 (some .boolean), Cond.fieldLink RX1 67 "LaneTrunksModel" "isTree" "Z", Cond.methodLink RX1 79 yX1_carried, Cond.instanceMethod yX1_carried, Cond.selects RX1 yX1_carried yX1_carried, Cond.code yX1_carried cX1_carried 4 (some .int), Cond.fieldLink RX1 7 "LaneTrunksModel" "untagged" "[I", Cond.methodLink RX1 55 yX1_isTagged, Cond.instanceMethod yX1_isTagged, Cond.selects RX1 yX1_isTagged yX1_isTagged, Cond.code yX1_isTagged cX1_isTagged 3 (some .boolean), Cond.fieldLink RX1 13 "LaneTrunksModel" "tagged" "[I"]
def wsX1_hops : List Cond := .code yX1_hops cX1_hops 5 (some .int) :: ((wsX1_hops_r1 ++ wsX1_hops_r2) ++ wsX10)
def wsX1_meet_r1 : List Cond := [Cond.fieldLink RX1 43 "LaneTrunksModel" "thrown" "I", Cond.fieldLink RX1 7 "LaneTrunksModel" "untagged" "[I", Cond.fieldLink RX1 34 "LaneTrunksModel" "steps" "[I", Cond.methodLink RX1 51 yX1_isPort, Cond.static yX1_isPort, Cond.initialized RX1, Cond.code yX1_isPort cX1_isPort 2 (some .boolean), Cond.methodLink RX1 47 yX1_in, Cond.static yX1_in, Cond.code yX1_in cX1_in 3 (some .boolean), Cond.methodLink RX1 93 yX1_place, Cond.static yX1_place, Cond.code yX1_place cX1_place 2 (some .int), Cond.methodLink RX1 96 yX1_spread, Cond.instanceMethod yX1_spread, Cond.selects RX1 yX1_spread yX1_spread, Cond.code yX1_spread cX1_spread 7 none, Cond.fieldLink RX1 37 "LaneTrunksModel" "queue" "[I", Cond.fieldLink RX1 90 "LaneTrunksModel" "queued" "I", Cond.fieldLink RX1 16 "LaneTrunksModel" "ends" "[I", Cond.methodLink RX1 72 yX1_layTree, Cond.instanceMethod yX1_layTree, Cond.selects RX1 yX1_layTree yX1_layTree, Cond.code yX1_layTree cX1_layTree 5 none]
def wsX1_meet_r2 : List Cond := [Cond.fieldLink RX1 25 "LaneTrunksModel" "roots" "[I", Cond.fieldLink RX1 31 "LaneTrunksModel" "sums" "[I", Cond.constant RX1 71 (1000000), Cond.fieldLink RX1 19 "LaneTrunksModel" "costs" "[I", Cond.fieldLink RX1 28 "LaneTrunksModel" "ways" "[I", Cond.methodLink RX1 75 yX1_isLive, Cond.instanceMethod yX1_isLive, Cond.selects RX1 yX1_isLive yX1_isLive, Cond.code yX1_isLive cX1_isLive 2 (some .boolean), Cond.fieldLink RX1 67 "LaneTrunksModel" "isTree" "Z", Cond.methodLink RX1 79 yX1_carried, Cond.instanceMethod yX1_carried, Cond.selects RX1 yX1_carried yX1_carried, Cond.code yX1_carried cX1_carried 4 (some .int), Cond.methodLink RX1 55 yX1_isTagged, Cond.instanceMethod yX1_isTagged, Cond.selects RX1 yX1_isTagged yX1_isTagged, Cond.code yX1_isTagged cX1_isTagged 3 (some .boolean), Cond.fieldLink RX1 13 "LaneTrunksModel" "tagged" "[I"]
def wsX1_meet : List Cond := .code yX1_meet cX1_meet 7 (some .boolean) :: ((wsX1_meet_r1 ++ wsX1_meet_r2) ++ wsX10)
def wsX1_joined_r1 : List Cond := [Cond.fieldLink RX1 43 "LaneTrunksModel" "thrown" "I", Cond.fieldLink RX1 90 "LaneTrunksModel" "queued" "I", Cond.methodLink RX1 58 yX1_isPlace, Cond.static yX1_isPlace, Cond.initialized RX1, Cond.code yX1_isPlace cX1_isPlace 2 (some .boolean), Cond.methodLink RX1 47 yX1_in, Cond.static yX1_in, Cond.code yX1_in cX1_in 3 (some .boolean), Cond.methodLink RX1 93 yX1_place, Cond.static yX1_place, Cond.code yX1_place cX1_place 2 (some .int), Cond.methodLink RX1 96 yX1_spread, Cond.instanceMethod yX1_spread, Cond.selects RX1 yX1_spread yX1_spread, Cond.code yX1_spread cX1_spread 7 none, Cond.fieldLink RX1 34 "LaneTrunksModel" "steps" "[I", Cond.fieldLink RX1 37 "LaneTrunksModel" "queue" "[I", Cond.fieldLink RX1 16 "LaneTrunksModel" "ends" "[I", Cond.methodLink RX1 72 yX1_layTree, Cond.instanceMethod yX1_layTree, Cond.selects RX1 yX1_layTree yX1_layTree, Cond.code yX1_layTree cX1_layTree 5 none, Cond.fieldLink RX1 25 "LaneTrunksModel" "roots" "[I"]
def wsX1_joined_r2 : List Cond := [Cond.fieldLink RX1 31 "LaneTrunksModel" "sums" "[I", Cond.constant RX1 71 (1000000), Cond.fieldLink RX1 19 "LaneTrunksModel" "costs" "[I", Cond.fieldLink RX1 28 "LaneTrunksModel" "ways" "[I", Cond.methodLink RX1 75 yX1_isLive, Cond.instanceMethod yX1_isLive, Cond.selects RX1 yX1_isLive yX1_isLive, Cond.code yX1_isLive cX1_isLive 2 (some .boolean), Cond.fieldLink RX1 67 "LaneTrunksModel" "isTree" "Z", Cond.methodLink RX1 79 yX1_carried, Cond.instanceMethod yX1_carried, Cond.selects RX1 yX1_carried yX1_carried, Cond.code yX1_carried cX1_carried 4 (some .int), Cond.fieldLink RX1 7 "LaneTrunksModel" "untagged" "[I", Cond.methodLink RX1 55 yX1_isTagged, Cond.instanceMethod yX1_isTagged, Cond.selects RX1 yX1_isTagged yX1_isTagged, Cond.code yX1_isTagged cX1_isTagged 3 (some .boolean), Cond.fieldLink RX1 13 "LaneTrunksModel" "tagged" "[I"]
def wsX1_joined : List Cond := .code yX1_joined cX1_joined 3 (some .int) :: ((wsX1_joined_r1 ++ wsX1_joined_r2) ++ wsX10)
def wsX1_isUsed : List Cond := .code yX1_isUsed cX1_isUsed 4 (some .boolean) :: ([.fieldLink RX1 7 "LaneTrunksModel" "untagged" "[I", .methodLink RX1 55 yX1_isTagged, .instanceMethod yX1_isTagged, .selects RX1 yX1_isTagged yX1_isTagged, .initialized RX1, .code yX1_isTagged cX1_isTagged 3 (some .boolean), .fieldLink RX1 13 "LaneTrunksModel" "tagged" "[I"] ++ wsX10)
def wsX1_islandMany_r1 : List Cond := [Cond.fieldLink RX1 34 "LaneTrunksModel" "steps" "[I", Cond.methodLink RX1 100 yX1_isUsed, Cond.instanceMethod yX1_isUsed, Cond.selects RX1 yX1_isUsed yX1_isUsed, Cond.initialized RX1, Cond.code yX1_isUsed cX1_isUsed 4 (some .boolean), Cond.fieldLink RX1 7 "LaneTrunksModel" "untagged" "[I", Cond.methodLink RX1 55 yX1_isTagged, Cond.instanceMethod yX1_isTagged, Cond.selects RX1 yX1_isTagged yX1_isTagged, Cond.code yX1_isTagged cX1_isTagged 3 (some .boolean), Cond.fieldLink RX1 13 "LaneTrunksModel" "tagged" "[I", Cond.methodLink RX1 96 yX1_spread, Cond.instanceMethod yX1_spread, Cond.selects RX1 yX1_spread yX1_spread, Cond.code yX1_spread cX1_spread 7 none, Cond.fieldLink RX1 37 "LaneTrunksModel" "queue" "[I", Cond.fieldLink RX1 90 "LaneTrunksModel" "queued" "I", Cond.fieldLink RX1 16 "LaneTrunksModel" "ends" "[I", Cond.methodLink RX1 72 yX1_layTree, Cond.instanceMethod yX1_layTree, Cond.selects RX1 yX1_layTree yX1_layTree, Cond.code yX1_layTree cX1_layTree 5 none, Cond.fieldLink RX1 25 "LaneTrunksModel" "roots" "[I"]
def wsX1_islandMany_r2 : List Cond := [Cond.fieldLink RX1 31 "LaneTrunksModel" "sums" "[I", Cond.constant RX1 71 (1000000), Cond.fieldLink RX1 19 "LaneTrunksModel" "costs" "[I", Cond.fieldLink RX1 28 "LaneTrunksModel" "ways" "[I", Cond.methodLink RX1 75 yX1_isLive, Cond.instanceMethod yX1_isLive, Cond.selects RX1 yX1_isLive yX1_isLive, Cond.code yX1_isLive cX1_isLive 2 (some .boolean), Cond.fieldLink RX1 67 "LaneTrunksModel" "isTree" "Z", Cond.methodLink RX1 79 yX1_carried, Cond.instanceMethod yX1_carried, Cond.selects RX1 yX1_carried yX1_carried, Cond.code yX1_carried cX1_carried 4 (some .int), Cond.methodLink RX1 93 yX1_place, Cond.static yX1_place, Cond.code yX1_place cX1_place 2 (some .int)]
def wsX1_islandMany : List Cond := .code yX1_islandMany cX1_islandMany 5 (some .int) :: ((wsX1_islandMany_r1 ++ wsX1_islandMany_r2) ++ wsX10)
def wsX1_islands_r1 : List Cond := [Cond.fieldLink RX1 43 "LaneTrunksModel" "thrown" "I", Cond.methodLink RX1 103 yX1_islandMany, Cond.instanceMethod yX1_islandMany, Cond.selects RX1 yX1_islandMany yX1_islandMany, Cond.initialized RX1, Cond.code yX1_islandMany cX1_islandMany 5 (some .int), Cond.fieldLink RX1 34 "LaneTrunksModel" "steps" "[I", Cond.methodLink RX1 100 yX1_isUsed, Cond.instanceMethod yX1_isUsed, Cond.selects RX1 yX1_isUsed yX1_isUsed, Cond.code yX1_isUsed cX1_isUsed 4 (some .boolean), Cond.fieldLink RX1 7 "LaneTrunksModel" "untagged" "[I", Cond.methodLink RX1 55 yX1_isTagged, Cond.instanceMethod yX1_isTagged, Cond.selects RX1 yX1_isTagged yX1_isTagged, Cond.code yX1_isTagged cX1_isTagged 3 (some .boolean), Cond.fieldLink RX1 13 "LaneTrunksModel" "tagged" "[I", Cond.methodLink RX1 96 yX1_spread, Cond.instanceMethod yX1_spread, Cond.selects RX1 yX1_spread yX1_spread, Cond.code yX1_spread cX1_spread 7 none, Cond.fieldLink RX1 37 "LaneTrunksModel" "queue" "[I", Cond.fieldLink RX1 90 "LaneTrunksModel" "queued" "I", Cond.fieldLink RX1 16 "LaneTrunksModel" "ends" "[I"]
def wsX1_islands_r2 : List Cond := [Cond.methodLink RX1 72 yX1_layTree, Cond.instanceMethod yX1_layTree, Cond.selects RX1 yX1_layTree yX1_layTree, Cond.code yX1_layTree cX1_layTree 5 none, Cond.fieldLink RX1 25 "LaneTrunksModel" "roots" "[I", Cond.fieldLink RX1 31 "LaneTrunksModel" "sums" "[I", Cond.constant RX1 71 (1000000), Cond.fieldLink RX1 19 "LaneTrunksModel" "costs" "[I", Cond.fieldLink RX1 28 "LaneTrunksModel" "ways" "[I", Cond.methodLink RX1 75 yX1_isLive, Cond.instanceMethod yX1_isLive, Cond.selects RX1 yX1_isLive yX1_isLive, Cond.code yX1_isLive cX1_isLive 2 (some .boolean), Cond.fieldLink RX1 67 "LaneTrunksModel" "isTree" "Z", Cond.methodLink RX1 79 yX1_carried, Cond.instanceMethod yX1_carried, Cond.selects RX1 yX1_carried yX1_carried, Cond.code yX1_carried cX1_carried 4 (some .int), Cond.methodLink RX1 93 yX1_place, Cond.static yX1_place, Cond.code yX1_place cX1_place 2 (some .int)]
def wsX1_islands : List Cond := .code yX1_islands cX1_islands 1 (some .int) :: ((wsX1_islands_r1 ++ wsX1_islands_r2) ++ wsX10)
def wsX1_loops_r1 : List Cond := [Cond.fieldLink RX1 43 "LaneTrunksModel" "thrown" "I", Cond.fieldLink RX1 16 "LaneTrunksModel" "ends" "[I", Cond.methodLink RX1 103 yX1_islandMany, Cond.instanceMethod yX1_islandMany, Cond.selects RX1 yX1_islandMany yX1_islandMany, Cond.initialized RX1, Cond.code yX1_islandMany cX1_islandMany 5 (some .int), Cond.fieldLink RX1 34 "LaneTrunksModel" "steps" "[I", Cond.methodLink RX1 100 yX1_isUsed, Cond.instanceMethod yX1_isUsed, Cond.selects RX1 yX1_isUsed yX1_isUsed, Cond.code yX1_isUsed cX1_isUsed 4 (some .boolean), Cond.fieldLink RX1 7 "LaneTrunksModel" "untagged" "[I", Cond.methodLink RX1 55 yX1_isTagged, Cond.instanceMethod yX1_isTagged, Cond.selects RX1 yX1_isTagged yX1_isTagged, Cond.code yX1_isTagged cX1_isTagged 3 (some .boolean), Cond.fieldLink RX1 13 "LaneTrunksModel" "tagged" "[I", Cond.methodLink RX1 96 yX1_spread, Cond.instanceMethod yX1_spread, Cond.selects RX1 yX1_spread yX1_spread, Cond.code yX1_spread cX1_spread 7 none, Cond.fieldLink RX1 37 "LaneTrunksModel" "queue" "[I", Cond.fieldLink RX1 90 "LaneTrunksModel" "queued" "I"]
def wsX1_loops_r2 : List Cond := [Cond.methodLink RX1 72 yX1_layTree, Cond.instanceMethod yX1_layTree, Cond.selects RX1 yX1_layTree yX1_layTree, Cond.code yX1_layTree cX1_layTree 5 none, Cond.fieldLink RX1 25 "LaneTrunksModel" "roots" "[I", Cond.fieldLink RX1 31 "LaneTrunksModel" "sums" "[I", Cond.constant RX1 71 (1000000), Cond.fieldLink RX1 19 "LaneTrunksModel" "costs" "[I", Cond.fieldLink RX1 28 "LaneTrunksModel" "ways" "[I", Cond.methodLink RX1 75 yX1_isLive, Cond.instanceMethod yX1_isLive, Cond.selects RX1 yX1_isLive yX1_isLive, Cond.code yX1_isLive cX1_isLive 2 (some .boolean), Cond.fieldLink RX1 67 "LaneTrunksModel" "isTree" "Z", Cond.methodLink RX1 79 yX1_carried, Cond.instanceMethod yX1_carried, Cond.selects RX1 yX1_carried yX1_carried, Cond.code yX1_carried cX1_carried 4 (some .int), Cond.methodLink RX1 93 yX1_place, Cond.static yX1_place, Cond.code yX1_place cX1_place 2 (some .int)]
def wsX1_loops : List Cond := .code yX1_loops cX1_loops 5 (some .int) :: ((wsX1_loops_r1 ++ wsX1_loops_r2) ++ wsX10)
def wsX1_changesAt : List Cond := .code yX1_changesAt cX1_changesAt 4 (some .int) :: ([.fieldLink RX1 16 "LaneTrunksModel" "ends" "[I", .fieldLink RX1 7 "LaneTrunksModel" "untagged" "[I", .constant RX1 71 (1000000), .methodLink RX1 55 yX1_isTagged, .instanceMethod yX1_isTagged, .selects RX1 yX1_isTagged yX1_isTagged, .initialized RX1, .code yX1_isTagged cX1_isTagged 3 (some .boolean), .fieldLink RX1 13 "LaneTrunksModel" "tagged" "[I"] ++ wsX10)
def wsX1_changes_r1 : List Cond := [Cond.fieldLink RX1 43 "LaneTrunksModel" "thrown" "I", Cond.fieldLink RX1 7 "LaneTrunksModel" "untagged" "[I", Cond.fieldLink RX1 40 "LaneTrunksModel" "fewest" "[I", Cond.constant RX1 71 (1000000), Cond.fieldLink RX1 16 "LaneTrunksModel" "ends" "[I", Cond.methodLink RX1 51 yX1_isPort, Cond.static yX1_isPort, Cond.initialized RX1, Cond.code yX1_isPort cX1_isPort 2 (some .boolean), Cond.methodLink RX1 47 yX1_in, Cond.static yX1_in, Cond.code yX1_in cX1_in 3 (some .boolean), Cond.methodLink RX1 72 yX1_layTree, Cond.instanceMethod yX1_layTree, Cond.selects RX1 yX1_layTree yX1_layTree, Cond.code yX1_layTree cX1_layTree 5 none, Cond.fieldLink RX1 25 "LaneTrunksModel" "roots" "[I", Cond.fieldLink RX1 31 "LaneTrunksModel" "sums" "[I", Cond.fieldLink RX1 19 "LaneTrunksModel" "costs" "[I", Cond.fieldLink RX1 28 "LaneTrunksModel" "ways" "[I", Cond.methodLink RX1 75 yX1_isLive, Cond.instanceMethod yX1_isLive, Cond.selects RX1 yX1_isLive yX1_isLive, Cond.code yX1_isLive cX1_isLive 2 (some .boolean)]
def wsX1_changes_r2 : List Cond := [Cond.fieldLink RX1 67 "LaneTrunksModel" "isTree" "Z", Cond.methodLink RX1 107 yX1_changesAt, Cond.instanceMethod yX1_changesAt, Cond.selects RX1 yX1_changesAt yX1_changesAt, Cond.code yX1_changesAt cX1_changesAt 4 (some .int), Cond.methodLink RX1 55 yX1_isTagged, Cond.instanceMethod yX1_isTagged, Cond.selects RX1 yX1_isTagged yX1_isTagged, Cond.code yX1_isTagged cX1_isTagged 3 (some .boolean), Cond.fieldLink RX1 13 "LaneTrunksModel" "tagged" "[I"]
def wsX1_changes : List Cond := .code yX1_changes cX1_changes 9 (some .int) :: ((wsX1_changes_r1 ++ wsX1_changes_r2) ++ wsX10)
def wsL_untag_r1 : List Cond := [Cond.classLink RL 13 "java/lang/IllegalArgumentException", Cond.classLink RL 15 "java/lang/IllegalStateException", Cond.methodLink RL 7 yX0_untag, Cond.instanceMethod yX0_untag, Cond.selects RX0 yX0_untag yX0_untag, Cond.initialized RX0, Cond.code yX0_untag cX0_untag 6 (some .int), Cond.classLink RX0 67 "java/lang/IllegalStateException", Cond.initialized "java/lang/IllegalStateException", Cond.fieldLink RX0 9 "LaneTrunks" "untaggedLane" "[I", Cond.methodLink RX0 55 yX0_slotOf, Cond.static yX0_slotOf, Cond.code yX0_slotOf cX0_slotOf 2 (some .int), Cond.classLink RX0 84 "java/lang/IllegalArgumentException", Cond.initialized "java/lang/IllegalArgumentException", Cond.methodLink RX0 127 yX0_checkUnit, Cond.static yX0_checkUnit, Cond.code yX0_checkUnit cX0_checkUnit 1 none, Cond.methodLink RX0 59 yX0_checkLane, Cond.static yX0_checkLane, Cond.code yX0_checkLane cX0_checkLane 1 none, Cond.methodLink RX0 63 yX0_isTagged, Cond.instanceMethod yX0_isTagged, Cond.selects RX0 yX0_isTagged yX0_isTagged]
def wsL_untag_r2 : List Cond := [Cond.code yX0_isTagged cX0_isTagged 3 (some .boolean), Cond.fieldLink RX0 13 "LaneTrunks" "taggedLanes" "[I", Cond.methodLink RX0 74 yX0_at, Cond.static yX0_at, Cond.code yX0_at cX0_at 2 (some .int), Cond.methodLink RX0 78 yX0_put, Cond.static yX0_put, Cond.code yX0_put cX0_put 3 none]
def wsL_untag : List Cond := .codeWith yL_untag cL_untag 6 (some .int) [(0, 12, 15, 13), (0, 12, 19, 15)] :: ((wsL_untag_r1 ++ wsL_untag_r2) ++ wsX00 ++ (vx_atS RX0 71 "java/lang/IllegalStateException" ["java/lang/RuntimeException", "java/lang/Exception"]).filter goodWord ++ (vx_atS RX0 88 "java/lang/IllegalArgumentException" ["java/lang/RuntimeException", "java/lang/Exception"]).filter goodWord)
def wsL_tag_r1 : List Cond := [Cond.classLink RL 13 "java/lang/IllegalArgumentException", Cond.classLink RL 15 "java/lang/IllegalStateException", Cond.methodLink RL 17 yX0_tag, Cond.instanceMethod yX0_tag, Cond.selects RX0 yX0_tag yX0_tag, Cond.initialized RX0, Cond.code yX0_tag cX0_tag 8 (some .boolean), Cond.classLink RX0 67 "java/lang/IllegalStateException", Cond.initialized "java/lang/IllegalStateException", Cond.fieldLink RX0 9 "LaneTrunks" "untaggedLane" "[I", Cond.fieldLink RX0 13 "LaneTrunks" "taggedLanes" "[I", Cond.methodLink RX0 55 yX0_slotOf, Cond.static yX0_slotOf, Cond.code yX0_slotOf cX0_slotOf 2 (some .int), Cond.classLink RX0 84 "java/lang/IllegalArgumentException", Cond.initialized "java/lang/IllegalArgumentException", Cond.methodLink RX0 127 yX0_checkUnit, Cond.static yX0_checkUnit, Cond.code yX0_checkUnit cX0_checkUnit 1 none, Cond.methodLink RX0 59 yX0_checkLane, Cond.static yX0_checkLane, Cond.code yX0_checkLane cX0_checkLane 1 none, Cond.methodLink RX0 74 yX0_at, Cond.static yX0_at]
def wsL_tag_r2 : List Cond := [Cond.code yX0_at cX0_at 2 (some .int), Cond.methodLink RX0 63 yX0_isTagged, Cond.instanceMethod yX0_isTagged, Cond.selects RX0 yX0_isTagged yX0_isTagged, Cond.code yX0_isTagged cX0_isTagged 3 (some .boolean), Cond.methodLink RX0 78 yX0_put, Cond.static yX0_put, Cond.code yX0_put cX0_put 3 none]
def wsL_tag : List Cond := .codeWith yL_tag cL_tag 7 (some .int) [(0, 21, 24, 13), (0, 21, 28, 15)] :: ((wsL_tag_r1 ++ wsL_tag_r2) ++ wsX00 ++ (vx_atS RX0 71 "java/lang/IllegalStateException" ["java/lang/RuntimeException", "java/lang/Exception"]).filter goodWord ++ (vx_atS RX0 88 "java/lang/IllegalArgumentException" ["java/lang/RuntimeException", "java/lang/Exception"]).filter goodWord)
def wsL_cable_r1 : List Cond := [Cond.classLink RL 13 "java/lang/IllegalArgumentException", Cond.classLink RL 15 "java/lang/IllegalStateException", Cond.methodLink RL 21 yX0_cable, Cond.instanceMethod yX0_cable, Cond.selects RX0 yX0_cable yX0_cable, Cond.initialized RX0, Cond.code yX0_cable cX0_cable 8 (some .int), Cond.classLink RX0 84 "java/lang/IllegalArgumentException", Cond.initialized "java/lang/IllegalArgumentException", Cond.classLink RX0 67 "java/lang/IllegalStateException", Cond.initialized "java/lang/IllegalStateException", Cond.fieldLink RX0 101 "LaneTrunks" "cableCount" "I", Cond.methodLink RX0 55 yX0_slotOf, Cond.static yX0_slotOf, Cond.code yX0_slotOf cX0_slotOf 2 (some .int), Cond.methodLink RX0 127 yX0_checkUnit, Cond.static yX0_checkUnit, Cond.code yX0_checkUnit cX0_checkUnit 1 none, Cond.methodLink RX0 91 yX0_hasCable, Cond.instanceMethod yX0_hasCable, Cond.selects RX0 yX0_hasCable yX0_hasCable, Cond.code yX0_hasCable cX0_hasCable 2 (some .boolean), Cond.fieldLink RX0 16 "LaneTrunks" "farSlot" "[I", Cond.methodLink RX0 74 yX0_at]
def wsL_cable_r2 : List Cond := [Cond.static yX0_at, Cond.code yX0_at cX0_at 2 (some .int), Cond.methodLink RX0 97 yX0_setCable, Cond.instanceMethod yX0_setCable, Cond.selects RX0 yX0_setCable yX0_setCable, Cond.code yX0_setCable cX0_setCable 4 none, Cond.fieldLink RX0 19 "LaneTrunks" "cableCost" "[I", Cond.methodLink RX0 78 yX0_put, Cond.static yX0_put, Cond.code yX0_put cX0_put 3 none, Cond.methodLink RX0 52 yX0_growTree, Cond.instanceMethod yX0_growTree, Cond.selects RX0 yX0_growTree yX0_growTree, Cond.code yX0_growTree cX0_growTree 2 none, Cond.fieldLink RX0 31 "LaneTrunks" "wayUpSlot" "[I", Cond.methodLink RX0 177 yX0_findRoots, Cond.instanceMethod yX0_findRoots, Cond.selects RX0 yX0_findRoots yX0_findRoots, Cond.code yX0_findRoots cX0_findRoots 2 none, Cond.fieldLink RX0 25 "LaneTrunks" "rootUnit" "[I", Cond.fieldLink RX0 40 "LaneTrunks" "weights" "[I", Cond.methodLink RX0 46 yJ7_fill_53178, Cond.static yJ7_fill_53178, Cond.initialized RJ7]
def wsL_cable_r3 : List Cond := [Cond.code yJ7_fill_53178 cJ7_fill_53178 4 none, Cond.methodLink RX0 162 yX0_leastSums, Cond.instanceMethod yX0_leastSums, Cond.selects RX0 yX0_leastSums yX0_leastSums, Cond.code yX0_leastSums cX0_leastSums 5 none, Cond.methodLink RX0 186 yX0_lowerSum, Cond.instanceMethod yX0_lowerSum, Cond.selects RX0 yX0_lowerSum yX0_lowerSum, Cond.code yX0_lowerSum cX0_lowerSum 7 none, Cond.methodLink RX0 180 yX0_findCosts, Cond.instanceMethod yX0_findCosts, Cond.selects RX0 yX0_findCosts yX0_findCosts, Cond.code yX0_findCosts cX0_findCosts 2 none, Cond.fieldLink RX0 28 "LaneTrunks" "rootCost" "[I", Cond.methodLink RX0 183 yX0_bestWayUp, Cond.instanceMethod yX0_bestWayUp, Cond.selects RX0 yX0_bestWayUp yX0_bestWayUp, Cond.code yX0_bestWayUp cX0_bestWayUp 9 (some .int)]
def wsL_cable : List Cond := .codeWith yL_cable cL_cable 8 (some .int) [(0, 16, 19, 13), (0, 16, 23, 15)] :: ((wsL_cable_r1 ++ (wsL_cable_r2 ++ wsL_cable_r3)) ++ wsX00 ++ (vx_atS RX0 88 "java/lang/IllegalArgumentException" ["java/lang/RuntimeException", "java/lang/Exception"]).filter goodWord ++ (vx_atS RX0 71 "java/lang/IllegalStateException" ["java/lang/RuntimeException", "java/lang/Exception"]).filter goodWord)
def wsL_pull_r1 : List Cond := [Cond.classLink RL 13 "java/lang/IllegalArgumentException", Cond.classLink RL 29 "java/util/NoSuchElementException", Cond.methodLink RL 25 yX0_pull, Cond.instanceMethod yX0_pull, Cond.selects RX0 yX0_pull yX0_pull, Cond.initialized RX0, Cond.code yX0_pull cX0_pull 5 (some .int), Cond.fieldLink RX0 19 "LaneTrunks" "cableCost" "[I", Cond.fieldLink RX0 16 "LaneTrunks" "farSlot" "[I", Cond.fieldLink RX0 101 "LaneTrunks" "cableCount" "I", Cond.methodLink RX0 105 yX0_slotWithCable, Cond.instanceMethod yX0_slotWithCable, Cond.selects RX0 yX0_slotWithCable yX0_slotWithCable, Cond.code yX0_slotWithCable cX0_slotWithCable 4 (some .int), Cond.classLink RX0 172 "java/util/NoSuchElementException", Cond.initialized "java/util/NoSuchElementException", Cond.methodLink RX0 55 yX0_slotOf, Cond.static yX0_slotOf, Cond.code yX0_slotOf cX0_slotOf 2 (some .int), Cond.classLink RX0 84 "java/lang/IllegalArgumentException", Cond.initialized "java/lang/IllegalArgumentException", Cond.methodLink RX0 127 yX0_checkUnit, Cond.static yX0_checkUnit, Cond.code yX0_checkUnit cX0_checkUnit 1 none]
def wsL_pull_r2 : List Cond := [Cond.methodLink RX0 91 yX0_hasCable, Cond.instanceMethod yX0_hasCable, Cond.selects RX0 yX0_hasCable yX0_hasCable, Cond.code yX0_hasCable cX0_hasCable 2 (some .boolean), Cond.methodLink RX0 74 yX0_at, Cond.static yX0_at, Cond.code yX0_at cX0_at 2 (some .int), Cond.methodLink RX0 97 yX0_setCable, Cond.instanceMethod yX0_setCable, Cond.selects RX0 yX0_setCable yX0_setCable, Cond.code yX0_setCable cX0_setCable 4 none, Cond.methodLink RX0 78 yX0_put, Cond.static yX0_put, Cond.code yX0_put cX0_put 3 none, Cond.methodLink RX0 52 yX0_growTree, Cond.instanceMethod yX0_growTree, Cond.selects RX0 yX0_growTree yX0_growTree, Cond.code yX0_growTree cX0_growTree 2 none, Cond.fieldLink RX0 31 "LaneTrunks" "wayUpSlot" "[I", Cond.methodLink RX0 177 yX0_findRoots, Cond.instanceMethod yX0_findRoots, Cond.selects RX0 yX0_findRoots yX0_findRoots, Cond.code yX0_findRoots cX0_findRoots 2 none, Cond.fieldLink RX0 25 "LaneTrunks" "rootUnit" "[I"]
def wsL_pull_r3 : List Cond := [Cond.fieldLink RX0 40 "LaneTrunks" "weights" "[I", Cond.methodLink RX0 46 yJ7_fill_53178, Cond.static yJ7_fill_53178, Cond.initialized RJ7, Cond.code yJ7_fill_53178 cJ7_fill_53178 4 none, Cond.methodLink RX0 162 yX0_leastSums, Cond.instanceMethod yX0_leastSums, Cond.selects RX0 yX0_leastSums yX0_leastSums, Cond.code yX0_leastSums cX0_leastSums 5 none, Cond.methodLink RX0 186 yX0_lowerSum, Cond.instanceMethod yX0_lowerSum, Cond.selects RX0 yX0_lowerSum yX0_lowerSum, Cond.code yX0_lowerSum cX0_lowerSum 7 none, Cond.methodLink RX0 180 yX0_findCosts, Cond.instanceMethod yX0_findCosts, Cond.selects RX0 yX0_findCosts yX0_findCosts, Cond.code yX0_findCosts cX0_findCosts 2 none, Cond.fieldLink RX0 28 "LaneTrunks" "rootCost" "[I", Cond.methodLink RX0 183 yX0_bestWayUp, Cond.instanceMethod yX0_bestWayUp, Cond.selects RX0 yX0_bestWayUp yX0_bestWayUp, Cond.code yX0_bestWayUp cX0_bestWayUp 9 (some .int)]
def wsL_pull : List Cond := .codeWith yL_pull cL_pull 5 (some .int) [(0, 10, 13, 13), (0, 10, 17, 29)] :: ((wsL_pull_r1 ++ (wsL_pull_r2 ++ wsL_pull_r3)) ++ wsX00 ++ (vx_atS RX0 176 "java/util/NoSuchElementException" ["java/lang/RuntimeException", "java/lang/Exception"]).filter goodWord ++ (vx_atS RX0 88 "java/lang/IllegalArgumentException" ["java/lang/RuntimeException", "java/lang/Exception"]).filter goodWord)
def wsL_note : List Cond := .codeWith yL_note cL_note 7 (some .int) [(0, 21, 24, 13)] :: ([.classLink RL 13 "java/lang/IllegalArgumentException", .methodLink RL 31 yX0_note, .instanceMethod yX0_note, .selects RX0 yX0_note yX0_note, .initialized RX0, .code yX0_note cX0_note 8 (some .boolean), .fieldLink RX0 22 "LaneTrunks" "book" "[I", .methodLink RX0 55 yX0_slotOf, .static yX0_slotOf, .code yX0_slotOf cX0_slotOf 2 (some .int), .classLink RX0 84 "java/lang/IllegalArgumentException", .initialized "java/lang/IllegalArgumentException", .methodLink RX0 127 yX0_checkUnit, .static yX0_checkUnit, .code yX0_checkUnit cX0_checkUnit 1 none, .methodLink RX0 112 yX0_endName, .static yX0_endName, .code yX0_endName cX0_endName 1 (some .int), .methodLink RX0 74 yX0_at, .static yX0_at, .code yX0_at cX0_at 2 (some .int), .methodLink RX0 78 yX0_put, .static yX0_put, .code yX0_put cX0_put 3 none] ++ wsX00 ++ (vx_atS RX0 88 "java/lang/IllegalArgumentException" ["java/lang/RuntimeException", "java/lang/Exception"]).filter goodWord)
def wsL_far : List Cond := .codeWith yL_far cL_far 5 (some .int) [(0, 10, 13, 13)] :: ([.classLink RL 13 "java/lang/IllegalArgumentException", .methodLink RL 35 yX0_far, .instanceMethod yX0_far, .selects RX0 yX0_far yX0_far, .initialized RX0, .code yX0_far cX0_far 3 (some .int), .fieldLink RX0 16 "LaneTrunks" "farSlot" "[I", .methodLink RX0 55 yX0_slotOf, .static yX0_slotOf, .code yX0_slotOf cX0_slotOf 2 (some .int), .classLink RX0 84 "java/lang/IllegalArgumentException", .initialized "java/lang/IllegalArgumentException", .methodLink RX0 127 yX0_checkUnit, .static yX0_checkUnit, .code yX0_checkUnit cX0_checkUnit 1 none, .methodLink RX0 74 yX0_at, .static yX0_at, .code yX0_at cX0_at 2 (some .int), .methodLink RX0 112 yX0_endName, .static yX0_endName, .code yX0_endName cX0_endName 1 (some .int)] ++ wsX00 ++ (vx_atS RX0 88 "java/lang/IllegalArgumentException" ["java/lang/RuntimeException", "java/lang/Exception"]).filter goodWord)
def wsL_isOn_r1 : List Cond := [Cond.classLink RL 13 "java/lang/IllegalArgumentException", Cond.classLink RL 29 "java/util/NoSuchElementException", Cond.methodLink RL 38 yX0_isOn, Cond.instanceMethod yX0_isOn, Cond.selects RX0 yX0_isOn yX0_isOn, Cond.initialized RX0, Cond.code yX0_isOn cX0_isOn 3 (some .boolean), Cond.methodLink RX0 105 yX0_slotWithCable, Cond.instanceMethod yX0_slotWithCable, Cond.selects RX0 yX0_slotWithCable yX0_slotWithCable, Cond.code yX0_slotWithCable cX0_slotWithCable 4 (some .int), Cond.classLink RX0 172 "java/util/NoSuchElementException", Cond.initialized "java/util/NoSuchElementException", Cond.methodLink RX0 55 yX0_slotOf, Cond.static yX0_slotOf, Cond.code yX0_slotOf cX0_slotOf 2 (some .int), Cond.classLink RX0 84 "java/lang/IllegalArgumentException", Cond.initialized "java/lang/IllegalArgumentException", Cond.methodLink RX0 127 yX0_checkUnit, Cond.static yX0_checkUnit, Cond.code yX0_checkUnit cX0_checkUnit 1 none, Cond.methodLink RX0 91 yX0_hasCable, Cond.instanceMethod yX0_hasCable, Cond.selects RX0 yX0_hasCable yX0_hasCable]
def wsL_isOn_r2 : List Cond := [Cond.code yX0_hasCable cX0_hasCable 2 (some .boolean), Cond.fieldLink RX0 16 "LaneTrunks" "farSlot" "[I", Cond.methodLink RX0 74 yX0_at, Cond.static yX0_at, Cond.code yX0_at cX0_at 2 (some .int), Cond.methodLink RX0 116 yX0_hasLiveCable, Cond.instanceMethod yX0_hasLiveCable, Cond.selects RX0 yX0_hasLiveCable yX0_hasLiveCable, Cond.code yX0_hasLiveCable cX0_hasLiveCable 3 (some .boolean), Cond.fieldLink RX0 108 "LaneTrunks" "isTreeOn" "Z", Cond.fieldLink RX0 31 "LaneTrunks" "wayUpSlot" "[I"]
def wsL_isOn : List Cond := .codeWith yL_isOn cL_isOn 5 (some .int) [(0, 17, 20, 13), (0, 17, 24, 29)] :: ((wsL_isOn_r1 ++ wsL_isOn_r2) ++ wsX00 ++ (vx_atS RX0 176 "java/util/NoSuchElementException" ["java/lang/RuntimeException", "java/lang/Exception"]).filter goodWord ++ (vx_atS RX0 88 "java/lang/IllegalArgumentException" ["java/lang/RuntimeException", "java/lang/Exception"]).filter goodWord)
def wsL_comesAs_r1 : List Cond := [Cond.classLink RL 13 "java/lang/IllegalArgumentException", Cond.classLink RL 29 "java/util/NoSuchElementException", Cond.methodLink RL 42 yX0_comesAs, Cond.instanceMethod yX0_comesAs, Cond.selects RX0 yX0_comesAs yX0_comesAs, Cond.initialized RX0, Cond.code yX0_comesAs cX0_comesAs 4 (some .int), Cond.methodLink RX0 59 yX0_checkLane, Cond.static yX0_checkLane, Cond.code yX0_checkLane cX0_checkLane 1 none, Cond.classLink RX0 84 "java/lang/IllegalArgumentException", Cond.initialized "java/lang/IllegalArgumentException", Cond.methodLink RX0 105 yX0_slotWithCable, Cond.instanceMethod yX0_slotWithCable, Cond.selects RX0 yX0_slotWithCable yX0_slotWithCable, Cond.code yX0_slotWithCable cX0_slotWithCable 4 (some .int), Cond.classLink RX0 172 "java/util/NoSuchElementException", Cond.initialized "java/util/NoSuchElementException", Cond.methodLink RX0 55 yX0_slotOf, Cond.static yX0_slotOf, Cond.code yX0_slotOf cX0_slotOf 2 (some .int), Cond.methodLink RX0 127 yX0_checkUnit, Cond.static yX0_checkUnit, Cond.code yX0_checkUnit cX0_checkUnit 1 none]
def wsL_comesAs_r2 : List Cond := [Cond.methodLink RX0 91 yX0_hasCable, Cond.instanceMethod yX0_hasCable, Cond.selects RX0 yX0_hasCable yX0_hasCable, Cond.code yX0_hasCable cX0_hasCable 2 (some .boolean), Cond.fieldLink RX0 16 "LaneTrunks" "farSlot" "[I", Cond.methodLink RX0 74 yX0_at, Cond.static yX0_at, Cond.code yX0_at cX0_at 2 (some .int), Cond.methodLink RX0 119 yX0_laneBeyond, Cond.instanceMethod yX0_laneBeyond, Cond.selects RX0 yX0_laneBeyond yX0_laneBeyond, Cond.code yX0_laneBeyond cX0_laneBeyond 5 (some .int), Cond.fieldLink RX0 9 "LaneTrunks" "untaggedLane" "[I", Cond.methodLink RX0 63 yX0_isTagged, Cond.instanceMethod yX0_isTagged, Cond.selects RX0 yX0_isTagged yX0_isTagged, Cond.code yX0_isTagged cX0_isTagged 3 (some .boolean), Cond.fieldLink RX0 13 "LaneTrunks" "taggedLanes" "[I"]
def wsL_comesAs : List Cond := .codeWith yL_comesAs cL_comesAs 6 (some .int) [(0, 12, 15, 13), (0, 12, 19, 29)] :: ((wsL_comesAs_r1 ++ wsL_comesAs_r2) ++ wsX00 ++ (vx_atS RX0 88 "java/lang/IllegalArgumentException" ["java/lang/RuntimeException", "java/lang/Exception"]).filter goodWord ++ (vx_atS RX0 176 "java/util/NoSuchElementException" ["java/lang/RuntimeException", "java/lang/Exception"]).filter goodWord)
def wsL_oneSided_r1 : List Cond := [Cond.classLink RL 13 "java/lang/IllegalArgumentException", Cond.classLink RL 29 "java/util/NoSuchElementException", Cond.methodLink RL 45 yX0_oneSided, Cond.instanceMethod yX0_oneSided, Cond.selects RX0 yX0_oneSided yX0_oneSided, Cond.initialized RX0, Cond.code yX0_oneSided cX0_oneSided 4 (some .int), Cond.fieldLink RX0 13 "LaneTrunks" "taggedLanes" "[I", Cond.fieldLink RX0 16 "LaneTrunks" "farSlot" "[I", Cond.methodLink RX0 105 yX0_slotWithCable, Cond.instanceMethod yX0_slotWithCable, Cond.selects RX0 yX0_slotWithCable yX0_slotWithCable, Cond.code yX0_slotWithCable cX0_slotWithCable 4 (some .int), Cond.classLink RX0 172 "java/util/NoSuchElementException", Cond.initialized "java/util/NoSuchElementException", Cond.methodLink RX0 55 yX0_slotOf, Cond.static yX0_slotOf, Cond.code yX0_slotOf cX0_slotOf 2 (some .int), Cond.classLink RX0 84 "java/lang/IllegalArgumentException", Cond.initialized "java/lang/IllegalArgumentException", Cond.methodLink RX0 127 yX0_checkUnit, Cond.static yX0_checkUnit, Cond.code yX0_checkUnit cX0_checkUnit 1 none, Cond.methodLink RX0 91 yX0_hasCable]
def wsL_oneSided_r2 : List Cond := [Cond.instanceMethod yX0_hasCable, Cond.selects RX0 yX0_hasCable yX0_hasCable, Cond.code yX0_hasCable cX0_hasCable 2 (some .boolean), Cond.methodLink RX0 74 yX0_at, Cond.static yX0_at, Cond.code yX0_at cX0_at 2 (some .int), Cond.methodLink RX0 122 yJ6_bitCount_0f7a4, Cond.static yJ6_bitCount_0f7a4, Cond.initialized RJ6, Cond.code yJ6_bitCount_0f7a4 cJ6_bitCount_0f7a4 1 (some .int), Cond.constant RJ6 265 (1431655765), Cond.constant RJ6 266 (858993459), Cond.constant RJ6 267 (252645135)]
def wsL_oneSided : List Cond := .codeWith yL_oneSided cL_oneSided 5 (some .int) [(0, 10, 13, 13), (0, 10, 17, 29)] :: ((wsL_oneSided_r1 ++ wsL_oneSided_r2) ++ wsX00 ++ (vx_atS RX0 176 "java/util/NoSuchElementException" ["java/lang/RuntimeException", "java/lang/Exception"]).filter goodWord ++ (vx_atS RX0 88 "java/lang/IllegalArgumentException" ["java/lang/RuntimeException", "java/lang/Exception"]).filter goodWord)
def wsL_root : List Cond := .codeWith yL_root cL_root 4 (some .int) [(0, 9, 12, 13)] :: ([.classLink RL 13 "java/lang/IllegalArgumentException", .methodLink RL 48 yX0_root, .instanceMethod yX0_root, .selects RX0 yX0_root yX0_root, .initialized RX0, .code yX0_root cX0_root 2 (some .int), .fieldLink RX0 25 "LaneTrunks" "rootUnit" "[I", .methodLink RX0 127 yX0_checkUnit, .static yX0_checkUnit, .code yX0_checkUnit cX0_checkUnit 1 none, .classLink RX0 84 "java/lang/IllegalArgumentException", .initialized "java/lang/IllegalArgumentException", .methodLink RX0 74 yX0_at, .static yX0_at, .code yX0_at cX0_at 2 (some .int)] ++ wsX00 ++ (vx_atS RX0 88 "java/lang/IllegalArgumentException" ["java/lang/RuntimeException", "java/lang/Exception"]).filter goodWord)
def wsL_costOf : List Cond := .codeWith yL_costOf cL_costOf 4 (some .int) [(0, 9, 12, 13)] :: ([.classLink RL 13 "java/lang/IllegalArgumentException", .methodLink RL 52 yX0_costOf, .instanceMethod yX0_costOf, .selects RX0 yX0_costOf yX0_costOf, .initialized RX0, .code yX0_costOf cX0_costOf 2 (some .int), .fieldLink RX0 28 "LaneTrunks" "rootCost" "[I", .methodLink RX0 127 yX0_checkUnit, .static yX0_checkUnit, .code yX0_checkUnit cX0_checkUnit 1 none, .classLink RX0 84 "java/lang/IllegalArgumentException", .initialized "java/lang/IllegalArgumentException", .methodLink RX0 74 yX0_at, .static yX0_at, .code yX0_at cX0_at 2 (some .int)] ++ wsX00 ++ (vx_atS RX0 88 "java/lang/IllegalArgumentException" ["java/lang/RuntimeException", "java/lang/Exception"]).filter goodWord)
def wsL_wayUp : List Cond := .codeWith yL_wayUp cL_wayUp 4 (some .int) [(0, 9, 12, 13)] :: ([.classLink RL 13 "java/lang/IllegalArgumentException", .methodLink RL 55 yX0_wayUp, .instanceMethod yX0_wayUp, .selects RX0 yX0_wayUp yX0_wayUp, .initialized RX0, .code yX0_wayUp cX0_wayUp 3 (some .int), .fieldLink RX0 31 "LaneTrunks" "wayUpSlot" "[I", .methodLink RX0 127 yX0_checkUnit, .static yX0_checkUnit, .code yX0_checkUnit cX0_checkUnit 1 none, .classLink RX0 84 "java/lang/IllegalArgumentException", .initialized "java/lang/IllegalArgumentException", .methodLink RX0 74 yX0_at, .static yX0_at, .code yX0_at cX0_at 2 (some .int)] ++ wsX00 ++ (vx_atS RX0 88 "java/lang/IllegalArgumentException" ["java/lang/RuntimeException", "java/lang/Exception"]).filter goodWord)
def wsL_hops_r1 : List Cond := [Cond.classLink RL 13 "java/lang/IllegalArgumentException", Cond.methodLink RL 58 yX0_hops, Cond.instanceMethod yX0_hops, Cond.selects RX0 yX0_hops yX0_hops, Cond.initialized RX0, Cond.code yX0_hops cX0_hops 7 (some .int), Cond.fieldLink RX0 34 "LaneTrunks" "steps" "[I", Cond.methodLink RX0 130 yX0_placeOf, Cond.static yX0_placeOf, Cond.code yX0_placeOf cX0_placeOf 2 (some .int), Cond.methodLink RX0 127 yX0_checkUnit, Cond.static yX0_checkUnit, Cond.code yX0_checkUnit cX0_checkUnit 1 none, Cond.classLink RX0 84 "java/lang/IllegalArgumentException", Cond.initialized "java/lang/IllegalArgumentException", Cond.methodLink RX0 59 yX0_checkLane, Cond.static yX0_checkLane, Cond.code yX0_checkLane cX0_checkLane 1 none, Cond.methodLink RX0 133 yX0_forgetWalks, Cond.instanceMethod yX0_forgetWalks, Cond.selects RX0 yX0_forgetWalks yX0_forgetWalks, Cond.code yX0_forgetWalks cX0_forgetWalks 1 none, Cond.fieldLink RX0 143 "LaneTrunks" "reachedCount" "I", Cond.methodLink RX0 46 yJ7_fill_53178]
def wsL_hops_r2 : List Cond := [Cond.static yJ7_fill_53178, Cond.initialized RJ7, Cond.code yJ7_fill_53178 cJ7_fill_53178 4 none, Cond.methodLink RX0 136 yX0_walkFrom, Cond.instanceMethod yX0_walkFrom, Cond.selects RX0 yX0_walkFrom yX0_walkFrom, Cond.code yX0_walkFrom cX0_walkFrom 4 none, Cond.fieldLink RX0 37 "LaneTrunks" "reachedPlaces" "[I", Cond.methodLink RX0 190 yX0_reach, Cond.instanceMethod yX0_reach, Cond.selects RX0 yX0_reach yX0_reach, Cond.code yX0_reach cX0_reach 3 none, Cond.methodLink RX0 78 yX0_put, Cond.static yX0_put, Cond.code yX0_put cX0_put 3 none, Cond.methodLink RX0 74 yX0_at, Cond.static yX0_at, Cond.code yX0_at cX0_at 2 (some .int), Cond.methodLink RX0 194 yX0_reachNeighbours, Cond.instanceMethod yX0_reachNeighbours, Cond.selects RX0 yX0_reachNeighbours yX0_reachNeighbours, Cond.code yX0_reachNeighbours cX0_reachNeighbours 5 none, Cond.methodLink RX0 197 yX0_placeBeyond, Cond.instanceMethod yX0_placeBeyond]
def wsL_hops_r3 : List Cond := [Cond.selects RX0 yX0_placeBeyond yX0_placeBeyond, Cond.code yX0_placeBeyond cX0_placeBeyond 4 (some .int), Cond.fieldLink RX0 16 "LaneTrunks" "farSlot" "[I", Cond.methodLink RX0 116 yX0_hasLiveCable, Cond.instanceMethod yX0_hasLiveCable, Cond.selects RX0 yX0_hasLiveCable yX0_hasLiveCable, Cond.code yX0_hasLiveCable cX0_hasLiveCable 3 (some .boolean), Cond.fieldLink RX0 108 "LaneTrunks" "isTreeOn" "Z", Cond.fieldLink RX0 31 "LaneTrunks" "wayUpSlot" "[I", Cond.methodLink RX0 119 yX0_laneBeyond, Cond.instanceMethod yX0_laneBeyond, Cond.selects RX0 yX0_laneBeyond yX0_laneBeyond, Cond.code yX0_laneBeyond cX0_laneBeyond 5 (some .int), Cond.fieldLink RX0 9 "LaneTrunks" "untaggedLane" "[I", Cond.methodLink RX0 63 yX0_isTagged, Cond.instanceMethod yX0_isTagged, Cond.selects RX0 yX0_isTagged yX0_isTagged, Cond.code yX0_isTagged cX0_isTagged 3 (some .boolean), Cond.fieldLink RX0 13 "LaneTrunks" "taggedLanes" "[I"]
def wsL_hops : List Cond := .codeWith yL_hops cL_hops 7 (some .int) [(0, 14, 17, 13)] :: ((wsL_hops_r1 ++ (wsL_hops_r2 ++ wsL_hops_r3)) ++ wsX00 ++ (vx_atS RX0 88 "java/lang/IllegalArgumentException" ["java/lang/RuntimeException", "java/lang/Exception"]).filter goodWord)
def wsL_meet_r1 : List Cond := [Cond.classLink RL 13 "java/lang/IllegalArgumentException", Cond.methodLink RL 62 yX0_meet, Cond.instanceMethod yX0_meet, Cond.selects RX0 yX0_meet yX0_meet, Cond.initialized RX0, Cond.code yX0_meet cX0_meet 7 (some .boolean), Cond.fieldLink RX0 9 "LaneTrunks" "untaggedLane" "[I", Cond.methodLink RX0 55 yX0_slotOf, Cond.static yX0_slotOf, Cond.code yX0_slotOf cX0_slotOf 2 (some .int), Cond.classLink RX0 84 "java/lang/IllegalArgumentException", Cond.initialized "java/lang/IllegalArgumentException", Cond.methodLink RX0 127 yX0_checkUnit, Cond.static yX0_checkUnit, Cond.code yX0_checkUnit cX0_checkUnit 1 none, Cond.methodLink RX0 74 yX0_at, Cond.static yX0_at, Cond.code yX0_at cX0_at 2 (some .int), Cond.methodLink RX0 139 yX0_hops, Cond.instanceMethod yX0_hops, Cond.selects RX0 yX0_hops yX0_hops, Cond.code yX0_hops cX0_hops 7 (some .int), Cond.fieldLink RX0 34 "LaneTrunks" "steps" "[I", Cond.methodLink RX0 130 yX0_placeOf]
def wsL_meet_r2 : List Cond := [Cond.static yX0_placeOf, Cond.code yX0_placeOf cX0_placeOf 2 (some .int), Cond.methodLink RX0 59 yX0_checkLane, Cond.static yX0_checkLane, Cond.code yX0_checkLane cX0_checkLane 1 none, Cond.methodLink RX0 133 yX0_forgetWalks, Cond.instanceMethod yX0_forgetWalks, Cond.selects RX0 yX0_forgetWalks yX0_forgetWalks, Cond.code yX0_forgetWalks cX0_forgetWalks 1 none, Cond.fieldLink RX0 143 "LaneTrunks" "reachedCount" "I", Cond.methodLink RX0 46 yJ7_fill_53178, Cond.static yJ7_fill_53178, Cond.initialized RJ7, Cond.code yJ7_fill_53178 cJ7_fill_53178 4 none, Cond.methodLink RX0 136 yX0_walkFrom, Cond.instanceMethod yX0_walkFrom, Cond.selects RX0 yX0_walkFrom yX0_walkFrom, Cond.code yX0_walkFrom cX0_walkFrom 4 none, Cond.fieldLink RX0 37 "LaneTrunks" "reachedPlaces" "[I", Cond.methodLink RX0 190 yX0_reach, Cond.instanceMethod yX0_reach, Cond.selects RX0 yX0_reach yX0_reach, Cond.code yX0_reach cX0_reach 3 none, Cond.methodLink RX0 78 yX0_put]
def wsL_meet_r3 : List Cond := [Cond.static yX0_put, Cond.code yX0_put cX0_put 3 none, Cond.methodLink RX0 194 yX0_reachNeighbours, Cond.instanceMethod yX0_reachNeighbours, Cond.selects RX0 yX0_reachNeighbours yX0_reachNeighbours, Cond.code yX0_reachNeighbours cX0_reachNeighbours 5 none, Cond.methodLink RX0 197 yX0_placeBeyond, Cond.instanceMethod yX0_placeBeyond, Cond.selects RX0 yX0_placeBeyond yX0_placeBeyond, Cond.code yX0_placeBeyond cX0_placeBeyond 4 (some .int), Cond.fieldLink RX0 16 "LaneTrunks" "farSlot" "[I", Cond.methodLink RX0 116 yX0_hasLiveCable, Cond.instanceMethod yX0_hasLiveCable, Cond.selects RX0 yX0_hasLiveCable yX0_hasLiveCable, Cond.code yX0_hasLiveCable cX0_hasLiveCable 3 (some .boolean), Cond.fieldLink RX0 108 "LaneTrunks" "isTreeOn" "Z", Cond.fieldLink RX0 31 "LaneTrunks" "wayUpSlot" "[I", Cond.methodLink RX0 119 yX0_laneBeyond, Cond.instanceMethod yX0_laneBeyond, Cond.selects RX0 yX0_laneBeyond yX0_laneBeyond, Cond.code yX0_laneBeyond cX0_laneBeyond 5 (some .int), Cond.methodLink RX0 63 yX0_isTagged, Cond.instanceMethod yX0_isTagged, Cond.selects RX0 yX0_isTagged yX0_isTagged]
def wsL_meet_r4 : List Cond := [Cond.code yX0_isTagged cX0_isTagged 3 (some .boolean), Cond.fieldLink RX0 13 "LaneTrunks" "taggedLanes" "[I"]
def wsL_meet : List Cond := .codeWith yL_meet cL_meet 7 (some .int) [(0, 21, 24, 13)] :: ((wsL_meet_r1 ++ (wsL_meet_r2 ++ (wsL_meet_r3 ++ wsL_meet_r4))) ++ wsX00 ++ (vx_atS RX0 88 "java/lang/IllegalArgumentException" ["java/lang/RuntimeException", "java/lang/Exception"]).filter goodWord)
def wsL_joined_r1 : List Cond := [Cond.classLink RL 13 "java/lang/IllegalArgumentException", Cond.methodLink RL 65 yX0_joined, Cond.instanceMethod yX0_joined, Cond.selects RX0 yX0_joined yX0_joined, Cond.initialized RX0, Cond.code yX0_joined cX0_joined 4 (some .int), Cond.fieldLink RX0 143 "LaneTrunks" "reachedCount" "I", Cond.methodLink RX0 130 yX0_placeOf, Cond.static yX0_placeOf, Cond.code yX0_placeOf cX0_placeOf 2 (some .int), Cond.methodLink RX0 127 yX0_checkUnit, Cond.static yX0_checkUnit, Cond.code yX0_checkUnit cX0_checkUnit 1 none, Cond.classLink RX0 84 "java/lang/IllegalArgumentException", Cond.initialized "java/lang/IllegalArgumentException", Cond.methodLink RX0 59 yX0_checkLane, Cond.static yX0_checkLane, Cond.code yX0_checkLane cX0_checkLane 1 none, Cond.methodLink RX0 133 yX0_forgetWalks, Cond.instanceMethod yX0_forgetWalks, Cond.selects RX0 yX0_forgetWalks yX0_forgetWalks, Cond.code yX0_forgetWalks cX0_forgetWalks 1 none, Cond.fieldLink RX0 34 "LaneTrunks" "steps" "[I", Cond.methodLink RX0 46 yJ7_fill_53178]
def wsL_joined_r2 : List Cond := [Cond.static yJ7_fill_53178, Cond.initialized RJ7, Cond.code yJ7_fill_53178 cJ7_fill_53178 4 none, Cond.methodLink RX0 136 yX0_walkFrom, Cond.instanceMethod yX0_walkFrom, Cond.selects RX0 yX0_walkFrom yX0_walkFrom, Cond.code yX0_walkFrom cX0_walkFrom 4 none, Cond.fieldLink RX0 37 "LaneTrunks" "reachedPlaces" "[I", Cond.methodLink RX0 190 yX0_reach, Cond.instanceMethod yX0_reach, Cond.selects RX0 yX0_reach yX0_reach, Cond.code yX0_reach cX0_reach 3 none, Cond.methodLink RX0 78 yX0_put, Cond.static yX0_put, Cond.code yX0_put cX0_put 3 none, Cond.methodLink RX0 74 yX0_at, Cond.static yX0_at, Cond.code yX0_at cX0_at 2 (some .int), Cond.methodLink RX0 194 yX0_reachNeighbours, Cond.instanceMethod yX0_reachNeighbours, Cond.selects RX0 yX0_reachNeighbours yX0_reachNeighbours, Cond.code yX0_reachNeighbours cX0_reachNeighbours 5 none, Cond.methodLink RX0 197 yX0_placeBeyond, Cond.instanceMethod yX0_placeBeyond]
def wsL_joined_r3 : List Cond := [Cond.selects RX0 yX0_placeBeyond yX0_placeBeyond, Cond.code yX0_placeBeyond cX0_placeBeyond 4 (some .int), Cond.fieldLink RX0 16 "LaneTrunks" "farSlot" "[I", Cond.methodLink RX0 116 yX0_hasLiveCable, Cond.instanceMethod yX0_hasLiveCable, Cond.selects RX0 yX0_hasLiveCable yX0_hasLiveCable, Cond.code yX0_hasLiveCable cX0_hasLiveCable 3 (some .boolean), Cond.fieldLink RX0 108 "LaneTrunks" "isTreeOn" "Z", Cond.fieldLink RX0 31 "LaneTrunks" "wayUpSlot" "[I", Cond.methodLink RX0 119 yX0_laneBeyond, Cond.instanceMethod yX0_laneBeyond, Cond.selects RX0 yX0_laneBeyond yX0_laneBeyond, Cond.code yX0_laneBeyond cX0_laneBeyond 5 (some .int), Cond.fieldLink RX0 9 "LaneTrunks" "untaggedLane" "[I", Cond.methodLink RX0 63 yX0_isTagged, Cond.instanceMethod yX0_isTagged, Cond.selects RX0 yX0_isTagged yX0_isTagged, Cond.code yX0_isTagged cX0_isTagged 3 (some .boolean), Cond.fieldLink RX0 13 "LaneTrunks" "taggedLanes" "[I"]
def wsL_joined : List Cond := .codeWith yL_joined cL_joined 5 (some .int) [(0, 10, 13, 13)] :: ((wsL_joined_r1 ++ (wsL_joined_r2 ++ wsL_joined_r3)) ++ wsX00 ++ (vx_atS RX0 88 "java/lang/IllegalArgumentException" ["java/lang/RuntimeException", "java/lang/Exception"]).filter goodWord)
def wsL_changes_r1 : List Cond := [Cond.classLink RL 13 "java/lang/IllegalArgumentException", Cond.methodLink RL 68 yX0_changes, Cond.instanceMethod yX0_changes, Cond.selects RX0 yX0_changes yX0_changes, Cond.initialized RX0, Cond.code yX0_changes cX0_changes 8 (some .int), Cond.fieldLink RX0 9 "LaneTrunks" "untaggedLane" "[I", Cond.fieldLink RX0 40 "LaneTrunks" "weights" "[I", Cond.fieldLink RX0 43 "LaneTrunks" "sums" "[I", Cond.methodLink RX0 55 yX0_slotOf, Cond.static yX0_slotOf, Cond.code yX0_slotOf cX0_slotOf 2 (some .int), Cond.classLink RX0 84 "java/lang/IllegalArgumentException", Cond.initialized "java/lang/IllegalArgumentException", Cond.methodLink RX0 127 yX0_checkUnit, Cond.static yX0_checkUnit, Cond.code yX0_checkUnit cX0_checkUnit 1 none, Cond.methodLink RX0 74 yX0_at, Cond.static yX0_at, Cond.code yX0_at cX0_at 2 (some .int), Cond.methodLink RX0 159 yX0_changesOver, Cond.instanceMethod yX0_changesOver, Cond.selects RX0 yX0_changesOver yX0_changesOver, Cond.code yX0_changesOver cX0_changesOver 6 (some .int)]
def wsL_changes_r2 : List Cond := [Cond.fieldLink RX0 16 "LaneTrunks" "farSlot" "[I", Cond.methodLink RX0 116 yX0_hasLiveCable, Cond.instanceMethod yX0_hasLiveCable, Cond.selects RX0 yX0_hasLiveCable yX0_hasLiveCable, Cond.code yX0_hasLiveCable cX0_hasLiveCable 3 (some .boolean), Cond.fieldLink RX0 108 "LaneTrunks" "isTreeOn" "Z", Cond.fieldLink RX0 31 "LaneTrunks" "wayUpSlot" "[I", Cond.methodLink RX0 63 yX0_isTagged, Cond.instanceMethod yX0_isTagged, Cond.selects RX0 yX0_isTagged yX0_isTagged, Cond.code yX0_isTagged cX0_isTagged 3 (some .boolean), Cond.fieldLink RX0 13 "LaneTrunks" "taggedLanes" "[I", Cond.methodLink RX0 78 yX0_put, Cond.static yX0_put, Cond.code yX0_put cX0_put 3 none, Cond.methodLink RX0 46 yJ7_fill_53178, Cond.static yJ7_fill_53178, Cond.initialized RJ7, Cond.code yJ7_fill_53178 cJ7_fill_53178 4 none, Cond.methodLink RX0 162 yX0_leastSums, Cond.instanceMethod yX0_leastSums, Cond.selects RX0 yX0_leastSums yX0_leastSums, Cond.code yX0_leastSums cX0_leastSums 5 none, Cond.methodLink RX0 186 yX0_lowerSum]
def wsL_changes_r3 : List Cond := [Cond.instanceMethod yX0_lowerSum, Cond.selects RX0 yX0_lowerSum yX0_lowerSum, Cond.code yX0_lowerSum cX0_lowerSum 7 none]
def wsL_changes : List Cond := .codeWith yL_changes cL_changes 7 (some .int) [(0, 14, 17, 13)] :: ((wsL_changes_r1 ++ (wsL_changes_r2 ++ wsL_changes_r3)) ++ wsX00 ++ (vx_atS RX0 88 "java/lang/IllegalArgumentException" ["java/lang/RuntimeException", "java/lang/Exception"]).filter goodWord)
def wsL_law0_r1 : List Cond := [Cond.classLink RL 8 RX0, Cond.instantiable RX0 15, Cond.initialized RX0, Cond.classLink RL 72 RX1, Cond.instantiable RX1 15, Cond.initialized RX1, Cond.arrayClass .long, Cond.methodLink RL 71 yX0_init, Cond.instanceMethod yX0_init, Cond.code yX0_init cX0_init 1 none, Cond.methodLink RX0 3 objectInit, Cond.instanceMethod objectInit, Cond.code objectInit ⟨#[0xb1]⟩ 1 none, Cond.arrayClass .int, Cond.fieldLink RX0 9 "LaneTrunks" "untaggedLane" "[I", Cond.fieldLink RX0 13 "LaneTrunks" "taggedLanes" "[I", Cond.fieldLink RX0 16 "LaneTrunks" "farSlot" "[I", Cond.fieldLink RX0 19 "LaneTrunks" "cableCost" "[I", Cond.fieldLink RX0 22 "LaneTrunks" "book" "[I", Cond.fieldLink RX0 25 "LaneTrunks" "rootUnit" "[I", Cond.fieldLink RX0 28 "LaneTrunks" "rootCost" "[I", Cond.fieldLink RX0 31 "LaneTrunks" "wayUpSlot" "[I", Cond.fieldLink RX0 34 "LaneTrunks" "steps" "[I", Cond.fieldLink RX0 37 "LaneTrunks" "reachedPlaces" "[I"]
def wsL_law0_r2 : List Cond := [Cond.fieldLink RX0 40 "LaneTrunks" "weights" "[I", Cond.fieldLink RX0 43 "LaneTrunks" "sums" "[I", Cond.methodLink RX0 46 yJ7_fill_53178, Cond.static yJ7_fill_53178, Cond.initialized RJ7, Cond.code yJ7_fill_53178 cJ7_fill_53178 4 none, Cond.methodLink RX0 52 yX0_growTree, Cond.instanceMethod yX0_growTree, Cond.selects RX0 yX0_growTree yX0_growTree, Cond.code yX0_growTree cX0_growTree 2 none, Cond.methodLink RX0 177 yX0_findRoots, Cond.instanceMethod yX0_findRoots, Cond.selects RX0 yX0_findRoots yX0_findRoots, Cond.code yX0_findRoots cX0_findRoots 2 none, Cond.methodLink RX0 78 yX0_put, Cond.static yX0_put, Cond.code yX0_put cX0_put 3 none, Cond.methodLink RX0 162 yX0_leastSums, Cond.instanceMethod yX0_leastSums, Cond.selects RX0 yX0_leastSums yX0_leastSums, Cond.code yX0_leastSums cX0_leastSums 5 none, Cond.methodLink RX0 186 yX0_lowerSum, Cond.instanceMethod yX0_lowerSum, Cond.selects RX0 yX0_lowerSum yX0_lowerSum]
def wsL_law0_r3 : List Cond := [Cond.code yX0_lowerSum cX0_lowerSum 7 none, Cond.methodLink RX0 74 yX0_at, Cond.static yX0_at, Cond.code yX0_at cX0_at 2 (some .int), Cond.methodLink RX0 180 yX0_findCosts, Cond.instanceMethod yX0_findCosts, Cond.selects RX0 yX0_findCosts yX0_findCosts, Cond.code yX0_findCosts cX0_findCosts 2 none, Cond.methodLink RX0 183 yX0_bestWayUp, Cond.instanceMethod yX0_bestWayUp, Cond.selects RX0 yX0_bestWayUp yX0_bestWayUp, Cond.code yX0_bestWayUp cX0_bestWayUp 9 (some .int), Cond.methodLink RL 74 yX1_init, Cond.instanceMethod yX1_init, Cond.code yX1_init cX1_init 2 none, Cond.methodLink RX1 1 objectInit, Cond.fieldLink RX1 7 "LaneTrunksModel" "untagged" "[I", Cond.fieldLink RX1 13 "LaneTrunksModel" "tagged" "[I", Cond.fieldLink RX1 16 "LaneTrunksModel" "ends" "[I", Cond.fieldLink RX1 19 "LaneTrunksModel" "costs" "[I", Cond.fieldLink RX1 22 "LaneTrunksModel" "books" "[I", Cond.fieldLink RX1 25 "LaneTrunksModel" "roots" "[I", Cond.fieldLink RX1 28 "LaneTrunksModel" "ways" "[I", Cond.fieldLink RX1 31 "LaneTrunksModel" "sums" "[I"]
def wsL_law0_r4 : List Cond := [Cond.fieldLink RX1 34 "LaneTrunksModel" "steps" "[I", Cond.fieldLink RX1 37 "LaneTrunksModel" "queue" "[I", Cond.fieldLink RX1 40 "LaneTrunksModel" "fewest" "[I", Cond.methodLink RL 75 yL_untag, Cond.static yL_untag, Cond.initialized RL, Cond.codeWith yL_untag cL_untag 6 (some .int) [(0, 12, 15, 13), (0, 12, 19, 15)], Cond.classLink RL 13 "java/lang/IllegalArgumentException", Cond.classLink RL 15 "java/lang/IllegalStateException", Cond.methodLink RL 7 yX0_untag, Cond.instanceMethod yX0_untag, Cond.selects RX0 yX0_untag yX0_untag, Cond.code yX0_untag cX0_untag 6 (some .int), Cond.classLink RX0 67 "java/lang/IllegalStateException", Cond.initialized "java/lang/IllegalStateException", Cond.methodLink RX0 55 yX0_slotOf, Cond.static yX0_slotOf, Cond.code yX0_slotOf cX0_slotOf 2 (some .int), Cond.classLink RX0 84 "java/lang/IllegalArgumentException", Cond.initialized "java/lang/IllegalArgumentException", Cond.methodLink RX0 127 yX0_checkUnit, Cond.static yX0_checkUnit, Cond.code yX0_checkUnit cX0_checkUnit 1 none, Cond.methodLink RX0 59 yX0_checkLane]
def wsL_law0_r5 : List Cond := [Cond.static yX0_checkLane, Cond.code yX0_checkLane cX0_checkLane 1 none, Cond.methodLink RX0 63 yX0_isTagged, Cond.instanceMethod yX0_isTagged, Cond.selects RX0 yX0_isTagged yX0_isTagged, Cond.code yX0_isTagged cX0_isTagged 3 (some .boolean), Cond.methodLink RL 80 yX1_untag, Cond.instanceMethod yX1_untag, Cond.selects RX1 yX1_untag yX1_untag, Cond.code yX1_untag cX1_untag 6 (some .int), Cond.fieldLink RX1 43 "LaneTrunksModel" "thrown" "I", Cond.methodLink RX1 51 yX1_isPort, Cond.static yX1_isPort, Cond.code yX1_isPort cX1_isPort 2 (some .boolean), Cond.methodLink RX1 47 yX1_in, Cond.static yX1_in, Cond.code yX1_in cX1_in 3 (some .boolean), Cond.methodLink RX1 55 yX1_isTagged, Cond.instanceMethod yX1_isTagged, Cond.selects RX1 yX1_isTagged yX1_isTagged, Cond.code yX1_isTagged cX1_isTagged 3 (some .boolean), Cond.methodLink RL 81 yX1_thrown, Cond.instanceMethod yX1_thrown, Cond.selects RX1 yX1_thrown yX1_thrown]
def wsL_law0_r6 : List Cond := [Cond.code yX1_thrown cX1_thrown 1 (some .int), Cond.methodLink RL 85 yL_tag, Cond.static yL_tag, Cond.codeWith yL_tag cL_tag 7 (some .int) [(0, 21, 24, 13), (0, 21, 28, 15)], Cond.methodLink RL 17 yX0_tag, Cond.instanceMethod yX0_tag, Cond.selects RX0 yX0_tag yX0_tag, Cond.code yX0_tag cX0_tag 8 (some .boolean), Cond.methodLink RL 88 yX1_tag, Cond.instanceMethod yX1_tag, Cond.selects RX1 yX1_tag yX1_tag, Cond.code yX1_tag cX1_tag 7 (some .boolean), Cond.methodLink RX1 58 yX1_isPlace, Cond.static yX1_isPlace, Cond.code yX1_isPlace cX1_isPlace 2 (some .boolean), Cond.methodLink RL 89 yL_cable, Cond.static yL_cable, Cond.codeWith yL_cable cL_cable 8 (some .int) [(0, 16, 19, 13), (0, 16, 23, 15)], Cond.methodLink RL 21 yX0_cable, Cond.instanceMethod yX0_cable, Cond.selects RX0 yX0_cable yX0_cable, Cond.code yX0_cable cX0_cable 8 (some .int), Cond.fieldLink RX0 101 "LaneTrunks" "cableCount" "I", Cond.methodLink RX0 91 yX0_hasCable]
def wsL_law0_r7 : List Cond := [Cond.instanceMethod yX0_hasCable, Cond.selects RX0 yX0_hasCable yX0_hasCable, Cond.code yX0_hasCable cX0_hasCable 2 (some .boolean), Cond.methodLink RX0 97 yX0_setCable, Cond.instanceMethod yX0_setCable, Cond.selects RX0 yX0_setCable yX0_setCable, Cond.code yX0_setCable cX0_setCable 4 none, Cond.methodLink RL 92 yX1_cable, Cond.instanceMethod yX1_cable, Cond.selects RX1 yX1_cable yX1_cable, Cond.code yX1_cable cX1_cable 8 (some .int), Cond.fieldLink RX1 61 "LaneTrunksModel" "cableMany" "I", Cond.methodLink RL 93 yL_pull, Cond.static yL_pull, Cond.codeWith yL_pull cL_pull 5 (some .int) [(0, 10, 13, 13), (0, 10, 17, 29)], Cond.classLink RL 29 "java/util/NoSuchElementException", Cond.methodLink RL 25 yX0_pull, Cond.instanceMethod yX0_pull, Cond.selects RX0 yX0_pull yX0_pull, Cond.code yX0_pull cX0_pull 5 (some .int), Cond.methodLink RX0 105 yX0_slotWithCable, Cond.instanceMethod yX0_slotWithCable, Cond.selects RX0 yX0_slotWithCable yX0_slotWithCable, Cond.code yX0_slotWithCable cX0_slotWithCable 4 (some .int)]
def wsL_law0_r8 : List Cond := [Cond.classLink RX0 172 "java/util/NoSuchElementException", Cond.initialized "java/util/NoSuchElementException", Cond.methodLink RL 96 yX1_pull, Cond.instanceMethod yX1_pull, Cond.selects RX1 yX1_pull yX1_pull, Cond.code yX1_pull cX1_pull 4 (some .int), Cond.methodLink RX1 64 yX1_hasCable, Cond.instanceMethod yX1_hasCable, Cond.selects RX1 yX1_hasCable yX1_hasCable, Cond.code yX1_hasCable cX1_hasCable 3 (some .boolean), Cond.methodLink RL 97 yX0_tree, Cond.instanceMethod yX0_tree, Cond.selects RX0 yX0_tree yX0_tree, Cond.code yX0_tree cX0_tree 3 (some .boolean), Cond.fieldLink RX0 108 "LaneTrunks" "isTreeOn" "Z", Cond.methodLink RL 101 yX1_tree, Cond.instanceMethod yX1_tree, Cond.selects RX1 yX1_tree yX1_tree, Cond.code yX1_tree cX1_tree 3 (some .boolean), Cond.fieldLink RX1 67 "LaneTrunksModel" "isTree" "Z", Cond.methodLink RL 102 yL_note, Cond.static yL_note, Cond.codeWith yL_note cL_note 7 (some .int) [(0, 21, 24, 13)], Cond.methodLink RL 31 yX0_note]
def wsL_law0_r9 : List Cond := [Cond.instanceMethod yX0_note, Cond.selects RX0 yX0_note yX0_note, Cond.code yX0_note cX0_note 8 (some .boolean), Cond.methodLink RX0 112 yX0_endName, Cond.static yX0_endName, Cond.code yX0_endName cX0_endName 1 (some .int), Cond.methodLink RL 105 yX1_note, Cond.instanceMethod yX1_note, Cond.selects RX1 yX1_note yX1_note, Cond.code yX1_note cX1_note 7 (some .boolean), Cond.methodLink RL 106 yL_far, Cond.static yL_far, Cond.codeWith yL_far cL_far 5 (some .int) [(0, 10, 13, 13)], Cond.methodLink RL 35 yX0_far, Cond.instanceMethod yX0_far, Cond.selects RX0 yX0_far yX0_far, Cond.code yX0_far cX0_far 3 (some .int), Cond.methodLink RL 108 yX1_far, Cond.instanceMethod yX1_far, Cond.selects RX1 yX1_far yX1_far, Cond.code yX1_far cX1_far 4 (some .int), Cond.methodLink RL 109 yL_isOn, Cond.static yL_isOn, Cond.codeWith yL_isOn cL_isOn 5 (some .int) [(0, 17, 20, 13), (0, 17, 24, 29)]]
def wsL_law0_r10 : List Cond := [Cond.methodLink RL 38 yX0_isOn, Cond.instanceMethod yX0_isOn, Cond.selects RX0 yX0_isOn yX0_isOn, Cond.code yX0_isOn cX0_isOn 3 (some .boolean), Cond.methodLink RX0 116 yX0_hasLiveCable, Cond.instanceMethod yX0_hasLiveCable, Cond.selects RX0 yX0_hasLiveCable yX0_hasLiveCable, Cond.code yX0_hasLiveCable cX0_hasLiveCable 3 (some .boolean), Cond.methodLink RL 111 yX1_isOn, Cond.instanceMethod yX1_isOn, Cond.selects RX1 yX1_isOn yX1_isOn, Cond.code yX1_isOn cX1_isOn 3 (some .boolean), Cond.methodLink RX1 72 yX1_layTree, Cond.instanceMethod yX1_layTree, Cond.selects RX1 yX1_layTree yX1_layTree, Cond.code yX1_layTree cX1_layTree 5 none, Cond.constant RX1 71 (1000000), Cond.methodLink RX1 75 yX1_isLive, Cond.instanceMethod yX1_isLive, Cond.selects RX1 yX1_isLive yX1_isLive, Cond.code yX1_isLive cX1_isLive 2 (some .boolean), Cond.methodLink RL 112 yL_comesAs, Cond.static yL_comesAs, Cond.codeWith yL_comesAs cL_comesAs 6 (some .int) [(0, 12, 15, 13), (0, 12, 19, 29)]]
def wsL_law0_r11 : List Cond := [Cond.methodLink RL 42 yX0_comesAs, Cond.instanceMethod yX0_comesAs, Cond.selects RX0 yX0_comesAs yX0_comesAs, Cond.code yX0_comesAs cX0_comesAs 4 (some .int), Cond.methodLink RX0 119 yX0_laneBeyond, Cond.instanceMethod yX0_laneBeyond, Cond.selects RX0 yX0_laneBeyond yX0_laneBeyond, Cond.code yX0_laneBeyond cX0_laneBeyond 5 (some .int), Cond.methodLink RL 114 yX1_comesAs, Cond.instanceMethod yX1_comesAs, Cond.selects RX1 yX1_comesAs yX1_comesAs, Cond.code yX1_comesAs cX1_comesAs 4 (some .int), Cond.methodLink RX1 79 yX1_carried, Cond.instanceMethod yX1_carried, Cond.selects RX1 yX1_carried yX1_carried, Cond.code yX1_carried cX1_carried 4 (some .int), Cond.methodLink RL 115 yL_oneSided, Cond.static yL_oneSided, Cond.codeWith yL_oneSided cL_oneSided 5 (some .int) [(0, 10, 13, 13), (0, 10, 17, 29)], Cond.methodLink RL 45 yX0_oneSided, Cond.instanceMethod yX0_oneSided, Cond.selects RX0 yX0_oneSided yX0_oneSided, Cond.code yX0_oneSided cX0_oneSided 4 (some .int), Cond.methodLink RX0 122 yJ6_bitCount_0f7a4]
def wsL_law0_r12 : List Cond := [Cond.static yJ6_bitCount_0f7a4, Cond.initialized RJ6, Cond.code yJ6_bitCount_0f7a4 cJ6_bitCount_0f7a4 1 (some .int), Cond.constant RJ6 265 (1431655765), Cond.constant RJ6 266 (858993459), Cond.constant RJ6 267 (252645135), Cond.methodLink RL 117 yX1_oneSided, Cond.instanceMethod yX1_oneSided, Cond.selects RX1 yX1_oneSided yX1_oneSided, Cond.code yX1_oneSided cX1_oneSided 4 (some .int), Cond.methodLink RX1 83 yX1_bits, Cond.static yX1_bits, Cond.code yX1_bits cX1_bits 3 (some .int), Cond.methodLink RL 118 yX0_wrong, Cond.instanceMethod yX0_wrong, Cond.selects RX0 yX0_wrong yX0_wrong, Cond.code yX0_wrong cX0_wrong 4 (some .int), Cond.methodLink RL 121 yX1_wrong, Cond.instanceMethod yX1_wrong, Cond.selects RX1 yX1_wrong yX1_wrong, Cond.code yX1_wrong cX1_wrong 3 (some .int), Cond.methodLink RL 122 yL_root, Cond.static yL_root, Cond.codeWith yL_root cL_root 4 (some .int) [(0, 9, 12, 13)]]
def wsL_law0_r13 : List Cond := [Cond.methodLink RL 48 yX0_root, Cond.instanceMethod yX0_root, Cond.selects RX0 yX0_root yX0_root, Cond.code yX0_root cX0_root 2 (some .int), Cond.methodLink RL 125 yX1_root, Cond.instanceMethod yX1_root, Cond.selects RX1 yX1_root yX1_root, Cond.code yX1_root cX1_root 2 (some .int), Cond.methodLink RX1 87 yX1_asksFor, Cond.instanceMethod yX1_asksFor, Cond.selects RX1 yX1_asksFor yX1_asksFor, Cond.code yX1_asksFor cX1_asksFor 2 (some .boolean), Cond.methodLink RL 126 yL_costOf, Cond.static yL_costOf, Cond.codeWith yL_costOf cL_costOf 4 (some .int) [(0, 9, 12, 13)], Cond.methodLink RL 52 yX0_costOf, Cond.instanceMethod yX0_costOf, Cond.selects RX0 yX0_costOf yX0_costOf, Cond.code yX0_costOf cX0_costOf 2 (some .int), Cond.methodLink RL 128 yX1_costOf, Cond.instanceMethod yX1_costOf, Cond.selects RX1 yX1_costOf yX1_costOf, Cond.code yX1_costOf cX1_costOf 2 (some .int), Cond.methodLink RL 129 yL_wayUp]
def wsL_law0_r14 : List Cond := [Cond.static yL_wayUp, Cond.codeWith yL_wayUp cL_wayUp 4 (some .int) [(0, 9, 12, 13)], Cond.methodLink RL 55 yX0_wayUp, Cond.instanceMethod yX0_wayUp, Cond.selects RX0 yX0_wayUp yX0_wayUp, Cond.code yX0_wayUp cX0_wayUp 3 (some .int), Cond.methodLink RL 131 yX1_wayUp, Cond.instanceMethod yX1_wayUp, Cond.selects RX1 yX1_wayUp yX1_wayUp, Cond.code yX1_wayUp cX1_wayUp 2 (some .int), Cond.methodLink RL 132 yL_hops, Cond.static yL_hops, Cond.codeWith yL_hops cL_hops 7 (some .int) [(0, 14, 17, 13)], Cond.methodLink RL 58 yX0_hops, Cond.instanceMethod yX0_hops, Cond.selects RX0 yX0_hops yX0_hops, Cond.code yX0_hops cX0_hops 7 (some .int), Cond.methodLink RX0 130 yX0_placeOf, Cond.static yX0_placeOf, Cond.code yX0_placeOf cX0_placeOf 2 (some .int), Cond.methodLink RX0 133 yX0_forgetWalks, Cond.instanceMethod yX0_forgetWalks, Cond.selects RX0 yX0_forgetWalks yX0_forgetWalks, Cond.code yX0_forgetWalks cX0_forgetWalks 1 none]
def wsL_law0_r15 : List Cond := [Cond.fieldLink RX0 143 "LaneTrunks" "reachedCount" "I", Cond.methodLink RX0 136 yX0_walkFrom, Cond.instanceMethod yX0_walkFrom, Cond.selects RX0 yX0_walkFrom yX0_walkFrom, Cond.code yX0_walkFrom cX0_walkFrom 4 none, Cond.methodLink RX0 190 yX0_reach, Cond.instanceMethod yX0_reach, Cond.selects RX0 yX0_reach yX0_reach, Cond.code yX0_reach cX0_reach 3 none, Cond.methodLink RX0 194 yX0_reachNeighbours, Cond.instanceMethod yX0_reachNeighbours, Cond.selects RX0 yX0_reachNeighbours yX0_reachNeighbours, Cond.code yX0_reachNeighbours cX0_reachNeighbours 5 none, Cond.methodLink RX0 197 yX0_placeBeyond, Cond.instanceMethod yX0_placeBeyond, Cond.selects RX0 yX0_placeBeyond yX0_placeBeyond, Cond.code yX0_placeBeyond cX0_placeBeyond 4 (some .int), Cond.methodLink RL 134 yX1_hops, Cond.instanceMethod yX1_hops, Cond.selects RX1 yX1_hops yX1_hops, Cond.code yX1_hops cX1_hops 5 (some .int), Cond.methodLink RX1 93 yX1_place, Cond.static yX1_place, Cond.code yX1_place cX1_place 2 (some .int)]
def wsL_law0_r16 : List Cond := [Cond.methodLink RX1 96 yX1_spread, Cond.instanceMethod yX1_spread, Cond.selects RX1 yX1_spread yX1_spread, Cond.code yX1_spread cX1_spread 7 none, Cond.fieldLink RX1 90 "LaneTrunksModel" "queued" "I", Cond.methodLink RL 135 yL_meet, Cond.static yL_meet, Cond.codeWith yL_meet cL_meet 7 (some .int) [(0, 21, 24, 13)], Cond.methodLink RL 62 yX0_meet, Cond.instanceMethod yX0_meet, Cond.selects RX0 yX0_meet yX0_meet, Cond.code yX0_meet cX0_meet 7 (some .boolean), Cond.methodLink RX0 139 yX0_hops, Cond.methodLink RL 137 yX1_meet, Cond.instanceMethod yX1_meet, Cond.selects RX1 yX1_meet yX1_meet, Cond.code yX1_meet cX1_meet 7 (some .boolean), Cond.methodLink RL 138 yL_joined, Cond.static yL_joined, Cond.codeWith yL_joined cL_joined 5 (some .int) [(0, 10, 13, 13)], Cond.methodLink RL 65 yX0_joined, Cond.instanceMethod yX0_joined, Cond.selects RX0 yX0_joined yX0_joined, Cond.code yX0_joined cX0_joined 4 (some .int)]
def wsL_law0_r17 : List Cond := [Cond.methodLink RL 140 yX1_joined, Cond.instanceMethod yX1_joined, Cond.selects RX1 yX1_joined yX1_joined, Cond.code yX1_joined cX1_joined 3 (some .int), Cond.methodLink RL 141 yX0_islands, Cond.instanceMethod yX0_islands, Cond.selects RX0 yX0_islands yX0_islands, Cond.code yX0_islands cX0_islands 5 (some .int), Cond.methodLink RX0 146 yX0_isUsed, Cond.instanceMethod yX0_isUsed, Cond.selects RX0 yX0_isUsed yX0_isUsed, Cond.code yX0_isUsed cX0_isUsed 5 (some .boolean), Cond.methodLink RL 144 yX1_islands, Cond.instanceMethod yX1_islands, Cond.selects RX1 yX1_islands yX1_islands, Cond.code yX1_islands cX1_islands 1 (some .int), Cond.methodLink RX1 103 yX1_islandMany, Cond.instanceMethod yX1_islandMany, Cond.selects RX1 yX1_islandMany yX1_islandMany, Cond.code yX1_islandMany cX1_islandMany 5 (some .int), Cond.methodLink RX1 100 yX1_isUsed, Cond.instanceMethod yX1_isUsed, Cond.selects RX1 yX1_isUsed yX1_isUsed, Cond.code yX1_isUsed cX1_isUsed 4 (some .boolean)]
def wsL_law0_r18 : List Cond := [Cond.methodLink RL 145 yX0_loops, Cond.instanceMethod yX0_loops, Cond.selects RX0 yX0_loops yX0_loops, Cond.code yX0_loops cX0_loops 1 (some .int), Cond.methodLink RX0 149 yX0_countWays, Cond.instanceMethod yX0_countWays, Cond.selects RX0 yX0_countWays yX0_countWays, Cond.code yX0_countWays cX0_countWays 3 (some .int), Cond.methodLink RX0 200 yX0_waysOver, Cond.instanceMethod yX0_waysOver, Cond.selects RX0 yX0_waysOver yX0_waysOver, Cond.code yX0_waysOver cX0_waysOver 5 (some .int), Cond.methodLink RX0 153 yX0_countUsedPlaces, Cond.instanceMethod yX0_countUsedPlaces, Cond.selects RX0 yX0_countUsedPlaces yX0_countUsedPlaces, Cond.code yX0_countUsedPlaces cX0_countUsedPlaces 4 (some .int), Cond.methodLink RX0 156 yX0_islands, Cond.methodLink RL 148 yX1_loops, Cond.instanceMethod yX1_loops, Cond.selects RX1 yX1_loops yX1_loops, Cond.code yX1_loops cX1_loops 5 (some .int), Cond.methodLink RL 149 yL_changes, Cond.static yL_changes, Cond.codeWith yL_changes cL_changes 7 (some .int) [(0, 14, 17, 13)]]
def wsL_law0_r19 : List Cond := [Cond.methodLink RL 68 yX0_changes, Cond.instanceMethod yX0_changes, Cond.selects RX0 yX0_changes yX0_changes, Cond.code yX0_changes cX0_changes 8 (some .int), Cond.methodLink RX0 159 yX0_changesOver, Cond.instanceMethod yX0_changesOver, Cond.selects RX0 yX0_changesOver yX0_changesOver, Cond.code yX0_changesOver cX0_changesOver 6 (some .int), Cond.methodLink RL 151 yX1_changes, Cond.instanceMethod yX1_changes, Cond.selects RX1 yX1_changes yX1_changes, Cond.code yX1_changes cX1_changes 9 (some .int), Cond.methodLink RX1 107 yX1_changesAt, Cond.instanceMethod yX1_changesAt, Cond.selects RX1 yX1_changesAt yX1_changesAt, Cond.code yX1_changesAt cX1_changesAt 4 (some .int)]
def wsL_law0 : List Cond := (wsL_law0_r1 ++ (wsL_law0_r2 ++ (wsL_law0_r3 ++ (wsL_law0_r4 ++ (wsL_law0_r5 ++ (wsL_law0_r6 ++ (wsL_law0_r7 ++ (wsL_law0_r8 ++ (wsL_law0_r9 ++ (wsL_law0_r10 ++ (wsL_law0_r11 ++ (wsL_law0_r12 ++ (wsL_law0_r13 ++ (wsL_law0_r14 ++ (wsL_law0_r15 ++ (wsL_law0_r16 ++ (wsL_law0_r17 ++ (wsL_law0_r18 ++ wsL_law0_r19)))))))))))))))))) ++ wsX00 ++ wsX10 ++ ([] : List Cond)
def wsL_law : List Cond := wsL_law0 ++ (vx_atS RX0 71 "java/lang/IllegalStateException" ["java/lang/RuntimeException", "java/lang/Exception"]).filter goodWord ++ (vx_atS RX0 88 "java/lang/IllegalArgumentException" ["java/lang/RuntimeException", "java/lang/Exception"]).filter goodWord ++ (vx_atS RX0 176 "java/util/NoSuchElementException" ["java/lang/RuntimeException", "java/lang/Exception"]).filter goodWord
abbrev vwCl : List vw_C := [(RX0, TX0, 15), (RX1, TX1, 15)]
end
section
set_option maxRecDepth 20000 in
theorem ggX0_init_J7_fill_53178 : GoodIn wsX0_init wsJ7_fill_53178 := goodIn_r _ [20] (by decide +kernel) (by decide +kernel)
set_option maxRecDepth 20000 in
theorem gX0_init_J7_fill_53178 : GoodIn wsX0_init (va_wsS RX0 46 yJ7_fill_53178 wsJ7_fill_53178) := goodIn_app (goodIn_of _ (by decide +kernel)) ggX0_init_J7_fill_53178
set_option maxRecDepth 20000 in
theorem ggX0_init_X0_growTree : GoodIn wsX0_init wsX0_growTree := goodIn_r _ [25, 12, 26, 27, 28, 24, 29, 10, 15, 30, 31, 32, 17, 18, 19, 20, 33, 34, 35, 36, 37, 38, 39, 40, 7, 41, 42, 43, 44, 45, 46, 47, 11, 8, 48, 49, 50, 51, 52, 53, 54, 55, 56, 57, 58, 59, 60, 61, 62, 63, 64, 65, 66] (by decide +kernel) (by decide +kernel)
set_option maxRecDepth 20000 in
theorem gX0_init_X0_growTree : GoodIn wsX0_init (wsV RX0 52 RX0 yX0_growTree wsX0_growTree) := goodIn_app (goodIn_of _ (by decide +kernel)) ggX0_init_X0_growTree
theorem dX0_init_0 : decode cX0_init 0 = .ok (.aload_n 0, 1) := by decide +kernel
theorem dX0_init_1 : decode cX0_init 1 = .ok (.invokespecial 3, 3) := by decide +kernel
theorem dX0_init_4 : decode cX0_init 4 = .ok (.aload_n 0, 1) := by decide +kernel
theorem dX0_init_5 : decode cX0_init 5 = .ok (.bipush 36, 2) := by decide +kernel
theorem dX0_init_7 : decode cX0_init 7 = .ok (.newarray .int, 2) := by decide +kernel
theorem dX0_init_9 : decode cX0_init 9 = .ok (.putfield 9, 3) := by decide +kernel
theorem dX0_init_12 : decode cX0_init 12 = .ok (.aload_n 0, 1) := by decide +kernel
theorem dX0_init_13 : decode cX0_init 13 = .ok (.bipush 36, 2) := by decide +kernel
theorem dX0_init_15 : decode cX0_init 15 = .ok (.newarray .int, 2) := by decide +kernel
theorem dX0_init_17 : decode cX0_init 17 = .ok (.putfield 13, 3) := by decide +kernel
theorem dX0_init_20 : decode cX0_init 20 = .ok (.aload_n 0, 1) := by decide +kernel
theorem dX0_init_21 : decode cX0_init 21 = .ok (.bipush 36, 2) := by decide +kernel
theorem dX0_init_23 : decode cX0_init 23 = .ok (.newarray .int, 2) := by decide +kernel
theorem dX0_init_25 : decode cX0_init 25 = .ok (.putfield 16, 3) := by decide +kernel
theorem dX0_init_28 : decode cX0_init 28 = .ok (.aload_n 0, 1) := by decide +kernel
theorem dX0_init_29 : decode cX0_init 29 = .ok (.bipush 36, 2) := by decide +kernel
theorem dX0_init_31 : decode cX0_init 31 = .ok (.newarray .int, 2) := by decide +kernel
theorem dX0_init_33 : decode cX0_init 33 = .ok (.putfield 19, 3) := by decide +kernel
theorem dX0_init_36 : decode cX0_init 36 = .ok (.aload_n 0, 1) := by decide +kernel
theorem dX0_init_37 : decode cX0_init 37 = .ok (.bipush 36, 2) := by decide +kernel
theorem dX0_init_39 : decode cX0_init 39 = .ok (.newarray .int, 2) := by decide +kernel
theorem dX0_init_41 : decode cX0_init 41 = .ok (.putfield 22, 3) := by decide +kernel
theorem dX0_init_44 : decode cX0_init 44 = .ok (.aload_n 0, 1) := by decide +kernel
theorem dX0_init_45 : decode cX0_init 45 = .ok (.bipush 6, 2) := by decide +kernel
theorem dX0_init_47 : decode cX0_init 47 = .ok (.newarray .int, 2) := by decide +kernel
theorem dX0_init_49 : decode cX0_init 49 = .ok (.putfield 25, 3) := by decide +kernel
theorem dX0_init_52 : decode cX0_init 52 = .ok (.aload_n 0, 1) := by decide +kernel
theorem dX0_init_53 : decode cX0_init 53 = .ok (.bipush 6, 2) := by decide +kernel
theorem dX0_init_55 : decode cX0_init 55 = .ok (.newarray .int, 2) := by decide +kernel
theorem dX0_init_57 : decode cX0_init 57 = .ok (.putfield 28, 3) := by decide +kernel
theorem dX0_init_60 : decode cX0_init 60 = .ok (.aload_n 0, 1) := by decide +kernel
theorem dX0_init_61 : decode cX0_init 61 = .ok (.bipush 6, 2) := by decide +kernel
theorem dX0_init_63 : decode cX0_init 63 = .ok (.newarray .int, 2) := by decide +kernel
theorem dX0_init_65 : decode cX0_init 65 = .ok (.putfield 31, 3) := by decide +kernel
theorem dX0_init_68 : decode cX0_init 68 = .ok (.aload_n 0, 1) := by decide +kernel
theorem dX0_init_69 : decode cX0_init 69 = .ok (.bipush 96, 2) := by decide +kernel
theorem dX0_init_71 : decode cX0_init 71 = .ok (.newarray .int, 2) := by decide +kernel
theorem dX0_init_73 : decode cX0_init 73 = .ok (.putfield 34, 3) := by decide +kernel
theorem dX0_init_76 : decode cX0_init 76 = .ok (.aload_n 0, 1) := by decide +kernel
theorem dX0_init_77 : decode cX0_init 77 = .ok (.bipush 96, 2) := by decide +kernel
theorem dX0_init_79 : decode cX0_init 79 = .ok (.newarray .int, 2) := by decide +kernel
theorem dX0_init_81 : decode cX0_init 81 = .ok (.putfield 37, 3) := by decide +kernel
theorem dX0_init_84 : decode cX0_init 84 = .ok (.aload_n 0, 1) := by decide +kernel
theorem dX0_init_85 : decode cX0_init 85 = .ok (.bipush 36, 2) := by decide +kernel
theorem dX0_init_87 : decode cX0_init 87 = .ok (.newarray .int, 2) := by decide +kernel
theorem dX0_init_89 : decode cX0_init 89 = .ok (.putfield 40, 3) := by decide +kernel
theorem dX0_init_92 : decode cX0_init 92 = .ok (.aload_n 0, 1) := by decide +kernel
theorem dX0_init_93 : decode cX0_init 93 = .ok (.bipush 6, 2) := by decide +kernel
theorem dX0_init_95 : decode cX0_init 95 = .ok (.newarray .int, 2) := by decide +kernel
theorem dX0_init_97 : decode cX0_init 97 = .ok (.putfield 43, 3) := by decide +kernel
theorem dX0_init_100 : decode cX0_init 100 = .ok (.aload_n 0, 1) := by decide +kernel
theorem dX0_init_101 : decode cX0_init 101 = .ok (.getfield 16, 3) := by decide +kernel
theorem dX0_init_104 : decode cX0_init 104 = .ok (.iconst (-1), 1) := by decide +kernel
theorem dX0_init_105 : decode cX0_init 105 = .ok (.invokestatic 46, 3) := by decide +kernel
theorem dX0_init_108 : decode cX0_init 108 = .ok (.aload_n 0, 1) := by decide +kernel
theorem dX0_init_109 : decode cX0_init 109 = .ok (.getfield 22, 3) := by decide +kernel
theorem dX0_init_112 : decode cX0_init 112 = .ok (.iconst (-1), 1) := by decide +kernel
theorem dX0_init_113 : decode cX0_init 113 = .ok (.invokestatic 46, 3) := by decide +kernel
theorem dX0_init_116 : decode cX0_init 116 = .ok (.aload_n 0, 1) := by decide +kernel
theorem dX0_init_117 : decode cX0_init 117 = .ok (.invokevirtual 52, 3) := by decide +kernel
theorem dX0_init_120 : decode cX0_init 120 = .ok (.return_, 1) := by decide +kernel
set_option maxRecDepth 20000 in
theorem ggX0_untag_X0_slotOf : GoodIn wsX0_untag wsX0_slotOf := goodIn_ca (goodIn_r _ [7, 8, 9, 10, 11, 6, 12] (by decide +kernel) (by decide +kernel)) (goodIn_sub (fun _ h => List.mem_cons_of_mem _ (List.mem_append_right _ h)) (by decide +kernel))
set_option maxRecDepth 20000 in
theorem gX0_untag_X0_slotOf : GoodIn wsX0_untag (va_wsS RX0 55 yX0_slotOf wsX0_slotOf) := goodIn_app (goodIn_of _ (by decide +kernel)) ggX0_untag_X0_slotOf
set_option maxRecDepth 20000 in
theorem ggX0_untag_X0_checkLane : GoodIn wsX0_untag wsX0_checkLane := goodIn_ca (goodIn_r _ [15, 8, 9] (by decide +kernel) (by decide +kernel)) (goodIn_sub (fun _ h => List.mem_cons_of_mem _ (List.mem_append_right _ h)) (by decide +kernel))
set_option maxRecDepth 20000 in
theorem gX0_untag_X0_checkLane : GoodIn wsX0_untag (va_wsS RX0 59 yX0_checkLane wsX0_checkLane) := goodIn_app (goodIn_of _ (by decide +kernel)) ggX0_untag_X0_checkLane
set_option maxRecDepth 20000 in
theorem ggX0_untag_X0_isTagged : GoodIn wsX0_untag wsX0_isTagged := goodIn_r _ [19, 20, 21, 22, 6, 23, 27, 28, 29, 30, 31, 32, 33, 34, 35, 36, 37, 38, 39, 40, 41] (by decide +kernel) (by decide +kernel)
set_option maxRecDepth 20000 in
theorem gX0_untag_X0_isTagged : GoodIn wsX0_untag (wsV RX0 63 RX0 yX0_isTagged wsX0_isTagged) := goodIn_app (goodIn_of _ (by decide +kernel)) ggX0_untag_X0_isTagged
set_option maxRecDepth 20000 in
theorem ggX0_untag_X0_at : GoodIn wsX0_untag wsX0_at := goodIn_r _ [23] (by decide +kernel) (by decide +kernel)
set_option maxRecDepth 20000 in
theorem gX0_untag_X0_at : GoodIn wsX0_untag (va_wsS RX0 74 yX0_at wsX0_at) := goodIn_app (goodIn_of _ (by decide +kernel)) ggX0_untag_X0_at
set_option maxRecDepth 20000 in
theorem ggX0_untag_X0_put : GoodIn wsX0_untag wsX0_put := goodIn_r _ [26] (by decide +kernel) (by decide +kernel)
set_option maxRecDepth 20000 in
theorem gX0_untag_X0_put : GoodIn wsX0_untag (va_wsS RX0 78 yX0_put wsX0_put) := goodIn_app (goodIn_of _ (by decide +kernel)) ggX0_untag_X0_put
theorem dX0_untag_0 : decode cX0_untag 0 = .ok (.iload_n 1, 1) := by decide +kernel
theorem dX0_untag_1 : decode cX0_untag 1 = .ok (.iload_n 2, 1) := by decide +kernel
theorem dX0_untag_2 : decode cX0_untag 2 = .ok (.invokestatic 55, 3) := by decide +kernel
theorem dX0_untag_5 : decode cX0_untag 5 = .ok (.istore 4, 2) := by decide +kernel
theorem dX0_untag_7 : decode cX0_untag 7 = .ok (.iload_n 3, 1) := by decide +kernel
theorem dX0_untag_8 : decode cX0_untag 8 = .ok (.ifCond .eq 7, 3) := by decide +kernel
theorem dX0_untag_11 : decode cX0_untag 11 = .ok (.iload_n 3, 1) := by decide +kernel
theorem dX0_untag_12 : decode cX0_untag 12 = .ok (.invokestatic 59, 3) := by decide +kernel
theorem dX0_untag_15 : decode cX0_untag 15 = .ok (.aload_n 0, 1) := by decide +kernel
theorem dX0_untag_16 : decode cX0_untag 16 = .ok (.iload 4, 2) := by decide +kernel
theorem dX0_untag_18 : decode cX0_untag 18 = .ok (.iload_n 3, 1) := by decide +kernel
theorem dX0_untag_19 : decode cX0_untag 19 = .ok (.invokevirtual 63, 3) := by decide +kernel
theorem dX0_untag_22 : decode cX0_untag 22 = .ok (.ifCond .eq 13, 3) := by decide +kernel
theorem dX0_untag_25 : decode cX0_untag 25 = .ok (.new 67, 3) := by decide +kernel
theorem dX0_untag_28 : decode cX0_untag 28 = .ok (.dup, 1) := by decide +kernel
theorem dX0_untag_29 : decode cX0_untag 29 = .ok (.ldc 69, 2) := by decide +kernel
theorem dX0_untag_31 : decode cX0_untag 31 = .ok (.invokespecial 71, 3) := by decide +kernel
theorem dX0_untag_34 : decode cX0_untag 34 = .ok (.athrow, 1) := by decide +kernel
theorem dX0_untag_35 : decode cX0_untag 35 = .ok (.aload_n 0, 1) := by decide +kernel
theorem dX0_untag_36 : decode cX0_untag 36 = .ok (.getfield 9, 3) := by decide +kernel
theorem dX0_untag_39 : decode cX0_untag 39 = .ok (.iload 4, 2) := by decide +kernel
theorem dX0_untag_41 : decode cX0_untag 41 = .ok (.invokestatic 74, 3) := by decide +kernel
theorem dX0_untag_44 : decode cX0_untag 44 = .ok (.istore 5, 2) := by decide +kernel
theorem dX0_untag_46 : decode cX0_untag 46 = .ok (.aload_n 0, 1) := by decide +kernel
theorem dX0_untag_47 : decode cX0_untag 47 = .ok (.getfield 9, 3) := by decide +kernel
theorem dX0_untag_50 : decode cX0_untag 50 = .ok (.iload 4, 2) := by decide +kernel
theorem dX0_untag_52 : decode cX0_untag 52 = .ok (.iload_n 3, 1) := by decide +kernel
theorem dX0_untag_53 : decode cX0_untag 53 = .ok (.invokestatic 78, 3) := by decide +kernel
theorem dX0_untag_56 : decode cX0_untag 56 = .ok (.iload 5, 2) := by decide +kernel
theorem dX0_untag_58 : decode cX0_untag 58 = .ok (.ireturn, 1) := by decide +kernel
set_option maxRecDepth 20000 in
theorem ggX0_tag_X0_slotOf : GoodIn wsX0_tag wsX0_slotOf := goodIn_ca (goodIn_r _ [8, 9, 10, 11, 12, 7, 13] (by decide +kernel) (by decide +kernel)) (goodIn_sub (fun _ h => List.mem_cons_of_mem _ (List.mem_append_right _ h)) (by decide +kernel))
set_option maxRecDepth 20000 in
theorem gX0_tag_X0_slotOf : GoodIn wsX0_tag (va_wsS RX0 55 yX0_slotOf wsX0_slotOf) := goodIn_app (goodIn_of _ (by decide +kernel)) ggX0_tag_X0_slotOf
set_option maxRecDepth 20000 in
theorem ggX0_tag_X0_checkLane : GoodIn wsX0_tag wsX0_checkLane := goodIn_ca (goodIn_r _ [16, 9, 10] (by decide +kernel) (by decide +kernel)) (goodIn_sub (fun _ h => List.mem_cons_of_mem _ (List.mem_append_right _ h)) (by decide +kernel))
set_option maxRecDepth 20000 in
theorem gX0_tag_X0_checkLane : GoodIn wsX0_tag (va_wsS RX0 59 yX0_checkLane wsX0_checkLane) := goodIn_app (goodIn_of _ (by decide +kernel)) ggX0_tag_X0_checkLane
set_option maxRecDepth 20000 in
theorem ggX0_tag_X0_at : GoodIn wsX0_tag wsX0_at := goodIn_r _ [19] (by decide +kernel) (by decide +kernel)
set_option maxRecDepth 20000 in
theorem gX0_tag_X0_at : GoodIn wsX0_tag (va_wsS RX0 74 yX0_at wsX0_at) := goodIn_app (goodIn_of _ (by decide +kernel)) ggX0_tag_X0_at
set_option maxRecDepth 20000 in
theorem ggX0_tag_X0_isTagged : GoodIn wsX0_tag wsX0_isTagged := goodIn_r _ [23, 4, 17, 18, 7, 19, 27, 28, 29, 30, 31, 32, 33, 34, 35, 36, 37, 38, 39, 40, 41] (by decide +kernel) (by decide +kernel)
set_option maxRecDepth 20000 in
theorem gX0_tag_X0_isTagged : GoodIn wsX0_tag (wsV RX0 63 RX0 yX0_isTagged wsX0_isTagged) := goodIn_app (goodIn_of _ (by decide +kernel)) ggX0_tag_X0_isTagged
set_option maxRecDepth 20000 in
theorem ggX0_tag_X0_put : GoodIn wsX0_tag wsX0_put := goodIn_r _ [26] (by decide +kernel) (by decide +kernel)
set_option maxRecDepth 20000 in
theorem gX0_tag_X0_put : GoodIn wsX0_tag (va_wsS RX0 78 yX0_put wsX0_put) := goodIn_app (goodIn_of _ (by decide +kernel)) ggX0_tag_X0_put
theorem dX0_tag_0 : decode cX0_tag 0 = .ok (.iload_n 1, 1) := by decide +kernel
theorem dX0_tag_1 : decode cX0_tag 1 = .ok (.iload_n 2, 1) := by decide +kernel
theorem dX0_tag_2 : decode cX0_tag 2 = .ok (.invokestatic 55, 3) := by decide +kernel
theorem dX0_tag_5 : decode cX0_tag 5 = .ok (.istore 5, 2) := by decide +kernel
theorem dX0_tag_7 : decode cX0_tag 7 = .ok (.iload_n 3, 1) := by decide +kernel
theorem dX0_tag_8 : decode cX0_tag 8 = .ok (.invokestatic 59, 3) := by decide +kernel
theorem dX0_tag_11 : decode cX0_tag 11 = .ok (.iload 4, 2) := by decide +kernel
theorem dX0_tag_13 : decode cX0_tag 13 = .ok (.ifCond .eq 26, 3) := by decide +kernel
theorem dX0_tag_16 : decode cX0_tag 16 = .ok (.aload_n 0, 1) := by decide +kernel
theorem dX0_tag_17 : decode cX0_tag 17 = .ok (.getfield 9, 3) := by decide +kernel
theorem dX0_tag_20 : decode cX0_tag 20 = .ok (.iload 5, 2) := by decide +kernel
theorem dX0_tag_22 : decode cX0_tag 22 = .ok (.invokestatic 74, 3) := by decide +kernel
theorem dX0_tag_25 : decode cX0_tag 25 = .ok (.iload_n 3, 1) := by decide +kernel
theorem dX0_tag_26 : decode cX0_tag 26 = .ok (.if_icmp .ne 13, 3) := by decide +kernel
theorem dX0_tag_29 : decode cX0_tag 29 = .ok (.new 67, 3) := by decide +kernel
theorem dX0_tag_32 : decode cX0_tag 32 = .ok (.dup, 1) := by decide +kernel
theorem dX0_tag_33 : decode cX0_tag 33 = .ok (.ldc 82, 2) := by decide +kernel
theorem dX0_tag_35 : decode cX0_tag 35 = .ok (.invokespecial 71, 3) := by decide +kernel
theorem dX0_tag_38 : decode cX0_tag 38 = .ok (.athrow, 1) := by decide +kernel
theorem dX0_tag_39 : decode cX0_tag 39 = .ok (.aload_n 0, 1) := by decide +kernel
theorem dX0_tag_40 : decode cX0_tag 40 = .ok (.iload 5, 2) := by decide +kernel
theorem dX0_tag_42 : decode cX0_tag 42 = .ok (.iload_n 3, 1) := by decide +kernel
theorem dX0_tag_43 : decode cX0_tag 43 = .ok (.invokevirtual 63, 3) := by decide +kernel
theorem dX0_tag_46 : decode cX0_tag 46 = .ok (.istore 6, 2) := by decide +kernel
theorem dX0_tag_48 : decode cX0_tag 48 = .ok (.aload_n 0, 1) := by decide +kernel
theorem dX0_tag_49 : decode cX0_tag 49 = .ok (.getfield 13, 3) := by decide +kernel
theorem dX0_tag_52 : decode cX0_tag 52 = .ok (.iload 5, 2) := by decide +kernel
theorem dX0_tag_54 : decode cX0_tag 54 = .ok (.invokestatic 74, 3) := by decide +kernel
theorem dX0_tag_57 : decode cX0_tag 57 = .ok (.iconst 1, 1) := by decide +kernel
theorem dX0_tag_58 : decode cX0_tag 58 = .ok (.iload_n 3, 1) := by decide +kernel
theorem dX0_tag_59 : decode cX0_tag 59 = .ok (.ishl, 1) := by decide +kernel
theorem dX0_tag_60 : decode cX0_tag 60 = .ok (.iconst (-1), 1) := by decide +kernel
theorem dX0_tag_61 : decode cX0_tag 61 = .ok (.ixor, 1) := by decide +kernel
theorem dX0_tag_62 : decode cX0_tag 62 = .ok (.iand, 1) := by decide +kernel
theorem dX0_tag_63 : decode cX0_tag 63 = .ok (.istore 7, 2) := by decide +kernel
theorem dX0_tag_65 : decode cX0_tag 65 = .ok (.aload_n 0, 1) := by decide +kernel
theorem dX0_tag_66 : decode cX0_tag 66 = .ok (.getfield 13, 3) := by decide +kernel
theorem dX0_tag_69 : decode cX0_tag 69 = .ok (.iload 5, 2) := by decide +kernel
theorem dX0_tag_71 : decode cX0_tag 71 = .ok (.iload 4, 2) := by decide +kernel
theorem dX0_tag_73 : decode cX0_tag 73 = .ok (.ifCond .eq 12, 3) := by decide +kernel
theorem dX0_tag_76 : decode cX0_tag 76 = .ok (.iload 7, 2) := by decide +kernel
theorem dX0_tag_78 : decode cX0_tag 78 = .ok (.iconst 1, 1) := by decide +kernel
theorem dX0_tag_79 : decode cX0_tag 79 = .ok (.iload_n 3, 1) := by decide +kernel
theorem dX0_tag_80 : decode cX0_tag 80 = .ok (.ishl, 1) := by decide +kernel
theorem dX0_tag_81 : decode cX0_tag 81 = .ok (.ior, 1) := by decide +kernel
theorem dX0_tag_82 : decode cX0_tag 82 = .ok (.goto 5, 3) := by decide +kernel
theorem dX0_tag_85 : decode cX0_tag 85 = .ok (.iload 7, 2) := by decide +kernel
theorem dX0_tag_87 : decode cX0_tag 87 = .ok (.invokestatic 78, 3) := by decide +kernel
theorem dX0_tag_90 : decode cX0_tag 90 = .ok (.iload 6, 2) := by decide +kernel
theorem dX0_tag_92 : decode cX0_tag 92 = .ok (.ireturn, 1) := by decide +kernel
set_option maxRecDepth 20000 in
theorem ggX0_cable_X0_slotOf : GoodIn wsX0_cable wsX0_slotOf := goodIn_ca (goodIn_r _ [9, 1, 2, 10, 11, 8, 12] (by decide +kernel) (by decide +kernel)) (goodIn_sub (fun _ h => List.mem_cons_of_mem _ (List.mem_append_left _ (List.mem_append_right _ h))) (by decide +kernel))
set_option maxRecDepth 20000 in
theorem gX0_cable_X0_slotOf : GoodIn wsX0_cable (va_wsS RX0 55 yX0_slotOf wsX0_slotOf) := goodIn_app (goodIn_of _ (by decide +kernel)) ggX0_cable_X0_slotOf
set_option maxRecDepth 20000 in
theorem ggX0_cable_X0_hasCable : GoodIn wsX0_cable wsX0_hasCable := goodIn_r _ [16, 17, 18, 19, 8, 20, 61, 62, 63, 64, 65, 66, 67, 68, 69, 70, 71, 72, 73, 74, 75] (by decide +kernel) (by decide +kernel)
set_option maxRecDepth 20000 in
theorem gX0_cable_X0_hasCable : GoodIn wsX0_cable (wsV RX0 91 RX0 yX0_hasCable wsX0_hasCable) := goodIn_app (goodIn_of _ (by decide +kernel)) ggX0_cable_X0_hasCable
set_option maxRecDepth 20000 in
theorem ggX0_cable_X0_setCable : GoodIn wsX0_cable wsX0_setCable := goodIn_r _ [24, 17, 25, 26, 27, 8, 28, 61, 62, 63, 64, 65, 66, 67, 68, 69, 70, 71, 72, 73, 74, 75] (by decide +kernel) (by decide +kernel)
set_option maxRecDepth 20000 in
theorem gX0_cable_X0_setCable : GoodIn wsX0_cable (wsV RX0 97 RX0 yX0_setCable wsX0_setCable) := goodIn_app (goodIn_of _ (by decide +kernel)) ggX0_cable_X0_setCable
set_option maxRecDepth 20000 in
theorem ggX0_cable_X0_growTree : GoodIn wsX0_cable wsX0_growTree := goodIn_r _ [32, 33, 34, 35, 36, 8, 37, 38, 39, 26, 27, 28, 40, 41, 42, 43, 44, 45, 46, 47, 48, 49, 50, 51, 17, 18, 19, 20, 52, 53, 54, 55, 56, 25, 57, 58, 59, 60, 61, 62, 63, 64, 65, 66, 67, 68, 69, 70, 71, 72, 73, 74, 75] (by decide +kernel) (by decide +kernel)
set_option maxRecDepth 20000 in
theorem gX0_cable_X0_growTree : GoodIn wsX0_cable (wsV RX0 52 RX0 yX0_growTree wsX0_growTree) := goodIn_app (goodIn_of _ (by decide +kernel)) ggX0_cable_X0_growTree
theorem dX0_cable_0 : decode cX0_cable 0 = .ok (.iload_n 1, 1) := by decide +kernel
theorem dX0_cable_1 : decode cX0_cable 1 = .ok (.iload_n 2, 1) := by decide +kernel
theorem dX0_cable_2 : decode cX0_cable 2 = .ok (.invokestatic 55, 3) := by decide +kernel
theorem dX0_cable_5 : decode cX0_cable 5 = .ok (.istore 6, 2) := by decide +kernel
theorem dX0_cable_7 : decode cX0_cable 7 = .ok (.iload_n 3, 1) := by decide +kernel
theorem dX0_cable_8 : decode cX0_cable 8 = .ok (.iload 4, 2) := by decide +kernel
theorem dX0_cable_10 : decode cX0_cable 10 = .ok (.invokestatic 55, 3) := by decide +kernel
theorem dX0_cable_13 : decode cX0_cable 13 = .ok (.istore 7, 2) := by decide +kernel
theorem dX0_cable_15 : decode cX0_cable 15 = .ok (.iload 5, 2) := by decide +kernel
theorem dX0_cable_17 : decode cX0_cable 17 = .ok (.iconst 1, 1) := by decide +kernel
theorem dX0_cable_18 : decode cX0_cable 18 = .ok (.if_icmp .lt 10, 3) := by decide +kernel
theorem dX0_cable_21 : decode cX0_cable 21 = .ok (.iload 5, 2) := by decide +kernel
theorem dX0_cable_23 : decode cX0_cable 23 = .ok (.bipush 20, 2) := by decide +kernel
theorem dX0_cable_25 : decode cX0_cable 25 = .ok (.if_icmp .le 13, 3) := by decide +kernel
theorem dX0_cable_28 : decode cX0_cable 28 = .ok (.new 84, 3) := by decide +kernel
theorem dX0_cable_31 : decode cX0_cable 31 = .ok (.dup, 1) := by decide +kernel
theorem dX0_cable_32 : decode cX0_cable 32 = .ok (.ldc 86, 2) := by decide +kernel
theorem dX0_cable_34 : decode cX0_cable 34 = .ok (.invokespecial 88, 3) := by decide +kernel
theorem dX0_cable_37 : decode cX0_cable 37 = .ok (.athrow, 1) := by decide +kernel
theorem dX0_cable_38 : decode cX0_cable 38 = .ok (.iload_n 1, 1) := by decide +kernel
theorem dX0_cable_39 : decode cX0_cable 39 = .ok (.iload_n 3, 1) := by decide +kernel
theorem dX0_cable_40 : decode cX0_cable 40 = .ok (.if_icmp .ne 13, 3) := by decide +kernel
theorem dX0_cable_43 : decode cX0_cable 43 = .ok (.new 84, 3) := by decide +kernel
theorem dX0_cable_46 : decode cX0_cable 46 = .ok (.dup, 1) := by decide +kernel
theorem dX0_cable_47 : decode cX0_cable 47 = .ok (.ldc 89, 2) := by decide +kernel
theorem dX0_cable_49 : decode cX0_cable 49 = .ok (.invokespecial 88, 3) := by decide +kernel
theorem dX0_cable_52 : decode cX0_cable 52 = .ok (.athrow, 1) := by decide +kernel
theorem dX0_cable_53 : decode cX0_cable 53 = .ok (.aload_n 0, 1) := by decide +kernel
theorem dX0_cable_54 : decode cX0_cable 54 = .ok (.iload 6, 2) := by decide +kernel
theorem dX0_cable_56 : decode cX0_cable 56 = .ok (.invokevirtual 91, 3) := by decide +kernel
theorem dX0_cable_59 : decode cX0_cable 59 = .ok (.ifCond .ne 12, 3) := by decide +kernel
theorem dX0_cable_62 : decode cX0_cable 62 = .ok (.aload_n 0, 1) := by decide +kernel
theorem dX0_cable_63 : decode cX0_cable 63 = .ok (.iload 7, 2) := by decide +kernel
theorem dX0_cable_65 : decode cX0_cable 65 = .ok (.invokevirtual 91, 3) := by decide +kernel
theorem dX0_cable_68 : decode cX0_cable 68 = .ok (.ifCond .eq 13, 3) := by decide +kernel
theorem dX0_cable_71 : decode cX0_cable 71 = .ok (.new 67, 3) := by decide +kernel
theorem dX0_cable_74 : decode cX0_cable 74 = .ok (.dup, 1) := by decide +kernel
theorem dX0_cable_75 : decode cX0_cable 75 = .ok (.ldc 95, 2) := by decide +kernel
theorem dX0_cable_77 : decode cX0_cable 77 = .ok (.invokespecial 71, 3) := by decide +kernel
theorem dX0_cable_80 : decode cX0_cable 80 = .ok (.athrow, 1) := by decide +kernel
theorem dX0_cable_81 : decode cX0_cable 81 = .ok (.aload_n 0, 1) := by decide +kernel
theorem dX0_cable_82 : decode cX0_cable 82 = .ok (.iload 6, 2) := by decide +kernel
theorem dX0_cable_84 : decode cX0_cable 84 = .ok (.iload 7, 2) := by decide +kernel
theorem dX0_cable_86 : decode cX0_cable 86 = .ok (.iload 5, 2) := by decide +kernel
theorem dX0_cable_88 : decode cX0_cable 88 = .ok (.invokevirtual 97, 3) := by decide +kernel
theorem dX0_cable_91 : decode cX0_cable 91 = .ok (.aload_n 0, 1) := by decide +kernel
theorem dX0_cable_92 : decode cX0_cable 92 = .ok (.iload 7, 2) := by decide +kernel
theorem dX0_cable_94 : decode cX0_cable 94 = .ok (.iload 6, 2) := by decide +kernel
theorem dX0_cable_96 : decode cX0_cable 96 = .ok (.iload 5, 2) := by decide +kernel
theorem dX0_cable_98 : decode cX0_cable 98 = .ok (.invokevirtual 97, 3) := by decide +kernel
theorem dX0_cable_101 : decode cX0_cable 101 = .ok (.aload_n 0, 1) := by decide +kernel
theorem dX0_cable_102 : decode cX0_cable 102 = .ok (.dup, 1) := by decide +kernel
theorem dX0_cable_103 : decode cX0_cable 103 = .ok (.getfield 101, 3) := by decide +kernel
theorem dX0_cable_106 : decode cX0_cable 106 = .ok (.iconst 1, 1) := by decide +kernel
theorem dX0_cable_107 : decode cX0_cable 107 = .ok (.iadd, 1) := by decide +kernel
theorem dX0_cable_108 : decode cX0_cable 108 = .ok (.putfield 101, 3) := by decide +kernel
theorem dX0_cable_111 : decode cX0_cable 111 = .ok (.aload_n 0, 1) := by decide +kernel
theorem dX0_cable_112 : decode cX0_cable 112 = .ok (.invokevirtual 52, 3) := by decide +kernel
theorem dX0_cable_115 : decode cX0_cable 115 = .ok (.aload_n 0, 1) := by decide +kernel
theorem dX0_cable_116 : decode cX0_cable 116 = .ok (.getfield 101, 3) := by decide +kernel
theorem dX0_cable_119 : decode cX0_cable 119 = .ok (.ireturn, 1) := by decide +kernel
set_option maxRecDepth 20000 in
theorem ggX0_pull_X0_slotWithCable : GoodIn wsX0_pull wsX0_slotWithCable := goodIn_ca (goodIn_ca (goodIn_r _ [8, 9, 10, 11, 12, 7, 13, 14, 15, 16, 17, 18, 19, 20, 21, 22, 2, 23, 24, 25, 65, 66, 67, 68, 69, 70, 71, 72, 73, 74, 75, 76, 77, 78, 79] (by decide +kernel) (by decide +kernel)) (goodIn_sub (fun _ h => List.mem_cons_of_mem _ (List.mem_append_left _ (List.mem_append_right _ h))) (by decide +kernel))) (goodIn_sub (fun _ h => List.mem_cons_of_mem _ (List.mem_append_right _ h)) (by decide +kernel))
set_option maxRecDepth 20000 in
theorem gX0_pull_X0_slotWithCable : GoodIn wsX0_pull (wsV RX0 105 RX0 yX0_slotWithCable wsX0_slotWithCable) := goodIn_app (goodIn_of _ (by decide +kernel)) ggX0_pull_X0_slotWithCable
set_option maxRecDepth 20000 in
theorem ggX0_pull_X0_at : GoodIn wsX0_pull wsX0_at := goodIn_r _ [25] (by decide +kernel) (by decide +kernel)
set_option maxRecDepth 20000 in
theorem gX0_pull_X0_at : GoodIn wsX0_pull (va_wsS RX0 74 yX0_at wsX0_at) := goodIn_app (goodIn_of _ (by decide +kernel)) ggX0_pull_X0_at
set_option maxRecDepth 20000 in
theorem ggX0_pull_X0_setCable : GoodIn wsX0_pull wsX0_setCable := goodIn_r _ [29, 2, 1, 30, 31, 7, 32, 65, 66, 67, 68, 69, 70, 71, 72, 73, 74, 75, 76, 77, 78, 79] (by decide +kernel) (by decide +kernel)
set_option maxRecDepth 20000 in
theorem gX0_pull_X0_setCable : GoodIn wsX0_pull (wsV RX0 97 RX0 yX0_setCable wsX0_setCable) := goodIn_app (goodIn_of _ (by decide +kernel)) ggX0_pull_X0_setCable
set_option maxRecDepth 20000 in
theorem ggX0_pull_X0_growTree : GoodIn wsX0_pull wsX0_growTree := goodIn_r _ [36, 37, 38, 39, 40, 7, 41, 42, 43, 30, 31, 32, 44, 45, 46, 47, 48, 49, 50, 51, 52, 53, 54, 55, 2, 23, 24, 25, 56, 57, 58, 59, 60, 1, 61, 62, 63, 64, 65, 66, 67, 68, 69, 70, 71, 72, 73, 74, 75, 76, 77, 78, 79] (by decide +kernel) (by decide +kernel)
set_option maxRecDepth 20000 in
theorem gX0_pull_X0_growTree : GoodIn wsX0_pull (wsV RX0 52 RX0 yX0_growTree wsX0_growTree) := goodIn_app (goodIn_of _ (by decide +kernel)) ggX0_pull_X0_growTree
theorem dX0_pull_0 : decode cX0_pull 0 = .ok (.aload_n 0, 1) := by decide +kernel
theorem dX0_pull_1 : decode cX0_pull 1 = .ok (.iload_n 1, 1) := by decide +kernel
theorem dX0_pull_2 : decode cX0_pull 2 = .ok (.iload_n 2, 1) := by decide +kernel
theorem dX0_pull_3 : decode cX0_pull 3 = .ok (.invokevirtual 105, 3) := by decide +kernel
theorem dX0_pull_6 : decode cX0_pull 6 = .ok (.istore_n 3, 1) := by decide +kernel
theorem dX0_pull_7 : decode cX0_pull 7 = .ok (.aload_n 0, 1) := by decide +kernel
theorem dX0_pull_8 : decode cX0_pull 8 = .ok (.getfield 19, 3) := by decide +kernel
theorem dX0_pull_11 : decode cX0_pull 11 = .ok (.iload_n 3, 1) := by decide +kernel
theorem dX0_pull_12 : decode cX0_pull 12 = .ok (.invokestatic 74, 3) := by decide +kernel
theorem dX0_pull_15 : decode cX0_pull 15 = .ok (.istore 4, 2) := by decide +kernel
theorem dX0_pull_17 : decode cX0_pull 17 = .ok (.aload_n 0, 1) := by decide +kernel
theorem dX0_pull_18 : decode cX0_pull 18 = .ok (.aload_n 0, 1) := by decide +kernel
theorem dX0_pull_19 : decode cX0_pull 19 = .ok (.getfield 16, 3) := by decide +kernel
theorem dX0_pull_22 : decode cX0_pull 22 = .ok (.iload_n 3, 1) := by decide +kernel
theorem dX0_pull_23 : decode cX0_pull 23 = .ok (.invokestatic 74, 3) := by decide +kernel
theorem dX0_pull_26 : decode cX0_pull 26 = .ok (.iconst (-1), 1) := by decide +kernel
theorem dX0_pull_27 : decode cX0_pull 27 = .ok (.iconst 0, 1) := by decide +kernel
theorem dX0_pull_28 : decode cX0_pull 28 = .ok (.invokevirtual 97, 3) := by decide +kernel
theorem dX0_pull_31 : decode cX0_pull 31 = .ok (.aload_n 0, 1) := by decide +kernel
theorem dX0_pull_32 : decode cX0_pull 32 = .ok (.iload_n 3, 1) := by decide +kernel
theorem dX0_pull_33 : decode cX0_pull 33 = .ok (.iconst (-1), 1) := by decide +kernel
theorem dX0_pull_34 : decode cX0_pull 34 = .ok (.iconst 0, 1) := by decide +kernel
theorem dX0_pull_35 : decode cX0_pull 35 = .ok (.invokevirtual 97, 3) := by decide +kernel
theorem dX0_pull_38 : decode cX0_pull 38 = .ok (.aload_n 0, 1) := by decide +kernel
theorem dX0_pull_39 : decode cX0_pull 39 = .ok (.dup, 1) := by decide +kernel
theorem dX0_pull_40 : decode cX0_pull 40 = .ok (.getfield 101, 3) := by decide +kernel
theorem dX0_pull_43 : decode cX0_pull 43 = .ok (.iconst 1, 1) := by decide +kernel
theorem dX0_pull_44 : decode cX0_pull 44 = .ok (.isub, 1) := by decide +kernel
theorem dX0_pull_45 : decode cX0_pull 45 = .ok (.putfield 101, 3) := by decide +kernel
theorem dX0_pull_48 : decode cX0_pull 48 = .ok (.aload_n 0, 1) := by decide +kernel
theorem dX0_pull_49 : decode cX0_pull 49 = .ok (.invokevirtual 52, 3) := by decide +kernel
theorem dX0_pull_52 : decode cX0_pull 52 = .ok (.iload 4, 2) := by decide +kernel
theorem dX0_pull_54 : decode cX0_pull 54 = .ok (.ireturn, 1) := by decide +kernel
theorem dX0_tree_0 : decode cX0_tree 0 = .ok (.aload_n 0, 1) := by decide +kernel
theorem dX0_tree_1 : decode cX0_tree 1 = .ok (.getfield 108, 3) := by decide +kernel
theorem dX0_tree_4 : decode cX0_tree 4 = .ok (.istore_n 2, 1) := by decide +kernel
theorem dX0_tree_5 : decode cX0_tree 5 = .ok (.aload_n 0, 1) := by decide +kernel
theorem dX0_tree_6 : decode cX0_tree 6 = .ok (.iload_n 1, 1) := by decide +kernel
theorem dX0_tree_7 : decode cX0_tree 7 = .ok (.putfield 108, 3) := by decide +kernel
theorem dX0_tree_10 : decode cX0_tree 10 = .ok (.iload_n 2, 1) := by decide +kernel
theorem dX0_tree_11 : decode cX0_tree 11 = .ok (.ireturn, 1) := by decide +kernel
set_option maxRecDepth 20000 in
theorem ggX0_note_X0_slotOf : GoodIn wsX0_note wsX0_slotOf := goodIn_ca (goodIn_r _ [5, 6, 7, 8, 9, 4, 10] (by decide +kernel) (by decide +kernel)) (goodIn_sub (fun _ h => List.mem_cons_of_mem _ (List.mem_append_right _ h)) (by decide +kernel))
set_option maxRecDepth 20000 in
theorem gX0_note_X0_slotOf : GoodIn wsX0_note (va_wsS RX0 55 yX0_slotOf wsX0_slotOf) := goodIn_app (goodIn_of _ (by decide +kernel)) ggX0_note_X0_slotOf
set_option maxRecDepth 20000 in
theorem ggX0_note_X0_endName : GoodIn wsX0_note wsX0_endName := goodIn_r _ [13] (by decide +kernel) (by decide +kernel)
set_option maxRecDepth 20000 in
theorem gX0_note_X0_endName : GoodIn wsX0_note (va_wsS RX0 112 yX0_endName wsX0_endName) := goodIn_app (goodIn_of _ (by decide +kernel)) ggX0_note_X0_endName
set_option maxRecDepth 20000 in
theorem ggX0_note_X0_at : GoodIn wsX0_note wsX0_at := goodIn_r _ [16] (by decide +kernel) (by decide +kernel)
set_option maxRecDepth 20000 in
theorem gX0_note_X0_at : GoodIn wsX0_note (va_wsS RX0 74 yX0_at wsX0_at) := goodIn_app (goodIn_of _ (by decide +kernel)) ggX0_note_X0_at
set_option maxRecDepth 20000 in
theorem ggX0_note_X0_put : GoodIn wsX0_note wsX0_put := goodIn_r _ [19] (by decide +kernel) (by decide +kernel)
set_option maxRecDepth 20000 in
theorem gX0_note_X0_put : GoodIn wsX0_note (va_wsS RX0 78 yX0_put wsX0_put) := goodIn_app (goodIn_of _ (by decide +kernel)) ggX0_note_X0_put
theorem dX0_note_0 : decode cX0_note 0 = .ok (.iload_n 1, 1) := by decide +kernel
theorem dX0_note_1 : decode cX0_note 1 = .ok (.iload_n 2, 1) := by decide +kernel
theorem dX0_note_2 : decode cX0_note 2 = .ok (.invokestatic 55, 3) := by decide +kernel
theorem dX0_note_5 : decode cX0_note 5 = .ok (.istore 5, 2) := by decide +kernel
theorem dX0_note_7 : decode cX0_note 7 = .ok (.iload_n 3, 1) := by decide +kernel
theorem dX0_note_8 : decode cX0_note 8 = .ok (.iconst (-1), 1) := by decide +kernel
theorem dX0_note_9 : decode cX0_note 9 = .ok (.if_icmp .ne 7, 3) := by decide +kernel
theorem dX0_note_12 : decode cX0_note 12 = .ok (.iconst (-1), 1) := by decide +kernel
theorem dX0_note_13 : decode cX0_note 13 = .ok (.goto 12, 3) := by decide +kernel
theorem dX0_note_16 : decode cX0_note 16 = .ok (.iload_n 3, 1) := by decide +kernel
theorem dX0_note_17 : decode cX0_note 17 = .ok (.iload 4, 2) := by decide +kernel
theorem dX0_note_19 : decode cX0_note 19 = .ok (.invokestatic 55, 3) := by decide +kernel
theorem dX0_note_22 : decode cX0_note 22 = .ok (.invokestatic 112, 3) := by decide +kernel
theorem dX0_note_25 : decode cX0_note 25 = .ok (.istore 6, 2) := by decide +kernel
theorem dX0_note_27 : decode cX0_note 27 = .ok (.aload_n 0, 1) := by decide +kernel
theorem dX0_note_28 : decode cX0_note 28 = .ok (.getfield 22, 3) := by decide +kernel
theorem dX0_note_31 : decode cX0_note 31 = .ok (.iload 5, 2) := by decide +kernel
theorem dX0_note_33 : decode cX0_note 33 = .ok (.invokestatic 74, 3) := by decide +kernel
theorem dX0_note_36 : decode cX0_note 36 = .ok (.iconst (-1), 1) := by decide +kernel
theorem dX0_note_37 : decode cX0_note 37 = .ok (.if_icmp .eq 7, 3) := by decide +kernel
theorem dX0_note_40 : decode cX0_note 40 = .ok (.iconst 1, 1) := by decide +kernel
theorem dX0_note_41 : decode cX0_note 41 = .ok (.goto 4, 3) := by decide +kernel
theorem dX0_note_44 : decode cX0_note 44 = .ok (.iconst 0, 1) := by decide +kernel
theorem dX0_note_45 : decode cX0_note 45 = .ok (.istore 7, 2) := by decide +kernel
theorem dX0_note_47 : decode cX0_note 47 = .ok (.aload_n 0, 1) := by decide +kernel
theorem dX0_note_48 : decode cX0_note 48 = .ok (.getfield 22, 3) := by decide +kernel
theorem dX0_note_51 : decode cX0_note 51 = .ok (.iload 5, 2) := by decide +kernel
theorem dX0_note_53 : decode cX0_note 53 = .ok (.iload 6, 2) := by decide +kernel
theorem dX0_note_55 : decode cX0_note 55 = .ok (.invokestatic 78, 3) := by decide +kernel
theorem dX0_note_58 : decode cX0_note 58 = .ok (.iload 7, 2) := by decide +kernel
theorem dX0_note_60 : decode cX0_note 60 = .ok (.ireturn, 1) := by decide +kernel
set_option maxRecDepth 20000 in
theorem ggX0_far_X0_slotOf : GoodIn wsX0_far wsX0_slotOf := goodIn_ca (goodIn_r _ [5, 6, 7, 8, 9, 4, 10] (by decide +kernel) (by decide +kernel)) (goodIn_sub (fun _ h => List.mem_cons_of_mem _ (List.mem_append_right _ h)) (by decide +kernel))
set_option maxRecDepth 20000 in
theorem gX0_far_X0_slotOf : GoodIn wsX0_far (va_wsS RX0 55 yX0_slotOf wsX0_slotOf) := goodIn_app (goodIn_of _ (by decide +kernel)) ggX0_far_X0_slotOf
set_option maxRecDepth 20000 in
theorem ggX0_far_X0_at : GoodIn wsX0_far wsX0_at := goodIn_r _ [13] (by decide +kernel) (by decide +kernel)
set_option maxRecDepth 20000 in
theorem gX0_far_X0_at : GoodIn wsX0_far (va_wsS RX0 74 yX0_at wsX0_at) := goodIn_app (goodIn_of _ (by decide +kernel)) ggX0_far_X0_at
set_option maxRecDepth 20000 in
theorem ggX0_far_X0_endName : GoodIn wsX0_far wsX0_endName := goodIn_r _ [16] (by decide +kernel) (by decide +kernel)
set_option maxRecDepth 20000 in
theorem gX0_far_X0_endName : GoodIn wsX0_far (va_wsS RX0 112 yX0_endName wsX0_endName) := goodIn_app (goodIn_of _ (by decide +kernel)) ggX0_far_X0_endName
theorem dX0_far_0 : decode cX0_far 0 = .ok (.aload_n 0, 1) := by decide +kernel
theorem dX0_far_1 : decode cX0_far 1 = .ok (.getfield 16, 3) := by decide +kernel
theorem dX0_far_4 : decode cX0_far 4 = .ok (.iload_n 1, 1) := by decide +kernel
theorem dX0_far_5 : decode cX0_far 5 = .ok (.iload_n 2, 1) := by decide +kernel
theorem dX0_far_6 : decode cX0_far 6 = .ok (.invokestatic 55, 3) := by decide +kernel
theorem dX0_far_9 : decode cX0_far 9 = .ok (.invokestatic 74, 3) := by decide +kernel
theorem dX0_far_12 : decode cX0_far 12 = .ok (.invokestatic 112, 3) := by decide +kernel
theorem dX0_far_15 : decode cX0_far 15 = .ok (.ireturn, 1) := by decide +kernel
set_option maxRecDepth 20000 in
theorem ggX0_isOn_X0_slotWithCable : GoodIn wsX0_isOn wsX0_slotWithCable := goodIn_ca (goodIn_ca (goodIn_r _ [5, 6, 7, 8, 9, 4, 10, 11, 12, 13, 14, 15, 16, 17, 18, 19, 20, 21, 22, 23, 30, 31, 32, 33, 34, 35, 36, 37, 38, 39, 40, 41, 42, 43, 44] (by decide +kernel) (by decide +kernel)) (goodIn_sub (fun _ h => List.mem_cons_of_mem _ (List.mem_append_left _ (List.mem_append_right _ h))) (by decide +kernel))) (goodIn_sub (fun _ h => List.mem_cons_of_mem _ (List.mem_append_right _ h)) (by decide +kernel))
set_option maxRecDepth 20000 in
theorem gX0_isOn_X0_slotWithCable : GoodIn wsX0_isOn (wsV RX0 105 RX0 yX0_slotWithCable wsX0_slotWithCable) := goodIn_app (goodIn_of _ (by decide +kernel)) ggX0_isOn_X0_slotWithCable
set_option maxRecDepth 20000 in
theorem ggX0_isOn_X0_hasLiveCable : GoodIn wsX0_isOn wsX0_hasLiveCable := goodIn_r _ [27, 20, 28, 29, 21, 22, 4, 23, 30, 31, 32, 33, 34, 35, 36, 37, 38, 39, 40, 41, 42, 43, 44] (by decide +kernel) (by decide +kernel)
set_option maxRecDepth 20000 in
theorem gX0_isOn_X0_hasLiveCable : GoodIn wsX0_isOn (wsV RX0 116 RX0 yX0_hasLiveCable wsX0_hasLiveCable) := goodIn_app (goodIn_of _ (by decide +kernel)) ggX0_isOn_X0_hasLiveCable
theorem dX0_isOn_0 : decode cX0_isOn 0 = .ok (.aload_n 0, 1) := by decide +kernel
theorem dX0_isOn_1 : decode cX0_isOn 1 = .ok (.aload_n 0, 1) := by decide +kernel
theorem dX0_isOn_2 : decode cX0_isOn 2 = .ok (.iload_n 1, 1) := by decide +kernel
theorem dX0_isOn_3 : decode cX0_isOn 3 = .ok (.iload_n 2, 1) := by decide +kernel
theorem dX0_isOn_4 : decode cX0_isOn 4 = .ok (.invokevirtual 105, 3) := by decide +kernel
theorem dX0_isOn_7 : decode cX0_isOn 7 = .ok (.invokevirtual 116, 3) := by decide +kernel
theorem dX0_isOn_10 : decode cX0_isOn 10 = .ok (.ireturn, 1) := by decide +kernel
set_option maxRecDepth 20000 in
theorem ggX0_comesAs_X0_checkLane : GoodIn wsX0_comesAs wsX0_checkLane := goodIn_ca (goodIn_r _ [4, 5, 6] (by decide +kernel) (by decide +kernel)) (goodIn_sub (fun _ h => List.mem_cons_of_mem _ (List.mem_append_left _ (List.mem_append_right _ h))) (by decide +kernel))
set_option maxRecDepth 20000 in
theorem gX0_comesAs_X0_checkLane : GoodIn wsX0_comesAs (va_wsS RX0 59 yX0_checkLane wsX0_checkLane) := goodIn_app (goodIn_of _ (by decide +kernel)) ggX0_comesAs_X0_checkLane
set_option maxRecDepth 20000 in
theorem ggX0_comesAs_X0_slotWithCable : GoodIn wsX0_comesAs wsX0_slotWithCable := goodIn_ca (goodIn_ca (goodIn_r _ [10, 11, 12, 13, 14, 3, 15, 5, 6, 16, 17, 18, 19, 20, 21, 22, 23, 24, 25, 26, 37, 38, 39, 40, 41, 42, 43, 44, 45, 46, 47, 48, 49, 50, 51] (by decide +kernel) (by decide +kernel)) (goodIn_sub (fun _ h => List.mem_cons_of_mem _ (List.mem_append_right _ h)) (by decide +kernel))) (goodIn_sub (fun _ h => List.mem_cons_of_mem _ (List.mem_append_left _ (List.mem_append_right _ h))) (by decide +kernel))
set_option maxRecDepth 20000 in
theorem gX0_comesAs_X0_slotWithCable : GoodIn wsX0_comesAs (wsV RX0 105 RX0 yX0_slotWithCable wsX0_slotWithCable) := goodIn_app (goodIn_of _ (by decide +kernel)) ggX0_comesAs_X0_slotWithCable
set_option maxRecDepth 20000 in
theorem ggX0_comesAs_X0_laneBeyond : GoodIn wsX0_comesAs wsX0_laneBeyond := goodIn_r _ [30, 23, 31, 24, 25, 3, 26, 32, 33, 34, 35, 36, 37, 38, 39, 40, 41, 42, 43, 44, 45, 46, 47, 48, 49, 50, 51] (by decide +kernel) (by decide +kernel)
set_option maxRecDepth 20000 in
theorem gX0_comesAs_X0_laneBeyond : GoodIn wsX0_comesAs (wsV RX0 119 RX0 yX0_laneBeyond wsX0_laneBeyond) := goodIn_app (goodIn_of _ (by decide +kernel)) ggX0_comesAs_X0_laneBeyond
theorem dX0_comesAs_0 : decode cX0_comesAs 0 = .ok (.iload_n 3, 1) := by decide +kernel
theorem dX0_comesAs_1 : decode cX0_comesAs 1 = .ok (.invokestatic 59, 3) := by decide +kernel
theorem dX0_comesAs_4 : decode cX0_comesAs 4 = .ok (.aload_n 0, 1) := by decide +kernel
theorem dX0_comesAs_5 : decode cX0_comesAs 5 = .ok (.aload_n 0, 1) := by decide +kernel
theorem dX0_comesAs_6 : decode cX0_comesAs 6 = .ok (.iload_n 1, 1) := by decide +kernel
theorem dX0_comesAs_7 : decode cX0_comesAs 7 = .ok (.iload_n 2, 1) := by decide +kernel
theorem dX0_comesAs_8 : decode cX0_comesAs 8 = .ok (.invokevirtual 105, 3) := by decide +kernel
theorem dX0_comesAs_11 : decode cX0_comesAs 11 = .ok (.iload_n 3, 1) := by decide +kernel
theorem dX0_comesAs_12 : decode cX0_comesAs 12 = .ok (.invokevirtual 119, 3) := by decide +kernel
theorem dX0_comesAs_15 : decode cX0_comesAs 15 = .ok (.ireturn, 1) := by decide +kernel
set_option maxRecDepth 20000 in
theorem ggX0_oneSided_X0_slotWithCable : GoodIn wsX0_oneSided wsX0_slotWithCable := goodIn_ca (goodIn_ca (goodIn_r _ [7, 8, 9, 10, 11, 6, 12, 13, 14, 15, 16, 17, 18, 19, 20, 21, 2, 22, 23, 24, 32, 33, 34, 35, 36, 37, 38, 39, 40, 41, 42, 43, 44, 45, 46] (by decide +kernel) (by decide +kernel)) (goodIn_sub (fun _ h => List.mem_cons_of_mem _ (List.mem_append_left _ (List.mem_append_right _ h))) (by decide +kernel))) (goodIn_sub (fun _ h => List.mem_cons_of_mem _ (List.mem_append_right _ h)) (by decide +kernel))
set_option maxRecDepth 20000 in
theorem gX0_oneSided_X0_slotWithCable : GoodIn wsX0_oneSided (wsV RX0 105 RX0 yX0_slotWithCable wsX0_slotWithCable) := goodIn_app (goodIn_of _ (by decide +kernel)) ggX0_oneSided_X0_slotWithCable
set_option maxRecDepth 20000 in
theorem ggX0_oneSided_X0_at : GoodIn wsX0_oneSided wsX0_at := goodIn_r _ [24] (by decide +kernel) (by decide +kernel)
set_option maxRecDepth 20000 in
theorem gX0_oneSided_X0_at : GoodIn wsX0_oneSided (va_wsS RX0 74 yX0_at wsX0_at) := goodIn_app (goodIn_of _ (by decide +kernel)) ggX0_oneSided_X0_at
set_option maxRecDepth 20000 in
theorem ggX0_oneSided_J6_bitCount_0f7a4 : GoodIn wsX0_oneSided wsJ6_bitCount_0f7a4 := goodIn_r _ [28, 29, 30, 31] (by decide +kernel) (by decide +kernel)
set_option maxRecDepth 20000 in
theorem gX0_oneSided_J6_bitCount_0f7a4 : GoodIn wsX0_oneSided (va_wsS RX0 122 yJ6_bitCount_0f7a4 wsJ6_bitCount_0f7a4) := goodIn_app (goodIn_of _ (by decide +kernel)) ggX0_oneSided_J6_bitCount_0f7a4
theorem dX0_oneSided_0 : decode cX0_oneSided 0 = .ok (.aload_n 0, 1) := by decide +kernel
theorem dX0_oneSided_1 : decode cX0_oneSided 1 = .ok (.iload_n 1, 1) := by decide +kernel
theorem dX0_oneSided_2 : decode cX0_oneSided 2 = .ok (.iload_n 2, 1) := by decide +kernel
theorem dX0_oneSided_3 : decode cX0_oneSided 3 = .ok (.invokevirtual 105, 3) := by decide +kernel
theorem dX0_oneSided_6 : decode cX0_oneSided 6 = .ok (.istore_n 3, 1) := by decide +kernel
theorem dX0_oneSided_7 : decode cX0_oneSided 7 = .ok (.aload_n 0, 1) := by decide +kernel
theorem dX0_oneSided_8 : decode cX0_oneSided 8 = .ok (.getfield 13, 3) := by decide +kernel
theorem dX0_oneSided_11 : decode cX0_oneSided 11 = .ok (.iload_n 3, 1) := by decide +kernel
theorem dX0_oneSided_12 : decode cX0_oneSided 12 = .ok (.invokestatic 74, 3) := by decide +kernel
theorem dX0_oneSided_15 : decode cX0_oneSided 15 = .ok (.aload_n 0, 1) := by decide +kernel
theorem dX0_oneSided_16 : decode cX0_oneSided 16 = .ok (.getfield 13, 3) := by decide +kernel
theorem dX0_oneSided_19 : decode cX0_oneSided 19 = .ok (.aload_n 0, 1) := by decide +kernel
theorem dX0_oneSided_20 : decode cX0_oneSided 20 = .ok (.getfield 16, 3) := by decide +kernel
theorem dX0_oneSided_23 : decode cX0_oneSided 23 = .ok (.iload_n 3, 1) := by decide +kernel
theorem dX0_oneSided_24 : decode cX0_oneSided 24 = .ok (.invokestatic 74, 3) := by decide +kernel
theorem dX0_oneSided_27 : decode cX0_oneSided 27 = .ok (.invokestatic 74, 3) := by decide +kernel
theorem dX0_oneSided_30 : decode cX0_oneSided 30 = .ok (.ixor, 1) := by decide +kernel
theorem dX0_oneSided_31 : decode cX0_oneSided 31 = .ok (.invokestatic 122, 3) := by decide +kernel
theorem dX0_oneSided_34 : decode cX0_oneSided 34 = .ok (.ireturn, 1) := by decide +kernel
set_option maxRecDepth 20000 in
theorem ggX0_wrong_X0_at : GoodIn wsX0_wrong wsX0_at := goodIn_r _ [6] (by decide +kernel) (by decide +kernel)
set_option maxRecDepth 20000 in
theorem gX0_wrong_X0_at : GoodIn wsX0_wrong (va_wsS RX0 74 yX0_at wsX0_at) := goodIn_app (goodIn_of _ (by decide +kernel)) ggX0_wrong_X0_at
set_option maxRecDepth 20000 in
theorem ggX0_wrong_X0_endName : GoodIn wsX0_wrong wsX0_endName := goodIn_r _ [9] (by decide +kernel) (by decide +kernel)
set_option maxRecDepth 20000 in
theorem gX0_wrong_X0_endName : GoodIn wsX0_wrong (va_wsS RX0 112 yX0_endName wsX0_endName) := goodIn_app (goodIn_of _ (by decide +kernel)) ggX0_wrong_X0_endName
theorem dX0_wrong_0 : decode cX0_wrong 0 = .ok (.iconst 0, 1) := by decide +kernel
theorem dX0_wrong_1 : decode cX0_wrong 1 = .ok (.istore_n 1, 1) := by decide +kernel
theorem dX0_wrong_2 : decode cX0_wrong 2 = .ok (.iconst 0, 1) := by decide +kernel
theorem dX0_wrong_3 : decode cX0_wrong 3 = .ok (.istore_n 2, 1) := by decide +kernel
theorem dX0_wrong_4 : decode cX0_wrong 4 = .ok (.iload_n 2, 1) := by decide +kernel
theorem dX0_wrong_5 : decode cX0_wrong 5 = .ok (.bipush 36, 2) := by decide +kernel
theorem dX0_wrong_7 : decode cX0_wrong 7 = .ok (.if_icmp .ge 41, 3) := by decide +kernel
theorem dX0_wrong_10 : decode cX0_wrong 10 = .ok (.aload_n 0, 1) := by decide +kernel
theorem dX0_wrong_11 : decode cX0_wrong 11 = .ok (.getfield 22, 3) := by decide +kernel
theorem dX0_wrong_14 : decode cX0_wrong 14 = .ok (.iload_n 2, 1) := by decide +kernel
theorem dX0_wrong_15 : decode cX0_wrong 15 = .ok (.invokestatic 74, 3) := by decide +kernel
theorem dX0_wrong_18 : decode cX0_wrong 18 = .ok (.istore_n 3, 1) := by decide +kernel
theorem dX0_wrong_19 : decode cX0_wrong 19 = .ok (.iload_n 3, 1) := by decide +kernel
theorem dX0_wrong_20 : decode cX0_wrong 20 = .ok (.iconst (-1), 1) := by decide +kernel
theorem dX0_wrong_21 : decode cX0_wrong 21 = .ok (.if_icmp .eq 21, 3) := by decide +kernel
theorem dX0_wrong_24 : decode cX0_wrong 24 = .ok (.iload_n 3, 1) := by decide +kernel
theorem dX0_wrong_25 : decode cX0_wrong 25 = .ok (.aload_n 0, 1) := by decide +kernel
theorem dX0_wrong_26 : decode cX0_wrong 26 = .ok (.getfield 16, 3) := by decide +kernel
theorem dX0_wrong_29 : decode cX0_wrong 29 = .ok (.iload_n 2, 1) := by decide +kernel
theorem dX0_wrong_30 : decode cX0_wrong 30 = .ok (.invokestatic 74, 3) := by decide +kernel
theorem dX0_wrong_33 : decode cX0_wrong 33 = .ok (.invokestatic 112, 3) := by decide +kernel
theorem dX0_wrong_36 : decode cX0_wrong 36 = .ok (.if_icmp .eq 6, 3) := by decide +kernel
theorem dX0_wrong_39 : decode cX0_wrong 39 = .ok (.iinc 1 1, 3) := by decide +kernel
theorem dX0_wrong_42 : decode cX0_wrong 42 = .ok (.iinc 2 1, 3) := by decide +kernel
theorem dX0_wrong_45 : decode cX0_wrong 45 = .ok (.goto (-41), 3) := by decide +kernel
theorem dX0_wrong_48 : decode cX0_wrong 48 = .ok (.iload_n 1, 1) := by decide +kernel
theorem dX0_wrong_49 : decode cX0_wrong 49 = .ok (.ireturn, 1) := by decide +kernel
set_option maxRecDepth 20000 in
theorem ggX0_root_X0_checkUnit : GoodIn wsX0_root wsX0_checkUnit := goodIn_ca (goodIn_r _ [5, 6, 7] (by decide +kernel) (by decide +kernel)) (goodIn_sub (fun _ h => List.mem_cons_of_mem _ (List.mem_append_right _ h)) (by decide +kernel))
set_option maxRecDepth 20000 in
theorem gX0_root_X0_checkUnit : GoodIn wsX0_root (va_wsS RX0 127 yX0_checkUnit wsX0_checkUnit) := goodIn_app (goodIn_of _ (by decide +kernel)) ggX0_root_X0_checkUnit
set_option maxRecDepth 20000 in
theorem ggX0_root_X0_at : GoodIn wsX0_root wsX0_at := goodIn_r _ [10] (by decide +kernel) (by decide +kernel)
set_option maxRecDepth 20000 in
theorem gX0_root_X0_at : GoodIn wsX0_root (va_wsS RX0 74 yX0_at wsX0_at) := goodIn_app (goodIn_of _ (by decide +kernel)) ggX0_root_X0_at
theorem dX0_root_0 : decode cX0_root 0 = .ok (.iload_n 1, 1) := by decide +kernel
theorem dX0_root_1 : decode cX0_root 1 = .ok (.invokestatic 127, 3) := by decide +kernel
theorem dX0_root_4 : decode cX0_root 4 = .ok (.aload_n 0, 1) := by decide +kernel
theorem dX0_root_5 : decode cX0_root 5 = .ok (.getfield 25, 3) := by decide +kernel
theorem dX0_root_8 : decode cX0_root 8 = .ok (.iload_n 1, 1) := by decide +kernel
theorem dX0_root_9 : decode cX0_root 9 = .ok (.invokestatic 74, 3) := by decide +kernel
theorem dX0_root_12 : decode cX0_root 12 = .ok (.ireturn, 1) := by decide +kernel
set_option maxRecDepth 20000 in
theorem ggX0_costOf_X0_checkUnit : GoodIn wsX0_costOf wsX0_checkUnit := goodIn_ca (goodIn_r _ [5, 6, 7] (by decide +kernel) (by decide +kernel)) (goodIn_sub (fun _ h => List.mem_cons_of_mem _ (List.mem_append_right _ h)) (by decide +kernel))
set_option maxRecDepth 20000 in
theorem gX0_costOf_X0_checkUnit : GoodIn wsX0_costOf (va_wsS RX0 127 yX0_checkUnit wsX0_checkUnit) := goodIn_app (goodIn_of _ (by decide +kernel)) ggX0_costOf_X0_checkUnit
set_option maxRecDepth 20000 in
theorem ggX0_costOf_X0_at : GoodIn wsX0_costOf wsX0_at := goodIn_r _ [10] (by decide +kernel) (by decide +kernel)
set_option maxRecDepth 20000 in
theorem gX0_costOf_X0_at : GoodIn wsX0_costOf (va_wsS RX0 74 yX0_at wsX0_at) := goodIn_app (goodIn_of _ (by decide +kernel)) ggX0_costOf_X0_at
theorem dX0_costOf_0 : decode cX0_costOf 0 = .ok (.iload_n 1, 1) := by decide +kernel
theorem dX0_costOf_1 : decode cX0_costOf 1 = .ok (.invokestatic 127, 3) := by decide +kernel
theorem dX0_costOf_4 : decode cX0_costOf 4 = .ok (.aload_n 0, 1) := by decide +kernel
theorem dX0_costOf_5 : decode cX0_costOf 5 = .ok (.getfield 28, 3) := by decide +kernel
theorem dX0_costOf_8 : decode cX0_costOf 8 = .ok (.iload_n 1, 1) := by decide +kernel
theorem dX0_costOf_9 : decode cX0_costOf 9 = .ok (.invokestatic 74, 3) := by decide +kernel
theorem dX0_costOf_12 : decode cX0_costOf 12 = .ok (.ireturn, 1) := by decide +kernel
set_option maxRecDepth 20000 in
theorem ggX0_wayUp_X0_checkUnit : GoodIn wsX0_wayUp wsX0_checkUnit := goodIn_ca (goodIn_r _ [5, 6, 7] (by decide +kernel) (by decide +kernel)) (goodIn_sub (fun _ h => List.mem_cons_of_mem _ (List.mem_append_right _ h)) (by decide +kernel))
set_option maxRecDepth 20000 in
theorem gX0_wayUp_X0_checkUnit : GoodIn wsX0_wayUp (va_wsS RX0 127 yX0_checkUnit wsX0_checkUnit) := goodIn_app (goodIn_of _ (by decide +kernel)) ggX0_wayUp_X0_checkUnit
set_option maxRecDepth 20000 in
theorem ggX0_wayUp_X0_at : GoodIn wsX0_wayUp wsX0_at := goodIn_r _ [10] (by decide +kernel) (by decide +kernel)
set_option maxRecDepth 20000 in
theorem gX0_wayUp_X0_at : GoodIn wsX0_wayUp (va_wsS RX0 74 yX0_at wsX0_at) := goodIn_app (goodIn_of _ (by decide +kernel)) ggX0_wayUp_X0_at
theorem dX0_wayUp_0 : decode cX0_wayUp 0 = .ok (.iload_n 1, 1) := by decide +kernel
theorem dX0_wayUp_1 : decode cX0_wayUp 1 = .ok (.invokestatic 127, 3) := by decide +kernel
theorem dX0_wayUp_4 : decode cX0_wayUp 4 = .ok (.aload_n 0, 1) := by decide +kernel
theorem dX0_wayUp_5 : decode cX0_wayUp 5 = .ok (.getfield 31, 3) := by decide +kernel
theorem dX0_wayUp_8 : decode cX0_wayUp 8 = .ok (.iload_n 1, 1) := by decide +kernel
theorem dX0_wayUp_9 : decode cX0_wayUp 9 = .ok (.invokestatic 74, 3) := by decide +kernel
theorem dX0_wayUp_12 : decode cX0_wayUp 12 = .ok (.istore_n 2, 1) := by decide +kernel
theorem dX0_wayUp_13 : decode cX0_wayUp 13 = .ok (.iload_n 2, 1) := by decide +kernel
theorem dX0_wayUp_14 : decode cX0_wayUp 14 = .ok (.iconst (-1), 1) := by decide +kernel
theorem dX0_wayUp_15 : decode cX0_wayUp 15 = .ok (.if_icmp .ne 7, 3) := by decide +kernel
theorem dX0_wayUp_18 : decode cX0_wayUp 18 = .ok (.iconst (-1), 1) := by decide +kernel
theorem dX0_wayUp_19 : decode cX0_wayUp 19 = .ok (.goto 7, 3) := by decide +kernel
theorem dX0_wayUp_22 : decode cX0_wayUp 22 = .ok (.iload_n 2, 1) := by decide +kernel
theorem dX0_wayUp_23 : decode cX0_wayUp 23 = .ok (.bipush 6, 2) := by decide +kernel
theorem dX0_wayUp_25 : decode cX0_wayUp 25 = .ok (.irem, 1) := by decide +kernel
theorem dX0_wayUp_26 : decode cX0_wayUp 26 = .ok (.ireturn, 1) := by decide +kernel
set_option maxRecDepth 20000 in
theorem ggX0_hops_X0_placeOf : GoodIn wsX0_hops wsX0_placeOf := goodIn_ca (goodIn_r _ [5, 6, 7, 4, 8, 9, 10, 11, 12, 13] (by decide +kernel) (by decide +kernel)) (goodIn_sub (fun _ h => List.mem_cons_of_mem _ (List.mem_append_right _ h)) (by decide +kernel))
set_option maxRecDepth 20000 in
theorem gX0_hops_X0_placeOf : GoodIn wsX0_hops (va_wsS RX0 130 yX0_placeOf wsX0_placeOf) := goodIn_app (goodIn_of _ (by decide +kernel)) ggX0_hops_X0_placeOf
set_option maxRecDepth 20000 in
theorem ggX0_hops_X0_forgetWalks : GoodIn wsX0_hops wsX0_forgetWalks := goodIn_r _ [17, 1, 18, 19, 20, 21, 22, 63, 64, 65, 66, 67, 68, 69, 70, 71, 72, 73, 74, 75, 76, 77] (by decide +kernel) (by decide +kernel)
set_option maxRecDepth 20000 in
theorem gX0_hops_X0_forgetWalks : GoodIn wsX0_hops (wsV RX0 133 RX0 yX0_forgetWalks wsX0_forgetWalks) := goodIn_app (goodIn_of _ (by decide +kernel)) ggX0_hops_X0_forgetWalks
set_option maxRecDepth 20000 in
theorem ggX0_hops_X0_walkFrom : GoodIn wsX0_hops wsX0_walkFrom := goodIn_r _ [26, 18, 27, 28, 29, 30, 4, 31, 1, 32, 33, 34, 35, 36, 37, 38, 39, 40, 41, 42, 43, 44, 45, 46, 47, 48, 49, 50, 51, 52, 53, 54, 55, 56, 57, 58, 59, 60, 61, 62, 63, 64, 65, 66, 67, 68, 69, 70, 71, 72, 73, 74, 75, 76, 77] (by decide +kernel) (by decide +kernel)
set_option maxRecDepth 20000 in
theorem gX0_hops_X0_walkFrom : GoodIn wsX0_hops (wsV RX0 136 RX0 yX0_walkFrom wsX0_walkFrom) := goodIn_app (goodIn_of _ (by decide +kernel)) ggX0_hops_X0_walkFrom
set_option maxRecDepth 20000 in
theorem ggX0_hops_X0_at : GoodIn wsX0_hops wsX0_at := goodIn_r _ [37] (by decide +kernel) (by decide +kernel)
set_option maxRecDepth 20000 in
theorem gX0_hops_X0_at : GoodIn wsX0_hops (va_wsS RX0 74 yX0_at wsX0_at) := goodIn_app (goodIn_of _ (by decide +kernel)) ggX0_hops_X0_at
theorem dX0_hops_0 : decode cX0_hops 0 = .ok (.iload_n 1, 1) := by decide +kernel
theorem dX0_hops_1 : decode cX0_hops 1 = .ok (.iload_n 2, 1) := by decide +kernel
theorem dX0_hops_2 : decode cX0_hops 2 = .ok (.invokestatic 130, 3) := by decide +kernel
theorem dX0_hops_5 : decode cX0_hops 5 = .ok (.istore 5, 2) := by decide +kernel
theorem dX0_hops_7 : decode cX0_hops 7 = .ok (.iload_n 3, 1) := by decide +kernel
theorem dX0_hops_8 : decode cX0_hops 8 = .ok (.iload 4, 2) := by decide +kernel
theorem dX0_hops_10 : decode cX0_hops 10 = .ok (.invokestatic 130, 3) := by decide +kernel
theorem dX0_hops_13 : decode cX0_hops 13 = .ok (.istore 6, 2) := by decide +kernel
theorem dX0_hops_15 : decode cX0_hops 15 = .ok (.aload_n 0, 1) := by decide +kernel
theorem dX0_hops_16 : decode cX0_hops 16 = .ok (.invokevirtual 133, 3) := by decide +kernel
theorem dX0_hops_19 : decode cX0_hops 19 = .ok (.aload_n 0, 1) := by decide +kernel
theorem dX0_hops_20 : decode cX0_hops 20 = .ok (.iload 5, 2) := by decide +kernel
theorem dX0_hops_22 : decode cX0_hops 22 = .ok (.invokevirtual 136, 3) := by decide +kernel
theorem dX0_hops_25 : decode cX0_hops 25 = .ok (.aload_n 0, 1) := by decide +kernel
theorem dX0_hops_26 : decode cX0_hops 26 = .ok (.getfield 34, 3) := by decide +kernel
theorem dX0_hops_29 : decode cX0_hops 29 = .ok (.iload 6, 2) := by decide +kernel
theorem dX0_hops_31 : decode cX0_hops 31 = .ok (.invokestatic 74, 3) := by decide +kernel
theorem dX0_hops_34 : decode cX0_hops 34 = .ok (.ireturn, 1) := by decide +kernel
set_option maxRecDepth 20000 in
theorem ggX0_meet_X0_slotOf : GoodIn wsX0_meet wsX0_slotOf := goodIn_ca (goodIn_r _ [5, 6, 7, 8, 9, 4, 10] (by decide +kernel) (by decide +kernel)) (goodIn_sub (fun _ h => List.mem_cons_of_mem _ (List.mem_append_right _ h)) (by decide +kernel))
set_option maxRecDepth 20000 in
theorem gX0_meet_X0_slotOf : GoodIn wsX0_meet (va_wsS RX0 55 yX0_slotOf wsX0_slotOf) := goodIn_app (goodIn_of _ (by decide +kernel)) ggX0_meet_X0_slotOf
set_option maxRecDepth 20000 in
theorem ggX0_meet_X0_at : GoodIn wsX0_meet wsX0_at := goodIn_r _ [13] (by decide +kernel) (by decide +kernel)
set_option maxRecDepth 20000 in
theorem gX0_meet_X0_at : GoodIn wsX0_meet (va_wsS RX0 74 yX0_at wsX0_at) := goodIn_app (goodIn_of _ (by decide +kernel)) ggX0_meet_X0_at
set_option maxRecDepth 20000 in
theorem ggX0_meet_X0_hops : GoodIn wsX0_meet wsX0_hops := goodIn_ca (goodIn_r _ [17, 18, 19, 20, 4, 21, 8, 9, 10, 6, 7, 22, 23, 24, 25, 26, 27, 28, 29, 30, 31, 32, 33, 34, 35, 36, 37, 38, 39, 40, 41, 42, 43, 44, 45, 11, 12, 13, 46, 47, 48, 49, 50, 51, 52, 53, 54, 55, 56, 57, 58, 59, 60, 61, 62, 63, 64, 1, 65, 66, 67, 68, 69, 70, 71, 72, 73, 74, 75, 76, 77, 78, 79, 80, 81, 82, 83, 84] (by decide +kernel) (by decide +kernel)) (goodIn_sub (fun _ h => List.mem_cons_of_mem _ (List.mem_append_right _ h)) (by decide +kernel))
set_option maxRecDepth 20000 in
theorem gX0_meet_X0_hops : GoodIn wsX0_meet (wsV RX0 139 RX0 yX0_hops wsX0_hops) := goodIn_app (goodIn_of _ (by decide +kernel)) ggX0_meet_X0_hops
theorem dX0_meet_0 : decode cX0_meet 0 = .ok (.aload_n 0, 1) := by decide +kernel
theorem dX0_meet_1 : decode cX0_meet 1 = .ok (.getfield 9, 3) := by decide +kernel
theorem dX0_meet_4 : decode cX0_meet 4 = .ok (.iload_n 1, 1) := by decide +kernel
theorem dX0_meet_5 : decode cX0_meet 5 = .ok (.iload_n 2, 1) := by decide +kernel
theorem dX0_meet_6 : decode cX0_meet 6 = .ok (.invokestatic 55, 3) := by decide +kernel
theorem dX0_meet_9 : decode cX0_meet 9 = .ok (.invokestatic 74, 3) := by decide +kernel
theorem dX0_meet_12 : decode cX0_meet 12 = .ok (.istore 5, 2) := by decide +kernel
theorem dX0_meet_14 : decode cX0_meet 14 = .ok (.aload_n 0, 1) := by decide +kernel
theorem dX0_meet_15 : decode cX0_meet 15 = .ok (.getfield 9, 3) := by decide +kernel
theorem dX0_meet_18 : decode cX0_meet 18 = .ok (.iload_n 3, 1) := by decide +kernel
theorem dX0_meet_19 : decode cX0_meet 19 = .ok (.iload 4, 2) := by decide +kernel
theorem dX0_meet_21 : decode cX0_meet 21 = .ok (.invokestatic 55, 3) := by decide +kernel
theorem dX0_meet_24 : decode cX0_meet 24 = .ok (.invokestatic 74, 3) := by decide +kernel
theorem dX0_meet_27 : decode cX0_meet 27 = .ok (.istore 6, 2) := by decide +kernel
theorem dX0_meet_29 : decode cX0_meet 29 = .ok (.iload 5, 2) := by decide +kernel
theorem dX0_meet_31 : decode cX0_meet 31 = .ok (.ifCond .eq 26, 3) := by decide +kernel
theorem dX0_meet_34 : decode cX0_meet 34 = .ok (.iload 6, 2) := by decide +kernel
theorem dX0_meet_36 : decode cX0_meet 36 = .ok (.ifCond .eq 21, 3) := by decide +kernel
theorem dX0_meet_39 : decode cX0_meet 39 = .ok (.aload_n 0, 1) := by decide +kernel
theorem dX0_meet_40 : decode cX0_meet 40 = .ok (.iload_n 1, 1) := by decide +kernel
theorem dX0_meet_41 : decode cX0_meet 41 = .ok (.iload 5, 2) := by decide +kernel
theorem dX0_meet_43 : decode cX0_meet 43 = .ok (.iload_n 3, 1) := by decide +kernel
theorem dX0_meet_44 : decode cX0_meet 44 = .ok (.iload 6, 2) := by decide +kernel
theorem dX0_meet_46 : decode cX0_meet 46 = .ok (.invokevirtual 139, 3) := by decide +kernel
theorem dX0_meet_49 : decode cX0_meet 49 = .ok (.iconst (-1), 1) := by decide +kernel
theorem dX0_meet_50 : decode cX0_meet 50 = .ok (.if_icmp .eq 7, 3) := by decide +kernel
theorem dX0_meet_53 : decode cX0_meet 53 = .ok (.iconst 1, 1) := by decide +kernel
theorem dX0_meet_54 : decode cX0_meet 54 = .ok (.goto 4, 3) := by decide +kernel
theorem dX0_meet_57 : decode cX0_meet 57 = .ok (.iconst 0, 1) := by decide +kernel
theorem dX0_meet_58 : decode cX0_meet 58 = .ok (.ireturn, 1) := by decide +kernel
set_option maxRecDepth 20000 in
theorem ggX0_joined_X0_placeOf : GoodIn wsX0_joined wsX0_placeOf := goodIn_ca (goodIn_r _ [5, 6, 7, 4, 8, 9, 10, 11, 12, 13] (by decide +kernel) (by decide +kernel)) (goodIn_sub (fun _ h => List.mem_cons_of_mem _ (List.mem_append_right _ h)) (by decide +kernel))
set_option maxRecDepth 20000 in
theorem gX0_joined_X0_placeOf : GoodIn wsX0_joined (va_wsS RX0 130 yX0_placeOf wsX0_placeOf) := goodIn_app (goodIn_of _ (by decide +kernel)) ggX0_joined_X0_placeOf
set_option maxRecDepth 20000 in
theorem ggX0_joined_X0_forgetWalks : GoodIn wsX0_joined wsX0_forgetWalks := goodIn_r _ [17, 18, 1, 19, 20, 21, 22, 63, 64, 65, 66, 67, 68, 69, 70, 71, 72, 73, 74, 75, 76, 77] (by decide +kernel) (by decide +kernel)
set_option maxRecDepth 20000 in
theorem gX0_joined_X0_forgetWalks : GoodIn wsX0_joined (wsV RX0 133 RX0 yX0_forgetWalks wsX0_forgetWalks) := goodIn_app (goodIn_of _ (by decide +kernel)) ggX0_joined_X0_forgetWalks
set_option maxRecDepth 20000 in
theorem ggX0_joined_X0_walkFrom : GoodIn wsX0_joined wsX0_walkFrom := goodIn_r _ [26, 1, 27, 28, 29, 30, 4, 31, 18, 32, 33, 34, 35, 36, 37, 38, 39, 40, 41, 42, 43, 44, 45, 46, 47, 48, 49, 50, 51, 52, 53, 54, 55, 56, 57, 58, 59, 60, 61, 62, 63, 64, 65, 66, 67, 68, 69, 70, 71, 72, 73, 74, 75, 76, 77] (by decide +kernel) (by decide +kernel)
set_option maxRecDepth 20000 in
theorem gX0_joined_X0_walkFrom : GoodIn wsX0_joined (wsV RX0 136 RX0 yX0_walkFrom wsX0_walkFrom) := goodIn_app (goodIn_of _ (by decide +kernel)) ggX0_joined_X0_walkFrom
theorem dX0_joined_0 : decode cX0_joined 0 = .ok (.iload_n 1, 1) := by decide +kernel
theorem dX0_joined_1 : decode cX0_joined 1 = .ok (.iload_n 2, 1) := by decide +kernel
theorem dX0_joined_2 : decode cX0_joined 2 = .ok (.invokestatic 130, 3) := by decide +kernel
theorem dX0_joined_5 : decode cX0_joined 5 = .ok (.istore_n 3, 1) := by decide +kernel
theorem dX0_joined_6 : decode cX0_joined 6 = .ok (.aload_n 0, 1) := by decide +kernel
theorem dX0_joined_7 : decode cX0_joined 7 = .ok (.invokevirtual 133, 3) := by decide +kernel
theorem dX0_joined_10 : decode cX0_joined 10 = .ok (.aload_n 0, 1) := by decide +kernel
theorem dX0_joined_11 : decode cX0_joined 11 = .ok (.iload_n 3, 1) := by decide +kernel
theorem dX0_joined_12 : decode cX0_joined 12 = .ok (.invokevirtual 136, 3) := by decide +kernel
theorem dX0_joined_15 : decode cX0_joined 15 = .ok (.aload_n 0, 1) := by decide +kernel
theorem dX0_joined_16 : decode cX0_joined 16 = .ok (.getfield 143, 3) := by decide +kernel
theorem dX0_joined_19 : decode cX0_joined 19 = .ok (.ireturn, 1) := by decide +kernel
set_option maxRecDepth 20000 in
theorem ggX0_islands_X0_forgetWalks : GoodIn wsX0_islands wsX0_forgetWalks := goodIn_r _ [6, 1, 7, 8, 9, 10, 11, 56, 57, 58, 59, 60, 61, 62, 63, 64, 65, 66, 67, 68, 69, 70] (by decide +kernel) (by decide +kernel)
set_option maxRecDepth 20000 in
theorem gX0_islands_X0_forgetWalks : GoodIn wsX0_islands (wsV RX0 133 RX0 yX0_forgetWalks wsX0_forgetWalks) := goodIn_app (goodIn_of _ (by decide +kernel)) ggX0_islands_X0_forgetWalks
set_option maxRecDepth 20000 in
theorem ggX0_islands_X0_isUsed : GoodIn wsX0_islands wsX0_isUsed := goodIn_r _ [15, 16, 17, 18, 19, 5, 20, 21, 22, 23, 24, 56, 57, 58, 59, 60, 61, 62, 63, 64, 65, 66, 67, 68, 69, 70] (by decide +kernel) (by decide +kernel)
set_option maxRecDepth 20000 in
theorem gX0_islands_X0_isUsed : GoodIn wsX0_islands (wsV RX0 146 RX0 yX0_isUsed wsX0_isUsed) := goodIn_app (goodIn_of _ (by decide +kernel)) ggX0_islands_X0_isUsed
set_option maxRecDepth 20000 in
theorem ggX0_islands_X0_at : GoodIn wsX0_islands wsX0_at := goodIn_r _ [24] (by decide +kernel) (by decide +kernel)
set_option maxRecDepth 20000 in
theorem gX0_islands_X0_at : GoodIn wsX0_islands (va_wsS RX0 74 yX0_at wsX0_at) := goodIn_app (goodIn_of _ (by decide +kernel)) ggX0_islands_X0_at
set_option maxRecDepth 20000 in
theorem ggX0_islands_X0_walkFrom : GoodIn wsX0_islands wsX0_walkFrom := goodIn_r _ [28, 7, 29, 30, 31, 32, 5, 33, 1, 34, 35, 36, 22, 23, 24, 37, 38, 39, 40, 41, 42, 43, 44, 45, 46, 47, 48, 49, 50, 51, 52, 53, 54, 55, 16, 17, 18, 19, 20, 21, 56, 57, 58, 59, 60, 61, 62, 63, 64, 65, 66, 67, 68, 69, 70] (by decide +kernel) (by decide +kernel)
set_option maxRecDepth 20000 in
theorem gX0_islands_X0_walkFrom : GoodIn wsX0_islands (wsV RX0 136 RX0 yX0_walkFrom wsX0_walkFrom) := goodIn_app (goodIn_of _ (by decide +kernel)) ggX0_islands_X0_walkFrom
theorem dX0_islands_0 : decode cX0_islands 0 = .ok (.iconst 0, 1) := by decide +kernel
theorem dX0_islands_1 : decode cX0_islands 1 = .ok (.istore_n 1, 1) := by decide +kernel
theorem dX0_islands_2 : decode cX0_islands 2 = .ok (.aload_n 0, 1) := by decide +kernel
theorem dX0_islands_3 : decode cX0_islands 3 = .ok (.invokevirtual 133, 3) := by decide +kernel
theorem dX0_islands_6 : decode cX0_islands 6 = .ok (.iconst 0, 1) := by decide +kernel
theorem dX0_islands_7 : decode cX0_islands 7 = .ok (.istore_n 2, 1) := by decide +kernel
theorem dX0_islands_8 : decode cX0_islands 8 = .ok (.iload_n 2, 1) := by decide +kernel
theorem dX0_islands_9 : decode cX0_islands 9 = .ok (.bipush 6, 2) := by decide +kernel
theorem dX0_islands_11 : decode cX0_islands 11 = .ok (.if_icmp .ge 62, 3) := by decide +kernel
theorem dX0_islands_14 : decode cX0_islands 14 = .ok (.iconst 1, 1) := by decide +kernel
theorem dX0_islands_15 : decode cX0_islands 15 = .ok (.istore_n 3, 1) := by decide +kernel
theorem dX0_islands_16 : decode cX0_islands 16 = .ok (.iload_n 3, 1) := by decide +kernel
theorem dX0_islands_17 : decode cX0_islands 17 = .ok (.bipush 15, 2) := by decide +kernel
theorem dX0_islands_19 : decode cX0_islands 19 = .ok (.if_icmp .gt 48, 3) := by decide +kernel
theorem dX0_islands_22 : decode cX0_islands 22 = .ok (.iload_n 2, 1) := by decide +kernel
theorem dX0_islands_23 : decode cX0_islands 23 = .ok (.bipush 16, 2) := by decide +kernel
theorem dX0_islands_25 : decode cX0_islands 25 = .ok (.imul, 1) := by decide +kernel
theorem dX0_islands_26 : decode cX0_islands 26 = .ok (.iload_n 3, 1) := by decide +kernel
theorem dX0_islands_27 : decode cX0_islands 27 = .ok (.iadd, 1) := by decide +kernel
theorem dX0_islands_28 : decode cX0_islands 28 = .ok (.istore 4, 2) := by decide +kernel
theorem dX0_islands_30 : decode cX0_islands 30 = .ok (.aload_n 0, 1) := by decide +kernel
theorem dX0_islands_31 : decode cX0_islands 31 = .ok (.iload_n 2, 1) := by decide +kernel
theorem dX0_islands_32 : decode cX0_islands 32 = .ok (.iload_n 3, 1) := by decide +kernel
theorem dX0_islands_33 : decode cX0_islands 33 = .ok (.invokevirtual 146, 3) := by decide +kernel
theorem dX0_islands_36 : decode cX0_islands 36 = .ok (.ifCond .eq 25, 3) := by decide +kernel
theorem dX0_islands_39 : decode cX0_islands 39 = .ok (.aload_n 0, 1) := by decide +kernel
theorem dX0_islands_40 : decode cX0_islands 40 = .ok (.getfield 34, 3) := by decide +kernel
theorem dX0_islands_43 : decode cX0_islands 43 = .ok (.iload 4, 2) := by decide +kernel
theorem dX0_islands_45 : decode cX0_islands 45 = .ok (.invokestatic 74, 3) := by decide +kernel
theorem dX0_islands_48 : decode cX0_islands 48 = .ok (.iconst (-1), 1) := by decide +kernel
theorem dX0_islands_49 : decode cX0_islands 49 = .ok (.if_icmp .ne 12, 3) := by decide +kernel
theorem dX0_islands_52 : decode cX0_islands 52 = .ok (.aload_n 0, 1) := by decide +kernel
theorem dX0_islands_53 : decode cX0_islands 53 = .ok (.iload 4, 2) := by decide +kernel
theorem dX0_islands_55 : decode cX0_islands 55 = .ok (.invokevirtual 136, 3) := by decide +kernel
theorem dX0_islands_58 : decode cX0_islands 58 = .ok (.iinc 1 1, 3) := by decide +kernel
theorem dX0_islands_61 : decode cX0_islands 61 = .ok (.iinc 3 1, 3) := by decide +kernel
theorem dX0_islands_64 : decode cX0_islands 64 = .ok (.goto (-48), 3) := by decide +kernel
theorem dX0_islands_67 : decode cX0_islands 67 = .ok (.iinc 2 1, 3) := by decide +kernel
theorem dX0_islands_70 : decode cX0_islands 70 = .ok (.goto (-62), 3) := by decide +kernel
theorem dX0_islands_73 : decode cX0_islands 73 = .ok (.iload_n 1, 1) := by decide +kernel
theorem dX0_islands_74 : decode cX0_islands 74 = .ok (.ireturn, 1) := by decide +kernel
set_option maxRecDepth 20000 in
theorem ggX0_loops_X0_countWays : GoodIn wsX0_loops wsX0_countWays := goodIn_r _ [5, 6, 7, 8, 9, 4, 10, 11, 12, 13, 14, 15, 16, 17, 18, 19, 20, 21, 22, 23, 24, 25, 26, 27, 28, 79, 80, 81, 82, 83, 84, 85, 86, 87, 88, 89, 90, 91, 92, 93] (by decide +kernel) (by decide +kernel)
set_option maxRecDepth 20000 in
theorem gX0_loops_X0_countWays : GoodIn wsX0_loops (wsV RX0 149 RX0 yX0_countWays wsX0_countWays) := goodIn_app (goodIn_of _ (by decide +kernel)) ggX0_loops_X0_countWays
set_option maxRecDepth 20000 in
theorem ggX0_loops_X0_countUsedPlaces : GoodIn wsX0_loops wsX0_countUsedPlaces := goodIn_r _ [32, 33, 34, 35, 4, 36, 21, 37, 38, 39, 40, 20, 13, 14, 15, 79, 80, 81, 82, 83, 84, 85, 86, 87, 88, 89, 90, 91, 92, 93] (by decide +kernel) (by decide +kernel)
set_option maxRecDepth 20000 in
theorem gX0_loops_X0_countUsedPlaces : GoodIn wsX0_loops (wsV RX0 153 RX0 yX0_countUsedPlaces wsX0_countUsedPlaces) := goodIn_app (goodIn_of _ (by decide +kernel)) ggX0_loops_X0_countUsedPlaces
set_option maxRecDepth 20000 in
theorem ggX0_loops_X0_islands : GoodIn wsX0_loops wsX0_islands := goodIn_r _ [44, 45, 46, 47, 48, 4, 49, 50, 51, 52, 53, 54, 33, 34, 35, 36, 21, 37, 38, 39, 40, 20, 13, 14, 15, 55, 56, 57, 58, 59, 60, 61, 62, 63, 64, 65, 66, 67, 68, 69, 70, 71, 72, 73, 74, 6, 7, 8, 9, 10, 11, 12, 75, 76, 77, 78, 79, 80, 81, 82, 83, 84, 85, 86, 87, 88, 89, 90, 91, 92, 93] (by decide +kernel) (by decide +kernel)
set_option maxRecDepth 20000 in
theorem gX0_loops_X0_islands : GoodIn wsX0_loops (wsV RX0 156 RX0 yX0_islands wsX0_islands) := goodIn_app (goodIn_of _ (by decide +kernel)) ggX0_loops_X0_islands
theorem dX0_loops_0 : decode cX0_loops 0 = .ok (.aload_n 0, 1) := by decide +kernel
theorem dX0_loops_1 : decode cX0_loops 1 = .ok (.invokevirtual 149, 3) := by decide +kernel
theorem dX0_loops_4 : decode cX0_loops 4 = .ok (.aload_n 0, 1) := by decide +kernel
theorem dX0_loops_5 : decode cX0_loops 5 = .ok (.invokevirtual 153, 3) := by decide +kernel
theorem dX0_loops_8 : decode cX0_loops 8 = .ok (.isub, 1) := by decide +kernel
theorem dX0_loops_9 : decode cX0_loops 9 = .ok (.aload_n 0, 1) := by decide +kernel
theorem dX0_loops_10 : decode cX0_loops 10 = .ok (.invokevirtual 156, 3) := by decide +kernel
theorem dX0_loops_13 : decode cX0_loops 13 = .ok (.iadd, 1) := by decide +kernel
theorem dX0_loops_14 : decode cX0_loops 14 = .ok (.ireturn, 1) := by decide +kernel
set_option maxRecDepth 20000 in
theorem ggX0_changes_X0_slotOf : GoodIn wsX0_changes wsX0_slotOf := goodIn_ca (goodIn_r _ [7, 8, 9, 10, 11, 6, 12] (by decide +kernel) (by decide +kernel)) (goodIn_sub (fun _ h => List.mem_cons_of_mem _ (List.mem_append_right _ h)) (by decide +kernel))
set_option maxRecDepth 20000 in
theorem gX0_changes_X0_slotOf : GoodIn wsX0_changes (va_wsS RX0 55 yX0_slotOf wsX0_slotOf) := goodIn_app (goodIn_of _ (by decide +kernel)) ggX0_changes_X0_slotOf
set_option maxRecDepth 20000 in
theorem ggX0_changes_X0_at : GoodIn wsX0_changes wsX0_at := goodIn_r _ [15] (by decide +kernel) (by decide +kernel)
set_option maxRecDepth 20000 in
theorem gX0_changes_X0_at : GoodIn wsX0_changes (va_wsS RX0 74 yX0_at wsX0_at) := goodIn_app (goodIn_of _ (by decide +kernel)) ggX0_changes_X0_at
set_option maxRecDepth 20000 in
theorem ggX0_changes_X0_changesOver : GoodIn wsX0_changes wsX0_changesOver := goodIn_r _ [19, 20, 1, 21, 22, 23, 6, 24, 25, 26, 13, 14, 15, 27, 28, 29, 30, 31, 47, 48, 49, 50, 51, 52, 53, 54, 55, 56, 57, 58, 59, 60, 61] (by decide +kernel) (by decide +kernel)
set_option maxRecDepth 20000 in
theorem gX0_changes_X0_changesOver : GoodIn wsX0_changes (wsV RX0 159 RX0 yX0_changesOver wsX0_changesOver) := goodIn_app (goodIn_of _ (by decide +kernel)) ggX0_changes_X0_changesOver
set_option maxRecDepth 20000 in
theorem ggX0_changes_X0_put : GoodIn wsX0_changes wsX0_put := goodIn_r _ [34] (by decide +kernel) (by decide +kernel)
set_option maxRecDepth 20000 in
theorem gX0_changes_X0_put : GoodIn wsX0_changes (va_wsS RX0 78 yX0_put wsX0_put) := goodIn_app (goodIn_of _ (by decide +kernel)) ggX0_changes_X0_put
set_option maxRecDepth 20000 in
theorem ggX0_changes_J7_fill_53178 : GoodIn wsX0_changes wsJ7_fill_53178 := goodIn_r _ [38] (by decide +kernel) (by decide +kernel)
set_option maxRecDepth 20000 in
theorem gX0_changes_J7_fill_53178 : GoodIn wsX0_changes (va_wsS RX0 46 yJ7_fill_53178 wsJ7_fill_53178) := goodIn_app (goodIn_of _ (by decide +kernel)) ggX0_changes_J7_fill_53178
set_option maxRecDepth 20000 in
theorem ggX0_changes_X0_leastSums : GoodIn wsX0_changes wsX0_leastSums := goodIn_r _ [42, 43, 44, 45, 6, 46, 20, 13, 14, 15, 32, 33, 34, 47, 48, 49, 50, 51, 52, 53, 54, 55, 56, 57, 58, 59, 60, 61] (by decide +kernel) (by decide +kernel)
set_option maxRecDepth 20000 in
theorem gX0_changes_X0_leastSums : GoodIn wsX0_changes (wsV RX0 162 RX0 yX0_leastSums wsX0_leastSums) := goodIn_app (goodIn_of _ (by decide +kernel)) ggX0_changes_X0_leastSums
theorem dX0_changes_0 : decode cX0_changes 0 = .ok (.aload_n 0, 1) := by decide +kernel
theorem dX0_changes_1 : decode cX0_changes 1 = .ok (.getfield 9, 3) := by decide +kernel
theorem dX0_changes_4 : decode cX0_changes 4 = .ok (.iload_n 1, 1) := by decide +kernel
theorem dX0_changes_5 : decode cX0_changes 5 = .ok (.iload_n 2, 1) := by decide +kernel
theorem dX0_changes_6 : decode cX0_changes 6 = .ok (.invokestatic 55, 3) := by decide +kernel
theorem dX0_changes_9 : decode cX0_changes 9 = .ok (.invokestatic 74, 3) := by decide +kernel
theorem dX0_changes_12 : decode cX0_changes 12 = .ok (.istore 5, 2) := by decide +kernel
theorem dX0_changes_14 : decode cX0_changes 14 = .ok (.aload_n 0, 1) := by decide +kernel
theorem dX0_changes_15 : decode cX0_changes 15 = .ok (.getfield 9, 3) := by decide +kernel
theorem dX0_changes_18 : decode cX0_changes 18 = .ok (.iload_n 3, 1) := by decide +kernel
theorem dX0_changes_19 : decode cX0_changes 19 = .ok (.iload 4, 2) := by decide +kernel
theorem dX0_changes_21 : decode cX0_changes 21 = .ok (.invokestatic 55, 3) := by decide +kernel
theorem dX0_changes_24 : decode cX0_changes 24 = .ok (.invokestatic 74, 3) := by decide +kernel
theorem dX0_changes_27 : decode cX0_changes 27 = .ok (.istore 6, 2) := by decide +kernel
theorem dX0_changes_29 : decode cX0_changes 29 = .ok (.iload 5, 2) := by decide +kernel
theorem dX0_changes_31 : decode cX0_changes 31 = .ok (.ifCond .eq 10, 3) := by decide +kernel
theorem dX0_changes_34 : decode cX0_changes 34 = .ok (.iload 5, 2) := by decide +kernel
theorem dX0_changes_36 : decode cX0_changes 36 = .ok (.iload 6, 2) := by decide +kernel
theorem dX0_changes_38 : decode cX0_changes 38 = .ok (.if_icmp .eq 5, 3) := by decide +kernel
theorem dX0_changes_41 : decode cX0_changes 41 = .ok (.iconst (-1), 1) := by decide +kernel
theorem dX0_changes_42 : decode cX0_changes 42 = .ok (.ireturn, 1) := by decide +kernel
theorem dX0_changes_43 : decode cX0_changes 43 = .ok (.iconst 0, 1) := by decide +kernel
theorem dX0_changes_44 : decode cX0_changes 44 = .ok (.istore 7, 2) := by decide +kernel
theorem dX0_changes_46 : decode cX0_changes 46 = .ok (.iload 7, 2) := by decide +kernel
theorem dX0_changes_48 : decode cX0_changes 48 = .ok (.bipush 36, 2) := by decide +kernel
theorem dX0_changes_50 : decode cX0_changes 50 = .ok (.if_icmp .ge 26, 3) := by decide +kernel
theorem dX0_changes_53 : decode cX0_changes 53 = .ok (.aload_n 0, 1) := by decide +kernel
theorem dX0_changes_54 : decode cX0_changes 54 = .ok (.getfield 40, 3) := by decide +kernel
theorem dX0_changes_57 : decode cX0_changes 57 = .ok (.iload 7, 2) := by decide +kernel
theorem dX0_changes_59 : decode cX0_changes 59 = .ok (.aload_n 0, 1) := by decide +kernel
theorem dX0_changes_60 : decode cX0_changes 60 = .ok (.iload 7, 2) := by decide +kernel
theorem dX0_changes_62 : decode cX0_changes 62 = .ok (.iload 5, 2) := by decide +kernel
theorem dX0_changes_64 : decode cX0_changes 64 = .ok (.invokevirtual 159, 3) := by decide +kernel
theorem dX0_changes_67 : decode cX0_changes 67 = .ok (.invokestatic 78, 3) := by decide +kernel
theorem dX0_changes_70 : decode cX0_changes 70 = .ok (.iinc 7 1, 3) := by decide +kernel
theorem dX0_changes_73 : decode cX0_changes 73 = .ok (.goto (-27), 3) := by decide +kernel
theorem dX0_changes_76 : decode cX0_changes 76 = .ok (.aload_n 0, 1) := by decide +kernel
theorem dX0_changes_77 : decode cX0_changes 77 = .ok (.getfield 43, 3) := by decide +kernel
theorem dX0_changes_80 : decode cX0_changes 80 = .ok (.sipush 1000, 3) := by decide +kernel
theorem dX0_changes_83 : decode cX0_changes 83 = .ok (.invokestatic 46, 3) := by decide +kernel
theorem dX0_changes_86 : decode cX0_changes 86 = .ok (.aload_n 0, 1) := by decide +kernel
theorem dX0_changes_87 : decode cX0_changes 87 = .ok (.getfield 43, 3) := by decide +kernel
theorem dX0_changes_90 : decode cX0_changes 90 = .ok (.iload_n 1, 1) := by decide +kernel
theorem dX0_changes_91 : decode cX0_changes 91 = .ok (.iconst 0, 1) := by decide +kernel
theorem dX0_changes_92 : decode cX0_changes 92 = .ok (.invokestatic 78, 3) := by decide +kernel
theorem dX0_changes_95 : decode cX0_changes 95 = .ok (.aload_n 0, 1) := by decide +kernel
theorem dX0_changes_96 : decode cX0_changes 96 = .ok (.aload_n 0, 1) := by decide +kernel
theorem dX0_changes_97 : decode cX0_changes 97 = .ok (.getfield 43, 3) := by decide +kernel
theorem dX0_changes_100 : decode cX0_changes 100 = .ok (.aload_n 0, 1) := by decide +kernel
theorem dX0_changes_101 : decode cX0_changes 101 = .ok (.getfield 40, 3) := by decide +kernel
theorem dX0_changes_104 : decode cX0_changes 104 = .ok (.invokevirtual 162, 3) := by decide +kernel
theorem dX0_changes_107 : decode cX0_changes 107 = .ok (.aload_n 0, 1) := by decide +kernel
theorem dX0_changes_108 : decode cX0_changes 108 = .ok (.getfield 43, 3) := by decide +kernel
theorem dX0_changes_111 : decode cX0_changes 111 = .ok (.iload_n 3, 1) := by decide +kernel
theorem dX0_changes_112 : decode cX0_changes 112 = .ok (.invokestatic 74, 3) := by decide +kernel
theorem dX0_changes_115 : decode cX0_changes 115 = .ok (.istore 7, 2) := by decide +kernel
theorem dX0_changes_117 : decode cX0_changes 117 = .ok (.iload 7, 2) := by decide +kernel
theorem dX0_changes_119 : decode cX0_changes 119 = .ok (.sipush 1000, 3) := by decide +kernel
theorem dX0_changes_122 : decode cX0_changes 122 = .ok (.if_icmp .ne 7, 3) := by decide +kernel
theorem dX0_changes_125 : decode cX0_changes 125 = .ok (.iconst (-1), 1) := by decide +kernel
theorem dX0_changes_126 : decode cX0_changes 126 = .ok (.goto 5, 3) := by decide +kernel
theorem dX0_changes_129 : decode cX0_changes 129 = .ok (.iload 7, 2) := by decide +kernel
theorem dX0_changes_131 : decode cX0_changes 131 = .ok (.ireturn, 1) := by decide +kernel
theorem dX0_checkUnit_0 : decode cX0_checkUnit 0 = .ok (.iload_n 0, 1) := by decide +kernel
theorem dX0_checkUnit_1 : decode cX0_checkUnit 1 = .ok (.ifCond .lt 9, 3) := by decide +kernel
theorem dX0_checkUnit_4 : decode cX0_checkUnit 4 = .ok (.iload_n 0, 1) := by decide +kernel
theorem dX0_checkUnit_5 : decode cX0_checkUnit 5 = .ok (.bipush 6, 2) := by decide +kernel
theorem dX0_checkUnit_7 : decode cX0_checkUnit 7 = .ok (.if_icmp .lt 13, 3) := by decide +kernel
theorem dX0_checkUnit_10 : decode cX0_checkUnit 10 = .ok (.new 84, 3) := by decide +kernel
theorem dX0_checkUnit_13 : decode cX0_checkUnit 13 = .ok (.dup, 1) := by decide +kernel
theorem dX0_checkUnit_14 : decode cX0_checkUnit 14 = .ok (.ldc 166, 2) := by decide +kernel
theorem dX0_checkUnit_16 : decode cX0_checkUnit 16 = .ok (.invokespecial 88, 3) := by decide +kernel
theorem dX0_checkUnit_19 : decode cX0_checkUnit 19 = .ok (.athrow, 1) := by decide +kernel
theorem dX0_checkUnit_20 : decode cX0_checkUnit 20 = .ok (.return_, 1) := by decide +kernel
theorem dX0_checkLane_0 : decode cX0_checkLane 0 = .ok (.iload_n 0, 1) := by decide +kernel
theorem dX0_checkLane_1 : decode cX0_checkLane 1 = .ok (.iconst 1, 1) := by decide +kernel
theorem dX0_checkLane_2 : decode cX0_checkLane 2 = .ok (.if_icmp .lt 9, 3) := by decide +kernel
theorem dX0_checkLane_5 : decode cX0_checkLane 5 = .ok (.iload_n 0, 1) := by decide +kernel
theorem dX0_checkLane_6 : decode cX0_checkLane 6 = .ok (.bipush 15, 2) := by decide +kernel
theorem dX0_checkLane_8 : decode cX0_checkLane 8 = .ok (.if_icmp .le 13, 3) := by decide +kernel
theorem dX0_checkLane_11 : decode cX0_checkLane 11 = .ok (.new 84, 3) := by decide +kernel
theorem dX0_checkLane_14 : decode cX0_checkLane 14 = .ok (.dup, 1) := by decide +kernel
theorem dX0_checkLane_15 : decode cX0_checkLane 15 = .ok (.ldc 168, 2) := by decide +kernel
theorem dX0_checkLane_17 : decode cX0_checkLane 17 = .ok (.invokespecial 88, 3) := by decide +kernel
theorem dX0_checkLane_20 : decode cX0_checkLane 20 = .ok (.athrow, 1) := by decide +kernel
theorem dX0_checkLane_21 : decode cX0_checkLane 21 = .ok (.return_, 1) := by decide +kernel
set_option maxRecDepth 20000 in
theorem ggX0_slotOf_X0_checkUnit : GoodIn wsX0_slotOf wsX0_checkUnit := goodIn_ca (goodIn_r _ [6, 1, 2] (by decide +kernel) (by decide +kernel)) (goodIn_sub (fun _ h => List.mem_cons_of_mem _ (List.mem_append_right _ h)) (by decide +kernel))
set_option maxRecDepth 20000 in
theorem gX0_slotOf_X0_checkUnit : GoodIn wsX0_slotOf (va_wsS RX0 127 yX0_checkUnit wsX0_checkUnit) := goodIn_app (goodIn_of _ (by decide +kernel)) ggX0_slotOf_X0_checkUnit
theorem dX0_slotOf_0 : decode cX0_slotOf 0 = .ok (.iload_n 0, 1) := by decide +kernel
theorem dX0_slotOf_1 : decode cX0_slotOf 1 = .ok (.invokestatic 127, 3) := by decide +kernel
theorem dX0_slotOf_4 : decode cX0_slotOf 4 = .ok (.iload_n 1, 1) := by decide +kernel
theorem dX0_slotOf_5 : decode cX0_slotOf 5 = .ok (.ifCond .lt 9, 3) := by decide +kernel
theorem dX0_slotOf_8 : decode cX0_slotOf 8 = .ok (.iload_n 1, 1) := by decide +kernel
theorem dX0_slotOf_9 : decode cX0_slotOf 9 = .ok (.bipush 6, 2) := by decide +kernel
theorem dX0_slotOf_11 : decode cX0_slotOf 11 = .ok (.if_icmp .lt 13, 3) := by decide +kernel
theorem dX0_slotOf_14 : decode cX0_slotOf 14 = .ok (.new 84, 3) := by decide +kernel
theorem dX0_slotOf_17 : decode cX0_slotOf 17 = .ok (.dup, 1) := by decide +kernel
theorem dX0_slotOf_18 : decode cX0_slotOf 18 = .ok (.ldc 170, 2) := by decide +kernel
theorem dX0_slotOf_20 : decode cX0_slotOf 20 = .ok (.invokespecial 88, 3) := by decide +kernel
theorem dX0_slotOf_23 : decode cX0_slotOf 23 = .ok (.athrow, 1) := by decide +kernel
theorem dX0_slotOf_24 : decode cX0_slotOf 24 = .ok (.iload_n 0, 1) := by decide +kernel
theorem dX0_slotOf_25 : decode cX0_slotOf 25 = .ok (.bipush 6, 2) := by decide +kernel
theorem dX0_slotOf_27 : decode cX0_slotOf 27 = .ok (.imul, 1) := by decide +kernel
theorem dX0_slotOf_28 : decode cX0_slotOf 28 = .ok (.iload_n 1, 1) := by decide +kernel
theorem dX0_slotOf_29 : decode cX0_slotOf 29 = .ok (.iadd, 1) := by decide +kernel
theorem dX0_slotOf_30 : decode cX0_slotOf 30 = .ok (.ireturn, 1) := by decide +kernel
set_option maxRecDepth 20000 in
theorem ggX0_placeOf_X0_checkUnit : GoodIn wsX0_placeOf wsX0_checkUnit := goodIn_ca (goodIn_r _ [4, 5, 6] (by decide +kernel) (by decide +kernel)) (goodIn_sub (fun _ h => List.mem_cons_of_mem _ (List.mem_append_right _ h)) (by decide +kernel))
set_option maxRecDepth 20000 in
theorem gX0_placeOf_X0_checkUnit : GoodIn wsX0_placeOf (va_wsS RX0 127 yX0_checkUnit wsX0_checkUnit) := goodIn_app (goodIn_of _ (by decide +kernel)) ggX0_placeOf_X0_checkUnit
set_option maxRecDepth 20000 in
theorem ggX0_placeOf_X0_checkLane : GoodIn wsX0_placeOf wsX0_checkLane := goodIn_ca (goodIn_r _ [9, 5, 6] (by decide +kernel) (by decide +kernel)) (goodIn_sub (fun _ h => List.mem_cons_of_mem _ (List.mem_append_right _ h)) (by decide +kernel))
set_option maxRecDepth 20000 in
theorem gX0_placeOf_X0_checkLane : GoodIn wsX0_placeOf (va_wsS RX0 59 yX0_checkLane wsX0_checkLane) := goodIn_app (goodIn_of _ (by decide +kernel)) ggX0_placeOf_X0_checkLane
theorem dX0_placeOf_0 : decode cX0_placeOf 0 = .ok (.iload_n 0, 1) := by decide +kernel
theorem dX0_placeOf_1 : decode cX0_placeOf 1 = .ok (.invokestatic 127, 3) := by decide +kernel
theorem dX0_placeOf_4 : decode cX0_placeOf 4 = .ok (.iload_n 1, 1) := by decide +kernel
theorem dX0_placeOf_5 : decode cX0_placeOf 5 = .ok (.invokestatic 59, 3) := by decide +kernel
theorem dX0_placeOf_8 : decode cX0_placeOf 8 = .ok (.iload_n 0, 1) := by decide +kernel
theorem dX0_placeOf_9 : decode cX0_placeOf 9 = .ok (.bipush 16, 2) := by decide +kernel
theorem dX0_placeOf_11 : decode cX0_placeOf 11 = .ok (.imul, 1) := by decide +kernel
theorem dX0_placeOf_12 : decode cX0_placeOf 12 = .ok (.iload_n 1, 1) := by decide +kernel
theorem dX0_placeOf_13 : decode cX0_placeOf 13 = .ok (.iadd, 1) := by decide +kernel
theorem dX0_placeOf_14 : decode cX0_placeOf 14 = .ok (.ireturn, 1) := by decide +kernel
set_option maxRecDepth 20000 in
theorem ggX0_slotWithCable_X0_slotOf : GoodIn wsX0_slotWithCable wsX0_slotOf := goodIn_ca (goodIn_r _ [6, 7, 8, 9, 10, 5, 11] (by decide +kernel) (by decide +kernel)) (goodIn_sub (fun _ h => List.mem_cons_of_mem _ (List.mem_append_right _ h)) (by decide +kernel))
set_option maxRecDepth 20000 in
theorem gX0_slotWithCable_X0_slotOf : GoodIn wsX0_slotWithCable (va_wsS RX0 55 yX0_slotOf wsX0_slotOf) := goodIn_app (goodIn_of _ (by decide +kernel)) ggX0_slotWithCable_X0_slotOf
set_option maxRecDepth 20000 in
theorem ggX0_slotWithCable_X0_hasCable : GoodIn wsX0_slotWithCable wsX0_hasCable := goodIn_r _ [15, 16, 17, 18, 5, 19, 20, 21, 22, 23, 24, 25, 26, 27, 28, 29, 30, 31, 32, 33, 34] (by decide +kernel) (by decide +kernel)
set_option maxRecDepth 20000 in
theorem gX0_slotWithCable_X0_hasCable : GoodIn wsX0_slotWithCable (wsV RX0 91 RX0 yX0_hasCable wsX0_hasCable) := goodIn_app (goodIn_of _ (by decide +kernel)) ggX0_slotWithCable_X0_hasCable
theorem dX0_slotWithCable_0 : decode cX0_slotWithCable 0 = .ok (.iload_n 1, 1) := by decide +kernel
theorem dX0_slotWithCable_1 : decode cX0_slotWithCable 1 = .ok (.iload_n 2, 1) := by decide +kernel
theorem dX0_slotWithCable_2 : decode cX0_slotWithCable 2 = .ok (.invokestatic 55, 3) := by decide +kernel
theorem dX0_slotWithCable_5 : decode cX0_slotWithCable 5 = .ok (.istore_n 3, 1) := by decide +kernel
theorem dX0_slotWithCable_6 : decode cX0_slotWithCable 6 = .ok (.aload_n 0, 1) := by decide +kernel
theorem dX0_slotWithCable_7 : decode cX0_slotWithCable 7 = .ok (.iload_n 3, 1) := by decide +kernel
theorem dX0_slotWithCable_8 : decode cX0_slotWithCable 8 = .ok (.invokevirtual 91, 3) := by decide +kernel
theorem dX0_slotWithCable_11 : decode cX0_slotWithCable 11 = .ok (.ifCond .ne 13, 3) := by decide +kernel
theorem dX0_slotWithCable_14 : decode cX0_slotWithCable 14 = .ok (.new 172, 3) := by decide +kernel
theorem dX0_slotWithCable_17 : decode cX0_slotWithCable 17 = .ok (.dup, 1) := by decide +kernel
theorem dX0_slotWithCable_18 : decode cX0_slotWithCable 18 = .ok (.ldc 174, 2) := by decide +kernel
theorem dX0_slotWithCable_20 : decode cX0_slotWithCable 20 = .ok (.invokespecial 176, 3) := by decide +kernel
theorem dX0_slotWithCable_23 : decode cX0_slotWithCable 23 = .ok (.athrow, 1) := by decide +kernel
theorem dX0_slotWithCable_24 : decode cX0_slotWithCable 24 = .ok (.iload_n 3, 1) := by decide +kernel
theorem dX0_slotWithCable_25 : decode cX0_slotWithCable 25 = .ok (.ireturn, 1) := by decide +kernel
theorem dX0_at_0 : decode cX0_at 0 = .ok (.iload_n 1, 1) := by decide +kernel
theorem dX0_at_1 : decode cX0_at 1 = .ok (.ifCond .lt 15, 3) := by decide +kernel
theorem dX0_at_4 : decode cX0_at 4 = .ok (.iload_n 1, 1) := by decide +kernel
theorem dX0_at_5 : decode cX0_at 5 = .ok (.aload_n 0, 1) := by decide +kernel
theorem dX0_at_6 : decode cX0_at 6 = .ok (.arraylength, 1) := by decide +kernel
theorem dX0_at_7 : decode cX0_at 7 = .ok (.if_icmp .ge 9, 3) := by decide +kernel
theorem dX0_at_10 : decode cX0_at 10 = .ok (.aload_n 0, 1) := by decide +kernel
theorem dX0_at_11 : decode cX0_at 11 = .ok (.iload_n 1, 1) := by decide +kernel
theorem dX0_at_12 : decode cX0_at 12 = .ok (.iaload, 1) := by decide +kernel
theorem dX0_at_13 : decode cX0_at 13 = .ok (.goto 4, 3) := by decide +kernel
theorem dX0_at_16 : decode cX0_at 16 = .ok (.iconst (-1), 1) := by decide +kernel
theorem dX0_at_17 : decode cX0_at 17 = .ok (.ireturn, 1) := by decide +kernel
theorem dX0_put_0 : decode cX0_put 0 = .ok (.iload_n 1, 1) := by decide +kernel
theorem dX0_put_1 : decode cX0_put 1 = .ok (.ifCond .lt 13, 3) := by decide +kernel
theorem dX0_put_4 : decode cX0_put 4 = .ok (.iload_n 1, 1) := by decide +kernel
theorem dX0_put_5 : decode cX0_put 5 = .ok (.aload_n 0, 1) := by decide +kernel
theorem dX0_put_6 : decode cX0_put 6 = .ok (.arraylength, 1) := by decide +kernel
theorem dX0_put_7 : decode cX0_put 7 = .ok (.if_icmp .ge 7, 3) := by decide +kernel
theorem dX0_put_10 : decode cX0_put 10 = .ok (.aload_n 0, 1) := by decide +kernel
theorem dX0_put_11 : decode cX0_put 11 = .ok (.iload_n 1, 1) := by decide +kernel
theorem dX0_put_12 : decode cX0_put 12 = .ok (.iload_n 2, 1) := by decide +kernel
theorem dX0_put_13 : decode cX0_put 13 = .ok (.iastore, 1) := by decide +kernel
theorem dX0_put_14 : decode cX0_put 14 = .ok (.return_, 1) := by decide +kernel
set_option maxRecDepth 20000 in
theorem ggX0_isTagged_X0_at : GoodIn wsX0_isTagged wsX0_at := goodIn_r _ [5] (by decide +kernel) (by decide +kernel)
set_option maxRecDepth 20000 in
theorem gX0_isTagged_X0_at : GoodIn wsX0_isTagged (va_wsS RX0 74 yX0_at wsX0_at) := goodIn_app (goodIn_of _ (by decide +kernel)) ggX0_isTagged_X0_at
theorem dX0_isTagged_0 : decode cX0_isTagged 0 = .ok (.aload_n 0, 1) := by decide +kernel
theorem dX0_isTagged_1 : decode cX0_isTagged 1 = .ok (.getfield 13, 3) := by decide +kernel
theorem dX0_isTagged_4 : decode cX0_isTagged 4 = .ok (.iload_n 1, 1) := by decide +kernel
theorem dX0_isTagged_5 : decode cX0_isTagged 5 = .ok (.invokestatic 74, 3) := by decide +kernel
theorem dX0_isTagged_8 : decode cX0_isTagged 8 = .ok (.iconst 1, 1) := by decide +kernel
theorem dX0_isTagged_9 : decode cX0_isTagged 9 = .ok (.iload_n 2, 1) := by decide +kernel
theorem dX0_isTagged_10 : decode cX0_isTagged 10 = .ok (.ishl, 1) := by decide +kernel
theorem dX0_isTagged_11 : decode cX0_isTagged 11 = .ok (.iand, 1) := by decide +kernel
theorem dX0_isTagged_12 : decode cX0_isTagged 12 = .ok (.ifCond .eq 7, 3) := by decide +kernel
theorem dX0_isTagged_15 : decode cX0_isTagged 15 = .ok (.iconst 1, 1) := by decide +kernel
theorem dX0_isTagged_16 : decode cX0_isTagged 16 = .ok (.goto 4, 3) := by decide +kernel
theorem dX0_isTagged_19 : decode cX0_isTagged 19 = .ok (.iconst 0, 1) := by decide +kernel
theorem dX0_isTagged_20 : decode cX0_isTagged 20 = .ok (.ireturn, 1) := by decide +kernel
set_option maxRecDepth 20000 in
theorem ggX0_hasCable_X0_at : GoodIn wsX0_hasCable wsX0_at := goodIn_r _ [5] (by decide +kernel) (by decide +kernel)
set_option maxRecDepth 20000 in
theorem gX0_hasCable_X0_at : GoodIn wsX0_hasCable (va_wsS RX0 74 yX0_at wsX0_at) := goodIn_app (goodIn_of _ (by decide +kernel)) ggX0_hasCable_X0_at
theorem dX0_hasCable_0 : decode cX0_hasCable 0 = .ok (.aload_n 0, 1) := by decide +kernel
theorem dX0_hasCable_1 : decode cX0_hasCable 1 = .ok (.getfield 16, 3) := by decide +kernel
theorem dX0_hasCable_4 : decode cX0_hasCable 4 = .ok (.iload_n 1, 1) := by decide +kernel
theorem dX0_hasCable_5 : decode cX0_hasCable 5 = .ok (.invokestatic 74, 3) := by decide +kernel
theorem dX0_hasCable_8 : decode cX0_hasCable 8 = .ok (.iconst (-1), 1) := by decide +kernel
theorem dX0_hasCable_9 : decode cX0_hasCable 9 = .ok (.if_icmp .eq 7, 3) := by decide +kernel
theorem dX0_hasCable_12 : decode cX0_hasCable 12 = .ok (.iconst 1, 1) := by decide +kernel
theorem dX0_hasCable_13 : decode cX0_hasCable 13 = .ok (.goto 4, 3) := by decide +kernel
theorem dX0_hasCable_16 : decode cX0_hasCable 16 = .ok (.iconst 0, 1) := by decide +kernel
theorem dX0_hasCable_17 : decode cX0_hasCable 17 = .ok (.ireturn, 1) := by decide +kernel
set_option maxRecDepth 20000 in
theorem ggX0_setCable_X0_put : GoodIn wsX0_setCable wsX0_put := goodIn_r _ [6] (by decide +kernel) (by decide +kernel)
set_option maxRecDepth 20000 in
theorem gX0_setCable_X0_put : GoodIn wsX0_setCable (va_wsS RX0 78 yX0_put wsX0_put) := goodIn_app (goodIn_of _ (by decide +kernel)) ggX0_setCable_X0_put
theorem dX0_setCable_0 : decode cX0_setCable 0 = .ok (.aload_n 0, 1) := by decide +kernel
theorem dX0_setCable_1 : decode cX0_setCable 1 = .ok (.getfield 16, 3) := by decide +kernel
theorem dX0_setCable_4 : decode cX0_setCable 4 = .ok (.iload_n 1, 1) := by decide +kernel
theorem dX0_setCable_5 : decode cX0_setCable 5 = .ok (.iload_n 2, 1) := by decide +kernel
theorem dX0_setCable_6 : decode cX0_setCable 6 = .ok (.invokestatic 78, 3) := by decide +kernel
theorem dX0_setCable_9 : decode cX0_setCable 9 = .ok (.aload_n 0, 1) := by decide +kernel
theorem dX0_setCable_10 : decode cX0_setCable 10 = .ok (.getfield 19, 3) := by decide +kernel
theorem dX0_setCable_13 : decode cX0_setCable 13 = .ok (.iload_n 1, 1) := by decide +kernel
theorem dX0_setCable_14 : decode cX0_setCable 14 = .ok (.iload_n 3, 1) := by decide +kernel
theorem dX0_setCable_15 : decode cX0_setCable 15 = .ok (.invokestatic 78, 3) := by decide +kernel
theorem dX0_setCable_18 : decode cX0_setCable 18 = .ok (.return_, 1) := by decide +kernel
theorem dX0_endName_0 : decode cX0_endName 0 = .ok (.iload_n 0, 1) := by decide +kernel
theorem dX0_endName_1 : decode cX0_endName 1 = .ok (.iconst (-1), 1) := by decide +kernel
theorem dX0_endName_2 : decode cX0_endName 2 = .ok (.if_icmp .ne 7, 3) := by decide +kernel
theorem dX0_endName_5 : decode cX0_endName 5 = .ok (.iconst (-1), 1) := by decide +kernel
theorem dX0_endName_6 : decode cX0_endName 6 = .ok (.goto 15, 3) := by decide +kernel
theorem dX0_endName_9 : decode cX0_endName 9 = .ok (.iload_n 0, 1) := by decide +kernel
theorem dX0_endName_10 : decode cX0_endName 10 = .ok (.bipush 6, 2) := by decide +kernel
theorem dX0_endName_12 : decode cX0_endName 12 = .ok (.idiv, 1) := by decide +kernel
theorem dX0_endName_13 : decode cX0_endName 13 = .ok (.bipush 10, 2) := by decide +kernel
theorem dX0_endName_15 : decode cX0_endName 15 = .ok (.imul, 1) := by decide +kernel
theorem dX0_endName_16 : decode cX0_endName 16 = .ok (.iload_n 0, 1) := by decide +kernel
theorem dX0_endName_17 : decode cX0_endName 17 = .ok (.bipush 6, 2) := by decide +kernel
theorem dX0_endName_19 : decode cX0_endName 19 = .ok (.irem, 1) := by decide +kernel
theorem dX0_endName_20 : decode cX0_endName 20 = .ok (.iadd, 1) := by decide +kernel
theorem dX0_endName_21 : decode cX0_endName 21 = .ok (.ireturn, 1) := by decide +kernel
set_option maxRecDepth 20000 in
theorem ggX0_hasLiveCable_X0_at : GoodIn wsX0_hasLiveCable wsX0_at := goodIn_r _ [7] (by decide +kernel) (by decide +kernel)
set_option maxRecDepth 20000 in
theorem gX0_hasLiveCable_X0_at : GoodIn wsX0_hasLiveCable (va_wsS RX0 74 yX0_at wsX0_at) := goodIn_app (goodIn_of _ (by decide +kernel)) ggX0_hasLiveCable_X0_at
theorem dX0_hasLiveCable_0 : decode cX0_hasLiveCable 0 = .ok (.aload_n 0, 1) := by decide +kernel
theorem dX0_hasLiveCable_1 : decode cX0_hasLiveCable 1 = .ok (.getfield 16, 3) := by decide +kernel
theorem dX0_hasLiveCable_4 : decode cX0_hasLiveCable 4 = .ok (.iload_n 1, 1) := by decide +kernel
theorem dX0_hasLiveCable_5 : decode cX0_hasLiveCable 5 = .ok (.invokestatic 74, 3) := by decide +kernel
theorem dX0_hasLiveCable_8 : decode cX0_hasLiveCable 8 = .ok (.istore_n 2, 1) := by decide +kernel
theorem dX0_hasLiveCable_9 : decode cX0_hasLiveCable 9 = .ok (.iload_n 2, 1) := by decide +kernel
theorem dX0_hasLiveCable_10 : decode cX0_hasLiveCable 10 = .ok (.iconst (-1), 1) := by decide +kernel
theorem dX0_hasLiveCable_11 : decode cX0_hasLiveCable 11 = .ok (.if_icmp .ne 5, 3) := by decide +kernel
theorem dX0_hasLiveCable_14 : decode cX0_hasLiveCable 14 = .ok (.iconst 0, 1) := by decide +kernel
theorem dX0_hasLiveCable_15 : decode cX0_hasLiveCable 15 = .ok (.ireturn, 1) := by decide +kernel
theorem dX0_hasLiveCable_16 : decode cX0_hasLiveCable 16 = .ok (.aload_n 0, 1) := by decide +kernel
theorem dX0_hasLiveCable_17 : decode cX0_hasLiveCable 17 = .ok (.getfield 108, 3) := by decide +kernel
theorem dX0_hasLiveCable_20 : decode cX0_hasLiveCable 20 = .ok (.ifCond .eq 33, 3) := by decide +kernel
theorem dX0_hasLiveCable_23 : decode cX0_hasLiveCable 23 = .ok (.aload_n 0, 1) := by decide +kernel
theorem dX0_hasLiveCable_24 : decode cX0_hasLiveCable 24 = .ok (.getfield 31, 3) := by decide +kernel
theorem dX0_hasLiveCable_27 : decode cX0_hasLiveCable 27 = .ok (.iload_n 1, 1) := by decide +kernel
theorem dX0_hasLiveCable_28 : decode cX0_hasLiveCable 28 = .ok (.bipush 6, 2) := by decide +kernel
theorem dX0_hasLiveCable_30 : decode cX0_hasLiveCable 30 = .ok (.idiv, 1) := by decide +kernel
theorem dX0_hasLiveCable_31 : decode cX0_hasLiveCable 31 = .ok (.invokestatic 74, 3) := by decide +kernel
theorem dX0_hasLiveCable_34 : decode cX0_hasLiveCable 34 = .ok (.iload_n 1, 1) := by decide +kernel
theorem dX0_hasLiveCable_35 : decode cX0_hasLiveCable 35 = .ok (.if_icmp .eq 18, 3) := by decide +kernel
theorem dX0_hasLiveCable_38 : decode cX0_hasLiveCable 38 = .ok (.aload_n 0, 1) := by decide +kernel
theorem dX0_hasLiveCable_39 : decode cX0_hasLiveCable 39 = .ok (.getfield 31, 3) := by decide +kernel
theorem dX0_hasLiveCable_42 : decode cX0_hasLiveCable 42 = .ok (.iload_n 2, 1) := by decide +kernel
theorem dX0_hasLiveCable_43 : decode cX0_hasLiveCable 43 = .ok (.bipush 6, 2) := by decide +kernel
theorem dX0_hasLiveCable_45 : decode cX0_hasLiveCable 45 = .ok (.idiv, 1) := by decide +kernel
theorem dX0_hasLiveCable_46 : decode cX0_hasLiveCable 46 = .ok (.invokestatic 74, 3) := by decide +kernel
theorem dX0_hasLiveCable_49 : decode cX0_hasLiveCable 49 = .ok (.iload_n 2, 1) := by decide +kernel
theorem dX0_hasLiveCable_50 : decode cX0_hasLiveCable 50 = .ok (.if_icmp .ne 7, 3) := by decide +kernel
theorem dX0_hasLiveCable_53 : decode cX0_hasLiveCable 53 = .ok (.iconst 1, 1) := by decide +kernel
theorem dX0_hasLiveCable_54 : decode cX0_hasLiveCable 54 = .ok (.goto 4, 3) := by decide +kernel
theorem dX0_hasLiveCable_57 : decode cX0_hasLiveCable 57 = .ok (.iconst 0, 1) := by decide +kernel
theorem dX0_hasLiveCable_58 : decode cX0_hasLiveCable 58 = .ok (.ireturn, 1) := by decide +kernel
set_option maxRecDepth 20000 in
theorem ggX0_laneBeyond_X0_at : GoodIn wsX0_laneBeyond wsX0_at := goodIn_r _ [6] (by decide +kernel) (by decide +kernel)
set_option maxRecDepth 20000 in
theorem gX0_laneBeyond_X0_at : GoodIn wsX0_laneBeyond (va_wsS RX0 74 yX0_at wsX0_at) := goodIn_app (goodIn_of _ (by decide +kernel)) ggX0_laneBeyond_X0_at
set_option maxRecDepth 20000 in
theorem ggX0_laneBeyond_X0_isTagged : GoodIn wsX0_laneBeyond wsX0_isTagged := goodIn_r _ [10, 11, 3, 4, 5, 6, 12, 13, 14, 15, 16, 17, 18, 19, 20, 21, 22, 23, 24, 25, 26] (by decide +kernel) (by decide +kernel)
set_option maxRecDepth 20000 in
theorem gX0_laneBeyond_X0_isTagged : GoodIn wsX0_laneBeyond (wsV RX0 63 RX0 yX0_isTagged wsX0_isTagged) := goodIn_app (goodIn_of _ (by decide +kernel)) ggX0_laneBeyond_X0_isTagged
theorem dX0_laneBeyond_0 : decode cX0_laneBeyond 0 = .ok (.aload_n 0, 1) := by decide +kernel
theorem dX0_laneBeyond_1 : decode cX0_laneBeyond 1 = .ok (.getfield 16, 3) := by decide +kernel
theorem dX0_laneBeyond_4 : decode cX0_laneBeyond 4 = .ok (.iload_n 1, 1) := by decide +kernel
theorem dX0_laneBeyond_5 : decode cX0_laneBeyond 5 = .ok (.invokestatic 74, 3) := by decide +kernel
theorem dX0_laneBeyond_8 : decode cX0_laneBeyond 8 = .ok (.istore_n 3, 1) := by decide +kernel
theorem dX0_laneBeyond_9 : decode cX0_laneBeyond 9 = .ok (.aload_n 0, 1) := by decide +kernel
theorem dX0_laneBeyond_10 : decode cX0_laneBeyond 10 = .ok (.iload_n 1, 1) := by decide +kernel
theorem dX0_laneBeyond_11 : decode cX0_laneBeyond 11 = .ok (.iload_n 2, 1) := by decide +kernel
theorem dX0_laneBeyond_12 : decode cX0_laneBeyond 12 = .ok (.invokevirtual 63, 3) := by decide +kernel
theorem dX0_laneBeyond_15 : decode cX0_laneBeyond 15 = .ok (.ifCond .eq 18, 3) := by decide +kernel
theorem dX0_laneBeyond_18 : decode cX0_laneBeyond 18 = .ok (.aload_n 0, 1) := by decide +kernel
theorem dX0_laneBeyond_19 : decode cX0_laneBeyond 19 = .ok (.iload_n 3, 1) := by decide +kernel
theorem dX0_laneBeyond_20 : decode cX0_laneBeyond 20 = .ok (.iload_n 2, 1) := by decide +kernel
theorem dX0_laneBeyond_21 : decode cX0_laneBeyond 21 = .ok (.invokevirtual 63, 3) := by decide +kernel
theorem dX0_laneBeyond_24 : decode cX0_laneBeyond 24 = .ok (.ifCond .eq 7, 3) := by decide +kernel
theorem dX0_laneBeyond_27 : decode cX0_laneBeyond 27 = .ok (.iload_n 2, 1) := by decide +kernel
theorem dX0_laneBeyond_28 : decode cX0_laneBeyond 28 = .ok (.goto 4, 3) := by decide +kernel
theorem dX0_laneBeyond_31 : decode cX0_laneBeyond 31 = .ok (.iconst (-1), 1) := by decide +kernel
theorem dX0_laneBeyond_32 : decode cX0_laneBeyond 32 = .ok (.ireturn, 1) := by decide +kernel
theorem dX0_laneBeyond_33 : decode cX0_laneBeyond 33 = .ok (.aload_n 0, 1) := by decide +kernel
theorem dX0_laneBeyond_34 : decode cX0_laneBeyond 34 = .ok (.getfield 9, 3) := by decide +kernel
theorem dX0_laneBeyond_37 : decode cX0_laneBeyond 37 = .ok (.iload_n 3, 1) := by decide +kernel
theorem dX0_laneBeyond_38 : decode cX0_laneBeyond 38 = .ok (.invokestatic 74, 3) := by decide +kernel
theorem dX0_laneBeyond_41 : decode cX0_laneBeyond 41 = .ok (.istore 4, 2) := by decide +kernel
theorem dX0_laneBeyond_43 : decode cX0_laneBeyond 43 = .ok (.aload_n 0, 1) := by decide +kernel
theorem dX0_laneBeyond_44 : decode cX0_laneBeyond 44 = .ok (.getfield 9, 3) := by decide +kernel
theorem dX0_laneBeyond_47 : decode cX0_laneBeyond 47 = .ok (.iload_n 1, 1) := by decide +kernel
theorem dX0_laneBeyond_48 : decode cX0_laneBeyond 48 = .ok (.invokestatic 74, 3) := by decide +kernel
theorem dX0_laneBeyond_51 : decode cX0_laneBeyond 51 = .ok (.iload_n 2, 1) := by decide +kernel
theorem dX0_laneBeyond_52 : decode cX0_laneBeyond 52 = .ok (.if_icmp .ne 13, 3) := by decide +kernel
theorem dX0_laneBeyond_55 : decode cX0_laneBeyond 55 = .ok (.iload 4, 2) := by decide +kernel
theorem dX0_laneBeyond_57 : decode cX0_laneBeyond 57 = .ok (.ifCond .eq 8, 3) := by decide +kernel
theorem dX0_laneBeyond_60 : decode cX0_laneBeyond 60 = .ok (.iload 4, 2) := by decide +kernel
theorem dX0_laneBeyond_62 : decode cX0_laneBeyond 62 = .ok (.goto 4, 3) := by decide +kernel
theorem dX0_laneBeyond_65 : decode cX0_laneBeyond 65 = .ok (.iconst (-1), 1) := by decide +kernel
theorem dX0_laneBeyond_66 : decode cX0_laneBeyond 66 = .ok (.ireturn, 1) := by decide +kernel
set_option maxRecDepth 20000 in
theorem ggX0_growTree_X0_findRoots : GoodIn wsX0_growTree wsX0_findRoots := goodIn_r _ [6, 7, 8, 9, 10, 5, 11, 12, 13, 14, 15, 16, 17, 18, 19, 20, 21, 22, 23, 24, 25, 26, 27, 38, 39, 40, 41, 42, 43, 44, 45, 46, 47, 48, 49, 50, 51, 52] (by decide +kernel) (by decide +kernel)
set_option maxRecDepth 20000 in
theorem gX0_growTree_X0_findRoots : GoodIn wsX0_growTree (wsV RX0 177 RX0 yX0_findRoots wsX0_findRoots) := goodIn_app (goodIn_of _ (by decide +kernel)) ggX0_growTree_X0_findRoots
set_option maxRecDepth 20000 in
theorem ggX0_growTree_X0_findCosts : GoodIn wsX0_growTree wsX0_findCosts := goodIn_r _ [31, 32, 7, 33, 25, 26, 5, 27, 9, 10, 11, 16, 17, 18, 19, 20, 21, 22, 23, 24, 38, 39, 40, 41, 42, 43, 44, 45, 46, 47, 48, 49, 50, 51, 52] (by decide +kernel) (by decide +kernel)
set_option maxRecDepth 20000 in
theorem gX0_growTree_X0_findCosts : GoodIn wsX0_growTree (wsV RX0 180 RX0 yX0_findCosts wsX0_findCosts) := goodIn_app (goodIn_of _ (by decide +kernel)) ggX0_growTree_X0_findCosts
set_option maxRecDepth 20000 in
theorem ggX0_growTree_X0_bestWayUp : GoodIn wsX0_growTree wsX0_bestWayUp := goodIn_r _ [37, 24, 33, 32, 25, 26, 5, 27, 38, 39, 40, 41, 42, 43, 44, 45, 46, 47, 48, 49, 50, 51, 52] (by decide +kernel) (by decide +kernel)
set_option maxRecDepth 20000 in
theorem gX0_growTree_X0_bestWayUp : GoodIn wsX0_growTree (wsV RX0 183 RX0 yX0_bestWayUp wsX0_bestWayUp) := goodIn_app (goodIn_of _ (by decide +kernel)) ggX0_growTree_X0_bestWayUp
set_option maxRecDepth 20000 in
theorem ggX0_growTree_X0_put : GoodIn wsX0_growTree wsX0_put := goodIn_r _ [11] (by decide +kernel) (by decide +kernel)
set_option maxRecDepth 20000 in
theorem gX0_growTree_X0_put : GoodIn wsX0_growTree (va_wsS RX0 78 yX0_put wsX0_put) := goodIn_app (goodIn_of _ (by decide +kernel)) ggX0_growTree_X0_put
theorem dX0_growTree_0 : decode cX0_growTree 0 = .ok (.aload_n 0, 1) := by decide +kernel
theorem dX0_growTree_1 : decode cX0_growTree 1 = .ok (.invokevirtual 177, 3) := by decide +kernel
theorem dX0_growTree_4 : decode cX0_growTree 4 = .ok (.aload_n 0, 1) := by decide +kernel
theorem dX0_growTree_5 : decode cX0_growTree 5 = .ok (.invokevirtual 180, 3) := by decide +kernel
theorem dX0_growTree_8 : decode cX0_growTree 8 = .ok (.iconst 0, 1) := by decide +kernel
theorem dX0_growTree_9 : decode cX0_growTree 9 = .ok (.istore_n 1, 1) := by decide +kernel
theorem dX0_growTree_10 : decode cX0_growTree 10 = .ok (.iload_n 1, 1) := by decide +kernel
theorem dX0_growTree_11 : decode cX0_growTree 11 = .ok (.bipush 6, 2) := by decide +kernel
theorem dX0_growTree_13 : decode cX0_growTree 13 = .ok (.if_icmp .ge 22, 3) := by decide +kernel
theorem dX0_growTree_16 : decode cX0_growTree 16 = .ok (.aload_n 0, 1) := by decide +kernel
theorem dX0_growTree_17 : decode cX0_growTree 17 = .ok (.getfield 31, 3) := by decide +kernel
theorem dX0_growTree_20 : decode cX0_growTree 20 = .ok (.iload_n 1, 1) := by decide +kernel
theorem dX0_growTree_21 : decode cX0_growTree 21 = .ok (.aload_n 0, 1) := by decide +kernel
theorem dX0_growTree_22 : decode cX0_growTree 22 = .ok (.iload_n 1, 1) := by decide +kernel
theorem dX0_growTree_23 : decode cX0_growTree 23 = .ok (.invokevirtual 183, 3) := by decide +kernel
theorem dX0_growTree_26 : decode cX0_growTree 26 = .ok (.invokestatic 78, 3) := by decide +kernel
theorem dX0_growTree_29 : decode cX0_growTree 29 = .ok (.iinc 1 1, 3) := by decide +kernel
theorem dX0_growTree_32 : decode cX0_growTree 32 = .ok (.goto (-22), 3) := by decide +kernel
theorem dX0_growTree_35 : decode cX0_growTree 35 = .ok (.return_, 1) := by decide +kernel
set_option maxRecDepth 20000 in
theorem ggX0_findRoots_X0_put : GoodIn wsX0_findRoots wsX0_put := goodIn_r _ [6] (by decide +kernel) (by decide +kernel)
set_option maxRecDepth 20000 in
theorem gX0_findRoots_X0_put : GoodIn wsX0_findRoots (va_wsS RX0 78 yX0_put wsX0_put) := goodIn_app (goodIn_of _ (by decide +kernel)) ggX0_findRoots_X0_put
set_option maxRecDepth 20000 in
theorem ggX0_findRoots_J7_fill_53178 : GoodIn wsX0_findRoots wsJ7_fill_53178 := goodIn_r _ [10] (by decide +kernel) (by decide +kernel)
set_option maxRecDepth 20000 in
theorem gX0_findRoots_J7_fill_53178 : GoodIn wsX0_findRoots (va_wsS RX0 46 yJ7_fill_53178 wsJ7_fill_53178) := goodIn_app (goodIn_of _ (by decide +kernel)) ggX0_findRoots_J7_fill_53178
set_option maxRecDepth 20000 in
theorem ggX0_findRoots_X0_leastSums : GoodIn wsX0_findRoots wsX0_leastSums := goodIn_r _ [14, 15, 16, 17, 5, 18, 19, 20, 21, 22, 3, 4, 6, 23, 24, 25, 26, 27, 28, 29, 30, 31, 32, 33, 34, 35, 36, 37] (by decide +kernel) (by decide +kernel)
set_option maxRecDepth 20000 in
theorem gX0_findRoots_X0_leastSums : GoodIn wsX0_findRoots (wsV RX0 162 RX0 yX0_leastSums wsX0_leastSums) := goodIn_app (goodIn_of _ (by decide +kernel)) ggX0_findRoots_X0_leastSums
theorem dX0_findRoots_0 : decode cX0_findRoots 0 = .ok (.iconst 0, 1) := by decide +kernel
theorem dX0_findRoots_1 : decode cX0_findRoots 1 = .ok (.istore_n 1, 1) := by decide +kernel
theorem dX0_findRoots_2 : decode cX0_findRoots 2 = .ok (.iload_n 1, 1) := by decide +kernel
theorem dX0_findRoots_3 : decode cX0_findRoots 3 = .ok (.bipush 6, 2) := by decide +kernel
theorem dX0_findRoots_5 : decode cX0_findRoots 5 = .ok (.if_icmp .ge 18, 3) := by decide +kernel
theorem dX0_findRoots_8 : decode cX0_findRoots 8 = .ok (.aload_n 0, 1) := by decide +kernel
theorem dX0_findRoots_9 : decode cX0_findRoots 9 = .ok (.getfield 25, 3) := by decide +kernel
theorem dX0_findRoots_12 : decode cX0_findRoots 12 = .ok (.iload_n 1, 1) := by decide +kernel
theorem dX0_findRoots_13 : decode cX0_findRoots 13 = .ok (.iload_n 1, 1) := by decide +kernel
theorem dX0_findRoots_14 : decode cX0_findRoots 14 = .ok (.invokestatic 78, 3) := by decide +kernel
theorem dX0_findRoots_17 : decode cX0_findRoots 17 = .ok (.iinc 1 1, 3) := by decide +kernel
theorem dX0_findRoots_20 : decode cX0_findRoots 20 = .ok (.goto (-18), 3) := by decide +kernel
theorem dX0_findRoots_23 : decode cX0_findRoots 23 = .ok (.aload_n 0, 1) := by decide +kernel
theorem dX0_findRoots_24 : decode cX0_findRoots 24 = .ok (.getfield 40, 3) := by decide +kernel
theorem dX0_findRoots_27 : decode cX0_findRoots 27 = .ok (.iconst 0, 1) := by decide +kernel
theorem dX0_findRoots_28 : decode cX0_findRoots 28 = .ok (.invokestatic 46, 3) := by decide +kernel
theorem dX0_findRoots_31 : decode cX0_findRoots 31 = .ok (.aload_n 0, 1) := by decide +kernel
theorem dX0_findRoots_32 : decode cX0_findRoots 32 = .ok (.aload_n 0, 1) := by decide +kernel
theorem dX0_findRoots_33 : decode cX0_findRoots 33 = .ok (.getfield 25, 3) := by decide +kernel
theorem dX0_findRoots_36 : decode cX0_findRoots 36 = .ok (.aload_n 0, 1) := by decide +kernel
theorem dX0_findRoots_37 : decode cX0_findRoots 37 = .ok (.getfield 40, 3) := by decide +kernel
theorem dX0_findRoots_40 : decode cX0_findRoots 40 = .ok (.invokevirtual 162, 3) := by decide +kernel
theorem dX0_findRoots_43 : decode cX0_findRoots 43 = .ok (.return_, 1) := by decide +kernel
set_option maxRecDepth 20000 in
theorem ggX0_findCosts_X0_at : GoodIn wsX0_findCosts wsX0_at := goodIn_r _ [7] (by decide +kernel) (by decide +kernel)
set_option maxRecDepth 20000 in
theorem gX0_findCosts_X0_at : GoodIn wsX0_findCosts (va_wsS RX0 74 yX0_at wsX0_at) := goodIn_app (goodIn_of _ (by decide +kernel)) ggX0_findCosts_X0_at
set_option maxRecDepth 20000 in
theorem ggX0_findCosts_X0_put : GoodIn wsX0_findCosts wsX0_put := goodIn_r _ [10] (by decide +kernel) (by decide +kernel)
set_option maxRecDepth 20000 in
theorem gX0_findCosts_X0_put : GoodIn wsX0_findCosts (va_wsS RX0 78 yX0_put wsX0_put) := goodIn_app (goodIn_of _ (by decide +kernel)) ggX0_findCosts_X0_put
set_option maxRecDepth 20000 in
theorem ggX0_findCosts_X0_leastSums : GoodIn wsX0_findCosts wsX0_leastSums := goodIn_r _ [14, 15, 16, 17, 6, 18, 19, 4, 5, 7, 8, 9, 10, 20, 21, 22, 23, 24, 25, 26, 27, 28, 29, 30, 31, 32, 33, 34] (by decide +kernel) (by decide +kernel)
set_option maxRecDepth 20000 in
theorem gX0_findCosts_X0_leastSums : GoodIn wsX0_findCosts (wsV RX0 162 RX0 yX0_leastSums wsX0_leastSums) := goodIn_app (goodIn_of _ (by decide +kernel)) ggX0_findCosts_X0_leastSums
theorem dX0_findCosts_0 : decode cX0_findCosts 0 = .ok (.iconst 0, 1) := by decide +kernel
theorem dX0_findCosts_1 : decode cX0_findCosts 1 = .ok (.istore_n 1, 1) := by decide +kernel
theorem dX0_findCosts_2 : decode cX0_findCosts 2 = .ok (.iload_n 1, 1) := by decide +kernel
theorem dX0_findCosts_3 : decode cX0_findCosts 3 = .ok (.bipush 6, 2) := by decide +kernel
theorem dX0_findCosts_5 : decode cX0_findCosts 5 = .ok (.if_icmp .ge 36, 3) := by decide +kernel
theorem dX0_findCosts_8 : decode cX0_findCosts 8 = .ok (.aload_n 0, 1) := by decide +kernel
theorem dX0_findCosts_9 : decode cX0_findCosts 9 = .ok (.getfield 28, 3) := by decide +kernel
theorem dX0_findCosts_12 : decode cX0_findCosts 12 = .ok (.iload_n 1, 1) := by decide +kernel
theorem dX0_findCosts_13 : decode cX0_findCosts 13 = .ok (.aload_n 0, 1) := by decide +kernel
theorem dX0_findCosts_14 : decode cX0_findCosts 14 = .ok (.getfield 25, 3) := by decide +kernel
theorem dX0_findCosts_17 : decode cX0_findCosts 17 = .ok (.iload_n 1, 1) := by decide +kernel
theorem dX0_findCosts_18 : decode cX0_findCosts 18 = .ok (.invokestatic 74, 3) := by decide +kernel
theorem dX0_findCosts_21 : decode cX0_findCosts 21 = .ok (.iload_n 1, 1) := by decide +kernel
theorem dX0_findCosts_22 : decode cX0_findCosts 22 = .ok (.if_icmp .ne 7, 3) := by decide +kernel
theorem dX0_findCosts_25 : decode cX0_findCosts 25 = .ok (.iconst 0, 1) := by decide +kernel
theorem dX0_findCosts_26 : decode cX0_findCosts 26 = .ok (.goto 6, 3) := by decide +kernel
theorem dX0_findCosts_29 : decode cX0_findCosts 29 = .ok (.sipush 1000, 3) := by decide +kernel
theorem dX0_findCosts_32 : decode cX0_findCosts 32 = .ok (.invokestatic 78, 3) := by decide +kernel
theorem dX0_findCosts_35 : decode cX0_findCosts 35 = .ok (.iinc 1 1, 3) := by decide +kernel
theorem dX0_findCosts_38 : decode cX0_findCosts 38 = .ok (.goto (-36), 3) := by decide +kernel
theorem dX0_findCosts_41 : decode cX0_findCosts 41 = .ok (.aload_n 0, 1) := by decide +kernel
theorem dX0_findCosts_42 : decode cX0_findCosts 42 = .ok (.aload_n 0, 1) := by decide +kernel
theorem dX0_findCosts_43 : decode cX0_findCosts 43 = .ok (.getfield 28, 3) := by decide +kernel
theorem dX0_findCosts_46 : decode cX0_findCosts 46 = .ok (.aload_n 0, 1) := by decide +kernel
theorem dX0_findCosts_47 : decode cX0_findCosts 47 = .ok (.getfield 19, 3) := by decide +kernel
theorem dX0_findCosts_50 : decode cX0_findCosts 50 = .ok (.invokevirtual 162, 3) := by decide +kernel
theorem dX0_findCosts_53 : decode cX0_findCosts 53 = .ok (.return_, 1) := by decide +kernel
set_option maxRecDepth 20000 in
theorem ggX0_bestWayUp_X0_at : GoodIn wsX0_bestWayUp wsX0_at := goodIn_r _ [7] (by decide +kernel) (by decide +kernel)
set_option maxRecDepth 20000 in
theorem gX0_bestWayUp_X0_at : GoodIn wsX0_bestWayUp (va_wsS RX0 74 yX0_at wsX0_at) := goodIn_app (goodIn_of _ (by decide +kernel)) ggX0_bestWayUp_X0_at
theorem dX0_bestWayUp_0 : decode cX0_bestWayUp 0 = .ok (.iconst (-1), 1) := by decide +kernel
theorem dX0_bestWayUp_1 : decode cX0_bestWayUp 1 = .ok (.istore_n 2, 1) := by decide +kernel
theorem dX0_bestWayUp_2 : decode cX0_bestWayUp 2 = .ok (.bipush 6, 2) := by decide +kernel
theorem dX0_bestWayUp_4 : decode cX0_bestWayUp 4 = .ok (.istore_n 3, 1) := by decide +kernel
theorem dX0_bestWayUp_5 : decode cX0_bestWayUp 5 = .ok (.iconst 0, 1) := by decide +kernel
theorem dX0_bestWayUp_6 : decode cX0_bestWayUp 6 = .ok (.istore 4, 2) := by decide +kernel
theorem dX0_bestWayUp_8 : decode cX0_bestWayUp 8 = .ok (.iload 4, 2) := by decide +kernel
theorem dX0_bestWayUp_10 : decode cX0_bestWayUp 10 = .ok (.bipush 6, 2) := by decide +kernel
theorem dX0_bestWayUp_12 : decode cX0_bestWayUp 12 = .ok (.if_icmp .ge 91, 3) := by decide +kernel
theorem dX0_bestWayUp_15 : decode cX0_bestWayUp 15 = .ok (.iload_n 1, 1) := by decide +kernel
theorem dX0_bestWayUp_16 : decode cX0_bestWayUp 16 = .ok (.bipush 6, 2) := by decide +kernel
theorem dX0_bestWayUp_18 : decode cX0_bestWayUp 18 = .ok (.imul, 1) := by decide +kernel
theorem dX0_bestWayUp_19 : decode cX0_bestWayUp 19 = .ok (.iload 4, 2) := by decide +kernel
theorem dX0_bestWayUp_21 : decode cX0_bestWayUp 21 = .ok (.iadd, 1) := by decide +kernel
theorem dX0_bestWayUp_22 : decode cX0_bestWayUp 22 = .ok (.istore 5, 2) := by decide +kernel
theorem dX0_bestWayUp_24 : decode cX0_bestWayUp 24 = .ok (.aload_n 0, 1) := by decide +kernel
theorem dX0_bestWayUp_25 : decode cX0_bestWayUp 25 = .ok (.getfield 16, 3) := by decide +kernel
theorem dX0_bestWayUp_28 : decode cX0_bestWayUp 28 = .ok (.iload 5, 2) := by decide +kernel
theorem dX0_bestWayUp_30 : decode cX0_bestWayUp 30 = .ok (.invokestatic 74, 3) := by decide +kernel
theorem dX0_bestWayUp_33 : decode cX0_bestWayUp 33 = .ok (.istore 6, 2) := by decide +kernel
theorem dX0_bestWayUp_35 : decode cX0_bestWayUp 35 = .ok (.iload 6, 2) := by decide +kernel
theorem dX0_bestWayUp_37 : decode cX0_bestWayUp 37 = .ok (.iconst (-1), 1) := by decide +kernel
theorem dX0_bestWayUp_38 : decode cX0_bestWayUp 38 = .ok (.if_icmp .ne 6, 3) := by decide +kernel
theorem dX0_bestWayUp_41 : decode cX0_bestWayUp 41 = .ok (.goto 56, 3) := by decide +kernel
theorem dX0_bestWayUp_44 : decode cX0_bestWayUp 44 = .ok (.iload 6, 2) := by decide +kernel
theorem dX0_bestWayUp_46 : decode cX0_bestWayUp 46 = .ok (.bipush 6, 2) := by decide +kernel
theorem dX0_bestWayUp_48 : decode cX0_bestWayUp 48 = .ok (.idiv, 1) := by decide +kernel
theorem dX0_bestWayUp_49 : decode cX0_bestWayUp 49 = .ok (.istore 7, 2) := by decide +kernel
theorem dX0_bestWayUp_51 : decode cX0_bestWayUp 51 = .ok (.aload_n 0, 1) := by decide +kernel
theorem dX0_bestWayUp_52 : decode cX0_bestWayUp 52 = .ok (.getfield 19, 3) := by decide +kernel
theorem dX0_bestWayUp_55 : decode cX0_bestWayUp 55 = .ok (.iload 5, 2) := by decide +kernel
theorem dX0_bestWayUp_57 : decode cX0_bestWayUp 57 = .ok (.invokestatic 74, 3) := by decide +kernel
theorem dX0_bestWayUp_60 : decode cX0_bestWayUp 60 = .ok (.aload_n 0, 1) := by decide +kernel
theorem dX0_bestWayUp_61 : decode cX0_bestWayUp 61 = .ok (.getfield 28, 3) := by decide +kernel
theorem dX0_bestWayUp_64 : decode cX0_bestWayUp 64 = .ok (.iload 7, 2) := by decide +kernel
theorem dX0_bestWayUp_66 : decode cX0_bestWayUp 66 = .ok (.invokestatic 74, 3) := by decide +kernel
theorem dX0_bestWayUp_69 : decode cX0_bestWayUp 69 = .ok (.iadd, 1) := by decide +kernel
theorem dX0_bestWayUp_70 : decode cX0_bestWayUp 70 = .ok (.istore 8, 2) := by decide +kernel
theorem dX0_bestWayUp_72 : decode cX0_bestWayUp 72 = .ok (.iload 8, 2) := by decide +kernel
theorem dX0_bestWayUp_74 : decode cX0_bestWayUp 74 = .ok (.aload_n 0, 1) := by decide +kernel
theorem dX0_bestWayUp_75 : decode cX0_bestWayUp 75 = .ok (.getfield 28, 3) := by decide +kernel
theorem dX0_bestWayUp_78 : decode cX0_bestWayUp 78 = .ok (.iload_n 1, 1) := by decide +kernel
theorem dX0_bestWayUp_79 : decode cX0_bestWayUp 79 = .ok (.invokestatic 74, 3) := by decide +kernel
theorem dX0_bestWayUp_82 : decode cX0_bestWayUp 82 = .ok (.if_icmp .ne 15, 3) := by decide +kernel
theorem dX0_bestWayUp_85 : decode cX0_bestWayUp 85 = .ok (.iload 7, 2) := by decide +kernel
theorem dX0_bestWayUp_87 : decode cX0_bestWayUp 87 = .ok (.iload_n 3, 1) := by decide +kernel
theorem dX0_bestWayUp_88 : decode cX0_bestWayUp 88 = .ok (.if_icmp .ge 9, 3) := by decide +kernel
theorem dX0_bestWayUp_91 : decode cX0_bestWayUp 91 = .ok (.iload 5, 2) := by decide +kernel
theorem dX0_bestWayUp_93 : decode cX0_bestWayUp 93 = .ok (.istore_n 2, 1) := by decide +kernel
theorem dX0_bestWayUp_94 : decode cX0_bestWayUp 94 = .ok (.iload 7, 2) := by decide +kernel
theorem dX0_bestWayUp_96 : decode cX0_bestWayUp 96 = .ok (.istore_n 3, 1) := by decide +kernel
theorem dX0_bestWayUp_97 : decode cX0_bestWayUp 97 = .ok (.iinc 4 1, 3) := by decide +kernel
theorem dX0_bestWayUp_100 : decode cX0_bestWayUp 100 = .ok (.goto (-92), 3) := by decide +kernel
theorem dX0_bestWayUp_103 : decode cX0_bestWayUp 103 = .ok (.iload_n 2, 1) := by decide +kernel
theorem dX0_bestWayUp_104 : decode cX0_bestWayUp 104 = .ok (.ireturn, 1) := by decide +kernel
set_option maxRecDepth 20000 in
theorem ggX0_leastSums_X0_lowerSum : GoodIn wsX0_leastSums wsX0_lowerSum := goodIn_r _ [5, 6, 7, 8, 4, 9, 10, 11, 12, 13, 14, 15, 16, 17, 18, 19, 20, 21, 22, 23, 24, 25, 26, 27] (by decide +kernel) (by decide +kernel)
set_option maxRecDepth 20000 in
theorem gX0_leastSums_X0_lowerSum : GoodIn wsX0_leastSums (wsV RX0 186 RX0 yX0_lowerSum wsX0_lowerSum) := goodIn_app (goodIn_of _ (by decide +kernel)) ggX0_leastSums_X0_lowerSum
theorem dX0_leastSums_0 : decode cX0_leastSums 0 = .ok (.iconst 1, 1) := by decide +kernel
theorem dX0_leastSums_1 : decode cX0_leastSums 1 = .ok (.istore_n 3, 1) := by decide +kernel
theorem dX0_leastSums_2 : decode cX0_leastSums 2 = .ok (.iload_n 3, 1) := by decide +kernel
theorem dX0_leastSums_3 : decode cX0_leastSums 3 = .ok (.bipush 6, 2) := by decide +kernel
theorem dX0_leastSums_5 : decode cX0_leastSums 5 = .ok (.if_icmp .ge 33, 3) := by decide +kernel
theorem dX0_leastSums_8 : decode cX0_leastSums 8 = .ok (.iconst 0, 1) := by decide +kernel
theorem dX0_leastSums_9 : decode cX0_leastSums 9 = .ok (.istore 4, 2) := by decide +kernel
theorem dX0_leastSums_11 : decode cX0_leastSums 11 = .ok (.iload 4, 2) := by decide +kernel
theorem dX0_leastSums_13 : decode cX0_leastSums 13 = .ok (.bipush 36, 2) := by decide +kernel
theorem dX0_leastSums_15 : decode cX0_leastSums 15 = .ok (.if_icmp .ge 17, 3) := by decide +kernel
theorem dX0_leastSums_18 : decode cX0_leastSums 18 = .ok (.aload_n 0, 1) := by decide +kernel
theorem dX0_leastSums_19 : decode cX0_leastSums 19 = .ok (.aload_n 1, 1) := by decide +kernel
theorem dX0_leastSums_20 : decode cX0_leastSums 20 = .ok (.aload_n 2, 1) := by decide +kernel
theorem dX0_leastSums_21 : decode cX0_leastSums 21 = .ok (.iload 4, 2) := by decide +kernel
theorem dX0_leastSums_23 : decode cX0_leastSums 23 = .ok (.invokevirtual 186, 3) := by decide +kernel
theorem dX0_leastSums_26 : decode cX0_leastSums 26 = .ok (.iinc 4 1, 3) := by decide +kernel
theorem dX0_leastSums_29 : decode cX0_leastSums 29 = .ok (.goto (-18), 3) := by decide +kernel
theorem dX0_leastSums_32 : decode cX0_leastSums 32 = .ok (.iinc 3 1, 3) := by decide +kernel
theorem dX0_leastSums_35 : decode cX0_leastSums 35 = .ok (.goto (-33), 3) := by decide +kernel
theorem dX0_leastSums_38 : decode cX0_leastSums 38 = .ok (.return_, 1) := by decide +kernel
set_option maxRecDepth 20000 in
theorem ggX0_lowerSum_X0_at : GoodIn wsX0_lowerSum wsX0_at := goodIn_r _ [5] (by decide +kernel) (by decide +kernel)
set_option maxRecDepth 20000 in
theorem gX0_lowerSum_X0_at : GoodIn wsX0_lowerSum (va_wsS RX0 74 yX0_at wsX0_at) := goodIn_app (goodIn_of _ (by decide +kernel)) ggX0_lowerSum_X0_at
set_option maxRecDepth 20000 in
theorem ggX0_lowerSum_X0_put : GoodIn wsX0_lowerSum wsX0_put := goodIn_r _ [8] (by decide +kernel) (by decide +kernel)
set_option maxRecDepth 20000 in
theorem gX0_lowerSum_X0_put : GoodIn wsX0_lowerSum (va_wsS RX0 78 yX0_put wsX0_put) := goodIn_app (goodIn_of _ (by decide +kernel)) ggX0_lowerSum_X0_put
theorem dX0_lowerSum_0 : decode cX0_lowerSum 0 = .ok (.aload_n 0, 1) := by decide +kernel
theorem dX0_lowerSum_1 : decode cX0_lowerSum 1 = .ok (.getfield 16, 3) := by decide +kernel
theorem dX0_lowerSum_4 : decode cX0_lowerSum 4 = .ok (.iload_n 3, 1) := by decide +kernel
theorem dX0_lowerSum_5 : decode cX0_lowerSum 5 = .ok (.invokestatic 74, 3) := by decide +kernel
theorem dX0_lowerSum_8 : decode cX0_lowerSum 8 = .ok (.istore 4, 2) := by decide +kernel
theorem dX0_lowerSum_10 : decode cX0_lowerSum 10 = .ok (.aload_n 2, 1) := by decide +kernel
theorem dX0_lowerSum_11 : decode cX0_lowerSum 11 = .ok (.iload_n 3, 1) := by decide +kernel
theorem dX0_lowerSum_12 : decode cX0_lowerSum 12 = .ok (.invokestatic 74, 3) := by decide +kernel
theorem dX0_lowerSum_15 : decode cX0_lowerSum 15 = .ok (.istore 5, 2) := by decide +kernel
theorem dX0_lowerSum_17 : decode cX0_lowerSum 17 = .ok (.iload 4, 2) := by decide +kernel
theorem dX0_lowerSum_19 : decode cX0_lowerSum 19 = .ok (.iconst (-1), 1) := by decide +kernel
theorem dX0_lowerSum_20 : decode cX0_lowerSum 20 = .ok (.if_icmp .eq 9, 3) := by decide +kernel
theorem dX0_lowerSum_23 : decode cX0_lowerSum 23 = .ok (.iload 5, 2) := by decide +kernel
theorem dX0_lowerSum_25 : decode cX0_lowerSum 25 = .ok (.iconst (-1), 1) := by decide +kernel
theorem dX0_lowerSum_26 : decode cX0_lowerSum 26 = .ok (.if_icmp .ne 4, 3) := by decide +kernel
theorem dX0_lowerSum_29 : decode cX0_lowerSum 29 = .ok (.return_, 1) := by decide +kernel
theorem dX0_lowerSum_30 : decode cX0_lowerSum 30 = .ok (.aload_n 1, 1) := by decide +kernel
theorem dX0_lowerSum_31 : decode cX0_lowerSum 31 = .ok (.iload_n 3, 1) := by decide +kernel
theorem dX0_lowerSum_32 : decode cX0_lowerSum 32 = .ok (.bipush 6, 2) := by decide +kernel
theorem dX0_lowerSum_34 : decode cX0_lowerSum 34 = .ok (.idiv, 1) := by decide +kernel
theorem dX0_lowerSum_35 : decode cX0_lowerSum 35 = .ok (.invokestatic 74, 3) := by decide +kernel
theorem dX0_lowerSum_38 : decode cX0_lowerSum 38 = .ok (.iload 5, 2) := by decide +kernel
theorem dX0_lowerSum_40 : decode cX0_lowerSum 40 = .ok (.iadd, 1) := by decide +kernel
theorem dX0_lowerSum_41 : decode cX0_lowerSum 41 = .ok (.istore 6, 2) := by decide +kernel
theorem dX0_lowerSum_43 : decode cX0_lowerSum 43 = .ok (.iload 6, 2) := by decide +kernel
theorem dX0_lowerSum_45 : decode cX0_lowerSum 45 = .ok (.aload_n 1, 1) := by decide +kernel
theorem dX0_lowerSum_46 : decode cX0_lowerSum 46 = .ok (.iload 4, 2) := by decide +kernel
theorem dX0_lowerSum_48 : decode cX0_lowerSum 48 = .ok (.bipush 6, 2) := by decide +kernel
theorem dX0_lowerSum_50 : decode cX0_lowerSum 50 = .ok (.idiv, 1) := by decide +kernel
theorem dX0_lowerSum_51 : decode cX0_lowerSum 51 = .ok (.invokestatic 74, 3) := by decide +kernel
theorem dX0_lowerSum_54 : decode cX0_lowerSum 54 = .ok (.if_icmp .ge 14, 3) := by decide +kernel
theorem dX0_lowerSum_57 : decode cX0_lowerSum 57 = .ok (.aload_n 1, 1) := by decide +kernel
theorem dX0_lowerSum_58 : decode cX0_lowerSum 58 = .ok (.iload 4, 2) := by decide +kernel
theorem dX0_lowerSum_60 : decode cX0_lowerSum 60 = .ok (.bipush 6, 2) := by decide +kernel
theorem dX0_lowerSum_62 : decode cX0_lowerSum 62 = .ok (.idiv, 1) := by decide +kernel
theorem dX0_lowerSum_63 : decode cX0_lowerSum 63 = .ok (.iload 6, 2) := by decide +kernel
theorem dX0_lowerSum_65 : decode cX0_lowerSum 65 = .ok (.invokestatic 78, 3) := by decide +kernel
theorem dX0_lowerSum_68 : decode cX0_lowerSum 68 = .ok (.return_, 1) := by decide +kernel
set_option maxRecDepth 20000 in
theorem ggX0_forgetWalks_J7_fill_53178 : GoodIn wsX0_forgetWalks wsJ7_fill_53178 := goodIn_r _ [6] (by decide +kernel) (by decide +kernel)
set_option maxRecDepth 20000 in
theorem gX0_forgetWalks_J7_fill_53178 : GoodIn wsX0_forgetWalks (va_wsS RX0 46 yJ7_fill_53178 wsJ7_fill_53178) := goodIn_app (goodIn_of _ (by decide +kernel)) ggX0_forgetWalks_J7_fill_53178
theorem dX0_forgetWalks_0 : decode cX0_forgetWalks 0 = .ok (.aload_n 0, 1) := by decide +kernel
theorem dX0_forgetWalks_1 : decode cX0_forgetWalks 1 = .ok (.getfield 34, 3) := by decide +kernel
theorem dX0_forgetWalks_4 : decode cX0_forgetWalks 4 = .ok (.iconst (-1), 1) := by decide +kernel
theorem dX0_forgetWalks_5 : decode cX0_forgetWalks 5 = .ok (.invokestatic 46, 3) := by decide +kernel
theorem dX0_forgetWalks_8 : decode cX0_forgetWalks 8 = .ok (.aload_n 0, 1) := by decide +kernel
theorem dX0_forgetWalks_9 : decode cX0_forgetWalks 9 = .ok (.iconst 0, 1) := by decide +kernel
theorem dX0_forgetWalks_10 : decode cX0_forgetWalks 10 = .ok (.putfield 143, 3) := by decide +kernel
theorem dX0_forgetWalks_13 : decode cX0_forgetWalks 13 = .ok (.return_, 1) := by decide +kernel
set_option maxRecDepth 20000 in
theorem ggX0_walkFrom_X0_reach : GoodIn wsX0_walkFrom wsX0_reach := goodIn_r _ [7, 8, 2, 1, 9, 10, 6, 11, 40, 41, 42, 43, 44, 45, 46, 47, 48, 49, 50, 51, 52, 53, 54] (by decide +kernel) (by decide +kernel)
set_option maxRecDepth 20000 in
theorem gX0_walkFrom_X0_reach : GoodIn wsX0_walkFrom (wsV RX0 190 RX0 yX0_reach wsX0_reach) := goodIn_app (goodIn_of _ (by decide +kernel)) ggX0_walkFrom_X0_reach
set_option maxRecDepth 20000 in
theorem ggX0_walkFrom_X0_at : GoodIn wsX0_walkFrom wsX0_at := goodIn_r _ [14] (by decide +kernel) (by decide +kernel)
set_option maxRecDepth 20000 in
theorem gX0_walkFrom_X0_at : GoodIn wsX0_walkFrom (va_wsS RX0 74 yX0_at wsX0_at) := goodIn_app (goodIn_of _ (by decide +kernel)) ggX0_walkFrom_X0_at
set_option maxRecDepth 20000 in
theorem ggX0_walkFrom_X0_reachNeighbours : GoodIn wsX0_walkFrom wsX0_reachNeighbours := goodIn_r _ [18, 8, 19, 20, 21, 6, 22, 23, 24, 25, 26, 27, 28, 29, 12, 13, 14, 30, 31, 32, 33, 34, 35, 36, 37, 38, 39, 3, 4, 5, 7, 2, 1, 9, 10, 11, 40, 41, 42, 43, 44, 45, 46, 47, 48, 49, 50, 51, 52, 53, 54] (by decide +kernel) (by decide +kernel)
set_option maxRecDepth 20000 in
theorem gX0_walkFrom_X0_reachNeighbours : GoodIn wsX0_walkFrom (wsV RX0 194 RX0 yX0_reachNeighbours wsX0_reachNeighbours) := goodIn_app (goodIn_of _ (by decide +kernel)) ggX0_walkFrom_X0_reachNeighbours
theorem dX0_walkFrom_0 : decode cX0_walkFrom 0 = .ok (.aload_n 0, 1) := by decide +kernel
theorem dX0_walkFrom_1 : decode cX0_walkFrom 1 = .ok (.getfield 143, 3) := by decide +kernel
theorem dX0_walkFrom_4 : decode cX0_walkFrom 4 = .ok (.istore_n 2, 1) := by decide +kernel
theorem dX0_walkFrom_5 : decode cX0_walkFrom 5 = .ok (.aload_n 0, 1) := by decide +kernel
theorem dX0_walkFrom_6 : decode cX0_walkFrom 6 = .ok (.iload_n 1, 1) := by decide +kernel
theorem dX0_walkFrom_7 : decode cX0_walkFrom 7 = .ok (.iconst 0, 1) := by decide +kernel
theorem dX0_walkFrom_8 : decode cX0_walkFrom 8 = .ok (.invokevirtual 190, 3) := by decide +kernel
theorem dX0_walkFrom_11 : decode cX0_walkFrom 11 = .ok (.iload_n 2, 1) := by decide +kernel
theorem dX0_walkFrom_12 : decode cX0_walkFrom 12 = .ok (.istore_n 3, 1) := by decide +kernel
theorem dX0_walkFrom_13 : decode cX0_walkFrom 13 = .ok (.iload_n 3, 1) := by decide +kernel
theorem dX0_walkFrom_14 : decode cX0_walkFrom 14 = .ok (.aload_n 0, 1) := by decide +kernel
theorem dX0_walkFrom_15 : decode cX0_walkFrom 15 = .ok (.getfield 143, 3) := by decide +kernel
theorem dX0_walkFrom_18 : decode cX0_walkFrom 18 = .ok (.if_icmp .ge 27, 3) := by decide +kernel
theorem dX0_walkFrom_21 : decode cX0_walkFrom 21 = .ok (.iload_n 3, 1) := by decide +kernel
theorem dX0_walkFrom_22 : decode cX0_walkFrom 22 = .ok (.bipush 96, 2) := by decide +kernel
theorem dX0_walkFrom_24 : decode cX0_walkFrom 24 = .ok (.if_icmp .ge 21, 3) := by decide +kernel
theorem dX0_walkFrom_27 : decode cX0_walkFrom 27 = .ok (.aload_n 0, 1) := by decide +kernel
theorem dX0_walkFrom_28 : decode cX0_walkFrom 28 = .ok (.aload_n 0, 1) := by decide +kernel
theorem dX0_walkFrom_29 : decode cX0_walkFrom 29 = .ok (.getfield 37, 3) := by decide +kernel
theorem dX0_walkFrom_32 : decode cX0_walkFrom 32 = .ok (.iload_n 3, 1) := by decide +kernel
theorem dX0_walkFrom_33 : decode cX0_walkFrom 33 = .ok (.invokestatic 74, 3) := by decide +kernel
theorem dX0_walkFrom_36 : decode cX0_walkFrom 36 = .ok (.invokevirtual 194, 3) := by decide +kernel
theorem dX0_walkFrom_39 : decode cX0_walkFrom 39 = .ok (.iinc 3 1, 3) := by decide +kernel
theorem dX0_walkFrom_42 : decode cX0_walkFrom 42 = .ok (.goto (-29), 3) := by decide +kernel
theorem dX0_walkFrom_45 : decode cX0_walkFrom 45 = .ok (.return_, 1) := by decide +kernel
set_option maxRecDepth 20000 in
theorem ggX0_reach_X0_put : GoodIn wsX0_reach wsX0_put := goodIn_r _ [7] (by decide +kernel) (by decide +kernel)
set_option maxRecDepth 20000 in
theorem gX0_reach_X0_put : GoodIn wsX0_reach (va_wsS RX0 78 yX0_put wsX0_put) := goodIn_app (goodIn_of _ (by decide +kernel)) ggX0_reach_X0_put
theorem dX0_reach_0 : decode cX0_reach 0 = .ok (.aload_n 0, 1) := by decide +kernel
theorem dX0_reach_1 : decode cX0_reach 1 = .ok (.getfield 34, 3) := by decide +kernel
theorem dX0_reach_4 : decode cX0_reach 4 = .ok (.iload_n 1, 1) := by decide +kernel
theorem dX0_reach_5 : decode cX0_reach 5 = .ok (.iload_n 2, 1) := by decide +kernel
theorem dX0_reach_6 : decode cX0_reach 6 = .ok (.invokestatic 78, 3) := by decide +kernel
theorem dX0_reach_9 : decode cX0_reach 9 = .ok (.aload_n 0, 1) := by decide +kernel
theorem dX0_reach_10 : decode cX0_reach 10 = .ok (.getfield 37, 3) := by decide +kernel
theorem dX0_reach_13 : decode cX0_reach 13 = .ok (.aload_n 0, 1) := by decide +kernel
theorem dX0_reach_14 : decode cX0_reach 14 = .ok (.getfield 143, 3) := by decide +kernel
theorem dX0_reach_17 : decode cX0_reach 17 = .ok (.iload_n 1, 1) := by decide +kernel
theorem dX0_reach_18 : decode cX0_reach 18 = .ok (.invokestatic 78, 3) := by decide +kernel
theorem dX0_reach_21 : decode cX0_reach 21 = .ok (.aload_n 0, 1) := by decide +kernel
theorem dX0_reach_22 : decode cX0_reach 22 = .ok (.dup, 1) := by decide +kernel
theorem dX0_reach_23 : decode cX0_reach 23 = .ok (.getfield 143, 3) := by decide +kernel
theorem dX0_reach_26 : decode cX0_reach 26 = .ok (.iconst 1, 1) := by decide +kernel
theorem dX0_reach_27 : decode cX0_reach 27 = .ok (.iadd, 1) := by decide +kernel
theorem dX0_reach_28 : decode cX0_reach 28 = .ok (.putfield 143, 3) := by decide +kernel
theorem dX0_reach_31 : decode cX0_reach 31 = .ok (.return_, 1) := by decide +kernel
set_option maxRecDepth 20000 in
theorem ggX0_reachNeighbours_X0_placeBeyond : GoodIn wsX0_reachNeighbours wsX0_placeBeyond := goodIn_r _ [6, 7, 8, 9, 10, 5, 11, 12, 13, 14, 15, 16, 17, 18, 19, 20, 21, 22, 23, 24, 25, 26, 36, 37, 38, 39, 40, 41, 42, 43, 44, 45, 46, 47, 48, 49, 50] (by decide +kernel) (by decide +kernel)
set_option maxRecDepth 20000 in
theorem gX0_reachNeighbours_X0_placeBeyond : GoodIn wsX0_reachNeighbours (wsV RX0 197 RX0 yX0_placeBeyond wsX0_placeBeyond) := goodIn_app (goodIn_of _ (by decide +kernel)) ggX0_reachNeighbours_X0_placeBeyond
set_option maxRecDepth 20000 in
theorem ggX0_reachNeighbours_X0_at : GoodIn wsX0_reachNeighbours wsX0_at := goodIn_r _ [16] (by decide +kernel) (by decide +kernel)
set_option maxRecDepth 20000 in
theorem gX0_reachNeighbours_X0_at : GoodIn wsX0_reachNeighbours (va_wsS RX0 74 yX0_at wsX0_at) := goodIn_app (goodIn_of _ (by decide +kernel)) ggX0_reachNeighbours_X0_at
set_option maxRecDepth 20000 in
theorem ggX0_reachNeighbours_X0_reach : GoodIn wsX0_reachNeighbours wsX0_reach := goodIn_r _ [30, 1, 31, 32, 33, 34, 5, 35, 36, 37, 38, 39, 40, 41, 42, 43, 44, 45, 46, 47, 48, 49, 50] (by decide +kernel) (by decide +kernel)
set_option maxRecDepth 20000 in
theorem gX0_reachNeighbours_X0_reach : GoodIn wsX0_reachNeighbours (wsV RX0 190 RX0 yX0_reach wsX0_reach) := goodIn_app (goodIn_of _ (by decide +kernel)) ggX0_reachNeighbours_X0_reach
theorem dX0_reachNeighbours_0 : decode cX0_reachNeighbours 0 = .ok (.iload_n 1, 1) := by decide +kernel
theorem dX0_reachNeighbours_1 : decode cX0_reachNeighbours 1 = .ok (.bipush 16, 2) := by decide +kernel
theorem dX0_reachNeighbours_3 : decode cX0_reachNeighbours 3 = .ok (.idiv, 1) := by decide +kernel
theorem dX0_reachNeighbours_4 : decode cX0_reachNeighbours 4 = .ok (.istore_n 2, 1) := by decide +kernel
theorem dX0_reachNeighbours_5 : decode cX0_reachNeighbours 5 = .ok (.iconst 0, 1) := by decide +kernel
theorem dX0_reachNeighbours_6 : decode cX0_reachNeighbours 6 = .ok (.istore_n 3, 1) := by decide +kernel
theorem dX0_reachNeighbours_7 : decode cX0_reachNeighbours 7 = .ok (.iload_n 3, 1) := by decide +kernel
theorem dX0_reachNeighbours_8 : decode cX0_reachNeighbours 8 = .ok (.bipush 6, 2) := by decide +kernel
theorem dX0_reachNeighbours_10 : decode cX0_reachNeighbours 10 = .ok (.if_icmp .ge 60, 3) := by decide +kernel
theorem dX0_reachNeighbours_13 : decode cX0_reachNeighbours 13 = .ok (.aload_n 0, 1) := by decide +kernel
theorem dX0_reachNeighbours_14 : decode cX0_reachNeighbours 14 = .ok (.iload_n 2, 1) := by decide +kernel
theorem dX0_reachNeighbours_15 : decode cX0_reachNeighbours 15 = .ok (.bipush 6, 2) := by decide +kernel
theorem dX0_reachNeighbours_17 : decode cX0_reachNeighbours 17 = .ok (.imul, 1) := by decide +kernel
theorem dX0_reachNeighbours_18 : decode cX0_reachNeighbours 18 = .ok (.iload_n 3, 1) := by decide +kernel
theorem dX0_reachNeighbours_19 : decode cX0_reachNeighbours 19 = .ok (.iadd, 1) := by decide +kernel
theorem dX0_reachNeighbours_20 : decode cX0_reachNeighbours 20 = .ok (.iload_n 1, 1) := by decide +kernel
theorem dX0_reachNeighbours_21 : decode cX0_reachNeighbours 21 = .ok (.bipush 16, 2) := by decide +kernel
theorem dX0_reachNeighbours_23 : decode cX0_reachNeighbours 23 = .ok (.irem, 1) := by decide +kernel
theorem dX0_reachNeighbours_24 : decode cX0_reachNeighbours 24 = .ok (.invokevirtual 197, 3) := by decide +kernel
theorem dX0_reachNeighbours_27 : decode cX0_reachNeighbours 27 = .ok (.istore 4, 2) := by decide +kernel
theorem dX0_reachNeighbours_29 : decode cX0_reachNeighbours 29 = .ok (.iload 4, 2) := by decide +kernel
theorem dX0_reachNeighbours_31 : decode cX0_reachNeighbours 31 = .ok (.iconst (-1), 1) := by decide +kernel
theorem dX0_reachNeighbours_32 : decode cX0_reachNeighbours 32 = .ok (.if_icmp .eq 32, 3) := by decide +kernel
theorem dX0_reachNeighbours_35 : decode cX0_reachNeighbours 35 = .ok (.aload_n 0, 1) := by decide +kernel
theorem dX0_reachNeighbours_36 : decode cX0_reachNeighbours 36 = .ok (.getfield 34, 3) := by decide +kernel
theorem dX0_reachNeighbours_39 : decode cX0_reachNeighbours 39 = .ok (.iload 4, 2) := by decide +kernel
theorem dX0_reachNeighbours_41 : decode cX0_reachNeighbours 41 = .ok (.invokestatic 74, 3) := by decide +kernel
theorem dX0_reachNeighbours_44 : decode cX0_reachNeighbours 44 = .ok (.iconst (-1), 1) := by decide +kernel
theorem dX0_reachNeighbours_45 : decode cX0_reachNeighbours 45 = .ok (.if_icmp .ne 19, 3) := by decide +kernel
theorem dX0_reachNeighbours_48 : decode cX0_reachNeighbours 48 = .ok (.aload_n 0, 1) := by decide +kernel
theorem dX0_reachNeighbours_49 : decode cX0_reachNeighbours 49 = .ok (.iload 4, 2) := by decide +kernel
theorem dX0_reachNeighbours_51 : decode cX0_reachNeighbours 51 = .ok (.aload_n 0, 1) := by decide +kernel
theorem dX0_reachNeighbours_52 : decode cX0_reachNeighbours 52 = .ok (.getfield 34, 3) := by decide +kernel
theorem dX0_reachNeighbours_55 : decode cX0_reachNeighbours 55 = .ok (.iload_n 1, 1) := by decide +kernel
theorem dX0_reachNeighbours_56 : decode cX0_reachNeighbours 56 = .ok (.invokestatic 74, 3) := by decide +kernel
theorem dX0_reachNeighbours_59 : decode cX0_reachNeighbours 59 = .ok (.iconst 1, 1) := by decide +kernel
theorem dX0_reachNeighbours_60 : decode cX0_reachNeighbours 60 = .ok (.iadd, 1) := by decide +kernel
theorem dX0_reachNeighbours_61 : decode cX0_reachNeighbours 61 = .ok (.invokevirtual 190, 3) := by decide +kernel
theorem dX0_reachNeighbours_64 : decode cX0_reachNeighbours 64 = .ok (.iinc 3 1, 3) := by decide +kernel
theorem dX0_reachNeighbours_67 : decode cX0_reachNeighbours 67 = .ok (.goto (-60), 3) := by decide +kernel
theorem dX0_reachNeighbours_70 : decode cX0_reachNeighbours 70 = .ok (.return_, 1) := by decide +kernel
set_option maxRecDepth 20000 in
theorem ggX0_placeBeyond_X0_hasLiveCable : GoodIn wsX0_placeBeyond wsX0_hasLiveCable := goodIn_r _ [6, 1, 7, 8, 9, 10, 5, 11, 22, 23, 24, 25, 26, 27, 28, 29, 30, 31, 32, 33, 34, 35, 36] (by decide +kernel) (by decide +kernel)
set_option maxRecDepth 20000 in
theorem gX0_placeBeyond_X0_hasLiveCable : GoodIn wsX0_placeBeyond (wsV RX0 116 RX0 yX0_hasLiveCable wsX0_hasLiveCable) := goodIn_app (goodIn_of _ (by decide +kernel)) ggX0_placeBeyond_X0_hasLiveCable
set_option maxRecDepth 20000 in
theorem ggX0_placeBeyond_X0_laneBeyond : GoodIn wsX0_placeBeyond wsX0_laneBeyond := goodIn_r _ [15, 1, 16, 9, 10, 5, 11, 17, 18, 19, 20, 21, 22, 23, 24, 25, 26, 27, 28, 29, 30, 31, 32, 33, 34, 35, 36] (by decide +kernel) (by decide +kernel)
set_option maxRecDepth 20000 in
theorem gX0_placeBeyond_X0_laneBeyond : GoodIn wsX0_placeBeyond (wsV RX0 119 RX0 yX0_laneBeyond wsX0_laneBeyond) := goodIn_app (goodIn_of _ (by decide +kernel)) ggX0_placeBeyond_X0_laneBeyond
set_option maxRecDepth 20000 in
theorem ggX0_placeBeyond_X0_at : GoodIn wsX0_placeBeyond wsX0_at := goodIn_r _ [11] (by decide +kernel) (by decide +kernel)
set_option maxRecDepth 20000 in
theorem gX0_placeBeyond_X0_at : GoodIn wsX0_placeBeyond (va_wsS RX0 74 yX0_at wsX0_at) := goodIn_app (goodIn_of _ (by decide +kernel)) ggX0_placeBeyond_X0_at
theorem dX0_placeBeyond_0 : decode cX0_placeBeyond 0 = .ok (.aload_n 0, 1) := by decide +kernel
theorem dX0_placeBeyond_1 : decode cX0_placeBeyond 1 = .ok (.iload_n 1, 1) := by decide +kernel
theorem dX0_placeBeyond_2 : decode cX0_placeBeyond 2 = .ok (.invokevirtual 116, 3) := by decide +kernel
theorem dX0_placeBeyond_5 : decode cX0_placeBeyond 5 = .ok (.ifCond .eq 12, 3) := by decide +kernel
theorem dX0_placeBeyond_8 : decode cX0_placeBeyond 8 = .ok (.aload_n 0, 1) := by decide +kernel
theorem dX0_placeBeyond_9 : decode cX0_placeBeyond 9 = .ok (.iload_n 1, 1) := by decide +kernel
theorem dX0_placeBeyond_10 : decode cX0_placeBeyond 10 = .ok (.iload_n 2, 1) := by decide +kernel
theorem dX0_placeBeyond_11 : decode cX0_placeBeyond 11 = .ok (.invokevirtual 119, 3) := by decide +kernel
theorem dX0_placeBeyond_14 : decode cX0_placeBeyond 14 = .ok (.goto 4, 3) := by decide +kernel
theorem dX0_placeBeyond_17 : decode cX0_placeBeyond 17 = .ok (.iconst (-1), 1) := by decide +kernel
theorem dX0_placeBeyond_18 : decode cX0_placeBeyond 18 = .ok (.istore_n 3, 1) := by decide +kernel
theorem dX0_placeBeyond_19 : decode cX0_placeBeyond 19 = .ok (.iload_n 3, 1) := by decide +kernel
theorem dX0_placeBeyond_20 : decode cX0_placeBeyond 20 = .ok (.iconst (-1), 1) := by decide +kernel
theorem dX0_placeBeyond_21 : decode cX0_placeBeyond 21 = .ok (.if_icmp .ne 5, 3) := by decide +kernel
theorem dX0_placeBeyond_24 : decode cX0_placeBeyond 24 = .ok (.iconst (-1), 1) := by decide +kernel
theorem dX0_placeBeyond_25 : decode cX0_placeBeyond 25 = .ok (.ireturn, 1) := by decide +kernel
theorem dX0_placeBeyond_26 : decode cX0_placeBeyond 26 = .ok (.aload_n 0, 1) := by decide +kernel
theorem dX0_placeBeyond_27 : decode cX0_placeBeyond 27 = .ok (.getfield 16, 3) := by decide +kernel
theorem dX0_placeBeyond_30 : decode cX0_placeBeyond 30 = .ok (.iload_n 1, 1) := by decide +kernel
theorem dX0_placeBeyond_31 : decode cX0_placeBeyond 31 = .ok (.invokestatic 74, 3) := by decide +kernel
theorem dX0_placeBeyond_34 : decode cX0_placeBeyond 34 = .ok (.bipush 6, 2) := by decide +kernel
theorem dX0_placeBeyond_36 : decode cX0_placeBeyond 36 = .ok (.idiv, 1) := by decide +kernel
theorem dX0_placeBeyond_37 : decode cX0_placeBeyond 37 = .ok (.bipush 16, 2) := by decide +kernel
theorem dX0_placeBeyond_39 : decode cX0_placeBeyond 39 = .ok (.imul, 1) := by decide +kernel
theorem dX0_placeBeyond_40 : decode cX0_placeBeyond 40 = .ok (.iload_n 3, 1) := by decide +kernel
theorem dX0_placeBeyond_41 : decode cX0_placeBeyond 41 = .ok (.iadd, 1) := by decide +kernel
theorem dX0_placeBeyond_42 : decode cX0_placeBeyond 42 = .ok (.ireturn, 1) := by decide +kernel
set_option maxRecDepth 20000 in
theorem ggX0_isUsed_X0_isTagged : GoodIn wsX0_isUsed wsX0_isTagged := goodIn_r _ [6, 7, 8, 9, 5, 10, 11, 12, 13, 14, 15, 16, 17, 18, 19, 20, 21, 22, 23, 24, 25] (by decide +kernel) (by decide +kernel)
set_option maxRecDepth 20000 in
theorem gX0_isUsed_X0_isTagged : GoodIn wsX0_isUsed (wsV RX0 63 RX0 yX0_isTagged wsX0_isTagged) := goodIn_app (goodIn_of _ (by decide +kernel)) ggX0_isUsed_X0_isTagged
set_option maxRecDepth 20000 in
theorem ggX0_isUsed_X0_at : GoodIn wsX0_isUsed wsX0_at := goodIn_r _ [10] (by decide +kernel) (by decide +kernel)
set_option maxRecDepth 20000 in
theorem gX0_isUsed_X0_at : GoodIn wsX0_isUsed (va_wsS RX0 74 yX0_at wsX0_at) := goodIn_app (goodIn_of _ (by decide +kernel)) ggX0_isUsed_X0_at
theorem dX0_isUsed_0 : decode cX0_isUsed 0 = .ok (.iconst 0, 1) := by decide +kernel
theorem dX0_isUsed_1 : decode cX0_isUsed 1 = .ok (.istore_n 3, 1) := by decide +kernel
theorem dX0_isUsed_2 : decode cX0_isUsed 2 = .ok (.iload_n 3, 1) := by decide +kernel
theorem dX0_isUsed_3 : decode cX0_isUsed 3 = .ok (.bipush 6, 2) := by decide +kernel
theorem dX0_isUsed_5 : decode cX0_isUsed 5 = .ok (.if_icmp .ge 42, 3) := by decide +kernel
theorem dX0_isUsed_8 : decode cX0_isUsed 8 = .ok (.iload_n 1, 1) := by decide +kernel
theorem dX0_isUsed_9 : decode cX0_isUsed 9 = .ok (.bipush 6, 2) := by decide +kernel
theorem dX0_isUsed_11 : decode cX0_isUsed 11 = .ok (.imul, 1) := by decide +kernel
theorem dX0_isUsed_12 : decode cX0_isUsed 12 = .ok (.iload_n 3, 1) := by decide +kernel
theorem dX0_isUsed_13 : decode cX0_isUsed 13 = .ok (.iadd, 1) := by decide +kernel
theorem dX0_isUsed_14 : decode cX0_isUsed 14 = .ok (.istore 4, 2) := by decide +kernel
theorem dX0_isUsed_16 : decode cX0_isUsed 16 = .ok (.aload_n 0, 1) := by decide +kernel
theorem dX0_isUsed_17 : decode cX0_isUsed 17 = .ok (.iload 4, 2) := by decide +kernel
theorem dX0_isUsed_19 : decode cX0_isUsed 19 = .ok (.iload_n 2, 1) := by decide +kernel
theorem dX0_isUsed_20 : decode cX0_isUsed 20 = .ok (.invokevirtual 63, 3) := by decide +kernel
theorem dX0_isUsed_23 : decode cX0_isUsed 23 = .ok (.ifCond .ne 16, 3) := by decide +kernel
theorem dX0_isUsed_26 : decode cX0_isUsed 26 = .ok (.aload_n 0, 1) := by decide +kernel
theorem dX0_isUsed_27 : decode cX0_isUsed 27 = .ok (.getfield 9, 3) := by decide +kernel
theorem dX0_isUsed_30 : decode cX0_isUsed 30 = .ok (.iload 4, 2) := by decide +kernel
theorem dX0_isUsed_32 : decode cX0_isUsed 32 = .ok (.invokestatic 74, 3) := by decide +kernel
theorem dX0_isUsed_35 : decode cX0_isUsed 35 = .ok (.iload_n 2, 1) := by decide +kernel
theorem dX0_isUsed_36 : decode cX0_isUsed 36 = .ok (.if_icmp .ne 5, 3) := by decide +kernel
theorem dX0_isUsed_39 : decode cX0_isUsed 39 = .ok (.iconst 1, 1) := by decide +kernel
theorem dX0_isUsed_40 : decode cX0_isUsed 40 = .ok (.ireturn, 1) := by decide +kernel
theorem dX0_isUsed_41 : decode cX0_isUsed 41 = .ok (.iinc 3 1, 3) := by decide +kernel
theorem dX0_isUsed_44 : decode cX0_isUsed 44 = .ok (.goto (-42), 3) := by decide +kernel
theorem dX0_isUsed_47 : decode cX0_isUsed 47 = .ok (.iconst 0, 1) := by decide +kernel
theorem dX0_isUsed_48 : decode cX0_isUsed 48 = .ok (.ireturn, 1) := by decide +kernel
set_option maxRecDepth 20000 in
theorem ggX0_countUsedPlaces_X0_isUsed : GoodIn wsX0_countUsedPlaces wsX0_isUsed := goodIn_r _ [5, 6, 7, 8, 9, 4, 10, 11, 12, 13, 14, 15, 16, 17, 18, 19, 20, 21, 22, 23, 24, 25, 26, 27, 28, 29] (by decide +kernel) (by decide +kernel)
set_option maxRecDepth 20000 in
theorem gX0_countUsedPlaces_X0_isUsed : GoodIn wsX0_countUsedPlaces (wsV RX0 146 RX0 yX0_isUsed wsX0_isUsed) := goodIn_app (goodIn_of _ (by decide +kernel)) ggX0_countUsedPlaces_X0_isUsed
theorem dX0_countUsedPlaces_0 : decode cX0_countUsedPlaces 0 = .ok (.iconst 0, 1) := by decide +kernel
theorem dX0_countUsedPlaces_1 : decode cX0_countUsedPlaces 1 = .ok (.istore_n 1, 1) := by decide +kernel
theorem dX0_countUsedPlaces_2 : decode cX0_countUsedPlaces 2 = .ok (.iconst 0, 1) := by decide +kernel
theorem dX0_countUsedPlaces_3 : decode cX0_countUsedPlaces 3 = .ok (.istore_n 2, 1) := by decide +kernel
theorem dX0_countUsedPlaces_4 : decode cX0_countUsedPlaces 4 = .ok (.iload_n 2, 1) := by decide +kernel
theorem dX0_countUsedPlaces_5 : decode cX0_countUsedPlaces 5 = .ok (.bipush 6, 2) := by decide +kernel
theorem dX0_countUsedPlaces_7 : decode cX0_countUsedPlaces 7 = .ok (.if_icmp .ge 35, 3) := by decide +kernel
theorem dX0_countUsedPlaces_10 : decode cX0_countUsedPlaces 10 = .ok (.iconst 1, 1) := by decide +kernel
theorem dX0_countUsedPlaces_11 : decode cX0_countUsedPlaces 11 = .ok (.istore_n 3, 1) := by decide +kernel
theorem dX0_countUsedPlaces_12 : decode cX0_countUsedPlaces 12 = .ok (.iload_n 3, 1) := by decide +kernel
theorem dX0_countUsedPlaces_13 : decode cX0_countUsedPlaces 13 = .ok (.bipush 15, 2) := by decide +kernel
theorem dX0_countUsedPlaces_15 : decode cX0_countUsedPlaces 15 = .ok (.if_icmp .gt 21, 3) := by decide +kernel
theorem dX0_countUsedPlaces_18 : decode cX0_countUsedPlaces 18 = .ok (.aload_n 0, 1) := by decide +kernel
theorem dX0_countUsedPlaces_19 : decode cX0_countUsedPlaces 19 = .ok (.iload_n 2, 1) := by decide +kernel
theorem dX0_countUsedPlaces_20 : decode cX0_countUsedPlaces 20 = .ok (.iload_n 3, 1) := by decide +kernel
theorem dX0_countUsedPlaces_21 : decode cX0_countUsedPlaces 21 = .ok (.invokevirtual 146, 3) := by decide +kernel
theorem dX0_countUsedPlaces_24 : decode cX0_countUsedPlaces 24 = .ok (.ifCond .eq 6, 3) := by decide +kernel
theorem dX0_countUsedPlaces_27 : decode cX0_countUsedPlaces 27 = .ok (.iinc 1 1, 3) := by decide +kernel
theorem dX0_countUsedPlaces_30 : decode cX0_countUsedPlaces 30 = .ok (.iinc 3 1, 3) := by decide +kernel
theorem dX0_countUsedPlaces_33 : decode cX0_countUsedPlaces 33 = .ok (.goto (-21), 3) := by decide +kernel
theorem dX0_countUsedPlaces_36 : decode cX0_countUsedPlaces 36 = .ok (.iinc 2 1, 3) := by decide +kernel
theorem dX0_countUsedPlaces_39 : decode cX0_countUsedPlaces 39 = .ok (.goto (-35), 3) := by decide +kernel
theorem dX0_countUsedPlaces_42 : decode cX0_countUsedPlaces 42 = .ok (.iload_n 1, 1) := by decide +kernel
theorem dX0_countUsedPlaces_43 : decode cX0_countUsedPlaces 43 = .ok (.ireturn, 1) := by decide +kernel
set_option maxRecDepth 20000 in
theorem ggX0_countWays_X0_hasLiveCable : GoodIn wsX0_countWays wsX0_hasLiveCable := goodIn_r _ [6, 1, 7, 8, 9, 10, 5, 11, 25, 26, 27, 28, 29, 30, 31, 32, 33, 34, 35, 36, 37, 38, 39] (by decide +kernel) (by decide +kernel)
set_option maxRecDepth 20000 in
theorem gX0_countWays_X0_hasLiveCable : GoodIn wsX0_countWays (wsV RX0 116 RX0 yX0_hasLiveCable wsX0_hasLiveCable) := goodIn_app (goodIn_of _ (by decide +kernel)) ggX0_countWays_X0_hasLiveCable
set_option maxRecDepth 20000 in
theorem ggX0_countWays_X0_at : GoodIn wsX0_countWays wsX0_at := goodIn_r _ [11] (by decide +kernel) (by decide +kernel)
set_option maxRecDepth 20000 in
theorem gX0_countWays_X0_at : GoodIn wsX0_countWays (va_wsS RX0 74 yX0_at wsX0_at) := goodIn_app (goodIn_of _ (by decide +kernel)) ggX0_countWays_X0_at
set_option maxRecDepth 20000 in
theorem ggX0_countWays_X0_waysOver : GoodIn wsX0_countWays wsX0_waysOver := goodIn_r _ [15, 16, 17, 9, 10, 5, 11, 18, 19, 20, 21, 22, 23, 24, 25, 26, 27, 28, 29, 30, 31, 32, 33, 34, 35, 36, 37, 38, 39] (by decide +kernel) (by decide +kernel)
set_option maxRecDepth 20000 in
theorem gX0_countWays_X0_waysOver : GoodIn wsX0_countWays (wsV RX0 200 RX0 yX0_waysOver wsX0_waysOver) := goodIn_app (goodIn_of _ (by decide +kernel)) ggX0_countWays_X0_waysOver
theorem dX0_countWays_0 : decode cX0_countWays 0 = .ok (.iconst 0, 1) := by decide +kernel
theorem dX0_countWays_1 : decode cX0_countWays 1 = .ok (.istore_n 1, 1) := by decide +kernel
theorem dX0_countWays_2 : decode cX0_countWays 2 = .ok (.iconst 0, 1) := by decide +kernel
theorem dX0_countWays_3 : decode cX0_countWays 3 = .ok (.istore_n 2, 1) := by decide +kernel
theorem dX0_countWays_4 : decode cX0_countWays 4 = .ok (.iload_n 2, 1) := by decide +kernel
theorem dX0_countWays_5 : decode cX0_countWays 5 = .ok (.bipush 36, 2) := by decide +kernel
theorem dX0_countWays_7 : decode cX0_countWays 7 = .ok (.if_icmp .ge 45, 3) := by decide +kernel
theorem dX0_countWays_10 : decode cX0_countWays 10 = .ok (.aload_n 0, 1) := by decide +kernel
theorem dX0_countWays_11 : decode cX0_countWays 11 = .ok (.iload_n 2, 1) := by decide +kernel
theorem dX0_countWays_12 : decode cX0_countWays 12 = .ok (.invokevirtual 116, 3) := by decide +kernel
theorem dX0_countWays_15 : decode cX0_countWays 15 = .ok (.ifCond .eq 31, 3) := by decide +kernel
theorem dX0_countWays_18 : decode cX0_countWays 18 = .ok (.iload_n 2, 1) := by decide +kernel
theorem dX0_countWays_19 : decode cX0_countWays 19 = .ok (.aload_n 0, 1) := by decide +kernel
theorem dX0_countWays_20 : decode cX0_countWays 20 = .ok (.getfield 16, 3) := by decide +kernel
theorem dX0_countWays_23 : decode cX0_countWays 23 = .ok (.iload_n 2, 1) := by decide +kernel
theorem dX0_countWays_24 : decode cX0_countWays 24 = .ok (.invokestatic 74, 3) := by decide +kernel
theorem dX0_countWays_27 : decode cX0_countWays 27 = .ok (.if_icmp .ge 19, 3) := by decide +kernel
theorem dX0_countWays_30 : decode cX0_countWays 30 = .ok (.iload_n 1, 1) := by decide +kernel
theorem dX0_countWays_31 : decode cX0_countWays 31 = .ok (.aload_n 0, 1) := by decide +kernel
theorem dX0_countWays_32 : decode cX0_countWays 32 = .ok (.iload_n 2, 1) := by decide +kernel
theorem dX0_countWays_33 : decode cX0_countWays 33 = .ok (.aload_n 0, 1) := by decide +kernel
theorem dX0_countWays_34 : decode cX0_countWays 34 = .ok (.getfield 16, 3) := by decide +kernel
theorem dX0_countWays_37 : decode cX0_countWays 37 = .ok (.iload_n 2, 1) := by decide +kernel
theorem dX0_countWays_38 : decode cX0_countWays 38 = .ok (.invokestatic 74, 3) := by decide +kernel
theorem dX0_countWays_41 : decode cX0_countWays 41 = .ok (.invokevirtual 200, 3) := by decide +kernel
theorem dX0_countWays_44 : decode cX0_countWays 44 = .ok (.iadd, 1) := by decide +kernel
theorem dX0_countWays_45 : decode cX0_countWays 45 = .ok (.istore_n 1, 1) := by decide +kernel
theorem dX0_countWays_46 : decode cX0_countWays 46 = .ok (.iinc 2 1, 3) := by decide +kernel
theorem dX0_countWays_49 : decode cX0_countWays 49 = .ok (.goto (-45), 3) := by decide +kernel
theorem dX0_countWays_52 : decode cX0_countWays 52 = .ok (.iload_n 1, 1) := by decide +kernel
theorem dX0_countWays_53 : decode cX0_countWays 53 = .ok (.ireturn, 1) := by decide +kernel
set_option maxRecDepth 20000 in
theorem ggX0_waysOver_X0_at : GoodIn wsX0_waysOver wsX0_at := goodIn_r _ [6] (by decide +kernel) (by decide +kernel)
set_option maxRecDepth 20000 in
theorem gX0_waysOver_X0_at : GoodIn wsX0_waysOver (va_wsS RX0 74 yX0_at wsX0_at) := goodIn_app (goodIn_of _ (by decide +kernel)) ggX0_waysOver_X0_at
set_option maxRecDepth 20000 in
theorem ggX0_waysOver_J6_bitCount_0f7a4 : GoodIn wsX0_waysOver wsJ6_bitCount_0f7a4 := goodIn_r _ [10, 11, 12, 13] (by decide +kernel) (by decide +kernel)
set_option maxRecDepth 20000 in
theorem gX0_waysOver_J6_bitCount_0f7a4 : GoodIn wsX0_waysOver (va_wsS RX0 122 yJ6_bitCount_0f7a4 wsJ6_bitCount_0f7a4) := goodIn_app (goodIn_of _ (by decide +kernel)) ggX0_waysOver_J6_bitCount_0f7a4
theorem dX0_waysOver_0 : decode cX0_waysOver 0 = .ok (.aload_n 0, 1) := by decide +kernel
theorem dX0_waysOver_1 : decode cX0_waysOver 1 = .ok (.getfield 13, 3) := by decide +kernel
theorem dX0_waysOver_4 : decode cX0_waysOver 4 = .ok (.iload_n 1, 1) := by decide +kernel
theorem dX0_waysOver_5 : decode cX0_waysOver 5 = .ok (.invokestatic 74, 3) := by decide +kernel
theorem dX0_waysOver_8 : decode cX0_waysOver 8 = .ok (.aload_n 0, 1) := by decide +kernel
theorem dX0_waysOver_9 : decode cX0_waysOver 9 = .ok (.getfield 13, 3) := by decide +kernel
theorem dX0_waysOver_12 : decode cX0_waysOver 12 = .ok (.iload_n 2, 1) := by decide +kernel
theorem dX0_waysOver_13 : decode cX0_waysOver 13 = .ok (.invokestatic 74, 3) := by decide +kernel
theorem dX0_waysOver_16 : decode cX0_waysOver 16 = .ok (.iand, 1) := by decide +kernel
theorem dX0_waysOver_17 : decode cX0_waysOver 17 = .ok (.invokestatic 122, 3) := by decide +kernel
theorem dX0_waysOver_20 : decode cX0_waysOver 20 = .ok (.istore_n 3, 1) := by decide +kernel
theorem dX0_waysOver_21 : decode cX0_waysOver 21 = .ok (.aload_n 0, 1) := by decide +kernel
theorem dX0_waysOver_22 : decode cX0_waysOver 22 = .ok (.getfield 9, 3) := by decide +kernel
theorem dX0_waysOver_25 : decode cX0_waysOver 25 = .ok (.iload_n 1, 1) := by decide +kernel
theorem dX0_waysOver_26 : decode cX0_waysOver 26 = .ok (.invokestatic 74, 3) := by decide +kernel
theorem dX0_waysOver_29 : decode cX0_waysOver 29 = .ok (.ifCond .eq 18, 3) := by decide +kernel
theorem dX0_waysOver_32 : decode cX0_waysOver 32 = .ok (.aload_n 0, 1) := by decide +kernel
theorem dX0_waysOver_33 : decode cX0_waysOver 33 = .ok (.getfield 9, 3) := by decide +kernel
theorem dX0_waysOver_36 : decode cX0_waysOver 36 = .ok (.iload_n 2, 1) := by decide +kernel
theorem dX0_waysOver_37 : decode cX0_waysOver 37 = .ok (.invokestatic 74, 3) := by decide +kernel
theorem dX0_waysOver_40 : decode cX0_waysOver 40 = .ok (.ifCond .eq 7, 3) := by decide +kernel
theorem dX0_waysOver_43 : decode cX0_waysOver 43 = .ok (.iconst 1, 1) := by decide +kernel
theorem dX0_waysOver_44 : decode cX0_waysOver 44 = .ok (.goto 4, 3) := by decide +kernel
theorem dX0_waysOver_47 : decode cX0_waysOver 47 = .ok (.iconst 0, 1) := by decide +kernel
theorem dX0_waysOver_48 : decode cX0_waysOver 48 = .ok (.istore 4, 2) := by decide +kernel
theorem dX0_waysOver_50 : decode cX0_waysOver 50 = .ok (.iload 4, 2) := by decide +kernel
theorem dX0_waysOver_52 : decode cX0_waysOver 52 = .ok (.ifCond .eq 9, 3) := by decide +kernel
theorem dX0_waysOver_55 : decode cX0_waysOver 55 = .ok (.iload_n 3, 1) := by decide +kernel
theorem dX0_waysOver_56 : decode cX0_waysOver 56 = .ok (.iconst 1, 1) := by decide +kernel
theorem dX0_waysOver_57 : decode cX0_waysOver 57 = .ok (.iadd, 1) := by decide +kernel
theorem dX0_waysOver_58 : decode cX0_waysOver 58 = .ok (.goto 4, 3) := by decide +kernel
theorem dX0_waysOver_61 : decode cX0_waysOver 61 = .ok (.iload_n 3, 1) := by decide +kernel
theorem dX0_waysOver_62 : decode cX0_waysOver 62 = .ok (.ireturn, 1) := by decide +kernel
set_option maxRecDepth 20000 in
theorem ggX0_changesOver_X0_hasLiveCable : GoodIn wsX0_changesOver wsX0_hasLiveCable := goodIn_r _ [7, 1, 8, 9, 10, 11, 6, 12, 18, 19, 20, 21, 22, 23, 24, 25, 26, 27, 28, 29, 30, 31, 32] (by decide +kernel) (by decide +kernel)
set_option maxRecDepth 20000 in
theorem gX0_changesOver_X0_hasLiveCable : GoodIn wsX0_changesOver (wsV RX0 116 RX0 yX0_hasLiveCable wsX0_hasLiveCable) := goodIn_app (goodIn_of _ (by decide +kernel)) ggX0_changesOver_X0_hasLiveCable
set_option maxRecDepth 20000 in
theorem ggX0_changesOver_X0_at : GoodIn wsX0_changesOver wsX0_at := goodIn_r _ [12] (by decide +kernel) (by decide +kernel)
set_option maxRecDepth 20000 in
theorem gX0_changesOver_X0_at : GoodIn wsX0_changesOver (va_wsS RX0 74 yX0_at wsX0_at) := goodIn_app (goodIn_of _ (by decide +kernel)) ggX0_changesOver_X0_at
set_option maxRecDepth 20000 in
theorem ggX0_changesOver_X0_isTagged : GoodIn wsX0_changesOver wsX0_isTagged := goodIn_r _ [16, 17, 10, 11, 6, 12, 18, 19, 20, 21, 22, 23, 24, 25, 26, 27, 28, 29, 30, 31, 32] (by decide +kernel) (by decide +kernel)
set_option maxRecDepth 20000 in
theorem gX0_changesOver_X0_isTagged : GoodIn wsX0_changesOver (wsV RX0 63 RX0 yX0_isTagged wsX0_isTagged) := goodIn_app (goodIn_of _ (by decide +kernel)) ggX0_changesOver_X0_isTagged
theorem dX0_changesOver_0 : decode cX0_changesOver 0 = .ok (.aload_n 0, 1) := by decide +kernel
theorem dX0_changesOver_1 : decode cX0_changesOver 1 = .ok (.iload_n 1, 1) := by decide +kernel
theorem dX0_changesOver_2 : decode cX0_changesOver 2 = .ok (.invokevirtual 116, 3) := by decide +kernel
theorem dX0_changesOver_5 : decode cX0_changesOver 5 = .ok (.ifCond .ne 5, 3) := by decide +kernel
theorem dX0_changesOver_8 : decode cX0_changesOver 8 = .ok (.iconst (-1), 1) := by decide +kernel
theorem dX0_changesOver_9 : decode cX0_changesOver 9 = .ok (.ireturn, 1) := by decide +kernel
theorem dX0_changesOver_10 : decode cX0_changesOver 10 = .ok (.aload_n 0, 1) := by decide +kernel
theorem dX0_changesOver_11 : decode cX0_changesOver 11 = .ok (.getfield 16, 3) := by decide +kernel
theorem dX0_changesOver_14 : decode cX0_changesOver 14 = .ok (.iload_n 1, 1) := by decide +kernel
theorem dX0_changesOver_15 : decode cX0_changesOver 15 = .ok (.invokestatic 74, 3) := by decide +kernel
theorem dX0_changesOver_18 : decode cX0_changesOver 18 = .ok (.istore_n 3, 1) := by decide +kernel
theorem dX0_changesOver_19 : decode cX0_changesOver 19 = .ok (.aload_n 0, 1) := by decide +kernel
theorem dX0_changesOver_20 : decode cX0_changesOver 20 = .ok (.getfield 9, 3) := by decide +kernel
theorem dX0_changesOver_23 : decode cX0_changesOver 23 = .ok (.iload_n 1, 1) := by decide +kernel
theorem dX0_changesOver_24 : decode cX0_changesOver 24 = .ok (.invokestatic 74, 3) := by decide +kernel
theorem dX0_changesOver_27 : decode cX0_changesOver 27 = .ok (.iload_n 2, 1) := by decide +kernel
theorem dX0_changesOver_28 : decode cX0_changesOver 28 = .ok (.if_icmp .ne 7, 3) := by decide +kernel
theorem dX0_changesOver_31 : decode cX0_changesOver 31 = .ok (.iconst 1, 1) := by decide +kernel
theorem dX0_changesOver_32 : decode cX0_changesOver 32 = .ok (.goto 4, 3) := by decide +kernel
theorem dX0_changesOver_35 : decode cX0_changesOver 35 = .ok (.iconst 0, 1) := by decide +kernel
theorem dX0_changesOver_36 : decode cX0_changesOver 36 = .ok (.istore 4, 2) := by decide +kernel
theorem dX0_changesOver_38 : decode cX0_changesOver 38 = .ok (.aload_n 0, 1) := by decide +kernel
theorem dX0_changesOver_39 : decode cX0_changesOver 39 = .ok (.getfield 9, 3) := by decide +kernel
theorem dX0_changesOver_42 : decode cX0_changesOver 42 = .ok (.iload_n 3, 1) := by decide +kernel
theorem dX0_changesOver_43 : decode cX0_changesOver 43 = .ok (.invokestatic 74, 3) := by decide +kernel
theorem dX0_changesOver_46 : decode cX0_changesOver 46 = .ok (.iload_n 2, 1) := by decide +kernel
theorem dX0_changesOver_47 : decode cX0_changesOver 47 = .ok (.if_icmp .ne 7, 3) := by decide +kernel
theorem dX0_changesOver_50 : decode cX0_changesOver 50 = .ok (.iconst 1, 1) := by decide +kernel
theorem dX0_changesOver_51 : decode cX0_changesOver 51 = .ok (.goto 4, 3) := by decide +kernel
theorem dX0_changesOver_54 : decode cX0_changesOver 54 = .ok (.iconst 0, 1) := by decide +kernel
theorem dX0_changesOver_55 : decode cX0_changesOver 55 = .ok (.istore 5, 2) := by decide +kernel
theorem dX0_changesOver_57 : decode cX0_changesOver 57 = .ok (.iload 4, 2) := by decide +kernel
theorem dX0_changesOver_59 : decode cX0_changesOver 59 = .ok (.ifCond .ne 8, 3) := by decide +kernel
theorem dX0_changesOver_62 : decode cX0_changesOver 62 = .ok (.iload 5, 2) := by decide +kernel
theorem dX0_changesOver_64 : decode cX0_changesOver 64 = .ok (.ifCond .eq 19, 3) := by decide +kernel
theorem dX0_changesOver_67 : decode cX0_changesOver 67 = .ok (.iload 4, 2) := by decide +kernel
theorem dX0_changesOver_69 : decode cX0_changesOver 69 = .ok (.ifCond .eq 12, 3) := by decide +kernel
theorem dX0_changesOver_72 : decode cX0_changesOver 72 = .ok (.iload 5, 2) := by decide +kernel
theorem dX0_changesOver_74 : decode cX0_changesOver 74 = .ok (.ifCond .eq 7, 3) := by decide +kernel
theorem dX0_changesOver_77 : decode cX0_changesOver 77 = .ok (.iconst 0, 1) := by decide +kernel
theorem dX0_changesOver_78 : decode cX0_changesOver 78 = .ok (.goto 4, 3) := by decide +kernel
theorem dX0_changesOver_81 : decode cX0_changesOver 81 = .ok (.iconst (-1), 1) := by decide +kernel
theorem dX0_changesOver_82 : decode cX0_changesOver 82 = .ok (.ireturn, 1) := by decide +kernel
theorem dX0_changesOver_83 : decode cX0_changesOver 83 = .ok (.aload_n 0, 1) := by decide +kernel
theorem dX0_changesOver_84 : decode cX0_changesOver 84 = .ok (.iload_n 1, 1) := by decide +kernel
theorem dX0_changesOver_85 : decode cX0_changesOver 85 = .ok (.iload_n 2, 1) := by decide +kernel
theorem dX0_changesOver_86 : decode cX0_changesOver 86 = .ok (.invokevirtual 63, 3) := by decide +kernel
theorem dX0_changesOver_89 : decode cX0_changesOver 89 = .ok (.ifCond .eq 7, 3) := by decide +kernel
theorem dX0_changesOver_92 : decode cX0_changesOver 92 = .ok (.iconst 0, 1) := by decide +kernel
theorem dX0_changesOver_93 : decode cX0_changesOver 93 = .ok (.goto 4, 3) := by decide +kernel
theorem dX0_changesOver_96 : decode cX0_changesOver 96 = .ok (.iconst 1, 1) := by decide +kernel
theorem dX0_changesOver_97 : decode cX0_changesOver 97 = .ok (.aload_n 0, 1) := by decide +kernel
theorem dX0_changesOver_98 : decode cX0_changesOver 98 = .ok (.iload_n 3, 1) := by decide +kernel
theorem dX0_changesOver_99 : decode cX0_changesOver 99 = .ok (.iload_n 2, 1) := by decide +kernel
theorem dX0_changesOver_100 : decode cX0_changesOver 100 = .ok (.invokevirtual 63, 3) := by decide +kernel
theorem dX0_changesOver_103 : decode cX0_changesOver 103 = .ok (.ifCond .eq 7, 3) := by decide +kernel
theorem dX0_changesOver_106 : decode cX0_changesOver 106 = .ok (.iconst 0, 1) := by decide +kernel
theorem dX0_changesOver_107 : decode cX0_changesOver 107 = .ok (.goto 4, 3) := by decide +kernel
theorem dX0_changesOver_110 : decode cX0_changesOver 110 = .ok (.iconst 1, 1) := by decide +kernel
theorem dX0_changesOver_111 : decode cX0_changesOver 111 = .ok (.iadd, 1) := by decide +kernel
theorem dX0_changesOver_112 : decode cX0_changesOver 112 = .ok (.ireturn, 1) := by decide +kernel
end
section
theorem dX1_init_0 : decode cX1_init 0 = .ok (.aload_n 0, 1) := by decide +kernel
theorem dX1_init_1 : decode cX1_init 1 = .ok (.invokespecial 1, 3) := by decide +kernel
theorem dX1_init_4 : decode cX1_init 4 = .ok (.aload_n 0, 1) := by decide +kernel
theorem dX1_init_5 : decode cX1_init 5 = .ok (.bipush 36, 2) := by decide +kernel
theorem dX1_init_7 : decode cX1_init 7 = .ok (.newarray .int, 2) := by decide +kernel
theorem dX1_init_9 : decode cX1_init 9 = .ok (.putfield 7, 3) := by decide +kernel
theorem dX1_init_12 : decode cX1_init 12 = .ok (.aload_n 0, 1) := by decide +kernel
theorem dX1_init_13 : decode cX1_init 13 = .ok (.bipush 36, 2) := by decide +kernel
theorem dX1_init_15 : decode cX1_init 15 = .ok (.newarray .int, 2) := by decide +kernel
theorem dX1_init_17 : decode cX1_init 17 = .ok (.putfield 13, 3) := by decide +kernel
theorem dX1_init_20 : decode cX1_init 20 = .ok (.aload_n 0, 1) := by decide +kernel
theorem dX1_init_21 : decode cX1_init 21 = .ok (.bipush 36, 2) := by decide +kernel
theorem dX1_init_23 : decode cX1_init 23 = .ok (.newarray .int, 2) := by decide +kernel
theorem dX1_init_25 : decode cX1_init 25 = .ok (.putfield 16, 3) := by decide +kernel
theorem dX1_init_28 : decode cX1_init 28 = .ok (.aload_n 0, 1) := by decide +kernel
theorem dX1_init_29 : decode cX1_init 29 = .ok (.bipush 36, 2) := by decide +kernel
theorem dX1_init_31 : decode cX1_init 31 = .ok (.newarray .int, 2) := by decide +kernel
theorem dX1_init_33 : decode cX1_init 33 = .ok (.putfield 19, 3) := by decide +kernel
theorem dX1_init_36 : decode cX1_init 36 = .ok (.aload_n 0, 1) := by decide +kernel
theorem dX1_init_37 : decode cX1_init 37 = .ok (.bipush 36, 2) := by decide +kernel
theorem dX1_init_39 : decode cX1_init 39 = .ok (.newarray .int, 2) := by decide +kernel
theorem dX1_init_41 : decode cX1_init 41 = .ok (.putfield 22, 3) := by decide +kernel
theorem dX1_init_44 : decode cX1_init 44 = .ok (.aload_n 0, 1) := by decide +kernel
theorem dX1_init_45 : decode cX1_init 45 = .ok (.bipush 6, 2) := by decide +kernel
theorem dX1_init_47 : decode cX1_init 47 = .ok (.newarray .int, 2) := by decide +kernel
theorem dX1_init_49 : decode cX1_init 49 = .ok (.putfield 25, 3) := by decide +kernel
theorem dX1_init_52 : decode cX1_init 52 = .ok (.aload_n 0, 1) := by decide +kernel
theorem dX1_init_53 : decode cX1_init 53 = .ok (.bipush 6, 2) := by decide +kernel
theorem dX1_init_55 : decode cX1_init 55 = .ok (.newarray .int, 2) := by decide +kernel
theorem dX1_init_57 : decode cX1_init 57 = .ok (.putfield 28, 3) := by decide +kernel
theorem dX1_init_60 : decode cX1_init 60 = .ok (.aload_n 0, 1) := by decide +kernel
theorem dX1_init_61 : decode cX1_init 61 = .ok (.bipush 6, 2) := by decide +kernel
theorem dX1_init_63 : decode cX1_init 63 = .ok (.newarray .int, 2) := by decide +kernel
theorem dX1_init_65 : decode cX1_init 65 = .ok (.putfield 31, 3) := by decide +kernel
theorem dX1_init_68 : decode cX1_init 68 = .ok (.aload_n 0, 1) := by decide +kernel
theorem dX1_init_69 : decode cX1_init 69 = .ok (.bipush 96, 2) := by decide +kernel
theorem dX1_init_71 : decode cX1_init 71 = .ok (.newarray .int, 2) := by decide +kernel
theorem dX1_init_73 : decode cX1_init 73 = .ok (.putfield 34, 3) := by decide +kernel
theorem dX1_init_76 : decode cX1_init 76 = .ok (.aload_n 0, 1) := by decide +kernel
theorem dX1_init_77 : decode cX1_init 77 = .ok (.bipush 96, 2) := by decide +kernel
theorem dX1_init_79 : decode cX1_init 79 = .ok (.newarray .int, 2) := by decide +kernel
theorem dX1_init_81 : decode cX1_init 81 = .ok (.putfield 37, 3) := by decide +kernel
theorem dX1_init_84 : decode cX1_init 84 = .ok (.aload_n 0, 1) := by decide +kernel
theorem dX1_init_85 : decode cX1_init 85 = .ok (.bipush 6, 2) := by decide +kernel
theorem dX1_init_87 : decode cX1_init 87 = .ok (.newarray .int, 2) := by decide +kernel
theorem dX1_init_89 : decode cX1_init 89 = .ok (.putfield 40, 3) := by decide +kernel
theorem dX1_init_92 : decode cX1_init 92 = .ok (.iconst 0, 1) := by decide +kernel
theorem dX1_init_93 : decode cX1_init 93 = .ok (.istore_n 1, 1) := by decide +kernel
theorem dX1_init_94 : decode cX1_init 94 = .ok (.iload_n 1, 1) := by decide +kernel
theorem dX1_init_95 : decode cX1_init 95 = .ok (.bipush 36, 2) := by decide +kernel
theorem dX1_init_97 : decode cX1_init 97 = .ok (.if_icmp .ge 23, 3) := by decide +kernel
theorem dX1_init_100 : decode cX1_init 100 = .ok (.aload_n 0, 1) := by decide +kernel
theorem dX1_init_101 : decode cX1_init 101 = .ok (.getfield 16, 3) := by decide +kernel
theorem dX1_init_104 : decode cX1_init 104 = .ok (.iload_n 1, 1) := by decide +kernel
theorem dX1_init_105 : decode cX1_init 105 = .ok (.iconst (-1), 1) := by decide +kernel
theorem dX1_init_106 : decode cX1_init 106 = .ok (.iastore, 1) := by decide +kernel
theorem dX1_init_107 : decode cX1_init 107 = .ok (.aload_n 0, 1) := by decide +kernel
theorem dX1_init_108 : decode cX1_init 108 = .ok (.getfield 22, 3) := by decide +kernel
theorem dX1_init_111 : decode cX1_init 111 = .ok (.iload_n 1, 1) := by decide +kernel
theorem dX1_init_112 : decode cX1_init 112 = .ok (.iconst (-1), 1) := by decide +kernel
theorem dX1_init_113 : decode cX1_init 113 = .ok (.iastore, 1) := by decide +kernel
theorem dX1_init_114 : decode cX1_init 114 = .ok (.iinc 1 1, 3) := by decide +kernel
theorem dX1_init_117 : decode cX1_init 117 = .ok (.goto (-23), 3) := by decide +kernel
theorem dX1_init_120 : decode cX1_init 120 = .ok (.return_, 1) := by decide +kernel
theorem dX1_thrown_0 : decode cX1_thrown 0 = .ok (.aload_n 0, 1) := by decide +kernel
theorem dX1_thrown_1 : decode cX1_thrown 1 = .ok (.getfield 43, 3) := by decide +kernel
theorem dX1_thrown_4 : decode cX1_thrown 4 = .ok (.ireturn, 1) := by decide +kernel
theorem dX1_in_0 : decode cX1_in 0 = .ok (.iload_n 0, 1) := by decide +kernel
theorem dX1_in_1 : decode cX1_in 1 = .ok (.iload_n 1, 1) := by decide +kernel
theorem dX1_in_2 : decode cX1_in 2 = .ok (.if_icmp .lt 12, 3) := by decide +kernel
theorem dX1_in_5 : decode cX1_in 5 = .ok (.iload_n 0, 1) := by decide +kernel
theorem dX1_in_6 : decode cX1_in 6 = .ok (.iload_n 2, 1) := by decide +kernel
theorem dX1_in_7 : decode cX1_in 7 = .ok (.if_icmp .gt 7, 3) := by decide +kernel
theorem dX1_in_10 : decode cX1_in 10 = .ok (.iconst 1, 1) := by decide +kernel
theorem dX1_in_11 : decode cX1_in 11 = .ok (.goto 4, 3) := by decide +kernel
theorem dX1_in_14 : decode cX1_in 14 = .ok (.iconst 0, 1) := by decide +kernel
theorem dX1_in_15 : decode cX1_in 15 = .ok (.ireturn, 1) := by decide +kernel
set_option maxRecDepth 20000 in
theorem ggX1_isPort_X1_in : GoodIn wsX1_isPort wsX1_in := goodIn_r _ [4] (by decide +kernel) (by decide +kernel)
set_option maxRecDepth 20000 in
theorem gX1_isPort_X1_in : GoodIn wsX1_isPort (va_wsS RX1 47 yX1_in wsX1_in) := goodIn_app (goodIn_of _ (by decide +kernel)) ggX1_isPort_X1_in
theorem dX1_isPort_0 : decode cX1_isPort 0 = .ok (.iload_n 0, 1) := by decide +kernel
theorem dX1_isPort_1 : decode cX1_isPort 1 = .ok (.iconst 0, 1) := by decide +kernel
theorem dX1_isPort_2 : decode cX1_isPort 2 = .ok (.iconst 5, 1) := by decide +kernel
theorem dX1_isPort_3 : decode cX1_isPort 3 = .ok (.invokestatic 47, 3) := by decide +kernel
theorem dX1_isPort_6 : decode cX1_isPort 6 = .ok (.ifCond .eq 16, 3) := by decide +kernel
theorem dX1_isPort_9 : decode cX1_isPort 9 = .ok (.iload_n 1, 1) := by decide +kernel
theorem dX1_isPort_10 : decode cX1_isPort 10 = .ok (.iconst 0, 1) := by decide +kernel
theorem dX1_isPort_11 : decode cX1_isPort 11 = .ok (.iconst 5, 1) := by decide +kernel
theorem dX1_isPort_12 : decode cX1_isPort 12 = .ok (.invokestatic 47, 3) := by decide +kernel
theorem dX1_isPort_15 : decode cX1_isPort 15 = .ok (.ifCond .eq 7, 3) := by decide +kernel
theorem dX1_isPort_18 : decode cX1_isPort 18 = .ok (.iconst 1, 1) := by decide +kernel
theorem dX1_isPort_19 : decode cX1_isPort 19 = .ok (.goto 4, 3) := by decide +kernel
theorem dX1_isPort_22 : decode cX1_isPort 22 = .ok (.iconst 0, 1) := by decide +kernel
theorem dX1_isPort_23 : decode cX1_isPort 23 = .ok (.ireturn, 1) := by decide +kernel
set_option maxRecDepth 20000 in
theorem ggX1_isPlace_X1_in : GoodIn wsX1_isPlace wsX1_in := goodIn_r _ [4] (by decide +kernel) (by decide +kernel)
set_option maxRecDepth 20000 in
theorem gX1_isPlace_X1_in : GoodIn wsX1_isPlace (va_wsS RX1 47 yX1_in wsX1_in) := goodIn_app (goodIn_of _ (by decide +kernel)) ggX1_isPlace_X1_in
theorem dX1_isPlace_0 : decode cX1_isPlace 0 = .ok (.iload_n 0, 1) := by decide +kernel
theorem dX1_isPlace_1 : decode cX1_isPlace 1 = .ok (.iconst 0, 1) := by decide +kernel
theorem dX1_isPlace_2 : decode cX1_isPlace 2 = .ok (.iconst 5, 1) := by decide +kernel
theorem dX1_isPlace_3 : decode cX1_isPlace 3 = .ok (.invokestatic 47, 3) := by decide +kernel
theorem dX1_isPlace_6 : decode cX1_isPlace 6 = .ok (.ifCond .eq 17, 3) := by decide +kernel
theorem dX1_isPlace_9 : decode cX1_isPlace 9 = .ok (.iload_n 1, 1) := by decide +kernel
theorem dX1_isPlace_10 : decode cX1_isPlace 10 = .ok (.iconst 1, 1) := by decide +kernel
theorem dX1_isPlace_11 : decode cX1_isPlace 11 = .ok (.bipush 15, 2) := by decide +kernel
theorem dX1_isPlace_13 : decode cX1_isPlace 13 = .ok (.invokestatic 47, 3) := by decide +kernel
theorem dX1_isPlace_16 : decode cX1_isPlace 16 = .ok (.ifCond .eq 7, 3) := by decide +kernel
theorem dX1_isPlace_19 : decode cX1_isPlace 19 = .ok (.iconst 1, 1) := by decide +kernel
theorem dX1_isPlace_20 : decode cX1_isPlace 20 = .ok (.goto 4, 3) := by decide +kernel
theorem dX1_isPlace_23 : decode cX1_isPlace 23 = .ok (.iconst 0, 1) := by decide +kernel
theorem dX1_isPlace_24 : decode cX1_isPlace 24 = .ok (.ireturn, 1) := by decide +kernel
theorem dX1_isTagged_0 : decode cX1_isTagged 0 = .ok (.aload_n 0, 1) := by decide +kernel
theorem dX1_isTagged_1 : decode cX1_isTagged 1 = .ok (.getfield 13, 3) := by decide +kernel
theorem dX1_isTagged_4 : decode cX1_isTagged 4 = .ok (.iload_n 1, 1) := by decide +kernel
theorem dX1_isTagged_5 : decode cX1_isTagged 5 = .ok (.iaload, 1) := by decide +kernel
theorem dX1_isTagged_6 : decode cX1_isTagged 6 = .ok (.iload_n 2, 1) := by decide +kernel
theorem dX1_isTagged_7 : decode cX1_isTagged 7 = .ok (.ishr, 1) := by decide +kernel
theorem dX1_isTagged_8 : decode cX1_isTagged 8 = .ok (.iconst 1, 1) := by decide +kernel
theorem dX1_isTagged_9 : decode cX1_isTagged 9 = .ok (.iand, 1) := by decide +kernel
theorem dX1_isTagged_10 : decode cX1_isTagged 10 = .ok (.iconst 1, 1) := by decide +kernel
theorem dX1_isTagged_11 : decode cX1_isTagged 11 = .ok (.if_icmp .ne 7, 3) := by decide +kernel
theorem dX1_isTagged_14 : decode cX1_isTagged 14 = .ok (.iconst 1, 1) := by decide +kernel
theorem dX1_isTagged_15 : decode cX1_isTagged 15 = .ok (.goto 4, 3) := by decide +kernel
theorem dX1_isTagged_18 : decode cX1_isTagged 18 = .ok (.iconst 0, 1) := by decide +kernel
theorem dX1_isTagged_19 : decode cX1_isTagged 19 = .ok (.ireturn, 1) := by decide +kernel
set_option maxRecDepth 20000 in
theorem ggX1_untag_X1_isPort : GoodIn wsX1_untag wsX1_isPort := goodIn_r _ [6, 7, 8, 5, 9] (by decide +kernel) (by decide +kernel)
set_option maxRecDepth 20000 in
theorem gX1_untag_X1_isPort : GoodIn wsX1_untag (va_wsS RX1 51 yX1_isPort wsX1_isPort) := goodIn_app (goodIn_of _ (by decide +kernel)) ggX1_untag_X1_isPort
set_option maxRecDepth 20000 in
theorem ggX1_untag_X1_in : GoodIn wsX1_untag wsX1_in := goodIn_r _ [9] (by decide +kernel) (by decide +kernel)
set_option maxRecDepth 20000 in
theorem gX1_untag_X1_in : GoodIn wsX1_untag (va_wsS RX1 47 yX1_in wsX1_in) := goodIn_app (goodIn_of _ (by decide +kernel)) ggX1_untag_X1_in
set_option maxRecDepth 20000 in
theorem ggX1_untag_X1_isTagged : GoodIn wsX1_untag wsX1_isTagged := goodIn_r _ [13, 14, 15, 16, 17, 18, 19, 20, 21, 22, 23, 24, 25, 26, 27, 28, 29] (by decide +kernel) (by decide +kernel)
set_option maxRecDepth 20000 in
theorem gX1_untag_X1_isTagged : GoodIn wsX1_untag (wsV RX1 55 RX1 yX1_isTagged wsX1_isTagged) := goodIn_app (goodIn_of _ (by decide +kernel)) ggX1_untag_X1_isTagged
theorem dX1_untag_0 : decode cX1_untag 0 = .ok (.bipush 6, 2) := by decide +kernel
theorem dX1_untag_2 : decode cX1_untag 2 = .ok (.iload_n 1, 1) := by decide +kernel
theorem dX1_untag_3 : decode cX1_untag 3 = .ok (.imul, 1) := by decide +kernel
theorem dX1_untag_4 : decode cX1_untag 4 = .ok (.iload_n 2, 1) := by decide +kernel
theorem dX1_untag_5 : decode cX1_untag 5 = .ok (.iadd, 1) := by decide +kernel
theorem dX1_untag_6 : decode cX1_untag 6 = .ok (.istore 4, 2) := by decide +kernel
theorem dX1_untag_8 : decode cX1_untag 8 = .ok (.aload_n 0, 1) := by decide +kernel
theorem dX1_untag_9 : decode cX1_untag 9 = .ok (.iload_n 1, 1) := by decide +kernel
theorem dX1_untag_10 : decode cX1_untag 10 = .ok (.iload_n 2, 1) := by decide +kernel
theorem dX1_untag_11 : decode cX1_untag 11 = .ok (.invokestatic 51, 3) := by decide +kernel
theorem dX1_untag_14 : decode cX1_untag 14 = .ok (.ifCond .eq 13, 3) := by decide +kernel
theorem dX1_untag_17 : decode cX1_untag 17 = .ok (.iload_n 3, 1) := by decide +kernel
theorem dX1_untag_18 : decode cX1_untag 18 = .ok (.iconst 0, 1) := by decide +kernel
theorem dX1_untag_19 : decode cX1_untag 19 = .ok (.bipush 15, 2) := by decide +kernel
theorem dX1_untag_21 : decode cX1_untag 21 = .ok (.invokestatic 47, 3) := by decide +kernel
theorem dX1_untag_24 : decode cX1_untag 24 = .ok (.ifCond .ne 7, 3) := by decide +kernel
theorem dX1_untag_27 : decode cX1_untag 27 = .ok (.iconst 1, 1) := by decide +kernel
theorem dX1_untag_28 : decode cX1_untag 28 = .ok (.goto 18, 3) := by decide +kernel
theorem dX1_untag_31 : decode cX1_untag 31 = .ok (.aload_n 0, 1) := by decide +kernel
theorem dX1_untag_32 : decode cX1_untag 32 = .ok (.iload 4, 2) := by decide +kernel
theorem dX1_untag_34 : decode cX1_untag 34 = .ok (.iload_n 3, 1) := by decide +kernel
theorem dX1_untag_35 : decode cX1_untag 35 = .ok (.invokevirtual 55, 3) := by decide +kernel
theorem dX1_untag_38 : decode cX1_untag 38 = .ok (.ifCond .eq 7, 3) := by decide +kernel
theorem dX1_untag_41 : decode cX1_untag 41 = .ok (.iconst 2, 1) := by decide +kernel
theorem dX1_untag_42 : decode cX1_untag 42 = .ok (.goto 4, 3) := by decide +kernel
theorem dX1_untag_45 : decode cX1_untag 45 = .ok (.iconst 0, 1) := by decide +kernel
theorem dX1_untag_46 : decode cX1_untag 46 = .ok (.putfield 43, 3) := by decide +kernel
theorem dX1_untag_49 : decode cX1_untag 49 = .ok (.aload_n 0, 1) := by decide +kernel
theorem dX1_untag_50 : decode cX1_untag 50 = .ok (.getfield 43, 3) := by decide +kernel
theorem dX1_untag_53 : decode cX1_untag 53 = .ok (.ifCond .le 5, 3) := by decide +kernel
theorem dX1_untag_56 : decode cX1_untag 56 = .ok (.iconst 0, 1) := by decide +kernel
theorem dX1_untag_57 : decode cX1_untag 57 = .ok (.ireturn, 1) := by decide +kernel
theorem dX1_untag_58 : decode cX1_untag 58 = .ok (.aload_n 0, 1) := by decide +kernel
theorem dX1_untag_59 : decode cX1_untag 59 = .ok (.getfield 7, 3) := by decide +kernel
theorem dX1_untag_62 : decode cX1_untag 62 = .ok (.iload 4, 2) := by decide +kernel
theorem dX1_untag_64 : decode cX1_untag 64 = .ok (.iaload, 1) := by decide +kernel
theorem dX1_untag_65 : decode cX1_untag 65 = .ok (.istore 5, 2) := by decide +kernel
theorem dX1_untag_67 : decode cX1_untag 67 = .ok (.aload_n 0, 1) := by decide +kernel
theorem dX1_untag_68 : decode cX1_untag 68 = .ok (.getfield 7, 3) := by decide +kernel
theorem dX1_untag_71 : decode cX1_untag 71 = .ok (.iload 4, 2) := by decide +kernel
theorem dX1_untag_73 : decode cX1_untag 73 = .ok (.iload_n 3, 1) := by decide +kernel
theorem dX1_untag_74 : decode cX1_untag 74 = .ok (.iastore, 1) := by decide +kernel
theorem dX1_untag_75 : decode cX1_untag 75 = .ok (.iload 5, 2) := by decide +kernel
theorem dX1_untag_77 : decode cX1_untag 77 = .ok (.ireturn, 1) := by decide +kernel
set_option maxRecDepth 20000 in
theorem ggX1_tag_X1_isPort : GoodIn wsX1_tag wsX1_isPort := goodIn_r _ [7, 8, 9, 6, 10] (by decide +kernel) (by decide +kernel)
set_option maxRecDepth 20000 in
theorem gX1_tag_X1_isPort : GoodIn wsX1_tag (va_wsS RX1 51 yX1_isPort wsX1_isPort) := goodIn_app (goodIn_of _ (by decide +kernel)) ggX1_tag_X1_isPort
set_option maxRecDepth 20000 in
theorem ggX1_tag_X1_isPlace : GoodIn wsX1_tag wsX1_isPlace := goodIn_r _ [13, 8, 9, 6, 10] (by decide +kernel) (by decide +kernel)
set_option maxRecDepth 20000 in
theorem gX1_tag_X1_isPlace : GoodIn wsX1_tag (va_wsS RX1 58 yX1_isPlace wsX1_isPlace) := goodIn_app (goodIn_of _ (by decide +kernel)) ggX1_tag_X1_isPlace
set_option maxRecDepth 20000 in
theorem ggX1_tag_X1_isTagged : GoodIn wsX1_tag wsX1_isTagged := goodIn_r _ [17, 3, 18, 19, 20, 21, 22, 23, 24, 25, 26, 27, 28, 29, 30, 31, 32] (by decide +kernel) (by decide +kernel)
set_option maxRecDepth 20000 in
theorem gX1_tag_X1_isTagged : GoodIn wsX1_tag (wsV RX1 55 RX1 yX1_isTagged wsX1_isTagged) := goodIn_app (goodIn_of _ (by decide +kernel)) ggX1_tag_X1_isTagged
theorem dX1_tag_0 : decode cX1_tag 0 = .ok (.bipush 6, 2) := by decide +kernel
theorem dX1_tag_2 : decode cX1_tag 2 = .ok (.iload_n 1, 1) := by decide +kernel
theorem dX1_tag_3 : decode cX1_tag 3 = .ok (.imul, 1) := by decide +kernel
theorem dX1_tag_4 : decode cX1_tag 4 = .ok (.iload_n 2, 1) := by decide +kernel
theorem dX1_tag_5 : decode cX1_tag 5 = .ok (.iadd, 1) := by decide +kernel
theorem dX1_tag_6 : decode cX1_tag 6 = .ok (.istore 5, 2) := by decide +kernel
theorem dX1_tag_8 : decode cX1_tag 8 = .ok (.aload_n 0, 1) := by decide +kernel
theorem dX1_tag_9 : decode cX1_tag 9 = .ok (.iload_n 1, 1) := by decide +kernel
theorem dX1_tag_10 : decode cX1_tag 10 = .ok (.iload_n 2, 1) := by decide +kernel
theorem dX1_tag_11 : decode cX1_tag 11 = .ok (.invokestatic 51, 3) := by decide +kernel
theorem dX1_tag_14 : decode cX1_tag 14 = .ok (.ifCond .eq 11, 3) := by decide +kernel
theorem dX1_tag_17 : decode cX1_tag 17 = .ok (.iload_n 1, 1) := by decide +kernel
theorem dX1_tag_18 : decode cX1_tag 18 = .ok (.iload_n 3, 1) := by decide +kernel
theorem dX1_tag_19 : decode cX1_tag 19 = .ok (.invokestatic 58, 3) := by decide +kernel
theorem dX1_tag_22 : decode cX1_tag 22 = .ok (.ifCond .ne 7, 3) := by decide +kernel
theorem dX1_tag_25 : decode cX1_tag 25 = .ok (.iconst 1, 1) := by decide +kernel
theorem dX1_tag_26 : decode cX1_tag 26 = .ok (.goto 24, 3) := by decide +kernel
theorem dX1_tag_29 : decode cX1_tag 29 = .ok (.iload 4, 2) := by decide +kernel
theorem dX1_tag_31 : decode cX1_tag 31 = .ok (.ifCond .eq 18, 3) := by decide +kernel
theorem dX1_tag_34 : decode cX1_tag 34 = .ok (.aload_n 0, 1) := by decide +kernel
theorem dX1_tag_35 : decode cX1_tag 35 = .ok (.getfield 7, 3) := by decide +kernel
theorem dX1_tag_38 : decode cX1_tag 38 = .ok (.iload 5, 2) := by decide +kernel
theorem dX1_tag_40 : decode cX1_tag 40 = .ok (.iaload, 1) := by decide +kernel
theorem dX1_tag_41 : decode cX1_tag 41 = .ok (.iload_n 3, 1) := by decide +kernel
theorem dX1_tag_42 : decode cX1_tag 42 = .ok (.if_icmp .ne 7, 3) := by decide +kernel
theorem dX1_tag_45 : decode cX1_tag 45 = .ok (.iconst 2, 1) := by decide +kernel
theorem dX1_tag_46 : decode cX1_tag 46 = .ok (.goto 4, 3) := by decide +kernel
theorem dX1_tag_49 : decode cX1_tag 49 = .ok (.iconst 0, 1) := by decide +kernel
theorem dX1_tag_50 : decode cX1_tag 50 = .ok (.putfield 43, 3) := by decide +kernel
theorem dX1_tag_53 : decode cX1_tag 53 = .ok (.aload_n 0, 1) := by decide +kernel
theorem dX1_tag_54 : decode cX1_tag 54 = .ok (.getfield 43, 3) := by decide +kernel
theorem dX1_tag_57 : decode cX1_tag 57 = .ok (.ifCond .le 5, 3) := by decide +kernel
theorem dX1_tag_60 : decode cX1_tag 60 = .ok (.iconst 0, 1) := by decide +kernel
theorem dX1_tag_61 : decode cX1_tag 61 = .ok (.ireturn, 1) := by decide +kernel
theorem dX1_tag_62 : decode cX1_tag 62 = .ok (.aload_n 0, 1) := by decide +kernel
theorem dX1_tag_63 : decode cX1_tag 63 = .ok (.iload 5, 2) := by decide +kernel
theorem dX1_tag_65 : decode cX1_tag 65 = .ok (.iload_n 3, 1) := by decide +kernel
theorem dX1_tag_66 : decode cX1_tag 66 = .ok (.invokevirtual 55, 3) := by decide +kernel
theorem dX1_tag_69 : decode cX1_tag 69 = .ok (.istore 6, 2) := by decide +kernel
theorem dX1_tag_71 : decode cX1_tag 71 = .ok (.aload_n 0, 1) := by decide +kernel
theorem dX1_tag_72 : decode cX1_tag 72 = .ok (.getfield 13, 3) := by decide +kernel
theorem dX1_tag_75 : decode cX1_tag 75 = .ok (.iload 5, 2) := by decide +kernel
theorem dX1_tag_77 : decode cX1_tag 77 = .ok (.iload 4, 2) := by decide +kernel
theorem dX1_tag_79 : decode cX1_tag 79 = .ok (.ifCond .eq 17, 3) := by decide +kernel
theorem dX1_tag_82 : decode cX1_tag 82 = .ok (.aload_n 0, 1) := by decide +kernel
theorem dX1_tag_83 : decode cX1_tag 83 = .ok (.getfield 13, 3) := by decide +kernel
theorem dX1_tag_86 : decode cX1_tag 86 = .ok (.iload 5, 2) := by decide +kernel
theorem dX1_tag_88 : decode cX1_tag 88 = .ok (.iaload, 1) := by decide +kernel
theorem dX1_tag_89 : decode cX1_tag 89 = .ok (.iconst 1, 1) := by decide +kernel
theorem dX1_tag_90 : decode cX1_tag 90 = .ok (.iload_n 3, 1) := by decide +kernel
theorem dX1_tag_91 : decode cX1_tag 91 = .ok (.ishl, 1) := by decide +kernel
theorem dX1_tag_92 : decode cX1_tag 92 = .ok (.ior, 1) := by decide +kernel
theorem dX1_tag_93 : decode cX1_tag 93 = .ok (.goto 16, 3) := by decide +kernel
theorem dX1_tag_96 : decode cX1_tag 96 = .ok (.aload_n 0, 1) := by decide +kernel
theorem dX1_tag_97 : decode cX1_tag 97 = .ok (.getfield 13, 3) := by decide +kernel
theorem dX1_tag_100 : decode cX1_tag 100 = .ok (.iload 5, 2) := by decide +kernel
theorem dX1_tag_102 : decode cX1_tag 102 = .ok (.iaload, 1) := by decide +kernel
theorem dX1_tag_103 : decode cX1_tag 103 = .ok (.iconst 1, 1) := by decide +kernel
theorem dX1_tag_104 : decode cX1_tag 104 = .ok (.iload_n 3, 1) := by decide +kernel
theorem dX1_tag_105 : decode cX1_tag 105 = .ok (.ishl, 1) := by decide +kernel
theorem dX1_tag_106 : decode cX1_tag 106 = .ok (.iconst (-1), 1) := by decide +kernel
theorem dX1_tag_107 : decode cX1_tag 107 = .ok (.ixor, 1) := by decide +kernel
theorem dX1_tag_108 : decode cX1_tag 108 = .ok (.iand, 1) := by decide +kernel
theorem dX1_tag_109 : decode cX1_tag 109 = .ok (.iastore, 1) := by decide +kernel
theorem dX1_tag_110 : decode cX1_tag 110 = .ok (.iload 6, 2) := by decide +kernel
theorem dX1_tag_112 : decode cX1_tag 112 = .ok (.ireturn, 1) := by decide +kernel
set_option maxRecDepth 20000 in
theorem ggX1_cable_X1_isPort : GoodIn wsX1_cable wsX1_isPort := goodIn_r _ [8, 9, 10, 7, 11] (by decide +kernel) (by decide +kernel)
set_option maxRecDepth 20000 in
theorem gX1_cable_X1_isPort : GoodIn wsX1_cable (va_wsS RX1 51 yX1_isPort wsX1_isPort) := goodIn_app (goodIn_of _ (by decide +kernel)) ggX1_cable_X1_isPort
set_option maxRecDepth 20000 in
theorem ggX1_cable_X1_in : GoodIn wsX1_cable wsX1_in := goodIn_r _ [11] (by decide +kernel) (by decide +kernel)
set_option maxRecDepth 20000 in
theorem gX1_cable_X1_in : GoodIn wsX1_cable (va_wsS RX1 47 yX1_in wsX1_in) := goodIn_app (goodIn_of _ (by decide +kernel)) ggX1_cable_X1_in
theorem dX1_cable_0 : decode cX1_cable 0 = .ok (.bipush 6, 2) := by decide +kernel
theorem dX1_cable_2 : decode cX1_cable 2 = .ok (.iload_n 1, 1) := by decide +kernel
theorem dX1_cable_3 : decode cX1_cable 3 = .ok (.imul, 1) := by decide +kernel
theorem dX1_cable_4 : decode cX1_cable 4 = .ok (.iload_n 2, 1) := by decide +kernel
theorem dX1_cable_5 : decode cX1_cable 5 = .ok (.iadd, 1) := by decide +kernel
theorem dX1_cable_6 : decode cX1_cable 6 = .ok (.istore 6, 2) := by decide +kernel
theorem dX1_cable_8 : decode cX1_cable 8 = .ok (.bipush 6, 2) := by decide +kernel
theorem dX1_cable_10 : decode cX1_cable 10 = .ok (.iload_n 3, 1) := by decide +kernel
theorem dX1_cable_11 : decode cX1_cable 11 = .ok (.imul, 1) := by decide +kernel
theorem dX1_cable_12 : decode cX1_cable 12 = .ok (.iload 4, 2) := by decide +kernel
theorem dX1_cable_14 : decode cX1_cable 14 = .ok (.iadd, 1) := by decide +kernel
theorem dX1_cable_15 : decode cX1_cable 15 = .ok (.istore 7, 2) := by decide +kernel
theorem dX1_cable_17 : decode cX1_cable 17 = .ok (.aload_n 0, 1) := by decide +kernel
theorem dX1_cable_18 : decode cX1_cable 18 = .ok (.iload_n 1, 1) := by decide +kernel
theorem dX1_cable_19 : decode cX1_cable 19 = .ok (.iload_n 2, 1) := by decide +kernel
theorem dX1_cable_20 : decode cX1_cable 20 = .ok (.invokestatic 51, 3) := by decide +kernel
theorem dX1_cable_23 : decode cX1_cable 23 = .ok (.ifCond .eq 28, 3) := by decide +kernel
theorem dX1_cable_26 : decode cX1_cable 26 = .ok (.iload_n 3, 1) := by decide +kernel
theorem dX1_cable_27 : decode cX1_cable 27 = .ok (.iload 4, 2) := by decide +kernel
theorem dX1_cable_29 : decode cX1_cable 29 = .ok (.invokestatic 51, 3) := by decide +kernel
theorem dX1_cable_32 : decode cX1_cable 32 = .ok (.ifCond .eq 19, 3) := by decide +kernel
theorem dX1_cable_35 : decode cX1_cable 35 = .ok (.iload 5, 2) := by decide +kernel
theorem dX1_cable_37 : decode cX1_cable 37 = .ok (.iconst 1, 1) := by decide +kernel
theorem dX1_cable_38 : decode cX1_cable 38 = .ok (.bipush 20, 2) := by decide +kernel
theorem dX1_cable_40 : decode cX1_cable 40 = .ok (.invokestatic 47, 3) := by decide +kernel
theorem dX1_cable_43 : decode cX1_cable 43 = .ok (.ifCond .eq 8, 3) := by decide +kernel
theorem dX1_cable_46 : decode cX1_cable 46 = .ok (.iload_n 1, 1) := by decide +kernel
theorem dX1_cable_47 : decode cX1_cable 47 = .ok (.iload_n 3, 1) := by decide +kernel
theorem dX1_cable_48 : decode cX1_cable 48 = .ok (.if_icmp .ne 7, 3) := by decide +kernel
theorem dX1_cable_51 : decode cX1_cable 51 = .ok (.iconst 1, 1) := by decide +kernel
theorem dX1_cable_52 : decode cX1_cable 52 = .ok (.goto 30, 3) := by decide +kernel
theorem dX1_cable_55 : decode cX1_cable 55 = .ok (.aload_n 0, 1) := by decide +kernel
theorem dX1_cable_56 : decode cX1_cable 56 = .ok (.getfield 16, 3) := by decide +kernel
theorem dX1_cable_59 : decode cX1_cable 59 = .ok (.iload 6, 2) := by decide +kernel
theorem dX1_cable_61 : decode cX1_cable 61 = .ok (.iaload, 1) := by decide +kernel
theorem dX1_cable_62 : decode cX1_cable 62 = .ok (.iconst (-1), 1) := by decide +kernel
theorem dX1_cable_63 : decode cX1_cable 63 = .ok (.if_icmp .ne 14, 3) := by decide +kernel
theorem dX1_cable_66 : decode cX1_cable 66 = .ok (.aload_n 0, 1) := by decide +kernel
theorem dX1_cable_67 : decode cX1_cable 67 = .ok (.getfield 16, 3) := by decide +kernel
theorem dX1_cable_70 : decode cX1_cable 70 = .ok (.iload 7, 2) := by decide +kernel
theorem dX1_cable_72 : decode cX1_cable 72 = .ok (.iaload, 1) := by decide +kernel
theorem dX1_cable_73 : decode cX1_cable 73 = .ok (.iconst (-1), 1) := by decide +kernel
theorem dX1_cable_74 : decode cX1_cable 74 = .ok (.if_icmp .eq 7, 3) := by decide +kernel
theorem dX1_cable_77 : decode cX1_cable 77 = .ok (.iconst 2, 1) := by decide +kernel
theorem dX1_cable_78 : decode cX1_cable 78 = .ok (.goto 4, 3) := by decide +kernel
theorem dX1_cable_81 : decode cX1_cable 81 = .ok (.iconst 0, 1) := by decide +kernel
theorem dX1_cable_82 : decode cX1_cable 82 = .ok (.putfield 43, 3) := by decide +kernel
theorem dX1_cable_85 : decode cX1_cable 85 = .ok (.aload_n 0, 1) := by decide +kernel
theorem dX1_cable_86 : decode cX1_cable 86 = .ok (.getfield 43, 3) := by decide +kernel
theorem dX1_cable_89 : decode cX1_cable 89 = .ok (.ifCond .le 5, 3) := by decide +kernel
theorem dX1_cable_92 : decode cX1_cable 92 = .ok (.iconst 0, 1) := by decide +kernel
theorem dX1_cable_93 : decode cX1_cable 93 = .ok (.ireturn, 1) := by decide +kernel
theorem dX1_cable_94 : decode cX1_cable 94 = .ok (.aload_n 0, 1) := by decide +kernel
theorem dX1_cable_95 : decode cX1_cable 95 = .ok (.getfield 16, 3) := by decide +kernel
theorem dX1_cable_98 : decode cX1_cable 98 = .ok (.iload 6, 2) := by decide +kernel
theorem dX1_cable_100 : decode cX1_cable 100 = .ok (.iload 7, 2) := by decide +kernel
theorem dX1_cable_102 : decode cX1_cable 102 = .ok (.iastore, 1) := by decide +kernel
theorem dX1_cable_103 : decode cX1_cable 103 = .ok (.aload_n 0, 1) := by decide +kernel
theorem dX1_cable_104 : decode cX1_cable 104 = .ok (.getfield 16, 3) := by decide +kernel
theorem dX1_cable_107 : decode cX1_cable 107 = .ok (.iload 7, 2) := by decide +kernel
theorem dX1_cable_109 : decode cX1_cable 109 = .ok (.iload 6, 2) := by decide +kernel
theorem dX1_cable_111 : decode cX1_cable 111 = .ok (.iastore, 1) := by decide +kernel
theorem dX1_cable_112 : decode cX1_cable 112 = .ok (.aload_n 0, 1) := by decide +kernel
theorem dX1_cable_113 : decode cX1_cable 113 = .ok (.getfield 19, 3) := by decide +kernel
theorem dX1_cable_116 : decode cX1_cable 116 = .ok (.iload 6, 2) := by decide +kernel
theorem dX1_cable_118 : decode cX1_cable 118 = .ok (.iload 5, 2) := by decide +kernel
theorem dX1_cable_120 : decode cX1_cable 120 = .ok (.iastore, 1) := by decide +kernel
theorem dX1_cable_121 : decode cX1_cable 121 = .ok (.aload_n 0, 1) := by decide +kernel
theorem dX1_cable_122 : decode cX1_cable 122 = .ok (.getfield 19, 3) := by decide +kernel
theorem dX1_cable_125 : decode cX1_cable 125 = .ok (.iload 7, 2) := by decide +kernel
theorem dX1_cable_127 : decode cX1_cable 127 = .ok (.iload 5, 2) := by decide +kernel
theorem dX1_cable_129 : decode cX1_cable 129 = .ok (.iastore, 1) := by decide +kernel
theorem dX1_cable_130 : decode cX1_cable 130 = .ok (.aload_n 0, 1) := by decide +kernel
theorem dX1_cable_131 : decode cX1_cable 131 = .ok (.dup, 1) := by decide +kernel
theorem dX1_cable_132 : decode cX1_cable 132 = .ok (.getfield 61, 3) := by decide +kernel
theorem dX1_cable_135 : decode cX1_cable 135 = .ok (.iconst 1, 1) := by decide +kernel
theorem dX1_cable_136 : decode cX1_cable 136 = .ok (.iadd, 1) := by decide +kernel
theorem dX1_cable_137 : decode cX1_cable 137 = .ok (.putfield 61, 3) := by decide +kernel
theorem dX1_cable_140 : decode cX1_cable 140 = .ok (.aload_n 0, 1) := by decide +kernel
theorem dX1_cable_141 : decode cX1_cable 141 = .ok (.getfield 61, 3) := by decide +kernel
theorem dX1_cable_144 : decode cX1_cable 144 = .ok (.ireturn, 1) := by decide +kernel
set_option maxRecDepth 20000 in
theorem ggX1_hasCable_X1_isPort : GoodIn wsX1_hasCable wsX1_isPort := goodIn_r _ [6, 7, 8, 5, 9] (by decide +kernel) (by decide +kernel)
set_option maxRecDepth 20000 in
theorem gX1_hasCable_X1_isPort : GoodIn wsX1_hasCable (va_wsS RX1 51 yX1_isPort wsX1_isPort) := goodIn_app (goodIn_of _ (by decide +kernel)) ggX1_hasCable_X1_isPort
theorem dX1_hasCable_0 : decode cX1_hasCable 0 = .ok (.aload_n 0, 1) := by decide +kernel
theorem dX1_hasCable_1 : decode cX1_hasCable 1 = .ok (.iload_n 1, 1) := by decide +kernel
theorem dX1_hasCable_2 : decode cX1_hasCable 2 = .ok (.iload_n 2, 1) := by decide +kernel
theorem dX1_hasCable_3 : decode cX1_hasCable 3 = .ok (.invokestatic 51, 3) := by decide +kernel
theorem dX1_hasCable_6 : decode cX1_hasCable 6 = .ok (.ifCond .ne 7, 3) := by decide +kernel
theorem dX1_hasCable_9 : decode cX1_hasCable 9 = .ok (.iconst 1, 1) := by decide +kernel
theorem dX1_hasCable_10 : decode cX1_hasCable 10 = .ok (.goto 23, 3) := by decide +kernel
theorem dX1_hasCable_13 : decode cX1_hasCable 13 = .ok (.aload_n 0, 1) := by decide +kernel
theorem dX1_hasCable_14 : decode cX1_hasCable 14 = .ok (.getfield 16, 3) := by decide +kernel
theorem dX1_hasCable_17 : decode cX1_hasCable 17 = .ok (.bipush 6, 2) := by decide +kernel
theorem dX1_hasCable_19 : decode cX1_hasCable 19 = .ok (.iload_n 1, 1) := by decide +kernel
theorem dX1_hasCable_20 : decode cX1_hasCable 20 = .ok (.imul, 1) := by decide +kernel
theorem dX1_hasCable_21 : decode cX1_hasCable 21 = .ok (.iload_n 2, 1) := by decide +kernel
theorem dX1_hasCable_22 : decode cX1_hasCable 22 = .ok (.iadd, 1) := by decide +kernel
theorem dX1_hasCable_23 : decode cX1_hasCable 23 = .ok (.iaload, 1) := by decide +kernel
theorem dX1_hasCable_24 : decode cX1_hasCable 24 = .ok (.iconst (-1), 1) := by decide +kernel
theorem dX1_hasCable_25 : decode cX1_hasCable 25 = .ok (.if_icmp .ne 7, 3) := by decide +kernel
theorem dX1_hasCable_28 : decode cX1_hasCable 28 = .ok (.iconst 2, 1) := by decide +kernel
theorem dX1_hasCable_29 : decode cX1_hasCable 29 = .ok (.goto 4, 3) := by decide +kernel
theorem dX1_hasCable_32 : decode cX1_hasCable 32 = .ok (.iconst 0, 1) := by decide +kernel
theorem dX1_hasCable_33 : decode cX1_hasCable 33 = .ok (.putfield 43, 3) := by decide +kernel
theorem dX1_hasCable_36 : decode cX1_hasCable 36 = .ok (.aload_n 0, 1) := by decide +kernel
theorem dX1_hasCable_37 : decode cX1_hasCable 37 = .ok (.getfield 43, 3) := by decide +kernel
theorem dX1_hasCable_40 : decode cX1_hasCable 40 = .ok (.ifCond .ne 7, 3) := by decide +kernel
theorem dX1_hasCable_43 : decode cX1_hasCable 43 = .ok (.iconst 1, 1) := by decide +kernel
theorem dX1_hasCable_44 : decode cX1_hasCable 44 = .ok (.goto 4, 3) := by decide +kernel
theorem dX1_hasCable_47 : decode cX1_hasCable 47 = .ok (.iconst 0, 1) := by decide +kernel
theorem dX1_hasCable_48 : decode cX1_hasCable 48 = .ok (.ireturn, 1) := by decide +kernel
set_option maxRecDepth 20000 in
theorem ggX1_pull_X1_hasCable : GoodIn wsX1_pull wsX1_hasCable := goodIn_r _ [8, 1, 9, 10, 11, 7, 12, 13, 14, 15, 16, 17, 18, 19, 20, 21, 22, 23, 24, 25, 26, 27, 28, 29, 30] (by decide +kernel) (by decide +kernel)
set_option maxRecDepth 20000 in
theorem gX1_pull_X1_hasCable : GoodIn wsX1_pull (wsV RX1 64 RX1 yX1_hasCable wsX1_hasCable) := goodIn_app (goodIn_of _ (by decide +kernel)) ggX1_pull_X1_hasCable
theorem dX1_pull_0 : decode cX1_pull 0 = .ok (.aload_n 0, 1) := by decide +kernel
theorem dX1_pull_1 : decode cX1_pull 1 = .ok (.iload_n 1, 1) := by decide +kernel
theorem dX1_pull_2 : decode cX1_pull 2 = .ok (.iload_n 2, 1) := by decide +kernel
theorem dX1_pull_3 : decode cX1_pull 3 = .ok (.invokevirtual 64, 3) := by decide +kernel
theorem dX1_pull_6 : decode cX1_pull 6 = .ok (.ifCond .ne 5, 3) := by decide +kernel
theorem dX1_pull_9 : decode cX1_pull 9 = .ok (.iconst 0, 1) := by decide +kernel
theorem dX1_pull_10 : decode cX1_pull 10 = .ok (.ireturn, 1) := by decide +kernel
theorem dX1_pull_11 : decode cX1_pull 11 = .ok (.bipush 6, 2) := by decide +kernel
theorem dX1_pull_13 : decode cX1_pull 13 = .ok (.iload_n 1, 1) := by decide +kernel
theorem dX1_pull_14 : decode cX1_pull 14 = .ok (.imul, 1) := by decide +kernel
theorem dX1_pull_15 : decode cX1_pull 15 = .ok (.iload_n 2, 1) := by decide +kernel
theorem dX1_pull_16 : decode cX1_pull 16 = .ok (.iadd, 1) := by decide +kernel
theorem dX1_pull_17 : decode cX1_pull 17 = .ok (.istore_n 3, 1) := by decide +kernel
theorem dX1_pull_18 : decode cX1_pull 18 = .ok (.aload_n 0, 1) := by decide +kernel
theorem dX1_pull_19 : decode cX1_pull 19 = .ok (.getfield 16, 3) := by decide +kernel
theorem dX1_pull_22 : decode cX1_pull 22 = .ok (.aload_n 0, 1) := by decide +kernel
theorem dX1_pull_23 : decode cX1_pull 23 = .ok (.getfield 16, 3) := by decide +kernel
theorem dX1_pull_26 : decode cX1_pull 26 = .ok (.iload_n 3, 1) := by decide +kernel
theorem dX1_pull_27 : decode cX1_pull 27 = .ok (.iaload, 1) := by decide +kernel
theorem dX1_pull_28 : decode cX1_pull 28 = .ok (.iconst (-1), 1) := by decide +kernel
theorem dX1_pull_29 : decode cX1_pull 29 = .ok (.iastore, 1) := by decide +kernel
theorem dX1_pull_30 : decode cX1_pull 30 = .ok (.aload_n 0, 1) := by decide +kernel
theorem dX1_pull_31 : decode cX1_pull 31 = .ok (.getfield 16, 3) := by decide +kernel
theorem dX1_pull_34 : decode cX1_pull 34 = .ok (.iload_n 3, 1) := by decide +kernel
theorem dX1_pull_35 : decode cX1_pull 35 = .ok (.iconst (-1), 1) := by decide +kernel
theorem dX1_pull_36 : decode cX1_pull 36 = .ok (.iastore, 1) := by decide +kernel
theorem dX1_pull_37 : decode cX1_pull 37 = .ok (.aload_n 0, 1) := by decide +kernel
theorem dX1_pull_38 : decode cX1_pull 38 = .ok (.dup, 1) := by decide +kernel
theorem dX1_pull_39 : decode cX1_pull 39 = .ok (.getfield 61, 3) := by decide +kernel
theorem dX1_pull_42 : decode cX1_pull 42 = .ok (.iconst 1, 1) := by decide +kernel
theorem dX1_pull_43 : decode cX1_pull 43 = .ok (.isub, 1) := by decide +kernel
theorem dX1_pull_44 : decode cX1_pull 44 = .ok (.putfield 61, 3) := by decide +kernel
theorem dX1_pull_47 : decode cX1_pull 47 = .ok (.aload_n 0, 1) := by decide +kernel
theorem dX1_pull_48 : decode cX1_pull 48 = .ok (.getfield 19, 3) := by decide +kernel
theorem dX1_pull_51 : decode cX1_pull 51 = .ok (.iload_n 3, 1) := by decide +kernel
theorem dX1_pull_52 : decode cX1_pull 52 = .ok (.iaload, 1) := by decide +kernel
theorem dX1_pull_53 : decode cX1_pull 53 = .ok (.ireturn, 1) := by decide +kernel
theorem dX1_tree_0 : decode cX1_tree 0 = .ok (.aload_n 0, 1) := by decide +kernel
theorem dX1_tree_1 : decode cX1_tree 1 = .ok (.iconst 0, 1) := by decide +kernel
theorem dX1_tree_2 : decode cX1_tree 2 = .ok (.putfield 43, 3) := by decide +kernel
theorem dX1_tree_5 : decode cX1_tree 5 = .ok (.aload_n 0, 1) := by decide +kernel
theorem dX1_tree_6 : decode cX1_tree 6 = .ok (.getfield 67, 3) := by decide +kernel
theorem dX1_tree_9 : decode cX1_tree 9 = .ok (.istore_n 2, 1) := by decide +kernel
theorem dX1_tree_10 : decode cX1_tree 10 = .ok (.aload_n 0, 1) := by decide +kernel
theorem dX1_tree_11 : decode cX1_tree 11 = .ok (.iload_n 1, 1) := by decide +kernel
theorem dX1_tree_12 : decode cX1_tree 12 = .ok (.putfield 67, 3) := by decide +kernel
theorem dX1_tree_15 : decode cX1_tree 15 = .ok (.iload_n 2, 1) := by decide +kernel
theorem dX1_tree_16 : decode cX1_tree 16 = .ok (.ireturn, 1) := by decide +kernel
set_option maxRecDepth 20000 in
theorem ggX1_note_X1_isPort : GoodIn wsX1_note wsX1_isPort := goodIn_r _ [6, 7, 8, 5, 9] (by decide +kernel) (by decide +kernel)
set_option maxRecDepth 20000 in
theorem gX1_note_X1_isPort : GoodIn wsX1_note (va_wsS RX1 51 yX1_isPort wsX1_isPort) := goodIn_app (goodIn_of _ (by decide +kernel)) ggX1_note_X1_isPort
theorem dX1_note_0 : decode cX1_note 0 = .ok (.aload_n 0, 1) := by decide +kernel
theorem dX1_note_1 : decode cX1_note 1 = .ok (.iload_n 1, 1) := by decide +kernel
theorem dX1_note_2 : decode cX1_note 2 = .ok (.iload_n 2, 1) := by decide +kernel
theorem dX1_note_3 : decode cX1_note 3 = .ok (.invokestatic 51, 3) := by decide +kernel
theorem dX1_note_6 : decode cX1_note 6 = .ok (.ifCond .eq 17, 3) := by decide +kernel
theorem dX1_note_9 : decode cX1_note 9 = .ok (.iload_n 3, 1) := by decide +kernel
theorem dX1_note_10 : decode cX1_note 10 = .ok (.iconst (-1), 1) := by decide +kernel
theorem dX1_note_11 : decode cX1_note 11 = .ok (.if_icmp .eq 16, 3) := by decide +kernel
theorem dX1_note_14 : decode cX1_note 14 = .ok (.iload_n 3, 1) := by decide +kernel
theorem dX1_note_15 : decode cX1_note 15 = .ok (.iload 4, 2) := by decide +kernel
theorem dX1_note_17 : decode cX1_note 17 = .ok (.invokestatic 51, 3) := by decide +kernel
theorem dX1_note_20 : decode cX1_note 20 = .ok (.ifCond .ne 7, 3) := by decide +kernel
theorem dX1_note_23 : decode cX1_note 23 = .ok (.iconst 1, 1) := by decide +kernel
theorem dX1_note_24 : decode cX1_note 24 = .ok (.goto 4, 3) := by decide +kernel
theorem dX1_note_27 : decode cX1_note 27 = .ok (.iconst 0, 1) := by decide +kernel
theorem dX1_note_28 : decode cX1_note 28 = .ok (.putfield 43, 3) := by decide +kernel
theorem dX1_note_31 : decode cX1_note 31 = .ok (.aload_n 0, 1) := by decide +kernel
theorem dX1_note_32 : decode cX1_note 32 = .ok (.getfield 43, 3) := by decide +kernel
theorem dX1_note_35 : decode cX1_note 35 = .ok (.ifCond .le 5, 3) := by decide +kernel
theorem dX1_note_38 : decode cX1_note 38 = .ok (.iconst 0, 1) := by decide +kernel
theorem dX1_note_39 : decode cX1_note 39 = .ok (.ireturn, 1) := by decide +kernel
theorem dX1_note_40 : decode cX1_note 40 = .ok (.bipush 6, 2) := by decide +kernel
theorem dX1_note_42 : decode cX1_note 42 = .ok (.iload_n 1, 1) := by decide +kernel
theorem dX1_note_43 : decode cX1_note 43 = .ok (.imul, 1) := by decide +kernel
theorem dX1_note_44 : decode cX1_note 44 = .ok (.iload_n 2, 1) := by decide +kernel
theorem dX1_note_45 : decode cX1_note 45 = .ok (.iadd, 1) := by decide +kernel
theorem dX1_note_46 : decode cX1_note 46 = .ok (.istore 5, 2) := by decide +kernel
theorem dX1_note_48 : decode cX1_note 48 = .ok (.aload_n 0, 1) := by decide +kernel
theorem dX1_note_49 : decode cX1_note 49 = .ok (.getfield 22, 3) := by decide +kernel
theorem dX1_note_52 : decode cX1_note 52 = .ok (.iload 5, 2) := by decide +kernel
theorem dX1_note_54 : decode cX1_note 54 = .ok (.iaload, 1) := by decide +kernel
theorem dX1_note_55 : decode cX1_note 55 = .ok (.iconst (-1), 1) := by decide +kernel
theorem dX1_note_56 : decode cX1_note 56 = .ok (.if_icmp .eq 7, 3) := by decide +kernel
theorem dX1_note_59 : decode cX1_note 59 = .ok (.iconst 1, 1) := by decide +kernel
theorem dX1_note_60 : decode cX1_note 60 = .ok (.goto 4, 3) := by decide +kernel
theorem dX1_note_63 : decode cX1_note 63 = .ok (.iconst 0, 1) := by decide +kernel
theorem dX1_note_64 : decode cX1_note 64 = .ok (.istore 6, 2) := by decide +kernel
theorem dX1_note_66 : decode cX1_note 66 = .ok (.aload_n 0, 1) := by decide +kernel
theorem dX1_note_67 : decode cX1_note 67 = .ok (.getfield 22, 3) := by decide +kernel
theorem dX1_note_70 : decode cX1_note 70 = .ok (.iload 5, 2) := by decide +kernel
theorem dX1_note_72 : decode cX1_note 72 = .ok (.iload_n 3, 1) := by decide +kernel
theorem dX1_note_73 : decode cX1_note 73 = .ok (.iconst (-1), 1) := by decide +kernel
theorem dX1_note_74 : decode cX1_note 74 = .ok (.if_icmp .ne 7, 3) := by decide +kernel
theorem dX1_note_77 : decode cX1_note 77 = .ok (.iconst (-1), 1) := by decide +kernel
theorem dX1_note_78 : decode cX1_note 78 = .ok (.goto 10, 3) := by decide +kernel
theorem dX1_note_81 : decode cX1_note 81 = .ok (.bipush 6, 2) := by decide +kernel
theorem dX1_note_83 : decode cX1_note 83 = .ok (.iload_n 3, 1) := by decide +kernel
theorem dX1_note_84 : decode cX1_note 84 = .ok (.imul, 1) := by decide +kernel
theorem dX1_note_85 : decode cX1_note 85 = .ok (.iload 4, 2) := by decide +kernel
theorem dX1_note_87 : decode cX1_note 87 = .ok (.iadd, 1) := by decide +kernel
theorem dX1_note_88 : decode cX1_note 88 = .ok (.iastore, 1) := by decide +kernel
theorem dX1_note_89 : decode cX1_note 89 = .ok (.iload 6, 2) := by decide +kernel
theorem dX1_note_91 : decode cX1_note 91 = .ok (.ireturn, 1) := by decide +kernel
theorem dX1_layTree_0 : decode cX1_layTree 0 = .ok (.iconst 0, 1) := by decide +kernel
theorem dX1_layTree_1 : decode cX1_layTree 1 = .ok (.istore_n 1, 1) := by decide +kernel
theorem dX1_layTree_2 : decode cX1_layTree 2 = .ok (.iload_n 1, 1) := by decide +kernel
theorem dX1_layTree_3 : decode cX1_layTree 3 = .ok (.bipush 6, 2) := by decide +kernel
theorem dX1_layTree_5 : decode cX1_layTree 5 = .ok (.if_icmp .ge 16, 3) := by decide +kernel
theorem dX1_layTree_8 : decode cX1_layTree 8 = .ok (.aload_n 0, 1) := by decide +kernel
theorem dX1_layTree_9 : decode cX1_layTree 9 = .ok (.getfield 25, 3) := by decide +kernel
theorem dX1_layTree_12 : decode cX1_layTree 12 = .ok (.iload_n 1, 1) := by decide +kernel
theorem dX1_layTree_13 : decode cX1_layTree 13 = .ok (.iload_n 1, 1) := by decide +kernel
theorem dX1_layTree_14 : decode cX1_layTree 14 = .ok (.iastore, 1) := by decide +kernel
theorem dX1_layTree_15 : decode cX1_layTree 15 = .ok (.iinc 1 1, 3) := by decide +kernel
theorem dX1_layTree_18 : decode cX1_layTree 18 = .ok (.goto (-16), 3) := by decide +kernel
theorem dX1_layTree_21 : decode cX1_layTree 21 = .ok (.iconst 0, 1) := by decide +kernel
theorem dX1_layTree_22 : decode cX1_layTree 22 = .ok (.istore_n 1, 1) := by decide +kernel
theorem dX1_layTree_23 : decode cX1_layTree 23 = .ok (.iload_n 1, 1) := by decide +kernel
theorem dX1_layTree_24 : decode cX1_layTree 24 = .ok (.sipush 216, 3) := by decide +kernel
theorem dX1_layTree_27 : decode cX1_layTree 27 = .ok (.if_icmp .ge 86, 3) := by decide +kernel
theorem dX1_layTree_30 : decode cX1_layTree 30 = .ok (.iload_n 1, 1) := by decide +kernel
theorem dX1_layTree_31 : decode cX1_layTree 31 = .ok (.bipush 36, 2) := by decide +kernel
theorem dX1_layTree_33 : decode cX1_layTree 33 = .ok (.irem, 1) := by decide +kernel
theorem dX1_layTree_34 : decode cX1_layTree 34 = .ok (.istore_n 2, 1) := by decide +kernel
theorem dX1_layTree_35 : decode cX1_layTree 35 = .ok (.aload_n 0, 1) := by decide +kernel
theorem dX1_layTree_36 : decode cX1_layTree 36 = .ok (.getfield 16, 3) := by decide +kernel
theorem dX1_layTree_39 : decode cX1_layTree 39 = .ok (.iload_n 2, 1) := by decide +kernel
theorem dX1_layTree_40 : decode cX1_layTree 40 = .ok (.iaload, 1) := by decide +kernel
theorem dX1_layTree_41 : decode cX1_layTree 41 = .ok (.iconst (-1), 1) := by decide +kernel
theorem dX1_layTree_42 : decode cX1_layTree 42 = .ok (.if_icmp .ne 7, 3) := by decide +kernel
theorem dX1_layTree_45 : decode cX1_layTree 45 = .ok (.iload_n 2, 1) := by decide +kernel
theorem dX1_layTree_46 : decode cX1_layTree 46 = .ok (.goto 9, 3) := by decide +kernel
theorem dX1_layTree_49 : decode cX1_layTree 49 = .ok (.aload_n 0, 1) := by decide +kernel
theorem dX1_layTree_50 : decode cX1_layTree 50 = .ok (.getfield 16, 3) := by decide +kernel
theorem dX1_layTree_53 : decode cX1_layTree 53 = .ok (.iload_n 2, 1) := by decide +kernel
theorem dX1_layTree_54 : decode cX1_layTree 54 = .ok (.iaload, 1) := by decide +kernel
theorem dX1_layTree_55 : decode cX1_layTree 55 = .ok (.istore_n 3, 1) := by decide +kernel
theorem dX1_layTree_56 : decode cX1_layTree 56 = .ok (.aload_n 0, 1) := by decide +kernel
theorem dX1_layTree_57 : decode cX1_layTree 57 = .ok (.getfield 25, 3) := by decide +kernel
theorem dX1_layTree_60 : decode cX1_layTree 60 = .ok (.iload_n 2, 1) := by decide +kernel
theorem dX1_layTree_61 : decode cX1_layTree 61 = .ok (.bipush 6, 2) := by decide +kernel
theorem dX1_layTree_63 : decode cX1_layTree 63 = .ok (.idiv, 1) := by decide +kernel
theorem dX1_layTree_64 : decode cX1_layTree 64 = .ok (.aload_n 0, 1) := by decide +kernel
theorem dX1_layTree_65 : decode cX1_layTree 65 = .ok (.getfield 25, 3) := by decide +kernel
theorem dX1_layTree_68 : decode cX1_layTree 68 = .ok (.iload_n 3, 1) := by decide +kernel
theorem dX1_layTree_69 : decode cX1_layTree 69 = .ok (.bipush 6, 2) := by decide +kernel
theorem dX1_layTree_71 : decode cX1_layTree 71 = .ok (.idiv, 1) := by decide +kernel
theorem dX1_layTree_72 : decode cX1_layTree 72 = .ok (.iaload, 1) := by decide +kernel
theorem dX1_layTree_73 : decode cX1_layTree 73 = .ok (.aload_n 0, 1) := by decide +kernel
theorem dX1_layTree_74 : decode cX1_layTree 74 = .ok (.getfield 25, 3) := by decide +kernel
theorem dX1_layTree_77 : decode cX1_layTree 77 = .ok (.iload_n 2, 1) := by decide +kernel
theorem dX1_layTree_78 : decode cX1_layTree 78 = .ok (.bipush 6, 2) := by decide +kernel
theorem dX1_layTree_80 : decode cX1_layTree 80 = .ok (.idiv, 1) := by decide +kernel
theorem dX1_layTree_81 : decode cX1_layTree 81 = .ok (.iaload, 1) := by decide +kernel
theorem dX1_layTree_82 : decode cX1_layTree 82 = .ok (.if_icmp .ge 15, 3) := by decide +kernel
theorem dX1_layTree_85 : decode cX1_layTree 85 = .ok (.aload_n 0, 1) := by decide +kernel
theorem dX1_layTree_86 : decode cX1_layTree 86 = .ok (.getfield 25, 3) := by decide +kernel
theorem dX1_layTree_89 : decode cX1_layTree 89 = .ok (.iload_n 3, 1) := by decide +kernel
theorem dX1_layTree_90 : decode cX1_layTree 90 = .ok (.bipush 6, 2) := by decide +kernel
theorem dX1_layTree_92 : decode cX1_layTree 92 = .ok (.idiv, 1) := by decide +kernel
theorem dX1_layTree_93 : decode cX1_layTree 93 = .ok (.iaload, 1) := by decide +kernel
theorem dX1_layTree_94 : decode cX1_layTree 94 = .ok (.goto 12, 3) := by decide +kernel
theorem dX1_layTree_97 : decode cX1_layTree 97 = .ok (.aload_n 0, 1) := by decide +kernel
theorem dX1_layTree_98 : decode cX1_layTree 98 = .ok (.getfield 25, 3) := by decide +kernel
theorem dX1_layTree_101 : decode cX1_layTree 101 = .ok (.iload_n 2, 1) := by decide +kernel
theorem dX1_layTree_102 : decode cX1_layTree 102 = .ok (.bipush 6, 2) := by decide +kernel
theorem dX1_layTree_104 : decode cX1_layTree 104 = .ok (.idiv, 1) := by decide +kernel
theorem dX1_layTree_105 : decode cX1_layTree 105 = .ok (.iaload, 1) := by decide +kernel
theorem dX1_layTree_106 : decode cX1_layTree 106 = .ok (.iastore, 1) := by decide +kernel
theorem dX1_layTree_107 : decode cX1_layTree 107 = .ok (.iinc 1 1, 3) := by decide +kernel
theorem dX1_layTree_110 : decode cX1_layTree 110 = .ok (.goto (-87), 3) := by decide +kernel
theorem dX1_layTree_113 : decode cX1_layTree 113 = .ok (.iconst 0, 1) := by decide +kernel
theorem dX1_layTree_114 : decode cX1_layTree 114 = .ok (.istore_n 1, 1) := by decide +kernel
theorem dX1_layTree_115 : decode cX1_layTree 115 = .ok (.iload_n 1, 1) := by decide +kernel
theorem dX1_layTree_116 : decode cX1_layTree 116 = .ok (.bipush 6, 2) := by decide +kernel
theorem dX1_layTree_118 : decode cX1_layTree 118 = .ok (.if_icmp .ge 31, 3) := by decide +kernel
theorem dX1_layTree_121 : decode cX1_layTree 121 = .ok (.aload_n 0, 1) := by decide +kernel
theorem dX1_layTree_122 : decode cX1_layTree 122 = .ok (.getfield 31, 3) := by decide +kernel
theorem dX1_layTree_125 : decode cX1_layTree 125 = .ok (.iload_n 1, 1) := by decide +kernel
theorem dX1_layTree_126 : decode cX1_layTree 126 = .ok (.aload_n 0, 1) := by decide +kernel
theorem dX1_layTree_127 : decode cX1_layTree 127 = .ok (.getfield 25, 3) := by decide +kernel
theorem dX1_layTree_130 : decode cX1_layTree 130 = .ok (.iload_n 1, 1) := by decide +kernel
theorem dX1_layTree_131 : decode cX1_layTree 131 = .ok (.iaload, 1) := by decide +kernel
theorem dX1_layTree_132 : decode cX1_layTree 132 = .ok (.iload_n 1, 1) := by decide +kernel
theorem dX1_layTree_133 : decode cX1_layTree 133 = .ok (.if_icmp .ne 7, 3) := by decide +kernel
theorem dX1_layTree_136 : decode cX1_layTree 136 = .ok (.iconst 0, 1) := by decide +kernel
theorem dX1_layTree_137 : decode cX1_layTree 137 = .ok (.goto 5, 3) := by decide +kernel
theorem dX1_layTree_140 : decode cX1_layTree 140 = .ok (.ldc 71, 2) := by decide +kernel
theorem dX1_layTree_142 : decode cX1_layTree 142 = .ok (.iastore, 1) := by decide +kernel
theorem dX1_layTree_143 : decode cX1_layTree 143 = .ok (.iinc 1 1, 3) := by decide +kernel
theorem dX1_layTree_146 : decode cX1_layTree 146 = .ok (.goto (-31), 3) := by decide +kernel
theorem dX1_layTree_149 : decode cX1_layTree 149 = .ok (.iconst 0, 1) := by decide +kernel
theorem dX1_layTree_150 : decode cX1_layTree 150 = .ok (.istore_n 1, 1) := by decide +kernel
theorem dX1_layTree_151 : decode cX1_layTree 151 = .ok (.iload_n 1, 1) := by decide +kernel
theorem dX1_layTree_152 : decode cX1_layTree 152 = .ok (.sipush 216, 3) := by decide +kernel
theorem dX1_layTree_155 : decode cX1_layTree 155 = .ok (.if_icmp .ge 86, 3) := by decide +kernel
theorem dX1_layTree_158 : decode cX1_layTree 158 = .ok (.iload_n 1, 1) := by decide +kernel
theorem dX1_layTree_159 : decode cX1_layTree 159 = .ok (.bipush 36, 2) := by decide +kernel
theorem dX1_layTree_161 : decode cX1_layTree 161 = .ok (.irem, 1) := by decide +kernel
theorem dX1_layTree_162 : decode cX1_layTree 162 = .ok (.istore_n 2, 1) := by decide +kernel
theorem dX1_layTree_163 : decode cX1_layTree 163 = .ok (.aload_n 0, 1) := by decide +kernel
theorem dX1_layTree_164 : decode cX1_layTree 164 = .ok (.getfield 16, 3) := by decide +kernel
theorem dX1_layTree_167 : decode cX1_layTree 167 = .ok (.iload_n 2, 1) := by decide +kernel
theorem dX1_layTree_168 : decode cX1_layTree 168 = .ok (.iaload, 1) := by decide +kernel
theorem dX1_layTree_169 : decode cX1_layTree 169 = .ok (.iconst (-1), 1) := by decide +kernel
theorem dX1_layTree_170 : decode cX1_layTree 170 = .ok (.if_icmp .ne 8, 3) := by decide +kernel
theorem dX1_layTree_173 : decode cX1_layTree 173 = .ok (.ldc 71, 2) := by decide +kernel
theorem dX1_layTree_175 : decode cX1_layTree 175 = .ok (.goto 24, 3) := by decide +kernel
theorem dX1_layTree_178 : decode cX1_layTree 178 = .ok (.aload_n 0, 1) := by decide +kernel
theorem dX1_layTree_179 : decode cX1_layTree 179 = .ok (.getfield 19, 3) := by decide +kernel
theorem dX1_layTree_182 : decode cX1_layTree 182 = .ok (.iload_n 2, 1) := by decide +kernel
theorem dX1_layTree_183 : decode cX1_layTree 183 = .ok (.iaload, 1) := by decide +kernel
theorem dX1_layTree_184 : decode cX1_layTree 184 = .ok (.aload_n 0, 1) := by decide +kernel
theorem dX1_layTree_185 : decode cX1_layTree 185 = .ok (.getfield 31, 3) := by decide +kernel
theorem dX1_layTree_188 : decode cX1_layTree 188 = .ok (.aload_n 0, 1) := by decide +kernel
theorem dX1_layTree_189 : decode cX1_layTree 189 = .ok (.getfield 16, 3) := by decide +kernel
theorem dX1_layTree_192 : decode cX1_layTree 192 = .ok (.iload_n 2, 1) := by decide +kernel
theorem dX1_layTree_193 : decode cX1_layTree 193 = .ok (.iaload, 1) := by decide +kernel
theorem dX1_layTree_194 : decode cX1_layTree 194 = .ok (.bipush 6, 2) := by decide +kernel
theorem dX1_layTree_196 : decode cX1_layTree 196 = .ok (.idiv, 1) := by decide +kernel
theorem dX1_layTree_197 : decode cX1_layTree 197 = .ok (.iaload, 1) := by decide +kernel
theorem dX1_layTree_198 : decode cX1_layTree 198 = .ok (.iadd, 1) := by decide +kernel
theorem dX1_layTree_199 : decode cX1_layTree 199 = .ok (.istore_n 3, 1) := by decide +kernel
theorem dX1_layTree_200 : decode cX1_layTree 200 = .ok (.aload_n 0, 1) := by decide +kernel
theorem dX1_layTree_201 : decode cX1_layTree 201 = .ok (.getfield 31, 3) := by decide +kernel
theorem dX1_layTree_204 : decode cX1_layTree 204 = .ok (.iload_n 2, 1) := by decide +kernel
theorem dX1_layTree_205 : decode cX1_layTree 205 = .ok (.bipush 6, 2) := by decide +kernel
theorem dX1_layTree_207 : decode cX1_layTree 207 = .ok (.idiv, 1) := by decide +kernel
theorem dX1_layTree_208 : decode cX1_layTree 208 = .ok (.iload_n 3, 1) := by decide +kernel
theorem dX1_layTree_209 : decode cX1_layTree 209 = .ok (.aload_n 0, 1) := by decide +kernel
theorem dX1_layTree_210 : decode cX1_layTree 210 = .ok (.getfield 31, 3) := by decide +kernel
theorem dX1_layTree_213 : decode cX1_layTree 213 = .ok (.iload_n 2, 1) := by decide +kernel
theorem dX1_layTree_214 : decode cX1_layTree 214 = .ok (.bipush 6, 2) := by decide +kernel
theorem dX1_layTree_216 : decode cX1_layTree 216 = .ok (.idiv, 1) := by decide +kernel
theorem dX1_layTree_217 : decode cX1_layTree 217 = .ok (.iaload, 1) := by decide +kernel
theorem dX1_layTree_218 : decode cX1_layTree 218 = .ok (.if_icmp .ge 7, 3) := by decide +kernel
theorem dX1_layTree_221 : decode cX1_layTree 221 = .ok (.iload_n 3, 1) := by decide +kernel
theorem dX1_layTree_222 : decode cX1_layTree 222 = .ok (.goto 12, 3) := by decide +kernel
theorem dX1_layTree_225 : decode cX1_layTree 225 = .ok (.aload_n 0, 1) := by decide +kernel
theorem dX1_layTree_226 : decode cX1_layTree 226 = .ok (.getfield 31, 3) := by decide +kernel
theorem dX1_layTree_229 : decode cX1_layTree 229 = .ok (.iload_n 2, 1) := by decide +kernel
theorem dX1_layTree_230 : decode cX1_layTree 230 = .ok (.bipush 6, 2) := by decide +kernel
theorem dX1_layTree_232 : decode cX1_layTree 232 = .ok (.idiv, 1) := by decide +kernel
theorem dX1_layTree_233 : decode cX1_layTree 233 = .ok (.iaload, 1) := by decide +kernel
theorem dX1_layTree_234 : decode cX1_layTree 234 = .ok (.iastore, 1) := by decide +kernel
theorem dX1_layTree_235 : decode cX1_layTree 235 = .ok (.iinc 1 1, 3) := by decide +kernel
theorem dX1_layTree_238 : decode cX1_layTree 238 = .ok (.goto (-87), 3) := by decide +kernel
theorem dX1_layTree_241 : decode cX1_layTree 241 = .ok (.iconst 0, 1) := by decide +kernel
theorem dX1_layTree_242 : decode cX1_layTree 242 = .ok (.istore_n 1, 1) := by decide +kernel
theorem dX1_layTree_243 : decode cX1_layTree 243 = .ok (.iload_n 1, 1) := by decide +kernel
theorem dX1_layTree_244 : decode cX1_layTree 244 = .ok (.bipush 6, 2) := by decide +kernel
theorem dX1_layTree_246 : decode cX1_layTree 246 = .ok (.if_icmp .ge 162, 3) := by decide +kernel
theorem dX1_layTree_249 : decode cX1_layTree 249 = .ok (.aload_n 0, 1) := by decide +kernel
theorem dX1_layTree_250 : decode cX1_layTree 250 = .ok (.getfield 28, 3) := by decide +kernel
theorem dX1_layTree_253 : decode cX1_layTree 253 = .ok (.iload_n 1, 1) := by decide +kernel
theorem dX1_layTree_254 : decode cX1_layTree 254 = .ok (.iconst (-1), 1) := by decide +kernel
theorem dX1_layTree_255 : decode cX1_layTree 255 = .ok (.iastore, 1) := by decide +kernel
theorem dX1_layTree_256 : decode cX1_layTree 256 = .ok (.bipush 6, 2) := by decide +kernel
theorem dX1_layTree_258 : decode cX1_layTree 258 = .ok (.iload_n 1, 1) := by decide +kernel
theorem dX1_layTree_259 : decode cX1_layTree 259 = .ok (.imul, 1) := by decide +kernel
theorem dX1_layTree_260 : decode cX1_layTree 260 = .ok (.istore_n 2, 1) := by decide +kernel
theorem dX1_layTree_261 : decode cX1_layTree 261 = .ok (.iload_n 2, 1) := by decide +kernel
theorem dX1_layTree_262 : decode cX1_layTree 262 = .ok (.bipush 6, 2) := by decide +kernel
theorem dX1_layTree_264 : decode cX1_layTree 264 = .ok (.iload_n 1, 1) := by decide +kernel
theorem dX1_layTree_265 : decode cX1_layTree 265 = .ok (.imul, 1) := by decide +kernel
theorem dX1_layTree_266 : decode cX1_layTree 266 = .ok (.bipush 6, 2) := by decide +kernel
theorem dX1_layTree_268 : decode cX1_layTree 268 = .ok (.iadd, 1) := by decide +kernel
theorem dX1_layTree_269 : decode cX1_layTree 269 = .ok (.if_icmp .ge 133, 3) := by decide +kernel
theorem dX1_layTree_272 : decode cX1_layTree 272 = .ok (.aload_n 0, 1) := by decide +kernel
theorem dX1_layTree_273 : decode cX1_layTree 273 = .ok (.getfield 25, 3) := by decide +kernel
theorem dX1_layTree_276 : decode cX1_layTree 276 = .ok (.iload_n 1, 1) := by decide +kernel
theorem dX1_layTree_277 : decode cX1_layTree 277 = .ok (.iaload, 1) := by decide +kernel
theorem dX1_layTree_278 : decode cX1_layTree 278 = .ok (.iload_n 1, 1) := by decide +kernel
theorem dX1_layTree_279 : decode cX1_layTree 279 = .ok (.if_icmp .eq 123, 3) := by decide +kernel
theorem dX1_layTree_282 : decode cX1_layTree 282 = .ok (.aload_n 0, 1) := by decide +kernel
theorem dX1_layTree_283 : decode cX1_layTree 283 = .ok (.getfield 16, 3) := by decide +kernel
theorem dX1_layTree_286 : decode cX1_layTree 286 = .ok (.iload_n 2, 1) := by decide +kernel
theorem dX1_layTree_287 : decode cX1_layTree 287 = .ok (.iaload, 1) := by decide +kernel
theorem dX1_layTree_288 : decode cX1_layTree 288 = .ok (.iconst (-1), 1) := by decide +kernel
theorem dX1_layTree_289 : decode cX1_layTree 289 = .ok (.if_icmp .eq 37, 3) := by decide +kernel
theorem dX1_layTree_292 : decode cX1_layTree 292 = .ok (.aload_n 0, 1) := by decide +kernel
theorem dX1_layTree_293 : decode cX1_layTree 293 = .ok (.getfield 19, 3) := by decide +kernel
theorem dX1_layTree_296 : decode cX1_layTree 296 = .ok (.iload_n 2, 1) := by decide +kernel
theorem dX1_layTree_297 : decode cX1_layTree 297 = .ok (.iaload, 1) := by decide +kernel
theorem dX1_layTree_298 : decode cX1_layTree 298 = .ok (.aload_n 0, 1) := by decide +kernel
theorem dX1_layTree_299 : decode cX1_layTree 299 = .ok (.getfield 31, 3) := by decide +kernel
theorem dX1_layTree_302 : decode cX1_layTree 302 = .ok (.aload_n 0, 1) := by decide +kernel
theorem dX1_layTree_303 : decode cX1_layTree 303 = .ok (.getfield 16, 3) := by decide +kernel
theorem dX1_layTree_306 : decode cX1_layTree 306 = .ok (.iload_n 2, 1) := by decide +kernel
theorem dX1_layTree_307 : decode cX1_layTree 307 = .ok (.iaload, 1) := by decide +kernel
theorem dX1_layTree_308 : decode cX1_layTree 308 = .ok (.bipush 6, 2) := by decide +kernel
theorem dX1_layTree_310 : decode cX1_layTree 310 = .ok (.idiv, 1) := by decide +kernel
theorem dX1_layTree_311 : decode cX1_layTree 311 = .ok (.iaload, 1) := by decide +kernel
theorem dX1_layTree_312 : decode cX1_layTree 312 = .ok (.iadd, 1) := by decide +kernel
theorem dX1_layTree_313 : decode cX1_layTree 313 = .ok (.aload_n 0, 1) := by decide +kernel
theorem dX1_layTree_314 : decode cX1_layTree 314 = .ok (.getfield 31, 3) := by decide +kernel
theorem dX1_layTree_317 : decode cX1_layTree 317 = .ok (.iload_n 1, 1) := by decide +kernel
theorem dX1_layTree_318 : decode cX1_layTree 318 = .ok (.iaload, 1) := by decide +kernel
theorem dX1_layTree_319 : decode cX1_layTree 319 = .ok (.if_icmp .ne 7, 3) := by decide +kernel
theorem dX1_layTree_322 : decode cX1_layTree 322 = .ok (.iconst 1, 1) := by decide +kernel
theorem dX1_layTree_323 : decode cX1_layTree 323 = .ok (.goto 4, 3) := by decide +kernel
theorem dX1_layTree_326 : decode cX1_layTree 326 = .ok (.iconst 0, 1) := by decide +kernel
theorem dX1_layTree_327 : decode cX1_layTree 327 = .ok (.istore_n 3, 1) := by decide +kernel
theorem dX1_layTree_328 : decode cX1_layTree 328 = .ok (.iload_n 3, 1) := by decide +kernel
theorem dX1_layTree_329 : decode cX1_layTree 329 = .ok (.ifCond .eq 43, 3) := by decide +kernel
theorem dX1_layTree_332 : decode cX1_layTree 332 = .ok (.aload_n 0, 1) := by decide +kernel
theorem dX1_layTree_333 : decode cX1_layTree 333 = .ok (.getfield 28, 3) := by decide +kernel
theorem dX1_layTree_336 : decode cX1_layTree 336 = .ok (.iload_n 1, 1) := by decide +kernel
theorem dX1_layTree_337 : decode cX1_layTree 337 = .ok (.iaload, 1) := by decide +kernel
theorem dX1_layTree_338 : decode cX1_layTree 338 = .ok (.iconst (-1), 1) := by decide +kernel
theorem dX1_layTree_339 : decode cX1_layTree 339 = .ok (.if_icmp .eq 29, 3) := by decide +kernel
theorem dX1_layTree_342 : decode cX1_layTree 342 = .ok (.aload_n 0, 1) := by decide +kernel
theorem dX1_layTree_343 : decode cX1_layTree 343 = .ok (.getfield 16, 3) := by decide +kernel
theorem dX1_layTree_346 : decode cX1_layTree 346 = .ok (.iload_n 2, 1) := by decide +kernel
theorem dX1_layTree_347 : decode cX1_layTree 347 = .ok (.iaload, 1) := by decide +kernel
theorem dX1_layTree_348 : decode cX1_layTree 348 = .ok (.bipush 6, 2) := by decide +kernel
theorem dX1_layTree_350 : decode cX1_layTree 350 = .ok (.idiv, 1) := by decide +kernel
theorem dX1_layTree_351 : decode cX1_layTree 351 = .ok (.aload_n 0, 1) := by decide +kernel
theorem dX1_layTree_352 : decode cX1_layTree 352 = .ok (.getfield 16, 3) := by decide +kernel
theorem dX1_layTree_355 : decode cX1_layTree 355 = .ok (.aload_n 0, 1) := by decide +kernel
theorem dX1_layTree_356 : decode cX1_layTree 356 = .ok (.getfield 28, 3) := by decide +kernel
theorem dX1_layTree_359 : decode cX1_layTree 359 = .ok (.iload_n 1, 1) := by decide +kernel
theorem dX1_layTree_360 : decode cX1_layTree 360 = .ok (.iaload, 1) := by decide +kernel
theorem dX1_layTree_361 : decode cX1_layTree 361 = .ok (.iaload, 1) := by decide +kernel
theorem dX1_layTree_362 : decode cX1_layTree 362 = .ok (.bipush 6, 2) := by decide +kernel
theorem dX1_layTree_364 : decode cX1_layTree 364 = .ok (.idiv, 1) := by decide +kernel
theorem dX1_layTree_365 : decode cX1_layTree 365 = .ok (.if_icmp .ge 7, 3) := by decide +kernel
theorem dX1_layTree_368 : decode cX1_layTree 368 = .ok (.iconst 1, 1) := by decide +kernel
theorem dX1_layTree_369 : decode cX1_layTree 369 = .ok (.goto 4, 3) := by decide +kernel
theorem dX1_layTree_372 : decode cX1_layTree 372 = .ok (.iconst 0, 1) := by decide +kernel
theorem dX1_layTree_373 : decode cX1_layTree 373 = .ok (.istore 4, 2) := by decide +kernel
theorem dX1_layTree_375 : decode cX1_layTree 375 = .ok (.aload_n 0, 1) := by decide +kernel
theorem dX1_layTree_376 : decode cX1_layTree 376 = .ok (.getfield 28, 3) := by decide +kernel
theorem dX1_layTree_379 : decode cX1_layTree 379 = .ok (.iload_n 1, 1) := by decide +kernel
theorem dX1_layTree_380 : decode cX1_layTree 380 = .ok (.iload 4, 2) := by decide +kernel
theorem dX1_layTree_382 : decode cX1_layTree 382 = .ok (.ifCond .eq 7, 3) := by decide +kernel
theorem dX1_layTree_385 : decode cX1_layTree 385 = .ok (.iload_n 2, 1) := by decide +kernel
theorem dX1_layTree_386 : decode cX1_layTree 386 = .ok (.goto 9, 3) := by decide +kernel
theorem dX1_layTree_389 : decode cX1_layTree 389 = .ok (.aload_n 0, 1) := by decide +kernel
theorem dX1_layTree_390 : decode cX1_layTree 390 = .ok (.getfield 28, 3) := by decide +kernel
theorem dX1_layTree_393 : decode cX1_layTree 393 = .ok (.iload_n 1, 1) := by decide +kernel
theorem dX1_layTree_394 : decode cX1_layTree 394 = .ok (.iaload, 1) := by decide +kernel
theorem dX1_layTree_395 : decode cX1_layTree 395 = .ok (.iastore, 1) := by decide +kernel
theorem dX1_layTree_396 : decode cX1_layTree 396 = .ok (.iinc 2 1, 3) := by decide +kernel
theorem dX1_layTree_399 : decode cX1_layTree 399 = .ok (.goto (-138), 3) := by decide +kernel
theorem dX1_layTree_402 : decode cX1_layTree 402 = .ok (.iinc 1 1, 3) := by decide +kernel
theorem dX1_layTree_405 : decode cX1_layTree 405 = .ok (.goto (-162), 3) := by decide +kernel
theorem dX1_layTree_408 : decode cX1_layTree 408 = .ok (.return_, 1) := by decide +kernel
theorem dX1_isLive_0 : decode cX1_isLive 0 = .ok (.aload_n 0, 1) := by decide +kernel
theorem dX1_isLive_1 : decode cX1_isLive 1 = .ok (.getfield 16, 3) := by decide +kernel
theorem dX1_isLive_4 : decode cX1_isLive 4 = .ok (.iload_n 1, 1) := by decide +kernel
theorem dX1_isLive_5 : decode cX1_isLive 5 = .ok (.iaload, 1) := by decide +kernel
theorem dX1_isLive_6 : decode cX1_isLive 6 = .ok (.iconst (-1), 1) := by decide +kernel
theorem dX1_isLive_7 : decode cX1_isLive 7 = .ok (.if_icmp .eq 50, 3) := by decide +kernel
theorem dX1_isLive_10 : decode cX1_isLive 10 = .ok (.aload_n 0, 1) := by decide +kernel
theorem dX1_isLive_11 : decode cX1_isLive 11 = .ok (.getfield 67, 3) := by decide +kernel
theorem dX1_isLive_14 : decode cX1_isLive 14 = .ok (.ifCond .eq 39, 3) := by decide +kernel
theorem dX1_isLive_17 : decode cX1_isLive 17 = .ok (.aload_n 0, 1) := by decide +kernel
theorem dX1_isLive_18 : decode cX1_isLive 18 = .ok (.getfield 28, 3) := by decide +kernel
theorem dX1_isLive_21 : decode cX1_isLive 21 = .ok (.iload_n 1, 1) := by decide +kernel
theorem dX1_isLive_22 : decode cX1_isLive 22 = .ok (.bipush 6, 2) := by decide +kernel
theorem dX1_isLive_24 : decode cX1_isLive 24 = .ok (.idiv, 1) := by decide +kernel
theorem dX1_isLive_25 : decode cX1_isLive 25 = .ok (.iaload, 1) := by decide +kernel
theorem dX1_isLive_26 : decode cX1_isLive 26 = .ok (.iload_n 1, 1) := by decide +kernel
theorem dX1_isLive_27 : decode cX1_isLive 27 = .ok (.if_icmp .eq 26, 3) := by decide +kernel
theorem dX1_isLive_30 : decode cX1_isLive 30 = .ok (.aload_n 0, 1) := by decide +kernel
theorem dX1_isLive_31 : decode cX1_isLive 31 = .ok (.getfield 28, 3) := by decide +kernel
theorem dX1_isLive_34 : decode cX1_isLive 34 = .ok (.aload_n 0, 1) := by decide +kernel
theorem dX1_isLive_35 : decode cX1_isLive 35 = .ok (.getfield 16, 3) := by decide +kernel
theorem dX1_isLive_38 : decode cX1_isLive 38 = .ok (.iload_n 1, 1) := by decide +kernel
theorem dX1_isLive_39 : decode cX1_isLive 39 = .ok (.iaload, 1) := by decide +kernel
theorem dX1_isLive_40 : decode cX1_isLive 40 = .ok (.bipush 6, 2) := by decide +kernel
theorem dX1_isLive_42 : decode cX1_isLive 42 = .ok (.idiv, 1) := by decide +kernel
theorem dX1_isLive_43 : decode cX1_isLive 43 = .ok (.iaload, 1) := by decide +kernel
theorem dX1_isLive_44 : decode cX1_isLive 44 = .ok (.aload_n 0, 1) := by decide +kernel
theorem dX1_isLive_45 : decode cX1_isLive 45 = .ok (.getfield 16, 3) := by decide +kernel
theorem dX1_isLive_48 : decode cX1_isLive 48 = .ok (.iload_n 1, 1) := by decide +kernel
theorem dX1_isLive_49 : decode cX1_isLive 49 = .ok (.iaload, 1) := by decide +kernel
theorem dX1_isLive_50 : decode cX1_isLive 50 = .ok (.if_icmp .ne 7, 3) := by decide +kernel
theorem dX1_isLive_53 : decode cX1_isLive 53 = .ok (.iconst 1, 1) := by decide +kernel
theorem dX1_isLive_54 : decode cX1_isLive 54 = .ok (.goto 4, 3) := by decide +kernel
theorem dX1_isLive_57 : decode cX1_isLive 57 = .ok (.iconst 0, 1) := by decide +kernel
theorem dX1_isLive_58 : decode cX1_isLive 58 = .ok (.ireturn, 1) := by decide +kernel
set_option maxRecDepth 20000 in
theorem ggX1_far_X1_isPort : GoodIn wsX1_far wsX1_isPort := goodIn_r _ [6, 7, 8, 5, 9] (by decide +kernel) (by decide +kernel)
set_option maxRecDepth 20000 in
theorem gX1_far_X1_isPort : GoodIn wsX1_far (va_wsS RX1 51 yX1_isPort wsX1_isPort) := goodIn_app (goodIn_of _ (by decide +kernel)) ggX1_far_X1_isPort
theorem dX1_far_0 : decode cX1_far 0 = .ok (.aload_n 0, 1) := by decide +kernel
theorem dX1_far_1 : decode cX1_far 1 = .ok (.iload_n 1, 1) := by decide +kernel
theorem dX1_far_2 : decode cX1_far 2 = .ok (.iload_n 2, 1) := by decide +kernel
theorem dX1_far_3 : decode cX1_far 3 = .ok (.invokestatic 51, 3) := by decide +kernel
theorem dX1_far_6 : decode cX1_far 6 = .ok (.ifCond .eq 7, 3) := by decide +kernel
theorem dX1_far_9 : decode cX1_far 9 = .ok (.iconst 0, 1) := by decide +kernel
theorem dX1_far_10 : decode cX1_far 10 = .ok (.goto 4, 3) := by decide +kernel
theorem dX1_far_13 : decode cX1_far 13 = .ok (.iconst 1, 1) := by decide +kernel
theorem dX1_far_14 : decode cX1_far 14 = .ok (.putfield 43, 3) := by decide +kernel
theorem dX1_far_17 : decode cX1_far 17 = .ok (.aload_n 0, 1) := by decide +kernel
theorem dX1_far_18 : decode cX1_far 18 = .ok (.getfield 43, 3) := by decide +kernel
theorem dX1_far_21 : decode cX1_far 21 = .ok (.ifCond .ne 17, 3) := by decide +kernel
theorem dX1_far_24 : decode cX1_far 24 = .ok (.aload_n 0, 1) := by decide +kernel
theorem dX1_far_25 : decode cX1_far 25 = .ok (.getfield 16, 3) := by decide +kernel
theorem dX1_far_28 : decode cX1_far 28 = .ok (.bipush 6, 2) := by decide +kernel
theorem dX1_far_30 : decode cX1_far 30 = .ok (.iload_n 1, 1) := by decide +kernel
theorem dX1_far_31 : decode cX1_far 31 = .ok (.imul, 1) := by decide +kernel
theorem dX1_far_32 : decode cX1_far 32 = .ok (.iload_n 2, 1) := by decide +kernel
theorem dX1_far_33 : decode cX1_far 33 = .ok (.iadd, 1) := by decide +kernel
theorem dX1_far_34 : decode cX1_far 34 = .ok (.iaload, 1) := by decide +kernel
theorem dX1_far_35 : decode cX1_far 35 = .ok (.goto 4, 3) := by decide +kernel
theorem dX1_far_38 : decode cX1_far 38 = .ok (.iconst 0, 1) := by decide +kernel
theorem dX1_far_39 : decode cX1_far 39 = .ok (.istore_n 3, 1) := by decide +kernel
theorem dX1_far_40 : decode cX1_far 40 = .ok (.aload_n 0, 1) := by decide +kernel
theorem dX1_far_41 : decode cX1_far 41 = .ok (.getfield 43, 3) := by decide +kernel
theorem dX1_far_44 : decode cX1_far 44 = .ok (.ifCond .le 7, 3) := by decide +kernel
theorem dX1_far_47 : decode cX1_far 47 = .ok (.iconst 0, 1) := by decide +kernel
theorem dX1_far_48 : decode cX1_far 48 = .ok (.goto 24, 3) := by decide +kernel
theorem dX1_far_51 : decode cX1_far 51 = .ok (.iload_n 3, 1) := by decide +kernel
theorem dX1_far_52 : decode cX1_far 52 = .ok (.iconst (-1), 1) := by decide +kernel
theorem dX1_far_53 : decode cX1_far 53 = .ok (.if_icmp .ne 7, 3) := by decide +kernel
theorem dX1_far_56 : decode cX1_far 56 = .ok (.iconst (-1), 1) := by decide +kernel
theorem dX1_far_57 : decode cX1_far 57 = .ok (.goto 15, 3) := by decide +kernel
theorem dX1_far_60 : decode cX1_far 60 = .ok (.iload_n 3, 1) := by decide +kernel
theorem dX1_far_61 : decode cX1_far 61 = .ok (.bipush 6, 2) := by decide +kernel
theorem dX1_far_63 : decode cX1_far 63 = .ok (.idiv, 1) := by decide +kernel
theorem dX1_far_64 : decode cX1_far 64 = .ok (.bipush 10, 2) := by decide +kernel
theorem dX1_far_66 : decode cX1_far 66 = .ok (.imul, 1) := by decide +kernel
theorem dX1_far_67 : decode cX1_far 67 = .ok (.iload_n 3, 1) := by decide +kernel
theorem dX1_far_68 : decode cX1_far 68 = .ok (.bipush 6, 2) := by decide +kernel
theorem dX1_far_70 : decode cX1_far 70 = .ok (.irem, 1) := by decide +kernel
theorem dX1_far_71 : decode cX1_far 71 = .ok (.iadd, 1) := by decide +kernel
theorem dX1_far_72 : decode cX1_far 72 = .ok (.ireturn, 1) := by decide +kernel
set_option maxRecDepth 20000 in
theorem ggX1_isOn_X1_hasCable : GoodIn wsX1_isOn wsX1_hasCable := goodIn_r _ [5, 6, 7, 8, 9, 4, 10, 11, 12, 13, 28, 29, 30, 31, 32, 33, 34, 35, 36, 37, 38, 39, 40, 41, 42] (by decide +kernel) (by decide +kernel)
set_option maxRecDepth 20000 in
theorem gX1_isOn_X1_hasCable : GoodIn wsX1_isOn (wsV RX1 64 RX1 yX1_hasCable wsX1_hasCable) := goodIn_app (goodIn_of _ (by decide +kernel)) ggX1_isOn_X1_hasCable
set_option maxRecDepth 20000 in
theorem ggX1_isOn_X1_layTree : GoodIn wsX1_isOn wsX1_layTree := goodIn_r _ [17, 18, 6, 19, 20, 21, 22, 28, 29, 30, 31, 32, 33, 34, 35, 36, 37, 38, 39, 40, 41, 42] (by decide +kernel) (by decide +kernel)
set_option maxRecDepth 20000 in
theorem gX1_isOn_X1_layTree : GoodIn wsX1_isOn (wsV RX1 72 RX1 yX1_layTree wsX1_layTree) := goodIn_app (goodIn_of _ (by decide +kernel)) ggX1_isOn_X1_layTree
set_option maxRecDepth 20000 in
theorem ggX1_isOn_X1_isLive : GoodIn wsX1_isOn wsX1_isLive := goodIn_r _ [26, 6, 27, 22, 28, 29, 30, 31, 32, 33, 34, 35, 36, 37, 38, 39, 40, 41, 42] (by decide +kernel) (by decide +kernel)
set_option maxRecDepth 20000 in
theorem gX1_isOn_X1_isLive : GoodIn wsX1_isOn (wsV RX1 75 RX1 yX1_isLive wsX1_isLive) := goodIn_app (goodIn_of _ (by decide +kernel)) ggX1_isOn_X1_isLive
theorem dX1_isOn_0 : decode cX1_isOn 0 = .ok (.aload_n 0, 1) := by decide +kernel
theorem dX1_isOn_1 : decode cX1_isOn 1 = .ok (.iload_n 1, 1) := by decide +kernel
theorem dX1_isOn_2 : decode cX1_isOn 2 = .ok (.iload_n 2, 1) := by decide +kernel
theorem dX1_isOn_3 : decode cX1_isOn 3 = .ok (.invokevirtual 64, 3) := by decide +kernel
theorem dX1_isOn_6 : decode cX1_isOn 6 = .ok (.ifCond .ne 5, 3) := by decide +kernel
theorem dX1_isOn_9 : decode cX1_isOn 9 = .ok (.iconst 0, 1) := by decide +kernel
theorem dX1_isOn_10 : decode cX1_isOn 10 = .ok (.ireturn, 1) := by decide +kernel
theorem dX1_isOn_11 : decode cX1_isOn 11 = .ok (.aload_n 0, 1) := by decide +kernel
theorem dX1_isOn_12 : decode cX1_isOn 12 = .ok (.invokevirtual 72, 3) := by decide +kernel
theorem dX1_isOn_15 : decode cX1_isOn 15 = .ok (.aload_n 0, 1) := by decide +kernel
theorem dX1_isOn_16 : decode cX1_isOn 16 = .ok (.bipush 6, 2) := by decide +kernel
theorem dX1_isOn_18 : decode cX1_isOn 18 = .ok (.iload_n 1, 1) := by decide +kernel
theorem dX1_isOn_19 : decode cX1_isOn 19 = .ok (.imul, 1) := by decide +kernel
theorem dX1_isOn_20 : decode cX1_isOn 20 = .ok (.iload_n 2, 1) := by decide +kernel
theorem dX1_isOn_21 : decode cX1_isOn 21 = .ok (.iadd, 1) := by decide +kernel
theorem dX1_isOn_22 : decode cX1_isOn 22 = .ok (.invokevirtual 75, 3) := by decide +kernel
theorem dX1_isOn_25 : decode cX1_isOn 25 = .ok (.ireturn, 1) := by decide +kernel
set_option maxRecDepth 20000 in
theorem ggX1_carried_X1_isTagged : GoodIn wsX1_carried wsX1_isTagged := goodIn_r _ [7, 8, 9, 10, 11, 12, 13, 14, 15, 16, 17, 18, 19, 20, 21, 22, 23] (by decide +kernel) (by decide +kernel)
set_option maxRecDepth 20000 in
theorem gX1_carried_X1_isTagged : GoodIn wsX1_carried (wsV RX1 55 RX1 yX1_isTagged wsX1_isTagged) := goodIn_app (goodIn_of _ (by decide +kernel)) ggX1_carried_X1_isTagged
theorem dX1_carried_0 : decode cX1_carried 0 = .ok (.aload_n 0, 1) := by decide +kernel
theorem dX1_carried_1 : decode cX1_carried 1 = .ok (.getfield 16, 3) := by decide +kernel
theorem dX1_carried_4 : decode cX1_carried 4 = .ok (.iload_n 1, 1) := by decide +kernel
theorem dX1_carried_5 : decode cX1_carried 5 = .ok (.iaload, 1) := by decide +kernel
theorem dX1_carried_6 : decode cX1_carried 6 = .ok (.istore_n 3, 1) := by decide +kernel
theorem dX1_carried_7 : decode cX1_carried 7 = .ok (.aload_n 0, 1) := by decide +kernel
theorem dX1_carried_8 : decode cX1_carried 8 = .ok (.iload_n 1, 1) := by decide +kernel
theorem dX1_carried_9 : decode cX1_carried 9 = .ok (.iload_n 2, 1) := by decide +kernel
theorem dX1_carried_10 : decode cX1_carried 10 = .ok (.invokevirtual 55, 3) := by decide +kernel
theorem dX1_carried_13 : decode cX1_carried 13 = .ok (.ifCond .eq 18, 3) := by decide +kernel
theorem dX1_carried_16 : decode cX1_carried 16 = .ok (.aload_n 0, 1) := by decide +kernel
theorem dX1_carried_17 : decode cX1_carried 17 = .ok (.iload_n 3, 1) := by decide +kernel
theorem dX1_carried_18 : decode cX1_carried 18 = .ok (.iload_n 2, 1) := by decide +kernel
theorem dX1_carried_19 : decode cX1_carried 19 = .ok (.invokevirtual 55, 3) := by decide +kernel
theorem dX1_carried_22 : decode cX1_carried 22 = .ok (.ifCond .eq 7, 3) := by decide +kernel
theorem dX1_carried_25 : decode cX1_carried 25 = .ok (.iload_n 2, 1) := by decide +kernel
theorem dX1_carried_26 : decode cX1_carried 26 = .ok (.goto 4, 3) := by decide +kernel
theorem dX1_carried_29 : decode cX1_carried 29 = .ok (.iconst (-1), 1) := by decide +kernel
theorem dX1_carried_30 : decode cX1_carried 30 = .ok (.ireturn, 1) := by decide +kernel
theorem dX1_carried_31 : decode cX1_carried 31 = .ok (.aload_n 0, 1) := by decide +kernel
theorem dX1_carried_32 : decode cX1_carried 32 = .ok (.getfield 7, 3) := by decide +kernel
theorem dX1_carried_35 : decode cX1_carried 35 = .ok (.iload_n 1, 1) := by decide +kernel
theorem dX1_carried_36 : decode cX1_carried 36 = .ok (.iaload, 1) := by decide +kernel
theorem dX1_carried_37 : decode cX1_carried 37 = .ok (.iload_n 2, 1) := by decide +kernel
theorem dX1_carried_38 : decode cX1_carried 38 = .ok (.if_icmp .ne 21, 3) := by decide +kernel
theorem dX1_carried_41 : decode cX1_carried 41 = .ok (.aload_n 0, 1) := by decide +kernel
theorem dX1_carried_42 : decode cX1_carried 42 = .ok (.getfield 7, 3) := by decide +kernel
theorem dX1_carried_45 : decode cX1_carried 45 = .ok (.iload_n 3, 1) := by decide +kernel
theorem dX1_carried_46 : decode cX1_carried 46 = .ok (.iaload, 1) := by decide +kernel
theorem dX1_carried_47 : decode cX1_carried 47 = .ok (.ifCond .le 12, 3) := by decide +kernel
theorem dX1_carried_50 : decode cX1_carried 50 = .ok (.aload_n 0, 1) := by decide +kernel
theorem dX1_carried_51 : decode cX1_carried 51 = .ok (.getfield 7, 3) := by decide +kernel
theorem dX1_carried_54 : decode cX1_carried 54 = .ok (.iload_n 3, 1) := by decide +kernel
theorem dX1_carried_55 : decode cX1_carried 55 = .ok (.iaload, 1) := by decide +kernel
theorem dX1_carried_56 : decode cX1_carried 56 = .ok (.goto 4, 3) := by decide +kernel
theorem dX1_carried_59 : decode cX1_carried 59 = .ok (.iconst (-1), 1) := by decide +kernel
theorem dX1_carried_60 : decode cX1_carried 60 = .ok (.ireturn, 1) := by decide +kernel
set_option maxRecDepth 20000 in
theorem ggX1_comesAs_X1_isPort : GoodIn wsX1_comesAs wsX1_isPort := goodIn_r _ [5, 6, 7, 4, 8] (by decide +kernel) (by decide +kernel)
set_option maxRecDepth 20000 in
theorem gX1_comesAs_X1_isPort : GoodIn wsX1_comesAs (va_wsS RX1 51 yX1_isPort wsX1_isPort) := goodIn_app (goodIn_of _ (by decide +kernel)) ggX1_comesAs_X1_isPort
set_option maxRecDepth 20000 in
theorem ggX1_comesAs_X1_isPlace : GoodIn wsX1_comesAs wsX1_isPlace := goodIn_r _ [11, 6, 7, 4, 8] (by decide +kernel) (by decide +kernel)
set_option maxRecDepth 20000 in
theorem gX1_comesAs_X1_isPlace : GoodIn wsX1_comesAs (va_wsS RX1 58 yX1_isPlace wsX1_isPlace) := goodIn_app (goodIn_of _ (by decide +kernel)) ggX1_comesAs_X1_isPlace
set_option maxRecDepth 20000 in
theorem ggX1_comesAs_X1_hasCable : GoodIn wsX1_comesAs wsX1_hasCable := goodIn_r _ [15, 16, 1, 2, 3, 4, 5, 6, 7, 8, 27, 28, 29, 30, 31, 32, 33, 34, 35, 36, 37, 38, 39, 40, 41] (by decide +kernel) (by decide +kernel)
set_option maxRecDepth 20000 in
theorem gX1_comesAs_X1_hasCable : GoodIn wsX1_comesAs (wsV RX1 64 RX1 yX1_hasCable wsX1_hasCable) := goodIn_app (goodIn_of _ (by decide +kernel)) ggX1_comesAs_X1_hasCable
set_option maxRecDepth 20000 in
theorem ggX1_comesAs_X1_carried : GoodIn wsX1_comesAs wsX1_carried := goodIn_r _ [20, 16, 21, 22, 23, 24, 4, 25, 26, 27, 28, 29, 30, 31, 32, 33, 34, 35, 36, 37, 38, 39, 40, 41] (by decide +kernel) (by decide +kernel)
set_option maxRecDepth 20000 in
theorem gX1_comesAs_X1_carried : GoodIn wsX1_comesAs (wsV RX1 79 RX1 yX1_carried wsX1_carried) := goodIn_app (goodIn_of _ (by decide +kernel)) ggX1_comesAs_X1_carried
theorem dX1_comesAs_0 : decode cX1_comesAs 0 = .ok (.aload_n 0, 1) := by decide +kernel
theorem dX1_comesAs_1 : decode cX1_comesAs 1 = .ok (.iload_n 1, 1) := by decide +kernel
theorem dX1_comesAs_2 : decode cX1_comesAs 2 = .ok (.iload_n 2, 1) := by decide +kernel
theorem dX1_comesAs_3 : decode cX1_comesAs 3 = .ok (.invokestatic 51, 3) := by decide +kernel
theorem dX1_comesAs_6 : decode cX1_comesAs 6 = .ok (.ifCond .eq 11, 3) := by decide +kernel
theorem dX1_comesAs_9 : decode cX1_comesAs 9 = .ok (.iload_n 1, 1) := by decide +kernel
theorem dX1_comesAs_10 : decode cX1_comesAs 10 = .ok (.iload_n 3, 1) := by decide +kernel
theorem dX1_comesAs_11 : decode cX1_comesAs 11 = .ok (.invokestatic 58, 3) := by decide +kernel
theorem dX1_comesAs_14 : decode cX1_comesAs 14 = .ok (.ifCond .ne 7, 3) := by decide +kernel
theorem dX1_comesAs_17 : decode cX1_comesAs 17 = .ok (.iconst 1, 1) := by decide +kernel
theorem dX1_comesAs_18 : decode cX1_comesAs 18 = .ok (.goto 4, 3) := by decide +kernel
theorem dX1_comesAs_21 : decode cX1_comesAs 21 = .ok (.iconst 0, 1) := by decide +kernel
theorem dX1_comesAs_22 : decode cX1_comesAs 22 = .ok (.putfield 43, 3) := by decide +kernel
theorem dX1_comesAs_25 : decode cX1_comesAs 25 = .ok (.aload_n 0, 1) := by decide +kernel
theorem dX1_comesAs_26 : decode cX1_comesAs 26 = .ok (.getfield 43, 3) := by decide +kernel
theorem dX1_comesAs_29 : decode cX1_comesAs 29 = .ok (.ifCond .gt 12, 3) := by decide +kernel
theorem dX1_comesAs_32 : decode cX1_comesAs 32 = .ok (.aload_n 0, 1) := by decide +kernel
theorem dX1_comesAs_33 : decode cX1_comesAs 33 = .ok (.iload_n 1, 1) := by decide +kernel
theorem dX1_comesAs_34 : decode cX1_comesAs 34 = .ok (.iload_n 2, 1) := by decide +kernel
theorem dX1_comesAs_35 : decode cX1_comesAs 35 = .ok (.invokevirtual 64, 3) := by decide +kernel
theorem dX1_comesAs_38 : decode cX1_comesAs 38 = .ok (.ifCond .ne 5, 3) := by decide +kernel
theorem dX1_comesAs_41 : decode cX1_comesAs 41 = .ok (.iconst 0, 1) := by decide +kernel
theorem dX1_comesAs_42 : decode cX1_comesAs 42 = .ok (.ireturn, 1) := by decide +kernel
theorem dX1_comesAs_43 : decode cX1_comesAs 43 = .ok (.aload_n 0, 1) := by decide +kernel
theorem dX1_comesAs_44 : decode cX1_comesAs 44 = .ok (.bipush 6, 2) := by decide +kernel
theorem dX1_comesAs_46 : decode cX1_comesAs 46 = .ok (.iload_n 1, 1) := by decide +kernel
theorem dX1_comesAs_47 : decode cX1_comesAs 47 = .ok (.imul, 1) := by decide +kernel
theorem dX1_comesAs_48 : decode cX1_comesAs 48 = .ok (.iload_n 2, 1) := by decide +kernel
theorem dX1_comesAs_49 : decode cX1_comesAs 49 = .ok (.iadd, 1) := by decide +kernel
theorem dX1_comesAs_50 : decode cX1_comesAs 50 = .ok (.iload_n 3, 1) := by decide +kernel
theorem dX1_comesAs_51 : decode cX1_comesAs 51 = .ok (.invokevirtual 79, 3) := by decide +kernel
theorem dX1_comesAs_54 : decode cX1_comesAs 54 = .ok (.ireturn, 1) := by decide +kernel
theorem dX1_bits_0 : decode cX1_bits 0 = .ok (.iconst 0, 1) := by decide +kernel
theorem dX1_bits_1 : decode cX1_bits 1 = .ok (.istore_n 1, 1) := by decide +kernel
theorem dX1_bits_2 : decode cX1_bits 2 = .ok (.iconst 0, 1) := by decide +kernel
theorem dX1_bits_3 : decode cX1_bits 3 = .ok (.istore_n 2, 1) := by decide +kernel
theorem dX1_bits_4 : decode cX1_bits 4 = .ok (.iload_n 2, 1) := by decide +kernel
theorem dX1_bits_5 : decode cX1_bits 5 = .ok (.bipush 16, 2) := by decide +kernel
theorem dX1_bits_7 : decode cX1_bits 7 = .ok (.if_icmp .ge 17, 3) := by decide +kernel
theorem dX1_bits_10 : decode cX1_bits 10 = .ok (.iload_n 1, 1) := by decide +kernel
theorem dX1_bits_11 : decode cX1_bits 11 = .ok (.iload_n 0, 1) := by decide +kernel
theorem dX1_bits_12 : decode cX1_bits 12 = .ok (.iload_n 2, 1) := by decide +kernel
theorem dX1_bits_13 : decode cX1_bits 13 = .ok (.ishr, 1) := by decide +kernel
theorem dX1_bits_14 : decode cX1_bits 14 = .ok (.iconst 1, 1) := by decide +kernel
theorem dX1_bits_15 : decode cX1_bits 15 = .ok (.iand, 1) := by decide +kernel
theorem dX1_bits_16 : decode cX1_bits 16 = .ok (.iadd, 1) := by decide +kernel
theorem dX1_bits_17 : decode cX1_bits 17 = .ok (.istore_n 1, 1) := by decide +kernel
theorem dX1_bits_18 : decode cX1_bits 18 = .ok (.iinc 2 1, 3) := by decide +kernel
theorem dX1_bits_21 : decode cX1_bits 21 = .ok (.goto (-17), 3) := by decide +kernel
theorem dX1_bits_24 : decode cX1_bits 24 = .ok (.iload_n 1, 1) := by decide +kernel
theorem dX1_bits_25 : decode cX1_bits 25 = .ok (.ireturn, 1) := by decide +kernel
set_option maxRecDepth 20000 in
theorem ggX1_oneSided_X1_hasCable : GoodIn wsX1_oneSided wsX1_hasCable := goodIn_r _ [7, 2, 8, 9, 10, 6, 11, 12, 13, 14, 18, 19, 20, 21, 22, 23, 24, 25, 26, 27, 28, 29, 30, 31, 32] (by decide +kernel) (by decide +kernel)
set_option maxRecDepth 20000 in
theorem gX1_oneSided_X1_hasCable : GoodIn wsX1_oneSided (wsV RX1 64 RX1 yX1_hasCable wsX1_hasCable) := goodIn_app (goodIn_of _ (by decide +kernel)) ggX1_oneSided_X1_hasCable
set_option maxRecDepth 20000 in
theorem ggX1_oneSided_X1_bits : GoodIn wsX1_oneSided wsX1_bits := goodIn_r _ [17] (by decide +kernel) (by decide +kernel)
set_option maxRecDepth 20000 in
theorem gX1_oneSided_X1_bits : GoodIn wsX1_oneSided (va_wsS RX1 83 yX1_bits wsX1_bits) := goodIn_app (goodIn_of _ (by decide +kernel)) ggX1_oneSided_X1_bits
theorem dX1_oneSided_0 : decode cX1_oneSided 0 = .ok (.aload_n 0, 1) := by decide +kernel
theorem dX1_oneSided_1 : decode cX1_oneSided 1 = .ok (.iload_n 1, 1) := by decide +kernel
theorem dX1_oneSided_2 : decode cX1_oneSided 2 = .ok (.iload_n 2, 1) := by decide +kernel
theorem dX1_oneSided_3 : decode cX1_oneSided 3 = .ok (.invokevirtual 64, 3) := by decide +kernel
theorem dX1_oneSided_6 : decode cX1_oneSided 6 = .ok (.ifCond .ne 5, 3) := by decide +kernel
theorem dX1_oneSided_9 : decode cX1_oneSided 9 = .ok (.iconst 0, 1) := by decide +kernel
theorem dX1_oneSided_10 : decode cX1_oneSided 10 = .ok (.ireturn, 1) := by decide +kernel
theorem dX1_oneSided_11 : decode cX1_oneSided 11 = .ok (.bipush 6, 2) := by decide +kernel
theorem dX1_oneSided_13 : decode cX1_oneSided 13 = .ok (.iload_n 1, 1) := by decide +kernel
theorem dX1_oneSided_14 : decode cX1_oneSided 14 = .ok (.imul, 1) := by decide +kernel
theorem dX1_oneSided_15 : decode cX1_oneSided 15 = .ok (.iload_n 2, 1) := by decide +kernel
theorem dX1_oneSided_16 : decode cX1_oneSided 16 = .ok (.iadd, 1) := by decide +kernel
theorem dX1_oneSided_17 : decode cX1_oneSided 17 = .ok (.istore_n 3, 1) := by decide +kernel
theorem dX1_oneSided_18 : decode cX1_oneSided 18 = .ok (.aload_n 0, 1) := by decide +kernel
theorem dX1_oneSided_19 : decode cX1_oneSided 19 = .ok (.getfield 13, 3) := by decide +kernel
theorem dX1_oneSided_22 : decode cX1_oneSided 22 = .ok (.iload_n 3, 1) := by decide +kernel
theorem dX1_oneSided_23 : decode cX1_oneSided 23 = .ok (.iaload, 1) := by decide +kernel
theorem dX1_oneSided_24 : decode cX1_oneSided 24 = .ok (.aload_n 0, 1) := by decide +kernel
theorem dX1_oneSided_25 : decode cX1_oneSided 25 = .ok (.getfield 13, 3) := by decide +kernel
theorem dX1_oneSided_28 : decode cX1_oneSided 28 = .ok (.aload_n 0, 1) := by decide +kernel
theorem dX1_oneSided_29 : decode cX1_oneSided 29 = .ok (.getfield 16, 3) := by decide +kernel
theorem dX1_oneSided_32 : decode cX1_oneSided 32 = .ok (.iload_n 3, 1) := by decide +kernel
theorem dX1_oneSided_33 : decode cX1_oneSided 33 = .ok (.iaload, 1) := by decide +kernel
theorem dX1_oneSided_34 : decode cX1_oneSided 34 = .ok (.iaload, 1) := by decide +kernel
theorem dX1_oneSided_35 : decode cX1_oneSided 35 = .ok (.ixor, 1) := by decide +kernel
theorem dX1_oneSided_36 : decode cX1_oneSided 36 = .ok (.invokestatic 83, 3) := by decide +kernel
theorem dX1_oneSided_39 : decode cX1_oneSided 39 = .ok (.ireturn, 1) := by decide +kernel
theorem dX1_wrong_0 : decode cX1_wrong 0 = .ok (.aload_n 0, 1) := by decide +kernel
theorem dX1_wrong_1 : decode cX1_wrong 1 = .ok (.iconst 0, 1) := by decide +kernel
theorem dX1_wrong_2 : decode cX1_wrong 2 = .ok (.putfield 43, 3) := by decide +kernel
theorem dX1_wrong_5 : decode cX1_wrong 5 = .ok (.iconst 0, 1) := by decide +kernel
theorem dX1_wrong_6 : decode cX1_wrong 6 = .ok (.istore_n 1, 1) := by decide +kernel
theorem dX1_wrong_7 : decode cX1_wrong 7 = .ok (.iconst 0, 1) := by decide +kernel
theorem dX1_wrong_8 : decode cX1_wrong 8 = .ok (.istore_n 2, 1) := by decide +kernel
theorem dX1_wrong_9 : decode cX1_wrong 9 = .ok (.iload_n 2, 1) := by decide +kernel
theorem dX1_wrong_10 : decode cX1_wrong 10 = .ok (.bipush 36, 2) := by decide +kernel
theorem dX1_wrong_12 : decode cX1_wrong 12 = .ok (.if_icmp .ge 42, 3) := by decide +kernel
theorem dX1_wrong_15 : decode cX1_wrong 15 = .ok (.iload_n 1, 1) := by decide +kernel
theorem dX1_wrong_16 : decode cX1_wrong 16 = .ok (.aload_n 0, 1) := by decide +kernel
theorem dX1_wrong_17 : decode cX1_wrong 17 = .ok (.getfield 22, 3) := by decide +kernel
theorem dX1_wrong_20 : decode cX1_wrong 20 = .ok (.iload_n 2, 1) := by decide +kernel
theorem dX1_wrong_21 : decode cX1_wrong 21 = .ok (.iaload, 1) := by decide +kernel
theorem dX1_wrong_22 : decode cX1_wrong 22 = .ok (.iconst (-1), 1) := by decide +kernel
theorem dX1_wrong_23 : decode cX1_wrong 23 = .ok (.if_icmp .eq 22, 3) := by decide +kernel
theorem dX1_wrong_26 : decode cX1_wrong 26 = .ok (.aload_n 0, 1) := by decide +kernel
theorem dX1_wrong_27 : decode cX1_wrong 27 = .ok (.getfield 22, 3) := by decide +kernel
theorem dX1_wrong_30 : decode cX1_wrong 30 = .ok (.iload_n 2, 1) := by decide +kernel
theorem dX1_wrong_31 : decode cX1_wrong 31 = .ok (.iaload, 1) := by decide +kernel
theorem dX1_wrong_32 : decode cX1_wrong 32 = .ok (.aload_n 0, 1) := by decide +kernel
theorem dX1_wrong_33 : decode cX1_wrong 33 = .ok (.getfield 16, 3) := by decide +kernel
theorem dX1_wrong_36 : decode cX1_wrong 36 = .ok (.iload_n 2, 1) := by decide +kernel
theorem dX1_wrong_37 : decode cX1_wrong 37 = .ok (.iaload, 1) := by decide +kernel
theorem dX1_wrong_38 : decode cX1_wrong 38 = .ok (.if_icmp .eq 7, 3) := by decide +kernel
theorem dX1_wrong_41 : decode cX1_wrong 41 = .ok (.iconst 1, 1) := by decide +kernel
theorem dX1_wrong_42 : decode cX1_wrong 42 = .ok (.goto 4, 3) := by decide +kernel
theorem dX1_wrong_45 : decode cX1_wrong 45 = .ok (.iconst 0, 1) := by decide +kernel
theorem dX1_wrong_46 : decode cX1_wrong 46 = .ok (.iadd, 1) := by decide +kernel
theorem dX1_wrong_47 : decode cX1_wrong 47 = .ok (.istore_n 1, 1) := by decide +kernel
theorem dX1_wrong_48 : decode cX1_wrong 48 = .ok (.iinc 2 1, 3) := by decide +kernel
theorem dX1_wrong_51 : decode cX1_wrong 51 = .ok (.goto (-42), 3) := by decide +kernel
theorem dX1_wrong_54 : decode cX1_wrong 54 = .ok (.iload_n 1, 1) := by decide +kernel
theorem dX1_wrong_55 : decode cX1_wrong 55 = .ok (.ireturn, 1) := by decide +kernel
set_option maxRecDepth 20000 in
theorem ggX1_asksFor_X1_in : GoodIn wsX1_asksFor wsX1_in := goodIn_r _ [5] (by decide +kernel) (by decide +kernel)
set_option maxRecDepth 20000 in
theorem gX1_asksFor_X1_in : GoodIn wsX1_asksFor (va_wsS RX1 47 yX1_in wsX1_in) := goodIn_app (goodIn_of _ (by decide +kernel)) ggX1_asksFor_X1_in
set_option maxRecDepth 20000 in
theorem ggX1_asksFor_X1_layTree : GoodIn wsX1_asksFor wsX1_layTree := goodIn_r _ [9, 10, 11, 12, 13, 14, 15, 16, 17, 18, 19, 20, 21, 22, 23, 24, 25, 26, 27, 28, 29, 30] (by decide +kernel) (by decide +kernel)
set_option maxRecDepth 20000 in
theorem gX1_asksFor_X1_layTree : GoodIn wsX1_asksFor (wsV RX1 72 RX1 yX1_layTree wsX1_layTree) := goodIn_app (goodIn_of _ (by decide +kernel)) ggX1_asksFor_X1_layTree
theorem dX1_asksFor_0 : decode cX1_asksFor 0 = .ok (.aload_n 0, 1) := by decide +kernel
theorem dX1_asksFor_1 : decode cX1_asksFor 1 = .ok (.iload_n 1, 1) := by decide +kernel
theorem dX1_asksFor_2 : decode cX1_asksFor 2 = .ok (.iconst 0, 1) := by decide +kernel
theorem dX1_asksFor_3 : decode cX1_asksFor 3 = .ok (.iconst 5, 1) := by decide +kernel
theorem dX1_asksFor_4 : decode cX1_asksFor 4 = .ok (.invokestatic 47, 3) := by decide +kernel
theorem dX1_asksFor_7 : decode cX1_asksFor 7 = .ok (.ifCond .eq 7, 3) := by decide +kernel
theorem dX1_asksFor_10 : decode cX1_asksFor 10 = .ok (.iconst 0, 1) := by decide +kernel
theorem dX1_asksFor_11 : decode cX1_asksFor 11 = .ok (.goto 4, 3) := by decide +kernel
theorem dX1_asksFor_14 : decode cX1_asksFor 14 = .ok (.iconst 1, 1) := by decide +kernel
theorem dX1_asksFor_15 : decode cX1_asksFor 15 = .ok (.putfield 43, 3) := by decide +kernel
theorem dX1_asksFor_18 : decode cX1_asksFor 18 = .ok (.aload_n 0, 1) := by decide +kernel
theorem dX1_asksFor_19 : decode cX1_asksFor 19 = .ok (.invokevirtual 72, 3) := by decide +kernel
theorem dX1_asksFor_22 : decode cX1_asksFor 22 = .ok (.aload_n 0, 1) := by decide +kernel
theorem dX1_asksFor_23 : decode cX1_asksFor 23 = .ok (.getfield 43, 3) := by decide +kernel
theorem dX1_asksFor_26 : decode cX1_asksFor 26 = .ok (.ifCond .ne 7, 3) := by decide +kernel
theorem dX1_asksFor_29 : decode cX1_asksFor 29 = .ok (.iconst 1, 1) := by decide +kernel
theorem dX1_asksFor_30 : decode cX1_asksFor 30 = .ok (.goto 4, 3) := by decide +kernel
theorem dX1_asksFor_33 : decode cX1_asksFor 33 = .ok (.iconst 0, 1) := by decide +kernel
theorem dX1_asksFor_34 : decode cX1_asksFor 34 = .ok (.ireturn, 1) := by decide +kernel
set_option maxRecDepth 20000 in
theorem ggX1_root_X1_asksFor : GoodIn wsX1_root wsX1_asksFor := goodIn_r _ [6, 7, 8, 9, 5, 10, 11, 12, 13, 14, 1, 15, 16, 17, 18, 19, 20, 21, 22, 23, 24, 25, 26, 27, 28, 29, 30, 31, 32, 33, 34] (by decide +kernel) (by decide +kernel)
set_option maxRecDepth 20000 in
theorem gX1_root_X1_asksFor : GoodIn wsX1_root (wsV RX1 87 RX1 yX1_asksFor wsX1_asksFor) := goodIn_app (goodIn_of _ (by decide +kernel)) ggX1_root_X1_asksFor
theorem dX1_root_0 : decode cX1_root 0 = .ok (.aload_n 0, 1) := by decide +kernel
theorem dX1_root_1 : decode cX1_root 1 = .ok (.iload_n 1, 1) := by decide +kernel
theorem dX1_root_2 : decode cX1_root 2 = .ok (.invokevirtual 87, 3) := by decide +kernel
theorem dX1_root_5 : decode cX1_root 5 = .ok (.ifCond .eq 12, 3) := by decide +kernel
theorem dX1_root_8 : decode cX1_root 8 = .ok (.aload_n 0, 1) := by decide +kernel
theorem dX1_root_9 : decode cX1_root 9 = .ok (.getfield 25, 3) := by decide +kernel
theorem dX1_root_12 : decode cX1_root 12 = .ok (.iload_n 1, 1) := by decide +kernel
theorem dX1_root_13 : decode cX1_root 13 = .ok (.iaload, 1) := by decide +kernel
theorem dX1_root_14 : decode cX1_root 14 = .ok (.goto 4, 3) := by decide +kernel
theorem dX1_root_17 : decode cX1_root 17 = .ok (.iconst 0, 1) := by decide +kernel
theorem dX1_root_18 : decode cX1_root 18 = .ok (.ireturn, 1) := by decide +kernel
set_option maxRecDepth 20000 in
theorem ggX1_costOf_X1_asksFor : GoodIn wsX1_costOf wsX1_asksFor := goodIn_r _ [6, 7, 8, 9, 5, 10, 11, 12, 13, 14, 15, 16, 1, 17, 18, 19, 20, 21, 22, 23, 24, 25, 26, 27, 28, 29, 30, 31, 32, 33, 34] (by decide +kernel) (by decide +kernel)
set_option maxRecDepth 20000 in
theorem gX1_costOf_X1_asksFor : GoodIn wsX1_costOf (wsV RX1 87 RX1 yX1_asksFor wsX1_asksFor) := goodIn_app (goodIn_of _ (by decide +kernel)) ggX1_costOf_X1_asksFor
theorem dX1_costOf_0 : decode cX1_costOf 0 = .ok (.aload_n 0, 1) := by decide +kernel
theorem dX1_costOf_1 : decode cX1_costOf 1 = .ok (.iload_n 1, 1) := by decide +kernel
theorem dX1_costOf_2 : decode cX1_costOf 2 = .ok (.invokevirtual 87, 3) := by decide +kernel
theorem dX1_costOf_5 : decode cX1_costOf 5 = .ok (.ifCond .eq 12, 3) := by decide +kernel
theorem dX1_costOf_8 : decode cX1_costOf 8 = .ok (.aload_n 0, 1) := by decide +kernel
theorem dX1_costOf_9 : decode cX1_costOf 9 = .ok (.getfield 31, 3) := by decide +kernel
theorem dX1_costOf_12 : decode cX1_costOf 12 = .ok (.iload_n 1, 1) := by decide +kernel
theorem dX1_costOf_13 : decode cX1_costOf 13 = .ok (.iaload, 1) := by decide +kernel
theorem dX1_costOf_14 : decode cX1_costOf 14 = .ok (.goto 4, 3) := by decide +kernel
theorem dX1_costOf_17 : decode cX1_costOf 17 = .ok (.iconst 0, 1) := by decide +kernel
theorem dX1_costOf_18 : decode cX1_costOf 18 = .ok (.ireturn, 1) := by decide +kernel
set_option maxRecDepth 20000 in
theorem ggX1_wayUp_X1_asksFor : GoodIn wsX1_wayUp wsX1_asksFor := goodIn_r _ [6, 7, 8, 9, 5, 10, 11, 12, 13, 14, 15, 16, 17, 18, 19, 1, 20, 21, 22, 23, 24, 25, 26, 27, 28, 29, 30, 31, 32, 33, 34] (by decide +kernel) (by decide +kernel)
set_option maxRecDepth 20000 in
theorem gX1_wayUp_X1_asksFor : GoodIn wsX1_wayUp (wsV RX1 87 RX1 yX1_asksFor wsX1_asksFor) := goodIn_app (goodIn_of _ (by decide +kernel)) ggX1_wayUp_X1_asksFor
theorem dX1_wayUp_0 : decode cX1_wayUp 0 = .ok (.aload_n 0, 1) := by decide +kernel
theorem dX1_wayUp_1 : decode cX1_wayUp 1 = .ok (.iload_n 1, 1) := by decide +kernel
theorem dX1_wayUp_2 : decode cX1_wayUp 2 = .ok (.invokevirtual 87, 3) := by decide +kernel
theorem dX1_wayUp_5 : decode cX1_wayUp 5 = .ok (.ifCond .ne 7, 3) := by decide +kernel
theorem dX1_wayUp_8 : decode cX1_wayUp 8 = .ok (.iconst 0, 1) := by decide +kernel
theorem dX1_wayUp_9 : decode cX1_wayUp 9 = .ok (.goto 26, 3) := by decide +kernel
theorem dX1_wayUp_12 : decode cX1_wayUp 12 = .ok (.aload_n 0, 1) := by decide +kernel
theorem dX1_wayUp_13 : decode cX1_wayUp 13 = .ok (.getfield 28, 3) := by decide +kernel
theorem dX1_wayUp_16 : decode cX1_wayUp 16 = .ok (.iload_n 1, 1) := by decide +kernel
theorem dX1_wayUp_17 : decode cX1_wayUp 17 = .ok (.iaload, 1) := by decide +kernel
theorem dX1_wayUp_18 : decode cX1_wayUp 18 = .ok (.iconst (-1), 1) := by decide +kernel
theorem dX1_wayUp_19 : decode cX1_wayUp 19 = .ok (.if_icmp .ne 7, 3) := by decide +kernel
theorem dX1_wayUp_22 : decode cX1_wayUp 22 = .ok (.iconst (-1), 1) := by decide +kernel
theorem dX1_wayUp_23 : decode cX1_wayUp 23 = .ok (.goto 12, 3) := by decide +kernel
theorem dX1_wayUp_26 : decode cX1_wayUp 26 = .ok (.aload_n 0, 1) := by decide +kernel
theorem dX1_wayUp_27 : decode cX1_wayUp 27 = .ok (.getfield 28, 3) := by decide +kernel
theorem dX1_wayUp_30 : decode cX1_wayUp 30 = .ok (.iload_n 1, 1) := by decide +kernel
theorem dX1_wayUp_31 : decode cX1_wayUp 31 = .ok (.iaload, 1) := by decide +kernel
theorem dX1_wayUp_32 : decode cX1_wayUp 32 = .ok (.bipush 6, 2) := by decide +kernel
theorem dX1_wayUp_34 : decode cX1_wayUp 34 = .ok (.irem, 1) := by decide +kernel
theorem dX1_wayUp_35 : decode cX1_wayUp 35 = .ok (.ireturn, 1) := by decide +kernel
theorem dX1_place_0 : decode cX1_place 0 = .ok (.bipush 16, 2) := by decide +kernel
theorem dX1_place_2 : decode cX1_place 2 = .ok (.iload_n 0, 1) := by decide +kernel
theorem dX1_place_3 : decode cX1_place 3 = .ok (.imul, 1) := by decide +kernel
theorem dX1_place_4 : decode cX1_place 4 = .ok (.iload_n 1, 1) := by decide +kernel
theorem dX1_place_5 : decode cX1_place 5 = .ok (.iadd, 1) := by decide +kernel
theorem dX1_place_6 : decode cX1_place 6 = .ok (.ireturn, 1) := by decide +kernel
set_option maxRecDepth 20000 in
theorem ggX1_spread_X1_layTree : GoodIn wsX1_spread wsX1_layTree := goodIn_r _ [9, 10, 4, 11, 12, 13, 14, 33, 34, 35, 36, 37, 38, 39, 40, 41, 42, 43, 44, 45, 46, 47] (by decide +kernel) (by decide +kernel)
set_option maxRecDepth 20000 in
theorem gX1_spread_X1_layTree : GoodIn wsX1_spread (wsV RX1 72 RX1 yX1_layTree wsX1_layTree) := goodIn_app (goodIn_of _ (by decide +kernel)) ggX1_spread_X1_layTree
set_option maxRecDepth 20000 in
theorem ggX1_spread_X1_isLive : GoodIn wsX1_spread wsX1_isLive := goodIn_r _ [18, 4, 19, 14, 33, 34, 35, 36, 37, 38, 39, 40, 41, 42, 43, 44, 45, 46, 47] (by decide +kernel) (by decide +kernel)
set_option maxRecDepth 20000 in
theorem gX1_spread_X1_isLive : GoodIn wsX1_spread (wsV RX1 75 RX1 yX1_isLive wsX1_isLive) := goodIn_app (goodIn_of _ (by decide +kernel)) ggX1_spread_X1_isLive
set_option maxRecDepth 20000 in
theorem ggX1_spread_X1_carried : GoodIn wsX1_spread wsX1_carried := goodIn_r _ [23, 4, 24, 25, 26, 27, 8, 28, 29, 33, 34, 35, 36, 37, 38, 39, 40, 41, 42, 43, 44, 45, 46, 47] (by decide +kernel) (by decide +kernel)
set_option maxRecDepth 20000 in
theorem gX1_spread_X1_carried : GoodIn wsX1_spread (wsV RX1 79 RX1 yX1_carried wsX1_carried) := goodIn_app (goodIn_of _ (by decide +kernel)) ggX1_spread_X1_carried
set_option maxRecDepth 20000 in
theorem ggX1_spread_X1_place : GoodIn wsX1_spread wsX1_place := goodIn_r _ [32] (by decide +kernel) (by decide +kernel)
set_option maxRecDepth 20000 in
theorem gX1_spread_X1_place : GoodIn wsX1_spread (va_wsS RX1 93 yX1_place wsX1_place) := goodIn_app (goodIn_of _ (by decide +kernel)) ggX1_spread_X1_place
theorem dX1_spread_0 : decode cX1_spread 0 = .ok (.aload_n 0, 1) := by decide +kernel
theorem dX1_spread_1 : decode cX1_spread 1 = .ok (.invokevirtual 72, 3) := by decide +kernel
theorem dX1_spread_4 : decode cX1_spread 4 = .ok (.iconst 0, 1) := by decide +kernel
theorem dX1_spread_5 : decode cX1_spread 5 = .ok (.istore_n 2, 1) := by decide +kernel
theorem dX1_spread_6 : decode cX1_spread 6 = .ok (.iload_n 2, 1) := by decide +kernel
theorem dX1_spread_7 : decode cX1_spread 7 = .ok (.bipush 96, 2) := by decide +kernel
theorem dX1_spread_9 : decode cX1_spread 9 = .ok (.if_icmp .ge 16, 3) := by decide +kernel
theorem dX1_spread_12 : decode cX1_spread 12 = .ok (.aload_n 0, 1) := by decide +kernel
theorem dX1_spread_13 : decode cX1_spread 13 = .ok (.getfield 34, 3) := by decide +kernel
theorem dX1_spread_16 : decode cX1_spread 16 = .ok (.iload_n 2, 1) := by decide +kernel
theorem dX1_spread_17 : decode cX1_spread 17 = .ok (.iconst (-1), 1) := by decide +kernel
theorem dX1_spread_18 : decode cX1_spread 18 = .ok (.iastore, 1) := by decide +kernel
theorem dX1_spread_19 : decode cX1_spread 19 = .ok (.iinc 2 1, 3) := by decide +kernel
theorem dX1_spread_22 : decode cX1_spread 22 = .ok (.goto (-16), 3) := by decide +kernel
theorem dX1_spread_25 : decode cX1_spread 25 = .ok (.aload_n 0, 1) := by decide +kernel
theorem dX1_spread_26 : decode cX1_spread 26 = .ok (.getfield 34, 3) := by decide +kernel
theorem dX1_spread_29 : decode cX1_spread 29 = .ok (.iload_n 1, 1) := by decide +kernel
theorem dX1_spread_30 : decode cX1_spread 30 = .ok (.iconst 0, 1) := by decide +kernel
theorem dX1_spread_31 : decode cX1_spread 31 = .ok (.iastore, 1) := by decide +kernel
theorem dX1_spread_32 : decode cX1_spread 32 = .ok (.aload_n 0, 1) := by decide +kernel
theorem dX1_spread_33 : decode cX1_spread 33 = .ok (.getfield 37, 3) := by decide +kernel
theorem dX1_spread_36 : decode cX1_spread 36 = .ok (.iconst 0, 1) := by decide +kernel
theorem dX1_spread_37 : decode cX1_spread 37 = .ok (.iload_n 1, 1) := by decide +kernel
theorem dX1_spread_38 : decode cX1_spread 38 = .ok (.iastore, 1) := by decide +kernel
theorem dX1_spread_39 : decode cX1_spread 39 = .ok (.aload_n 0, 1) := by decide +kernel
theorem dX1_spread_40 : decode cX1_spread 40 = .ok (.iconst 1, 1) := by decide +kernel
theorem dX1_spread_41 : decode cX1_spread 41 = .ok (.putfield 90, 3) := by decide +kernel
theorem dX1_spread_44 : decode cX1_spread 44 = .ok (.iconst 0, 1) := by decide +kernel
theorem dX1_spread_45 : decode cX1_spread 45 = .ok (.istore_n 2, 1) := by decide +kernel
theorem dX1_spread_46 : decode cX1_spread 46 = .ok (.iload_n 2, 1) := by decide +kernel
theorem dX1_spread_47 : decode cX1_spread 47 = .ok (.aload_n 0, 1) := by decide +kernel
theorem dX1_spread_48 : decode cX1_spread 48 = .ok (.getfield 90, 3) := by decide +kernel
theorem dX1_spread_51 : decode cX1_spread 51 = .ok (.if_icmp .ge 148, 3) := by decide +kernel
theorem dX1_spread_54 : decode cX1_spread 54 = .ok (.iconst 0, 1) := by decide +kernel
theorem dX1_spread_55 : decode cX1_spread 55 = .ok (.istore_n 3, 1) := by decide +kernel
theorem dX1_spread_56 : decode cX1_spread 56 = .ok (.iload_n 3, 1) := by decide +kernel
theorem dX1_spread_57 : decode cX1_spread 57 = .ok (.bipush 6, 2) := by decide +kernel
theorem dX1_spread_59 : decode cX1_spread 59 = .ok (.if_icmp .ge 134, 3) := by decide +kernel
theorem dX1_spread_62 : decode cX1_spread 62 = .ok (.aload_n 0, 1) := by decide +kernel
theorem dX1_spread_63 : decode cX1_spread 63 = .ok (.getfield 37, 3) := by decide +kernel
theorem dX1_spread_66 : decode cX1_spread 66 = .ok (.iload_n 2, 1) := by decide +kernel
theorem dX1_spread_67 : decode cX1_spread 67 = .ok (.iaload, 1) := by decide +kernel
theorem dX1_spread_68 : decode cX1_spread 68 = .ok (.bipush 16, 2) := by decide +kernel
theorem dX1_spread_70 : decode cX1_spread 70 = .ok (.idiv, 1) := by decide +kernel
theorem dX1_spread_71 : decode cX1_spread 71 = .ok (.bipush 6, 2) := by decide +kernel
theorem dX1_spread_73 : decode cX1_spread 73 = .ok (.imul, 1) := by decide +kernel
theorem dX1_spread_74 : decode cX1_spread 74 = .ok (.iload_n 3, 1) := by decide +kernel
theorem dX1_spread_75 : decode cX1_spread 75 = .ok (.iadd, 1) := by decide +kernel
theorem dX1_spread_76 : decode cX1_spread 76 = .ok (.istore 4, 2) := by decide +kernel
theorem dX1_spread_78 : decode cX1_spread 78 = .ok (.aload_n 0, 1) := by decide +kernel
theorem dX1_spread_79 : decode cX1_spread 79 = .ok (.iload 4, 2) := by decide +kernel
theorem dX1_spread_81 : decode cX1_spread 81 = .ok (.invokevirtual 75, 3) := by decide +kernel
theorem dX1_spread_84 : decode cX1_spread 84 = .ok (.ifCond .eq 21, 3) := by decide +kernel
theorem dX1_spread_87 : decode cX1_spread 87 = .ok (.aload_n 0, 1) := by decide +kernel
theorem dX1_spread_88 : decode cX1_spread 88 = .ok (.iload 4, 2) := by decide +kernel
theorem dX1_spread_90 : decode cX1_spread 90 = .ok (.aload_n 0, 1) := by decide +kernel
theorem dX1_spread_91 : decode cX1_spread 91 = .ok (.getfield 37, 3) := by decide +kernel
theorem dX1_spread_94 : decode cX1_spread 94 = .ok (.iload_n 2, 1) := by decide +kernel
theorem dX1_spread_95 : decode cX1_spread 95 = .ok (.iaload, 1) := by decide +kernel
theorem dX1_spread_96 : decode cX1_spread 96 = .ok (.bipush 16, 2) := by decide +kernel
theorem dX1_spread_98 : decode cX1_spread 98 = .ok (.irem, 1) := by decide +kernel
theorem dX1_spread_99 : decode cX1_spread 99 = .ok (.invokevirtual 79, 3) := by decide +kernel
theorem dX1_spread_102 : decode cX1_spread 102 = .ok (.goto 4, 3) := by decide +kernel
theorem dX1_spread_105 : decode cX1_spread 105 = .ok (.iconst (-1), 1) := by decide +kernel
theorem dX1_spread_106 : decode cX1_spread 106 = .ok (.istore 5, 2) := by decide +kernel
theorem dX1_spread_108 : decode cX1_spread 108 = .ok (.iload 5, 2) := by decide +kernel
theorem dX1_spread_110 : decode cX1_spread 110 = .ok (.iconst (-1), 1) := by decide +kernel
theorem dX1_spread_111 : decode cX1_spread 111 = .ok (.if_icmp .ne 7, 3) := by decide +kernel
theorem dX1_spread_114 : decode cX1_spread 114 = .ok (.iload_n 1, 1) := by decide +kernel
theorem dX1_spread_115 : decode cX1_spread 115 = .ok (.goto 18, 3) := by decide +kernel
theorem dX1_spread_118 : decode cX1_spread 118 = .ok (.aload_n 0, 1) := by decide +kernel
theorem dX1_spread_119 : decode cX1_spread 119 = .ok (.getfield 16, 3) := by decide +kernel
theorem dX1_spread_122 : decode cX1_spread 122 = .ok (.iload 4, 2) := by decide +kernel
theorem dX1_spread_124 : decode cX1_spread 124 = .ok (.iaload, 1) := by decide +kernel
theorem dX1_spread_125 : decode cX1_spread 125 = .ok (.bipush 6, 2) := by decide +kernel
theorem dX1_spread_127 : decode cX1_spread 127 = .ok (.idiv, 1) := by decide +kernel
theorem dX1_spread_128 : decode cX1_spread 128 = .ok (.iload 5, 2) := by decide +kernel
theorem dX1_spread_130 : decode cX1_spread 130 = .ok (.invokestatic 93, 3) := by decide +kernel
theorem dX1_spread_133 : decode cX1_spread 133 = .ok (.istore 6, 2) := by decide +kernel
theorem dX1_spread_135 : decode cX1_spread 135 = .ok (.aload_n 0, 1) := by decide +kernel
theorem dX1_spread_136 : decode cX1_spread 136 = .ok (.getfield 34, 3) := by decide +kernel
theorem dX1_spread_139 : decode cX1_spread 139 = .ok (.iload 6, 2) := by decide +kernel
theorem dX1_spread_141 : decode cX1_spread 141 = .ok (.iaload, 1) := by decide +kernel
theorem dX1_spread_142 : decode cX1_spread 142 = .ok (.iconst (-1), 1) := by decide +kernel
theorem dX1_spread_143 : decode cX1_spread 143 = .ok (.if_icmp .ne 44, 3) := by decide +kernel
theorem dX1_spread_146 : decode cX1_spread 146 = .ok (.aload_n 0, 1) := by decide +kernel
theorem dX1_spread_147 : decode cX1_spread 147 = .ok (.getfield 34, 3) := by decide +kernel
theorem dX1_spread_150 : decode cX1_spread 150 = .ok (.iload 6, 2) := by decide +kernel
theorem dX1_spread_152 : decode cX1_spread 152 = .ok (.aload_n 0, 1) := by decide +kernel
theorem dX1_spread_153 : decode cX1_spread 153 = .ok (.getfield 34, 3) := by decide +kernel
theorem dX1_spread_156 : decode cX1_spread 156 = .ok (.aload_n 0, 1) := by decide +kernel
theorem dX1_spread_157 : decode cX1_spread 157 = .ok (.getfield 37, 3) := by decide +kernel
theorem dX1_spread_160 : decode cX1_spread 160 = .ok (.iload_n 2, 1) := by decide +kernel
theorem dX1_spread_161 : decode cX1_spread 161 = .ok (.iaload, 1) := by decide +kernel
theorem dX1_spread_162 : decode cX1_spread 162 = .ok (.iaload, 1) := by decide +kernel
theorem dX1_spread_163 : decode cX1_spread 163 = .ok (.iconst 1, 1) := by decide +kernel
theorem dX1_spread_164 : decode cX1_spread 164 = .ok (.iadd, 1) := by decide +kernel
theorem dX1_spread_165 : decode cX1_spread 165 = .ok (.iastore, 1) := by decide +kernel
theorem dX1_spread_166 : decode cX1_spread 166 = .ok (.aload_n 0, 1) := by decide +kernel
theorem dX1_spread_167 : decode cX1_spread 167 = .ok (.getfield 37, 3) := by decide +kernel
theorem dX1_spread_170 : decode cX1_spread 170 = .ok (.aload_n 0, 1) := by decide +kernel
theorem dX1_spread_171 : decode cX1_spread 171 = .ok (.getfield 90, 3) := by decide +kernel
theorem dX1_spread_174 : decode cX1_spread 174 = .ok (.iload 6, 2) := by decide +kernel
theorem dX1_spread_176 : decode cX1_spread 176 = .ok (.iastore, 1) := by decide +kernel
theorem dX1_spread_177 : decode cX1_spread 177 = .ok (.aload_n 0, 1) := by decide +kernel
theorem dX1_spread_178 : decode cX1_spread 178 = .ok (.dup, 1) := by decide +kernel
theorem dX1_spread_179 : decode cX1_spread 179 = .ok (.getfield 90, 3) := by decide +kernel
theorem dX1_spread_182 : decode cX1_spread 182 = .ok (.iconst 1, 1) := by decide +kernel
theorem dX1_spread_183 : decode cX1_spread 183 = .ok (.iadd, 1) := by decide +kernel
theorem dX1_spread_184 : decode cX1_spread 184 = .ok (.putfield 90, 3) := by decide +kernel
theorem dX1_spread_187 : decode cX1_spread 187 = .ok (.iinc 3 1, 3) := by decide +kernel
theorem dX1_spread_190 : decode cX1_spread 190 = .ok (.goto (-134), 3) := by decide +kernel
theorem dX1_spread_193 : decode cX1_spread 193 = .ok (.iinc 2 1, 3) := by decide +kernel
theorem dX1_spread_196 : decode cX1_spread 196 = .ok (.goto (-150), 3) := by decide +kernel
theorem dX1_spread_199 : decode cX1_spread 199 = .ok (.return_, 1) := by decide +kernel
set_option maxRecDepth 20000 in
theorem ggX1_hops_X1_isPlace : GoodIn wsX1_hops wsX1_isPlace := goodIn_r _ [6, 7, 8, 5, 9] (by decide +kernel) (by decide +kernel)
set_option maxRecDepth 20000 in
theorem gX1_hops_X1_isPlace : GoodIn wsX1_hops (va_wsS RX1 58 yX1_isPlace wsX1_isPlace) := goodIn_app (goodIn_of _ (by decide +kernel)) ggX1_hops_X1_isPlace
set_option maxRecDepth 20000 in
theorem ggX1_hops_X1_place : GoodIn wsX1_hops wsX1_place := goodIn_r _ [12] (by decide +kernel) (by decide +kernel)
set_option maxRecDepth 20000 in
theorem gX1_hops_X1_place : GoodIn wsX1_hops (va_wsS RX1 93 yX1_place wsX1_place) := goodIn_app (goodIn_of _ (by decide +kernel)) ggX1_hops_X1_place
set_option maxRecDepth 20000 in
theorem ggX1_hops_X1_spread : GoodIn wsX1_hops wsX1_spread := goodIn_r _ [16, 2, 17, 18, 19, 20, 21, 22, 5, 23, 24, 25, 26, 27, 28, 29, 30, 31, 32, 33, 34, 35, 36, 37, 38, 39, 40, 41, 42, 43, 10, 11, 12, 44, 45, 46, 47, 48, 49, 50, 51, 52, 53, 54, 55, 56, 57, 58] (by decide +kernel) (by decide +kernel)
set_option maxRecDepth 20000 in
theorem gX1_hops_X1_spread : GoodIn wsX1_hops (wsV RX1 96 RX1 yX1_spread wsX1_spread) := goodIn_app (goodIn_of _ (by decide +kernel)) ggX1_hops_X1_spread
theorem dX1_hops_0 : decode cX1_hops 0 = .ok (.aload_n 0, 1) := by decide +kernel
theorem dX1_hops_1 : decode cX1_hops 1 = .ok (.iload_n 1, 1) := by decide +kernel
theorem dX1_hops_2 : decode cX1_hops 2 = .ok (.iload_n 2, 1) := by decide +kernel
theorem dX1_hops_3 : decode cX1_hops 3 = .ok (.invokestatic 58, 3) := by decide +kernel
theorem dX1_hops_6 : decode cX1_hops 6 = .ok (.ifCond .eq 16, 3) := by decide +kernel
theorem dX1_hops_9 : decode cX1_hops 9 = .ok (.iload_n 3, 1) := by decide +kernel
theorem dX1_hops_10 : decode cX1_hops 10 = .ok (.iload 4, 2) := by decide +kernel
theorem dX1_hops_12 : decode cX1_hops 12 = .ok (.invokestatic 58, 3) := by decide +kernel
theorem dX1_hops_15 : decode cX1_hops 15 = .ok (.ifCond .eq 7, 3) := by decide +kernel
theorem dX1_hops_18 : decode cX1_hops 18 = .ok (.iconst 0, 1) := by decide +kernel
theorem dX1_hops_19 : decode cX1_hops 19 = .ok (.goto 4, 3) := by decide +kernel
theorem dX1_hops_22 : decode cX1_hops 22 = .ok (.iconst 1, 1) := by decide +kernel
theorem dX1_hops_23 : decode cX1_hops 23 = .ok (.putfield 43, 3) := by decide +kernel
theorem dX1_hops_26 : decode cX1_hops 26 = .ok (.aload_n 0, 1) := by decide +kernel
theorem dX1_hops_27 : decode cX1_hops 27 = .ok (.getfield 43, 3) := by decide +kernel
theorem dX1_hops_30 : decode cX1_hops 30 = .ok (.ifCond .le 5, 3) := by decide +kernel
theorem dX1_hops_33 : decode cX1_hops 33 = .ok (.iconst 0, 1) := by decide +kernel
theorem dX1_hops_34 : decode cX1_hops 34 = .ok (.ireturn, 1) := by decide +kernel
theorem dX1_hops_35 : decode cX1_hops 35 = .ok (.aload_n 0, 1) := by decide +kernel
theorem dX1_hops_36 : decode cX1_hops 36 = .ok (.iload_n 1, 1) := by decide +kernel
theorem dX1_hops_37 : decode cX1_hops 37 = .ok (.iload_n 2, 1) := by decide +kernel
theorem dX1_hops_38 : decode cX1_hops 38 = .ok (.invokestatic 93, 3) := by decide +kernel
theorem dX1_hops_41 : decode cX1_hops 41 = .ok (.invokevirtual 96, 3) := by decide +kernel
theorem dX1_hops_44 : decode cX1_hops 44 = .ok (.aload_n 0, 1) := by decide +kernel
theorem dX1_hops_45 : decode cX1_hops 45 = .ok (.getfield 34, 3) := by decide +kernel
theorem dX1_hops_48 : decode cX1_hops 48 = .ok (.iload_n 3, 1) := by decide +kernel
theorem dX1_hops_49 : decode cX1_hops 49 = .ok (.iload 4, 2) := by decide +kernel
theorem dX1_hops_51 : decode cX1_hops 51 = .ok (.invokestatic 93, 3) := by decide +kernel
theorem dX1_hops_54 : decode cX1_hops 54 = .ok (.iaload, 1) := by decide +kernel
theorem dX1_hops_55 : decode cX1_hops 55 = .ok (.ireturn, 1) := by decide +kernel
set_option maxRecDepth 20000 in
theorem ggX1_meet_X1_isPort : GoodIn wsX1_meet wsX1_isPort := goodIn_r _ [7, 8, 9, 6, 10] (by decide +kernel) (by decide +kernel)
set_option maxRecDepth 20000 in
theorem gX1_meet_X1_isPort : GoodIn wsX1_meet (va_wsS RX1 51 yX1_isPort wsX1_isPort) := goodIn_app (goodIn_of _ (by decide +kernel)) ggX1_meet_X1_isPort
set_option maxRecDepth 20000 in
theorem ggX1_meet_X1_place : GoodIn wsX1_meet wsX1_place := goodIn_r _ [13] (by decide +kernel) (by decide +kernel)
set_option maxRecDepth 20000 in
theorem gX1_meet_X1_place : GoodIn wsX1_meet (va_wsS RX1 93 yX1_place wsX1_place) := goodIn_app (goodIn_of _ (by decide +kernel)) ggX1_meet_X1_place
set_option maxRecDepth 20000 in
theorem ggX1_meet_X1_spread : GoodIn wsX1_meet wsX1_spread := goodIn_r _ [17, 3, 18, 19, 20, 21, 22, 23, 6, 24, 25, 26, 27, 28, 29, 30, 31, 32, 33, 34, 35, 36, 37, 38, 2, 39, 40, 41, 42, 43, 11, 12, 13, 44, 45, 46, 47, 48, 49, 50, 51, 52, 53, 54, 55, 56, 57, 58] (by decide +kernel) (by decide +kernel)
set_option maxRecDepth 20000 in
theorem gX1_meet_X1_spread : GoodIn wsX1_meet (wsV RX1 96 RX1 yX1_spread wsX1_spread) := goodIn_app (goodIn_of _ (by decide +kernel)) ggX1_meet_X1_spread
theorem dX1_meet_0 : decode cX1_meet 0 = .ok (.aload_n 0, 1) := by decide +kernel
theorem dX1_meet_1 : decode cX1_meet 1 = .ok (.iload_n 1, 1) := by decide +kernel
theorem dX1_meet_2 : decode cX1_meet 2 = .ok (.iload_n 2, 1) := by decide +kernel
theorem dX1_meet_3 : decode cX1_meet 3 = .ok (.invokestatic 51, 3) := by decide +kernel
theorem dX1_meet_6 : decode cX1_meet 6 = .ok (.ifCond .eq 16, 3) := by decide +kernel
theorem dX1_meet_9 : decode cX1_meet 9 = .ok (.iload_n 3, 1) := by decide +kernel
theorem dX1_meet_10 : decode cX1_meet 10 = .ok (.iload 4, 2) := by decide +kernel
theorem dX1_meet_12 : decode cX1_meet 12 = .ok (.invokestatic 51, 3) := by decide +kernel
theorem dX1_meet_15 : decode cX1_meet 15 = .ok (.ifCond .eq 7, 3) := by decide +kernel
theorem dX1_meet_18 : decode cX1_meet 18 = .ok (.iconst 0, 1) := by decide +kernel
theorem dX1_meet_19 : decode cX1_meet 19 = .ok (.goto 4, 3) := by decide +kernel
theorem dX1_meet_22 : decode cX1_meet 22 = .ok (.iconst 1, 1) := by decide +kernel
theorem dX1_meet_23 : decode cX1_meet 23 = .ok (.putfield 43, 3) := by decide +kernel
theorem dX1_meet_26 : decode cX1_meet 26 = .ok (.aload_n 0, 1) := by decide +kernel
theorem dX1_meet_27 : decode cX1_meet 27 = .ok (.getfield 43, 3) := by decide +kernel
theorem dX1_meet_30 : decode cX1_meet 30 = .ok (.ifCond .le 5, 3) := by decide +kernel
theorem dX1_meet_33 : decode cX1_meet 33 = .ok (.iconst 0, 1) := by decide +kernel
theorem dX1_meet_34 : decode cX1_meet 34 = .ok (.ireturn, 1) := by decide +kernel
theorem dX1_meet_35 : decode cX1_meet 35 = .ok (.aload_n 0, 1) := by decide +kernel
theorem dX1_meet_36 : decode cX1_meet 36 = .ok (.getfield 7, 3) := by decide +kernel
theorem dX1_meet_39 : decode cX1_meet 39 = .ok (.bipush 6, 2) := by decide +kernel
theorem dX1_meet_41 : decode cX1_meet 41 = .ok (.iload_n 1, 1) := by decide +kernel
theorem dX1_meet_42 : decode cX1_meet 42 = .ok (.imul, 1) := by decide +kernel
theorem dX1_meet_43 : decode cX1_meet 43 = .ok (.iload_n 2, 1) := by decide +kernel
theorem dX1_meet_44 : decode cX1_meet 44 = .ok (.iadd, 1) := by decide +kernel
theorem dX1_meet_45 : decode cX1_meet 45 = .ok (.iaload, 1) := by decide +kernel
theorem dX1_meet_46 : decode cX1_meet 46 = .ok (.istore 5, 2) := by decide +kernel
theorem dX1_meet_48 : decode cX1_meet 48 = .ok (.aload_n 0, 1) := by decide +kernel
theorem dX1_meet_49 : decode cX1_meet 49 = .ok (.getfield 7, 3) := by decide +kernel
theorem dX1_meet_52 : decode cX1_meet 52 = .ok (.bipush 6, 2) := by decide +kernel
theorem dX1_meet_54 : decode cX1_meet 54 = .ok (.iload_n 3, 1) := by decide +kernel
theorem dX1_meet_55 : decode cX1_meet 55 = .ok (.imul, 1) := by decide +kernel
theorem dX1_meet_56 : decode cX1_meet 56 = .ok (.iload 4, 2) := by decide +kernel
theorem dX1_meet_58 : decode cX1_meet 58 = .ok (.iadd, 1) := by decide +kernel
theorem dX1_meet_59 : decode cX1_meet 59 = .ok (.iaload, 1) := by decide +kernel
theorem dX1_meet_60 : decode cX1_meet 60 = .ok (.istore 6, 2) := by decide +kernel
theorem dX1_meet_62 : decode cX1_meet 62 = .ok (.iload 5, 2) := by decide +kernel
theorem dX1_meet_64 : decode cX1_meet 64 = .ok (.ifCond .eq 8, 3) := by decide +kernel
theorem dX1_meet_67 : decode cX1_meet 67 = .ok (.iload 6, 2) := by decide +kernel
theorem dX1_meet_69 : decode cX1_meet 69 = .ok (.ifCond .ne 5, 3) := by decide +kernel
theorem dX1_meet_72 : decode cX1_meet 72 = .ok (.iconst 0, 1) := by decide +kernel
theorem dX1_meet_73 : decode cX1_meet 73 = .ok (.ireturn, 1) := by decide +kernel
theorem dX1_meet_74 : decode cX1_meet 74 = .ok (.aload_n 0, 1) := by decide +kernel
theorem dX1_meet_75 : decode cX1_meet 75 = .ok (.iload_n 1, 1) := by decide +kernel
theorem dX1_meet_76 : decode cX1_meet 76 = .ok (.iload 5, 2) := by decide +kernel
theorem dX1_meet_78 : decode cX1_meet 78 = .ok (.invokestatic 93, 3) := by decide +kernel
theorem dX1_meet_81 : decode cX1_meet 81 = .ok (.invokevirtual 96, 3) := by decide +kernel
theorem dX1_meet_84 : decode cX1_meet 84 = .ok (.aload_n 0, 1) := by decide +kernel
theorem dX1_meet_85 : decode cX1_meet 85 = .ok (.getfield 34, 3) := by decide +kernel
theorem dX1_meet_88 : decode cX1_meet 88 = .ok (.iload_n 3, 1) := by decide +kernel
theorem dX1_meet_89 : decode cX1_meet 89 = .ok (.iload 6, 2) := by decide +kernel
theorem dX1_meet_91 : decode cX1_meet 91 = .ok (.invokestatic 93, 3) := by decide +kernel
theorem dX1_meet_94 : decode cX1_meet 94 = .ok (.iaload, 1) := by decide +kernel
theorem dX1_meet_95 : decode cX1_meet 95 = .ok (.iconst (-1), 1) := by decide +kernel
theorem dX1_meet_96 : decode cX1_meet 96 = .ok (.if_icmp .eq 7, 3) := by decide +kernel
theorem dX1_meet_99 : decode cX1_meet 99 = .ok (.iconst 1, 1) := by decide +kernel
theorem dX1_meet_100 : decode cX1_meet 100 = .ok (.goto 4, 3) := by decide +kernel
theorem dX1_meet_103 : decode cX1_meet 103 = .ok (.iconst 0, 1) := by decide +kernel
theorem dX1_meet_104 : decode cX1_meet 104 = .ok (.ireturn, 1) := by decide +kernel
set_option maxRecDepth 20000 in
theorem ggX1_joined_X1_isPlace : GoodIn wsX1_joined wsX1_isPlace := goodIn_r _ [6, 7, 8, 5, 9] (by decide +kernel) (by decide +kernel)
set_option maxRecDepth 20000 in
theorem gX1_joined_X1_isPlace : GoodIn wsX1_joined (va_wsS RX1 58 yX1_isPlace wsX1_isPlace) := goodIn_app (goodIn_of _ (by decide +kernel)) ggX1_joined_X1_isPlace
set_option maxRecDepth 20000 in
theorem ggX1_joined_X1_place : GoodIn wsX1_joined wsX1_place := goodIn_r _ [12] (by decide +kernel) (by decide +kernel)
set_option maxRecDepth 20000 in
theorem gX1_joined_X1_place : GoodIn wsX1_joined (va_wsS RX1 93 yX1_place wsX1_place) := goodIn_app (goodIn_of _ (by decide +kernel)) ggX1_joined_X1_place
set_option maxRecDepth 20000 in
theorem ggX1_joined_X1_spread : GoodIn wsX1_joined wsX1_spread := goodIn_r _ [16, 17, 18, 2, 19, 20, 21, 22, 5, 23, 24, 25, 26, 27, 28, 29, 30, 31, 32, 33, 34, 35, 36, 37, 38, 39, 40, 41, 42, 43, 10, 11, 12, 44, 45, 46, 47, 48, 49, 50, 51, 52, 53, 54, 55, 56, 57, 58] (by decide +kernel) (by decide +kernel)
set_option maxRecDepth 20000 in
theorem gX1_joined_X1_spread : GoodIn wsX1_joined (wsV RX1 96 RX1 yX1_spread wsX1_spread) := goodIn_app (goodIn_of _ (by decide +kernel)) ggX1_joined_X1_spread
theorem dX1_joined_0 : decode cX1_joined 0 = .ok (.aload_n 0, 1) := by decide +kernel
theorem dX1_joined_1 : decode cX1_joined 1 = .ok (.iload_n 1, 1) := by decide +kernel
theorem dX1_joined_2 : decode cX1_joined 2 = .ok (.iload_n 2, 1) := by decide +kernel
theorem dX1_joined_3 : decode cX1_joined 3 = .ok (.invokestatic 58, 3) := by decide +kernel
theorem dX1_joined_6 : decode cX1_joined 6 = .ok (.ifCond .eq 7, 3) := by decide +kernel
theorem dX1_joined_9 : decode cX1_joined 9 = .ok (.iconst 0, 1) := by decide +kernel
theorem dX1_joined_10 : decode cX1_joined 10 = .ok (.goto 4, 3) := by decide +kernel
theorem dX1_joined_13 : decode cX1_joined 13 = .ok (.iconst 1, 1) := by decide +kernel
theorem dX1_joined_14 : decode cX1_joined 14 = .ok (.putfield 43, 3) := by decide +kernel
theorem dX1_joined_17 : decode cX1_joined 17 = .ok (.aload_n 0, 1) := by decide +kernel
theorem dX1_joined_18 : decode cX1_joined 18 = .ok (.getfield 43, 3) := by decide +kernel
theorem dX1_joined_21 : decode cX1_joined 21 = .ok (.ifCond .le 5, 3) := by decide +kernel
theorem dX1_joined_24 : decode cX1_joined 24 = .ok (.iconst 0, 1) := by decide +kernel
theorem dX1_joined_25 : decode cX1_joined 25 = .ok (.ireturn, 1) := by decide +kernel
theorem dX1_joined_26 : decode cX1_joined 26 = .ok (.aload_n 0, 1) := by decide +kernel
theorem dX1_joined_27 : decode cX1_joined 27 = .ok (.iload_n 1, 1) := by decide +kernel
theorem dX1_joined_28 : decode cX1_joined 28 = .ok (.iload_n 2, 1) := by decide +kernel
theorem dX1_joined_29 : decode cX1_joined 29 = .ok (.invokestatic 93, 3) := by decide +kernel
theorem dX1_joined_32 : decode cX1_joined 32 = .ok (.invokevirtual 96, 3) := by decide +kernel
theorem dX1_joined_35 : decode cX1_joined 35 = .ok (.aload_n 0, 1) := by decide +kernel
theorem dX1_joined_36 : decode cX1_joined 36 = .ok (.getfield 90, 3) := by decide +kernel
theorem dX1_joined_39 : decode cX1_joined 39 = .ok (.ireturn, 1) := by decide +kernel
set_option maxRecDepth 20000 in
theorem ggX1_isUsed_X1_isTagged : GoodIn wsX1_isUsed wsX1_isTagged := goodIn_r _ [6, 7, 8, 9, 10, 11, 12, 13, 14, 15, 16, 17, 18, 19, 20, 21, 22] (by decide +kernel) (by decide +kernel)
set_option maxRecDepth 20000 in
theorem gX1_isUsed_X1_isTagged : GoodIn wsX1_isUsed (wsV RX1 55 RX1 yX1_isTagged wsX1_isTagged) := goodIn_app (goodIn_of _ (by decide +kernel)) ggX1_isUsed_X1_isTagged
theorem dX1_isUsed_0 : decode cX1_isUsed 0 = .ok (.iconst 0, 1) := by decide +kernel
theorem dX1_isUsed_1 : decode cX1_isUsed 1 = .ok (.istore_n 2, 1) := by decide +kernel
theorem dX1_isUsed_2 : decode cX1_isUsed 2 = .ok (.iload_n 1, 1) := by decide +kernel
theorem dX1_isUsed_3 : decode cX1_isUsed 3 = .ok (.bipush 16, 2) := by decide +kernel
theorem dX1_isUsed_5 : decode cX1_isUsed 5 = .ok (.idiv, 1) := by decide +kernel
theorem dX1_isUsed_6 : decode cX1_isUsed 6 = .ok (.bipush 6, 2) := by decide +kernel
theorem dX1_isUsed_8 : decode cX1_isUsed 8 = .ok (.imul, 1) := by decide +kernel
theorem dX1_isUsed_9 : decode cX1_isUsed 9 = .ok (.istore_n 3, 1) := by decide +kernel
theorem dX1_isUsed_10 : decode cX1_isUsed 10 = .ok (.iload_n 3, 1) := by decide +kernel
theorem dX1_isUsed_11 : decode cX1_isUsed 11 = .ok (.iload_n 1, 1) := by decide +kernel
theorem dX1_isUsed_12 : decode cX1_isUsed 12 = .ok (.bipush 16, 2) := by decide +kernel
theorem dX1_isUsed_14 : decode cX1_isUsed 14 = .ok (.idiv, 1) := by decide +kernel
theorem dX1_isUsed_15 : decode cX1_isUsed 15 = .ok (.bipush 6, 2) := by decide +kernel
theorem dX1_isUsed_17 : decode cX1_isUsed 17 = .ok (.imul, 1) := by decide +kernel
theorem dX1_isUsed_18 : decode cX1_isUsed 18 = .ok (.bipush 6, 2) := by decide +kernel
theorem dX1_isUsed_20 : decode cX1_isUsed 20 = .ok (.iadd, 1) := by decide +kernel
theorem dX1_isUsed_21 : decode cX1_isUsed 21 = .ok (.if_icmp .ge 44, 3) := by decide +kernel
theorem dX1_isUsed_24 : decode cX1_isUsed 24 = .ok (.iload_n 2, 1) := by decide +kernel
theorem dX1_isUsed_25 : decode cX1_isUsed 25 = .ok (.ifCond .ne 28, 3) := by decide +kernel
theorem dX1_isUsed_28 : decode cX1_isUsed 28 = .ok (.aload_n 0, 1) := by decide +kernel
theorem dX1_isUsed_29 : decode cX1_isUsed 29 = .ok (.iload_n 3, 1) := by decide +kernel
theorem dX1_isUsed_30 : decode cX1_isUsed 30 = .ok (.iload_n 1, 1) := by decide +kernel
theorem dX1_isUsed_31 : decode cX1_isUsed 31 = .ok (.bipush 16, 2) := by decide +kernel
theorem dX1_isUsed_33 : decode cX1_isUsed 33 = .ok (.irem, 1) := by decide +kernel
theorem dX1_isUsed_34 : decode cX1_isUsed 34 = .ok (.invokevirtual 55, 3) := by decide +kernel
theorem dX1_isUsed_37 : decode cX1_isUsed 37 = .ok (.ifCond .ne 16, 3) := by decide +kernel
theorem dX1_isUsed_40 : decode cX1_isUsed 40 = .ok (.aload_n 0, 1) := by decide +kernel
theorem dX1_isUsed_41 : decode cX1_isUsed 41 = .ok (.getfield 7, 3) := by decide +kernel
theorem dX1_isUsed_44 : decode cX1_isUsed 44 = .ok (.iload_n 3, 1) := by decide +kernel
theorem dX1_isUsed_45 : decode cX1_isUsed 45 = .ok (.iaload, 1) := by decide +kernel
theorem dX1_isUsed_46 : decode cX1_isUsed 46 = .ok (.iload_n 1, 1) := by decide +kernel
theorem dX1_isUsed_47 : decode cX1_isUsed 47 = .ok (.bipush 16, 2) := by decide +kernel
theorem dX1_isUsed_49 : decode cX1_isUsed 49 = .ok (.irem, 1) := by decide +kernel
theorem dX1_isUsed_50 : decode cX1_isUsed 50 = .ok (.if_icmp .ne 7, 3) := by decide +kernel
theorem dX1_isUsed_53 : decode cX1_isUsed 53 = .ok (.iconst 1, 1) := by decide +kernel
theorem dX1_isUsed_54 : decode cX1_isUsed 54 = .ok (.goto 4, 3) := by decide +kernel
theorem dX1_isUsed_57 : decode cX1_isUsed 57 = .ok (.iconst 0, 1) := by decide +kernel
theorem dX1_isUsed_58 : decode cX1_isUsed 58 = .ok (.istore_n 2, 1) := by decide +kernel
theorem dX1_isUsed_59 : decode cX1_isUsed 59 = .ok (.iinc 3 1, 3) := by decide +kernel
theorem dX1_isUsed_62 : decode cX1_isUsed 62 = .ok (.goto (-52), 3) := by decide +kernel
theorem dX1_isUsed_65 : decode cX1_isUsed 65 = .ok (.iload_n 2, 1) := by decide +kernel
theorem dX1_isUsed_66 : decode cX1_isUsed 66 = .ok (.ifCond .eq 14, 3) := by decide +kernel
theorem dX1_isUsed_69 : decode cX1_isUsed 69 = .ok (.iload_n 1, 1) := by decide +kernel
theorem dX1_isUsed_70 : decode cX1_isUsed 70 = .ok (.bipush 16, 2) := by decide +kernel
theorem dX1_isUsed_72 : decode cX1_isUsed 72 = .ok (.irem, 1) := by decide +kernel
theorem dX1_isUsed_73 : decode cX1_isUsed 73 = .ok (.ifCond .le 7, 3) := by decide +kernel
theorem dX1_isUsed_76 : decode cX1_isUsed 76 = .ok (.iconst 1, 1) := by decide +kernel
theorem dX1_isUsed_77 : decode cX1_isUsed 77 = .ok (.goto 4, 3) := by decide +kernel
theorem dX1_isUsed_80 : decode cX1_isUsed 80 = .ok (.iconst 0, 1) := by decide +kernel
theorem dX1_isUsed_81 : decode cX1_isUsed 81 = .ok (.ireturn, 1) := by decide +kernel
set_option maxRecDepth 20000 in
theorem ggX1_islandMany_X1_isUsed : GoodIn wsX1_islandMany wsX1_isUsed := goodIn_r _ [6, 7, 8, 9, 10, 5, 11, 12, 41, 42, 43, 44, 45, 46, 47, 48, 49, 50, 51, 52, 53, 54, 55] (by decide +kernel) (by decide +kernel)
set_option maxRecDepth 20000 in
theorem gX1_islandMany_X1_isUsed : GoodIn wsX1_islandMany (wsV RX1 100 RX1 yX1_isUsed wsX1_isUsed) := goodIn_app (goodIn_of _ (by decide +kernel)) ggX1_islandMany_X1_isUsed
set_option maxRecDepth 20000 in
theorem ggX1_islandMany_X1_spread : GoodIn wsX1_islandMany wsX1_spread := goodIn_r _ [16, 1, 17, 18, 19, 20, 21, 22, 5, 23, 24, 25, 26, 27, 28, 29, 30, 31, 32, 33, 34, 35, 36, 37, 7, 8, 9, 10, 11, 12, 38, 39, 40, 41, 42, 43, 44, 45, 46, 47, 48, 49, 50, 51, 52, 53, 54, 55] (by decide +kernel) (by decide +kernel)
set_option maxRecDepth 20000 in
theorem gX1_islandMany_X1_spread : GoodIn wsX1_islandMany (wsV RX1 96 RX1 yX1_spread wsX1_spread) := goodIn_app (goodIn_of _ (by decide +kernel)) ggX1_islandMany_X1_spread
theorem dX1_islandMany_0 : decode cX1_islandMany 0 = .ok (.iconst 0, 1) := by decide +kernel
theorem dX1_islandMany_1 : decode cX1_islandMany 1 = .ok (.istore_n 1, 1) := by decide +kernel
theorem dX1_islandMany_2 : decode cX1_islandMany 2 = .ok (.iconst 0, 1) := by decide +kernel
theorem dX1_islandMany_3 : decode cX1_islandMany 3 = .ok (.istore_n 2, 1) := by decide +kernel
theorem dX1_islandMany_4 : decode cX1_islandMany 4 = .ok (.iload_n 2, 1) := by decide +kernel
theorem dX1_islandMany_5 : decode cX1_islandMany 5 = .ok (.bipush 96, 2) := by decide +kernel
theorem dX1_islandMany_7 : decode cX1_islandMany 7 = .ok (.if_icmp .ge 72, 3) := by decide +kernel
theorem dX1_islandMany_10 : decode cX1_islandMany 10 = .ok (.aload_n 0, 1) := by decide +kernel
theorem dX1_islandMany_11 : decode cX1_islandMany 11 = .ok (.iload_n 2, 1) := by decide +kernel
theorem dX1_islandMany_12 : decode cX1_islandMany 12 = .ok (.invokevirtual 100, 3) := by decide +kernel
theorem dX1_islandMany_15 : decode cX1_islandMany 15 = .ok (.istore_n 3, 1) := by decide +kernel
theorem dX1_islandMany_16 : decode cX1_islandMany 16 = .ok (.iload_n 3, 1) := by decide +kernel
theorem dX1_islandMany_17 : decode cX1_islandMany 17 = .ok (.ifCond .eq 8, 3) := by decide +kernel
theorem dX1_islandMany_20 : decode cX1_islandMany 20 = .ok (.aload_n 0, 1) := by decide +kernel
theorem dX1_islandMany_21 : decode cX1_islandMany 21 = .ok (.iload_n 2, 1) := by decide +kernel
theorem dX1_islandMany_22 : decode cX1_islandMany 22 = .ok (.invokevirtual 96, 3) := by decide +kernel
theorem dX1_islandMany_25 : decode cX1_islandMany 25 = .ok (.iconst 0, 1) := by decide +kernel
theorem dX1_islandMany_26 : decode cX1_islandMany 26 = .ok (.istore 4, 2) := by decide +kernel
theorem dX1_islandMany_28 : decode cX1_islandMany 28 = .ok (.iload 4, 2) := by decide +kernel
theorem dX1_islandMany_30 : decode cX1_islandMany 30 = .ok (.iload_n 2, 1) := by decide +kernel
theorem dX1_islandMany_31 : decode cX1_islandMany 31 = .ok (.if_icmp .ge 30, 3) := by decide +kernel
theorem dX1_islandMany_34 : decode cX1_islandMany 34 = .ok (.iload_n 3, 1) := by decide +kernel
theorem dX1_islandMany_35 : decode cX1_islandMany 35 = .ok (.ifCond .eq 18, 3) := by decide +kernel
theorem dX1_islandMany_38 : decode cX1_islandMany 38 = .ok (.aload_n 0, 1) := by decide +kernel
theorem dX1_islandMany_39 : decode cX1_islandMany 39 = .ok (.getfield 34, 3) := by decide +kernel
theorem dX1_islandMany_42 : decode cX1_islandMany 42 = .ok (.iload 4, 2) := by decide +kernel
theorem dX1_islandMany_44 : decode cX1_islandMany 44 = .ok (.iaload, 1) := by decide +kernel
theorem dX1_islandMany_45 : decode cX1_islandMany 45 = .ok (.iconst (-1), 1) := by decide +kernel
theorem dX1_islandMany_46 : decode cX1_islandMany 46 = .ok (.if_icmp .ne 7, 3) := by decide +kernel
theorem dX1_islandMany_49 : decode cX1_islandMany 49 = .ok (.iconst 1, 1) := by decide +kernel
theorem dX1_islandMany_50 : decode cX1_islandMany 50 = .ok (.goto 4, 3) := by decide +kernel
theorem dX1_islandMany_53 : decode cX1_islandMany 53 = .ok (.iconst 0, 1) := by decide +kernel
theorem dX1_islandMany_54 : decode cX1_islandMany 54 = .ok (.istore_n 3, 1) := by decide +kernel
theorem dX1_islandMany_55 : decode cX1_islandMany 55 = .ok (.iinc 4 1, 3) := by decide +kernel
theorem dX1_islandMany_58 : decode cX1_islandMany 58 = .ok (.goto (-30), 3) := by decide +kernel
theorem dX1_islandMany_61 : decode cX1_islandMany 61 = .ok (.iload_n 1, 1) := by decide +kernel
theorem dX1_islandMany_62 : decode cX1_islandMany 62 = .ok (.iload_n 3, 1) := by decide +kernel
theorem dX1_islandMany_63 : decode cX1_islandMany 63 = .ok (.ifCond .eq 7, 3) := by decide +kernel
theorem dX1_islandMany_66 : decode cX1_islandMany 66 = .ok (.iconst 1, 1) := by decide +kernel
theorem dX1_islandMany_67 : decode cX1_islandMany 67 = .ok (.goto 4, 3) := by decide +kernel
theorem dX1_islandMany_70 : decode cX1_islandMany 70 = .ok (.iconst 0, 1) := by decide +kernel
theorem dX1_islandMany_71 : decode cX1_islandMany 71 = .ok (.iadd, 1) := by decide +kernel
theorem dX1_islandMany_72 : decode cX1_islandMany 72 = .ok (.istore_n 1, 1) := by decide +kernel
theorem dX1_islandMany_73 : decode cX1_islandMany 73 = .ok (.iinc 2 1, 3) := by decide +kernel
theorem dX1_islandMany_76 : decode cX1_islandMany 76 = .ok (.goto (-72), 3) := by decide +kernel
theorem dX1_islandMany_79 : decode cX1_islandMany 79 = .ok (.iload_n 1, 1) := by decide +kernel
theorem dX1_islandMany_80 : decode cX1_islandMany 80 = .ok (.ireturn, 1) := by decide +kernel
set_option maxRecDepth 20000 in
theorem ggX1_islands_X1_islandMany : GoodIn wsX1_islands wsX1_islandMany := goodIn_r _ [6, 7, 8, 9, 10, 5, 11, 12, 13, 14, 15, 16, 17, 18, 19, 20, 21, 22, 23, 24, 25, 26, 27, 28, 29, 30, 31, 32, 33, 34, 35, 36, 37, 38, 39, 40, 41, 42, 43, 44, 45, 46, 47, 48, 49, 50, 51, 52, 53, 54, 55, 56, 57, 58, 59, 60] (by decide +kernel) (by decide +kernel)
set_option maxRecDepth 20000 in
theorem gX1_islands_X1_islandMany : GoodIn wsX1_islands (wsV RX1 103 RX1 yX1_islandMany wsX1_islandMany) := goodIn_app (goodIn_of _ (by decide +kernel)) ggX1_islands_X1_islandMany
theorem dX1_islands_0 : decode cX1_islands 0 = .ok (.aload_n 0, 1) := by decide +kernel
theorem dX1_islands_1 : decode cX1_islands 1 = .ok (.iconst 0, 1) := by decide +kernel
theorem dX1_islands_2 : decode cX1_islands 2 = .ok (.putfield 43, 3) := by decide +kernel
theorem dX1_islands_5 : decode cX1_islands 5 = .ok (.aload_n 0, 1) := by decide +kernel
theorem dX1_islands_6 : decode cX1_islands 6 = .ok (.invokevirtual 103, 3) := by decide +kernel
theorem dX1_islands_9 : decode cX1_islands 9 = .ok (.ireturn, 1) := by decide +kernel
set_option maxRecDepth 20000 in
theorem ggX1_loops_X1_islandMany : GoodIn wsX1_loops wsX1_islandMany := goodIn_r _ [7, 8, 9, 10, 11, 6, 12, 13, 14, 15, 16, 17, 18, 19, 20, 21, 22, 23, 24, 2, 25, 26, 27, 28, 29, 30, 31, 32, 33, 34, 35, 36, 37, 38, 39, 40, 41, 42, 43, 44, 45, 46, 47, 48, 49, 50, 51, 52, 53, 54, 55, 56, 57, 58, 59, 60] (by decide +kernel) (by decide +kernel)
set_option maxRecDepth 20000 in
theorem gX1_loops_X1_islandMany : GoodIn wsX1_loops (wsV RX1 103 RX1 yX1_islandMany wsX1_islandMany) := goodIn_app (goodIn_of _ (by decide +kernel)) ggX1_loops_X1_islandMany
set_option maxRecDepth 20000 in
theorem ggX1_loops_X1_layTree : GoodIn wsX1_loops wsX1_layTree := goodIn_r _ [28, 29, 2, 30, 31, 32, 33, 46, 47, 48, 49, 50, 51, 52, 53, 54, 55, 56, 57, 58, 59, 60] (by decide +kernel) (by decide +kernel)
set_option maxRecDepth 20000 in
theorem gX1_loops_X1_layTree : GoodIn wsX1_loops (wsV RX1 72 RX1 yX1_layTree wsX1_layTree) := goodIn_app (goodIn_of _ (by decide +kernel)) ggX1_loops_X1_layTree
set_option maxRecDepth 20000 in
theorem ggX1_loops_X1_isUsed : GoodIn wsX1_loops wsX1_isUsed := goodIn_r _ [12, 13, 14, 15, 16, 6, 17, 18, 46, 47, 48, 49, 50, 51, 52, 53, 54, 55, 56, 57, 58, 59, 60] (by decide +kernel) (by decide +kernel)
set_option maxRecDepth 20000 in
theorem gX1_loops_X1_isUsed : GoodIn wsX1_loops (wsV RX1 100 RX1 yX1_isUsed wsX1_isUsed) := goodIn_app (goodIn_of _ (by decide +kernel)) ggX1_loops_X1_isUsed
set_option maxRecDepth 20000 in
theorem ggX1_loops_X1_isLive : GoodIn wsX1_loops wsX1_isLive := goodIn_r _ [37, 2, 38, 33, 46, 47, 48, 49, 50, 51, 52, 53, 54, 55, 56, 57, 58, 59, 60] (by decide +kernel) (by decide +kernel)
set_option maxRecDepth 20000 in
theorem gX1_loops_X1_isLive : GoodIn wsX1_loops (wsV RX1 75 RX1 yX1_isLive wsX1_isLive) := goodIn_app (goodIn_of _ (by decide +kernel)) ggX1_loops_X1_isLive
set_option maxRecDepth 20000 in
theorem ggX1_loops_X1_carried : GoodIn wsX1_loops wsX1_carried := goodIn_r _ [42, 2, 13, 14, 15, 16, 6, 17, 18, 46, 47, 48, 49, 50, 51, 52, 53, 54, 55, 56, 57, 58, 59, 60] (by decide +kernel) (by decide +kernel)
set_option maxRecDepth 20000 in
theorem gX1_loops_X1_carried : GoodIn wsX1_loops (wsV RX1 79 RX1 yX1_carried wsX1_carried) := goodIn_app (goodIn_of _ (by decide +kernel)) ggX1_loops_X1_carried
theorem dX1_loops_0 : decode cX1_loops 0 = .ok (.aload_n 0, 1) := by decide +kernel
theorem dX1_loops_1 : decode cX1_loops 1 = .ok (.iconst 0, 1) := by decide +kernel
theorem dX1_loops_2 : decode cX1_loops 2 = .ok (.putfield 43, 3) := by decide +kernel
theorem dX1_loops_5 : decode cX1_loops 5 = .ok (.aload_n 0, 1) := by decide +kernel
theorem dX1_loops_6 : decode cX1_loops 6 = .ok (.invokevirtual 103, 3) := by decide +kernel
theorem dX1_loops_9 : decode cX1_loops 9 = .ok (.istore_n 1, 1) := by decide +kernel
theorem dX1_loops_10 : decode cX1_loops 10 = .ok (.aload_n 0, 1) := by decide +kernel
theorem dX1_loops_11 : decode cX1_loops 11 = .ok (.invokevirtual 72, 3) := by decide +kernel
theorem dX1_loops_14 : decode cX1_loops 14 = .ok (.iconst 0, 1) := by decide +kernel
theorem dX1_loops_15 : decode cX1_loops 15 = .ok (.istore_n 2, 1) := by decide +kernel
theorem dX1_loops_16 : decode cX1_loops 16 = .ok (.iload_n 2, 1) := by decide +kernel
theorem dX1_loops_17 : decode cX1_loops 17 = .ok (.bipush 96, 2) := by decide +kernel
theorem dX1_loops_19 : decode cX1_loops 19 = .ok (.if_icmp .ge 100, 3) := by decide +kernel
theorem dX1_loops_22 : decode cX1_loops 22 = .ok (.iload_n 1, 1) := by decide +kernel
theorem dX1_loops_23 : decode cX1_loops 23 = .ok (.aload_n 0, 1) := by decide +kernel
theorem dX1_loops_24 : decode cX1_loops 24 = .ok (.iload_n 2, 1) := by decide +kernel
theorem dX1_loops_25 : decode cX1_loops 25 = .ok (.invokevirtual 100, 3) := by decide +kernel
theorem dX1_loops_28 : decode cX1_loops 28 = .ok (.ifCond .eq 7, 3) := by decide +kernel
theorem dX1_loops_31 : decode cX1_loops 31 = .ok (.iconst 1, 1) := by decide +kernel
theorem dX1_loops_32 : decode cX1_loops 32 = .ok (.goto 4, 3) := by decide +kernel
theorem dX1_loops_35 : decode cX1_loops 35 = .ok (.iconst 0, 1) := by decide +kernel
theorem dX1_loops_36 : decode cX1_loops 36 = .ok (.isub, 1) := by decide +kernel
theorem dX1_loops_37 : decode cX1_loops 37 = .ok (.istore_n 1, 1) := by decide +kernel
theorem dX1_loops_38 : decode cX1_loops 38 = .ok (.iconst 0, 1) := by decide +kernel
theorem dX1_loops_39 : decode cX1_loops 39 = .ok (.istore_n 3, 1) := by decide +kernel
theorem dX1_loops_40 : decode cX1_loops 40 = .ok (.iload_n 3, 1) := by decide +kernel
theorem dX1_loops_41 : decode cX1_loops 41 = .ok (.bipush 6, 2) := by decide +kernel
theorem dX1_loops_43 : decode cX1_loops 43 = .ok (.if_icmp .ge 70, 3) := by decide +kernel
theorem dX1_loops_46 : decode cX1_loops 46 = .ok (.iload_n 2, 1) := by decide +kernel
theorem dX1_loops_47 : decode cX1_loops 47 = .ok (.bipush 16, 2) := by decide +kernel
theorem dX1_loops_49 : decode cX1_loops 49 = .ok (.irem, 1) := by decide +kernel
theorem dX1_loops_50 : decode cX1_loops 50 = .ok (.ifCond .le 63, 3) := by decide +kernel
theorem dX1_loops_53 : decode cX1_loops 53 = .ok (.iload_n 2, 1) := by decide +kernel
theorem dX1_loops_54 : decode cX1_loops 54 = .ok (.bipush 16, 2) := by decide +kernel
theorem dX1_loops_56 : decode cX1_loops 56 = .ok (.idiv, 1) := by decide +kernel
theorem dX1_loops_57 : decode cX1_loops 57 = .ok (.bipush 6, 2) := by decide +kernel
theorem dX1_loops_59 : decode cX1_loops 59 = .ok (.imul, 1) := by decide +kernel
theorem dX1_loops_60 : decode cX1_loops 60 = .ok (.iload_n 3, 1) := by decide +kernel
theorem dX1_loops_61 : decode cX1_loops 61 = .ok (.iadd, 1) := by decide +kernel
theorem dX1_loops_62 : decode cX1_loops 62 = .ok (.istore 4, 2) := by decide +kernel
theorem dX1_loops_64 : decode cX1_loops 64 = .ok (.iload_n 1, 1) := by decide +kernel
theorem dX1_loops_65 : decode cX1_loops 65 = .ok (.aload_n 0, 1) := by decide +kernel
theorem dX1_loops_66 : decode cX1_loops 66 = .ok (.iload 4, 2) := by decide +kernel
theorem dX1_loops_68 : decode cX1_loops 68 = .ok (.invokevirtual 75, 3) := by decide +kernel
theorem dX1_loops_71 : decode cX1_loops 71 = .ok (.ifCond .eq 33, 3) := by decide +kernel
theorem dX1_loops_74 : decode cX1_loops 74 = .ok (.iload 4, 2) := by decide +kernel
theorem dX1_loops_76 : decode cX1_loops 76 = .ok (.aload_n 0, 1) := by decide +kernel
theorem dX1_loops_77 : decode cX1_loops 77 = .ok (.getfield 16, 3) := by decide +kernel
theorem dX1_loops_80 : decode cX1_loops 80 = .ok (.iload 4, 2) := by decide +kernel
theorem dX1_loops_82 : decode cX1_loops 82 = .ok (.iaload, 1) := by decide +kernel
theorem dX1_loops_83 : decode cX1_loops 83 = .ok (.if_icmp .ge 21, 3) := by decide +kernel
theorem dX1_loops_86 : decode cX1_loops 86 = .ok (.aload_n 0, 1) := by decide +kernel
theorem dX1_loops_87 : decode cX1_loops 87 = .ok (.iload 4, 2) := by decide +kernel
theorem dX1_loops_89 : decode cX1_loops 89 = .ok (.iload_n 2, 1) := by decide +kernel
theorem dX1_loops_90 : decode cX1_loops 90 = .ok (.bipush 16, 2) := by decide +kernel
theorem dX1_loops_92 : decode cX1_loops 92 = .ok (.irem, 1) := by decide +kernel
theorem dX1_loops_93 : decode cX1_loops 93 = .ok (.invokevirtual 79, 3) := by decide +kernel
theorem dX1_loops_96 : decode cX1_loops 96 = .ok (.iconst (-1), 1) := by decide +kernel
theorem dX1_loops_97 : decode cX1_loops 97 = .ok (.if_icmp .eq 7, 3) := by decide +kernel
theorem dX1_loops_100 : decode cX1_loops 100 = .ok (.iconst 1, 1) := by decide +kernel
theorem dX1_loops_101 : decode cX1_loops 101 = .ok (.goto 4, 3) := by decide +kernel
theorem dX1_loops_104 : decode cX1_loops 104 = .ok (.iconst 0, 1) := by decide +kernel
theorem dX1_loops_105 : decode cX1_loops 105 = .ok (.iadd, 1) := by decide +kernel
theorem dX1_loops_106 : decode cX1_loops 106 = .ok (.istore_n 1, 1) := by decide +kernel
theorem dX1_loops_107 : decode cX1_loops 107 = .ok (.iinc 3 1, 3) := by decide +kernel
theorem dX1_loops_110 : decode cX1_loops 110 = .ok (.goto (-70), 3) := by decide +kernel
theorem dX1_loops_113 : decode cX1_loops 113 = .ok (.iinc 2 1, 3) := by decide +kernel
theorem dX1_loops_116 : decode cX1_loops 116 = .ok (.goto (-100), 3) := by decide +kernel
theorem dX1_loops_119 : decode cX1_loops 119 = .ok (.iload_n 1, 1) := by decide +kernel
theorem dX1_loops_120 : decode cX1_loops 120 = .ok (.ireturn, 1) := by decide +kernel
set_option maxRecDepth 20000 in
theorem ggX1_changesAt_X1_isTagged : GoodIn wsX1_changesAt wsX1_isTagged := goodIn_r _ [8, 9, 10, 11, 12, 13, 14, 15, 16, 17, 18, 19, 20, 21, 22, 23, 24] (by decide +kernel) (by decide +kernel)
set_option maxRecDepth 20000 in
theorem gX1_changesAt_X1_isTagged : GoodIn wsX1_changesAt (wsV RX1 55 RX1 yX1_isTagged wsX1_isTagged) := goodIn_app (goodIn_of _ (by decide +kernel)) ggX1_changesAt_X1_isTagged
theorem dX1_changesAt_0 : decode cX1_changesAt 0 = .ok (.aload_n 0, 1) := by decide +kernel
theorem dX1_changesAt_1 : decode cX1_changesAt 1 = .ok (.getfield 16, 3) := by decide +kernel
theorem dX1_changesAt_4 : decode cX1_changesAt 4 = .ok (.iload_n 1, 1) := by decide +kernel
theorem dX1_changesAt_5 : decode cX1_changesAt 5 = .ok (.iaload, 1) := by decide +kernel
theorem dX1_changesAt_6 : decode cX1_changesAt 6 = .ok (.istore_n 3, 1) := by decide +kernel
theorem dX1_changesAt_7 : decode cX1_changesAt 7 = .ok (.aload_n 0, 1) := by decide +kernel
theorem dX1_changesAt_8 : decode cX1_changesAt 8 = .ok (.getfield 7, 3) := by decide +kernel
theorem dX1_changesAt_11 : decode cX1_changesAt 11 = .ok (.iload_n 1, 1) := by decide +kernel
theorem dX1_changesAt_12 : decode cX1_changesAt 12 = .ok (.iaload, 1) := by decide +kernel
theorem dX1_changesAt_13 : decode cX1_changesAt 13 = .ok (.iload_n 2, 1) := by decide +kernel
theorem dX1_changesAt_14 : decode cX1_changesAt 14 = .ok (.if_icmp .eq 13, 3) := by decide +kernel
theorem dX1_changesAt_17 : decode cX1_changesAt 17 = .ok (.aload_n 0, 1) := by decide +kernel
theorem dX1_changesAt_18 : decode cX1_changesAt 18 = .ok (.getfield 7, 3) := by decide +kernel
theorem dX1_changesAt_21 : decode cX1_changesAt 21 = .ok (.iload_n 3, 1) := by decide +kernel
theorem dX1_changesAt_22 : decode cX1_changesAt 22 = .ok (.iaload, 1) := by decide +kernel
theorem dX1_changesAt_23 : decode cX1_changesAt 23 = .ok (.iload_n 2, 1) := by decide +kernel
theorem dX1_changesAt_24 : decode cX1_changesAt 24 = .ok (.if_icmp .ne 25, 3) := by decide +kernel
theorem dX1_changesAt_27 : decode cX1_changesAt 27 = .ok (.aload_n 0, 1) := by decide +kernel
theorem dX1_changesAt_28 : decode cX1_changesAt 28 = .ok (.getfield 7, 3) := by decide +kernel
theorem dX1_changesAt_31 : decode cX1_changesAt 31 = .ok (.iload_n 1, 1) := by decide +kernel
theorem dX1_changesAt_32 : decode cX1_changesAt 32 = .ok (.iaload, 1) := by decide +kernel
theorem dX1_changesAt_33 : decode cX1_changesAt 33 = .ok (.aload_n 0, 1) := by decide +kernel
theorem dX1_changesAt_34 : decode cX1_changesAt 34 = .ok (.getfield 7, 3) := by decide +kernel
theorem dX1_changesAt_37 : decode cX1_changesAt 37 = .ok (.iload_n 3, 1) := by decide +kernel
theorem dX1_changesAt_38 : decode cX1_changesAt 38 = .ok (.iaload, 1) := by decide +kernel
theorem dX1_changesAt_39 : decode cX1_changesAt 39 = .ok (.if_icmp .ne 7, 3) := by decide +kernel
theorem dX1_changesAt_42 : decode cX1_changesAt 42 = .ok (.iconst 0, 1) := by decide +kernel
theorem dX1_changesAt_43 : decode cX1_changesAt 43 = .ok (.goto 5, 3) := by decide +kernel
theorem dX1_changesAt_46 : decode cX1_changesAt 46 = .ok (.ldc 71, 2) := by decide +kernel
theorem dX1_changesAt_48 : decode cX1_changesAt 48 = .ok (.ireturn, 1) := by decide +kernel
theorem dX1_changesAt_49 : decode cX1_changesAt 49 = .ok (.aload_n 0, 1) := by decide +kernel
theorem dX1_changesAt_50 : decode cX1_changesAt 50 = .ok (.iload_n 1, 1) := by decide +kernel
theorem dX1_changesAt_51 : decode cX1_changesAt 51 = .ok (.iload_n 2, 1) := by decide +kernel
theorem dX1_changesAt_52 : decode cX1_changesAt 52 = .ok (.invokevirtual 55, 3) := by decide +kernel
theorem dX1_changesAt_55 : decode cX1_changesAt 55 = .ok (.ifCond .eq 7, 3) := by decide +kernel
theorem dX1_changesAt_58 : decode cX1_changesAt 58 = .ok (.iconst 0, 1) := by decide +kernel
theorem dX1_changesAt_59 : decode cX1_changesAt 59 = .ok (.goto 4, 3) := by decide +kernel
theorem dX1_changesAt_62 : decode cX1_changesAt 62 = .ok (.iconst 1, 1) := by decide +kernel
theorem dX1_changesAt_63 : decode cX1_changesAt 63 = .ok (.aload_n 0, 1) := by decide +kernel
theorem dX1_changesAt_64 : decode cX1_changesAt 64 = .ok (.iload_n 3, 1) := by decide +kernel
theorem dX1_changesAt_65 : decode cX1_changesAt 65 = .ok (.iload_n 2, 1) := by decide +kernel
theorem dX1_changesAt_66 : decode cX1_changesAt 66 = .ok (.invokevirtual 55, 3) := by decide +kernel
theorem dX1_changesAt_69 : decode cX1_changesAt 69 = .ok (.ifCond .eq 7, 3) := by decide +kernel
theorem dX1_changesAt_72 : decode cX1_changesAt 72 = .ok (.iconst 0, 1) := by decide +kernel
theorem dX1_changesAt_73 : decode cX1_changesAt 73 = .ok (.goto 4, 3) := by decide +kernel
theorem dX1_changesAt_76 : decode cX1_changesAt 76 = .ok (.iconst 1, 1) := by decide +kernel
theorem dX1_changesAt_77 : decode cX1_changesAt 77 = .ok (.iadd, 1) := by decide +kernel
theorem dX1_changesAt_78 : decode cX1_changesAt 78 = .ok (.ireturn, 1) := by decide +kernel
set_option maxRecDepth 20000 in
theorem ggX1_changes_X1_isPort : GoodIn wsX1_changes wsX1_isPort := goodIn_r _ [9, 10, 11, 8, 12] (by decide +kernel) (by decide +kernel)
set_option maxRecDepth 20000 in
theorem gX1_changes_X1_isPort : GoodIn wsX1_changes (va_wsS RX1 51 yX1_isPort wsX1_isPort) := goodIn_app (goodIn_of _ (by decide +kernel)) ggX1_changes_X1_isPort
set_option maxRecDepth 20000 in
theorem ggX1_changes_X1_layTree : GoodIn wsX1_changes wsX1_layTree := goodIn_r _ [16, 17, 5, 18, 4, 19, 20, 35, 36, 37, 38, 39, 40, 41, 42, 43, 44, 45, 46, 47, 48, 49] (by decide +kernel) (by decide +kernel)
set_option maxRecDepth 20000 in
theorem gX1_changes_X1_layTree : GoodIn wsX1_changes (wsV RX1 72 RX1 yX1_layTree wsX1_layTree) := goodIn_app (goodIn_of _ (by decide +kernel)) ggX1_changes_X1_layTree
set_option maxRecDepth 20000 in
theorem ggX1_changes_X1_isLive : GoodIn wsX1_changes wsX1_isLive := goodIn_r _ [24, 5, 25, 20, 35, 36, 37, 38, 39, 40, 41, 42, 43, 44, 45, 46, 47, 48, 49] (by decide +kernel) (by decide +kernel)
set_option maxRecDepth 20000 in
theorem gX1_changes_X1_isLive : GoodIn wsX1_changes (wsV RX1 75 RX1 yX1_isLive wsX1_isLive) := goodIn_app (goodIn_of _ (by decide +kernel)) ggX1_changes_X1_isLive
set_option maxRecDepth 20000 in
theorem ggX1_changes_X1_changesAt : GoodIn wsX1_changes wsX1_changesAt := goodIn_r _ [29, 5, 2, 4, 30, 31, 32, 8, 33, 34, 35, 36, 37, 38, 39, 40, 41, 42, 43, 44, 45, 46, 47, 48, 49] (by decide +kernel) (by decide +kernel)
set_option maxRecDepth 20000 in
theorem gX1_changes_X1_changesAt : GoodIn wsX1_changes (wsV RX1 107 RX1 yX1_changesAt wsX1_changesAt) := goodIn_app (goodIn_of _ (by decide +kernel)) ggX1_changes_X1_changesAt
theorem dX1_changes_0 : decode cX1_changes 0 = .ok (.aload_n 0, 1) := by decide +kernel
theorem dX1_changes_1 : decode cX1_changes 1 = .ok (.iload_n 1, 1) := by decide +kernel
theorem dX1_changes_2 : decode cX1_changes 2 = .ok (.iload_n 2, 1) := by decide +kernel
theorem dX1_changes_3 : decode cX1_changes 3 = .ok (.invokestatic 51, 3) := by decide +kernel
theorem dX1_changes_6 : decode cX1_changes 6 = .ok (.ifCond .eq 16, 3) := by decide +kernel
theorem dX1_changes_9 : decode cX1_changes 9 = .ok (.iload_n 3, 1) := by decide +kernel
theorem dX1_changes_10 : decode cX1_changes 10 = .ok (.iload 4, 2) := by decide +kernel
theorem dX1_changes_12 : decode cX1_changes 12 = .ok (.invokestatic 51, 3) := by decide +kernel
theorem dX1_changes_15 : decode cX1_changes 15 = .ok (.ifCond .eq 7, 3) := by decide +kernel
theorem dX1_changes_18 : decode cX1_changes 18 = .ok (.iconst 0, 1) := by decide +kernel
theorem dX1_changes_19 : decode cX1_changes 19 = .ok (.goto 4, 3) := by decide +kernel
theorem dX1_changes_22 : decode cX1_changes 22 = .ok (.iconst 1, 1) := by decide +kernel
theorem dX1_changes_23 : decode cX1_changes 23 = .ok (.putfield 43, 3) := by decide +kernel
theorem dX1_changes_26 : decode cX1_changes 26 = .ok (.aload_n 0, 1) := by decide +kernel
theorem dX1_changes_27 : decode cX1_changes 27 = .ok (.getfield 43, 3) := by decide +kernel
theorem dX1_changes_30 : decode cX1_changes 30 = .ok (.ifCond .ne 17, 3) := by decide +kernel
theorem dX1_changes_33 : decode cX1_changes 33 = .ok (.aload_n 0, 1) := by decide +kernel
theorem dX1_changes_34 : decode cX1_changes 34 = .ok (.getfield 7, 3) := by decide +kernel
theorem dX1_changes_37 : decode cX1_changes 37 = .ok (.bipush 6, 2) := by decide +kernel
theorem dX1_changes_39 : decode cX1_changes 39 = .ok (.iload_n 1, 1) := by decide +kernel
theorem dX1_changes_40 : decode cX1_changes 40 = .ok (.imul, 1) := by decide +kernel
theorem dX1_changes_41 : decode cX1_changes 41 = .ok (.iload_n 2, 1) := by decide +kernel
theorem dX1_changes_42 : decode cX1_changes 42 = .ok (.iadd, 1) := by decide +kernel
theorem dX1_changes_43 : decode cX1_changes 43 = .ok (.iaload, 1) := by decide +kernel
theorem dX1_changes_44 : decode cX1_changes 44 = .ok (.goto 4, 3) := by decide +kernel
theorem dX1_changes_47 : decode cX1_changes 47 = .ok (.iconst 0, 1) := by decide +kernel
theorem dX1_changes_48 : decode cX1_changes 48 = .ok (.istore 5, 2) := by decide +kernel
theorem dX1_changes_50 : decode cX1_changes 50 = .ok (.aload_n 0, 1) := by decide +kernel
theorem dX1_changes_51 : decode cX1_changes 51 = .ok (.getfield 43, 3) := by decide +kernel
theorem dX1_changes_54 : decode cX1_changes 54 = .ok (.ifCond .le 5, 3) := by decide +kernel
theorem dX1_changes_57 : decode cX1_changes 57 = .ok (.iconst 0, 1) := by decide +kernel
theorem dX1_changes_58 : decode cX1_changes 58 = .ok (.ireturn, 1) := by decide +kernel
theorem dX1_changes_59 : decode cX1_changes 59 = .ok (.iload 5, 2) := by decide +kernel
theorem dX1_changes_61 : decode cX1_changes 61 = .ok (.ifCond .eq 20, 3) := by decide +kernel
theorem dX1_changes_64 : decode cX1_changes 64 = .ok (.aload_n 0, 1) := by decide +kernel
theorem dX1_changes_65 : decode cX1_changes 65 = .ok (.getfield 7, 3) := by decide +kernel
theorem dX1_changes_68 : decode cX1_changes 68 = .ok (.bipush 6, 2) := by decide +kernel
theorem dX1_changes_70 : decode cX1_changes 70 = .ok (.iload_n 3, 1) := by decide +kernel
theorem dX1_changes_71 : decode cX1_changes 71 = .ok (.imul, 1) := by decide +kernel
theorem dX1_changes_72 : decode cX1_changes 72 = .ok (.iload 4, 2) := by decide +kernel
theorem dX1_changes_74 : decode cX1_changes 74 = .ok (.iadd, 1) := by decide +kernel
theorem dX1_changes_75 : decode cX1_changes 75 = .ok (.iaload, 1) := by decide +kernel
theorem dX1_changes_76 : decode cX1_changes 76 = .ok (.iload 5, 2) := by decide +kernel
theorem dX1_changes_78 : decode cX1_changes 78 = .ok (.if_icmp .eq 5, 3) := by decide +kernel
theorem dX1_changes_81 : decode cX1_changes 81 = .ok (.iconst (-1), 1) := by decide +kernel
theorem dX1_changes_82 : decode cX1_changes 82 = .ok (.ireturn, 1) := by decide +kernel
theorem dX1_changes_83 : decode cX1_changes 83 = .ok (.aload_n 0, 1) := by decide +kernel
theorem dX1_changes_84 : decode cX1_changes 84 = .ok (.invokevirtual 72, 3) := by decide +kernel
theorem dX1_changes_87 : decode cX1_changes 87 = .ok (.iconst 0, 1) := by decide +kernel
theorem dX1_changes_88 : decode cX1_changes 88 = .ok (.istore 6, 2) := by decide +kernel
theorem dX1_changes_90 : decode cX1_changes 90 = .ok (.iload 6, 2) := by decide +kernel
theorem dX1_changes_92 : decode cX1_changes 92 = .ok (.bipush 6, 2) := by decide +kernel
theorem dX1_changes_94 : decode cX1_changes 94 = .ok (.if_icmp .ge 28, 3) := by decide +kernel
theorem dX1_changes_97 : decode cX1_changes 97 = .ok (.aload_n 0, 1) := by decide +kernel
theorem dX1_changes_98 : decode cX1_changes 98 = .ok (.getfield 40, 3) := by decide +kernel
theorem dX1_changes_101 : decode cX1_changes 101 = .ok (.iload 6, 2) := by decide +kernel
theorem dX1_changes_103 : decode cX1_changes 103 = .ok (.iload 6, 2) := by decide +kernel
theorem dX1_changes_105 : decode cX1_changes 105 = .ok (.iload_n 1, 1) := by decide +kernel
theorem dX1_changes_106 : decode cX1_changes 106 = .ok (.if_icmp .ne 7, 3) := by decide +kernel
theorem dX1_changes_109 : decode cX1_changes 109 = .ok (.iconst 0, 1) := by decide +kernel
theorem dX1_changes_110 : decode cX1_changes 110 = .ok (.goto 5, 3) := by decide +kernel
theorem dX1_changes_113 : decode cX1_changes 113 = .ok (.ldc 71, 2) := by decide +kernel
theorem dX1_changes_115 : decode cX1_changes 115 = .ok (.iastore, 1) := by decide +kernel
theorem dX1_changes_116 : decode cX1_changes 116 = .ok (.iinc 6 1, 3) := by decide +kernel
theorem dX1_changes_119 : decode cX1_changes 119 = .ok (.goto (-29), 3) := by decide +kernel
theorem dX1_changes_122 : decode cX1_changes 122 = .ok (.iconst 0, 1) := by decide +kernel
theorem dX1_changes_123 : decode cX1_changes 123 = .ok (.istore 6, 2) := by decide +kernel
theorem dX1_changes_125 : decode cX1_changes 125 = .ok (.iload 6, 2) := by decide +kernel
theorem dX1_changes_127 : decode cX1_changes 127 = .ok (.sipush 216, 3) := by decide +kernel
theorem dX1_changes_130 : decode cX1_changes 130 = .ok (.if_icmp .ge 96, 3) := by decide +kernel
theorem dX1_changes_133 : decode cX1_changes 133 = .ok (.iload 6, 2) := by decide +kernel
theorem dX1_changes_135 : decode cX1_changes 135 = .ok (.bipush 36, 2) := by decide +kernel
theorem dX1_changes_137 : decode cX1_changes 137 = .ok (.irem, 1) := by decide +kernel
theorem dX1_changes_138 : decode cX1_changes 138 = .ok (.istore 7, 2) := by decide +kernel
theorem dX1_changes_140 : decode cX1_changes 140 = .ok (.aload_n 0, 1) := by decide +kernel
theorem dX1_changes_141 : decode cX1_changes 141 = .ok (.iload 7, 2) := by decide +kernel
theorem dX1_changes_143 : decode cX1_changes 143 = .ok (.invokevirtual 75, 3) := by decide +kernel
theorem dX1_changes_146 : decode cX1_changes 146 = .ok (.ifCond .eq 30, 3) := by decide +kernel
theorem dX1_changes_149 : decode cX1_changes 149 = .ok (.aload_n 0, 1) := by decide +kernel
theorem dX1_changes_150 : decode cX1_changes 150 = .ok (.getfield 40, 3) := by decide +kernel
theorem dX1_changes_153 : decode cX1_changes 153 = .ok (.aload_n 0, 1) := by decide +kernel
theorem dX1_changes_154 : decode cX1_changes 154 = .ok (.getfield 16, 3) := by decide +kernel
theorem dX1_changes_157 : decode cX1_changes 157 = .ok (.iload 7, 2) := by decide +kernel
theorem dX1_changes_159 : decode cX1_changes 159 = .ok (.iaload, 1) := by decide +kernel
theorem dX1_changes_160 : decode cX1_changes 160 = .ok (.bipush 6, 2) := by decide +kernel
theorem dX1_changes_162 : decode cX1_changes 162 = .ok (.idiv, 1) := by decide +kernel
theorem dX1_changes_163 : decode cX1_changes 163 = .ok (.iaload, 1) := by decide +kernel
theorem dX1_changes_164 : decode cX1_changes 164 = .ok (.aload_n 0, 1) := by decide +kernel
theorem dX1_changes_165 : decode cX1_changes 165 = .ok (.iload 7, 2) := by decide +kernel
theorem dX1_changes_167 : decode cX1_changes 167 = .ok (.iload 5, 2) := by decide +kernel
theorem dX1_changes_169 : decode cX1_changes 169 = .ok (.invokevirtual 107, 3) := by decide +kernel
theorem dX1_changes_172 : decode cX1_changes 172 = .ok (.iadd, 1) := by decide +kernel
theorem dX1_changes_173 : decode cX1_changes 173 = .ok (.goto 5, 3) := by decide +kernel
theorem dX1_changes_176 : decode cX1_changes 176 = .ok (.ldc 71, 2) := by decide +kernel
theorem dX1_changes_178 : decode cX1_changes 178 = .ok (.istore 8, 2) := by decide +kernel
theorem dX1_changes_180 : decode cX1_changes 180 = .ok (.aload_n 0, 1) := by decide +kernel
theorem dX1_changes_181 : decode cX1_changes 181 = .ok (.getfield 40, 3) := by decide +kernel
theorem dX1_changes_184 : decode cX1_changes 184 = .ok (.iload 7, 2) := by decide +kernel
theorem dX1_changes_186 : decode cX1_changes 186 = .ok (.bipush 6, 2) := by decide +kernel
theorem dX1_changes_188 : decode cX1_changes 188 = .ok (.idiv, 1) := by decide +kernel
theorem dX1_changes_189 : decode cX1_changes 189 = .ok (.iload 8, 2) := by decide +kernel
theorem dX1_changes_191 : decode cX1_changes 191 = .ok (.aload_n 0, 1) := by decide +kernel
theorem dX1_changes_192 : decode cX1_changes 192 = .ok (.getfield 40, 3) := by decide +kernel
theorem dX1_changes_195 : decode cX1_changes 195 = .ok (.iload 7, 2) := by decide +kernel
theorem dX1_changes_197 : decode cX1_changes 197 = .ok (.bipush 6, 2) := by decide +kernel
theorem dX1_changes_199 : decode cX1_changes 199 = .ok (.idiv, 1) := by decide +kernel
theorem dX1_changes_200 : decode cX1_changes 200 = .ok (.iaload, 1) := by decide +kernel
theorem dX1_changes_201 : decode cX1_changes 201 = .ok (.if_icmp .ge 8, 3) := by decide +kernel
theorem dX1_changes_204 : decode cX1_changes 204 = .ok (.iload 8, 2) := by decide +kernel
theorem dX1_changes_206 : decode cX1_changes 206 = .ok (.goto 13, 3) := by decide +kernel
theorem dX1_changes_209 : decode cX1_changes 209 = .ok (.aload_n 0, 1) := by decide +kernel
theorem dX1_changes_210 : decode cX1_changes 210 = .ok (.getfield 40, 3) := by decide +kernel
theorem dX1_changes_213 : decode cX1_changes 213 = .ok (.iload 7, 2) := by decide +kernel
theorem dX1_changes_215 : decode cX1_changes 215 = .ok (.bipush 6, 2) := by decide +kernel
theorem dX1_changes_217 : decode cX1_changes 217 = .ok (.idiv, 1) := by decide +kernel
theorem dX1_changes_218 : decode cX1_changes 218 = .ok (.iaload, 1) := by decide +kernel
theorem dX1_changes_219 : decode cX1_changes 219 = .ok (.iastore, 1) := by decide +kernel
theorem dX1_changes_220 : decode cX1_changes 220 = .ok (.iinc 6 1, 3) := by decide +kernel
theorem dX1_changes_223 : decode cX1_changes 223 = .ok (.goto (-98), 3) := by decide +kernel
theorem dX1_changes_226 : decode cX1_changes 226 = .ok (.aload_n 0, 1) := by decide +kernel
theorem dX1_changes_227 : decode cX1_changes 227 = .ok (.getfield 40, 3) := by decide +kernel
theorem dX1_changes_230 : decode cX1_changes 230 = .ok (.iload_n 3, 1) := by decide +kernel
theorem dX1_changes_231 : decode cX1_changes 231 = .ok (.iaload, 1) := by decide +kernel
theorem dX1_changes_232 : decode cX1_changes 232 = .ok (.ldc 71, 2) := by decide +kernel
theorem dX1_changes_234 : decode cX1_changes 234 = .ok (.if_icmp .ne 7, 3) := by decide +kernel
theorem dX1_changes_237 : decode cX1_changes 237 = .ok (.iconst (-1), 1) := by decide +kernel
theorem dX1_changes_238 : decode cX1_changes 238 = .ok (.goto 9, 3) := by decide +kernel
theorem dX1_changes_241 : decode cX1_changes 241 = .ok (.aload_n 0, 1) := by decide +kernel
theorem dX1_changes_242 : decode cX1_changes 242 = .ok (.getfield 40, 3) := by decide +kernel
theorem dX1_changes_245 : decode cX1_changes 245 = .ok (.iload_n 3, 1) := by decide +kernel
theorem dX1_changes_246 : decode cX1_changes 246 = .ok (.iaload, 1) := by decide +kernel
theorem dX1_changes_247 : decode cX1_changes 247 = .ok (.ireturn, 1) := by decide +kernel
end
section
theorem dJ6_bitCount_0f7a4_0 : decode cJ6_bitCount_0f7a4 0 = .ok (.iload_n 0, 1) := by decide +kernel
theorem dJ6_bitCount_0f7a4_1 : decode cJ6_bitCount_0f7a4 1 = .ok (.iload_n 0, 1) := by decide +kernel
theorem dJ6_bitCount_0f7a4_2 : decode cJ6_bitCount_0f7a4 2 = .ok (.iconst 1, 1) := by decide +kernel
theorem dJ6_bitCount_0f7a4_3 : decode cJ6_bitCount_0f7a4 3 = .ok (.iushr, 1) := by decide +kernel
theorem dJ6_bitCount_0f7a4_4 : decode cJ6_bitCount_0f7a4 4 = .ok (.ldc_w 265, 3) := by decide +kernel
theorem dJ6_bitCount_0f7a4_7 : decode cJ6_bitCount_0f7a4 7 = .ok (.iand, 1) := by decide +kernel
theorem dJ6_bitCount_0f7a4_8 : decode cJ6_bitCount_0f7a4 8 = .ok (.isub, 1) := by decide +kernel
theorem dJ6_bitCount_0f7a4_9 : decode cJ6_bitCount_0f7a4 9 = .ok (.istore_n 0, 1) := by decide +kernel
theorem dJ6_bitCount_0f7a4_10 : decode cJ6_bitCount_0f7a4 10 = .ok (.iload_n 0, 1) := by decide +kernel
theorem dJ6_bitCount_0f7a4_11 : decode cJ6_bitCount_0f7a4 11 = .ok (.ldc_w 266, 3) := by decide +kernel
theorem dJ6_bitCount_0f7a4_14 : decode cJ6_bitCount_0f7a4 14 = .ok (.iand, 1) := by decide +kernel
theorem dJ6_bitCount_0f7a4_15 : decode cJ6_bitCount_0f7a4 15 = .ok (.iload_n 0, 1) := by decide +kernel
theorem dJ6_bitCount_0f7a4_16 : decode cJ6_bitCount_0f7a4 16 = .ok (.iconst 2, 1) := by decide +kernel
theorem dJ6_bitCount_0f7a4_17 : decode cJ6_bitCount_0f7a4 17 = .ok (.iushr, 1) := by decide +kernel
theorem dJ6_bitCount_0f7a4_18 : decode cJ6_bitCount_0f7a4 18 = .ok (.ldc_w 266, 3) := by decide +kernel
theorem dJ6_bitCount_0f7a4_21 : decode cJ6_bitCount_0f7a4 21 = .ok (.iand, 1) := by decide +kernel
theorem dJ6_bitCount_0f7a4_22 : decode cJ6_bitCount_0f7a4 22 = .ok (.iadd, 1) := by decide +kernel
theorem dJ6_bitCount_0f7a4_23 : decode cJ6_bitCount_0f7a4 23 = .ok (.istore_n 0, 1) := by decide +kernel
theorem dJ6_bitCount_0f7a4_24 : decode cJ6_bitCount_0f7a4 24 = .ok (.iload_n 0, 1) := by decide +kernel
theorem dJ6_bitCount_0f7a4_25 : decode cJ6_bitCount_0f7a4 25 = .ok (.iload_n 0, 1) := by decide +kernel
theorem dJ6_bitCount_0f7a4_26 : decode cJ6_bitCount_0f7a4 26 = .ok (.iconst 4, 1) := by decide +kernel
theorem dJ6_bitCount_0f7a4_27 : decode cJ6_bitCount_0f7a4 27 = .ok (.iushr, 1) := by decide +kernel
theorem dJ6_bitCount_0f7a4_28 : decode cJ6_bitCount_0f7a4 28 = .ok (.iadd, 1) := by decide +kernel
theorem dJ6_bitCount_0f7a4_29 : decode cJ6_bitCount_0f7a4 29 = .ok (.ldc_w 267, 3) := by decide +kernel
theorem dJ6_bitCount_0f7a4_32 : decode cJ6_bitCount_0f7a4 32 = .ok (.iand, 1) := by decide +kernel
theorem dJ6_bitCount_0f7a4_33 : decode cJ6_bitCount_0f7a4 33 = .ok (.istore_n 0, 1) := by decide +kernel
theorem dJ6_bitCount_0f7a4_34 : decode cJ6_bitCount_0f7a4 34 = .ok (.iload_n 0, 1) := by decide +kernel
theorem dJ6_bitCount_0f7a4_35 : decode cJ6_bitCount_0f7a4 35 = .ok (.iload_n 0, 1) := by decide +kernel
theorem dJ6_bitCount_0f7a4_36 : decode cJ6_bitCount_0f7a4 36 = .ok (.bipush 8, 2) := by decide +kernel
theorem dJ6_bitCount_0f7a4_38 : decode cJ6_bitCount_0f7a4 38 = .ok (.iushr, 1) := by decide +kernel
theorem dJ6_bitCount_0f7a4_39 : decode cJ6_bitCount_0f7a4 39 = .ok (.iadd, 1) := by decide +kernel
theorem dJ6_bitCount_0f7a4_40 : decode cJ6_bitCount_0f7a4 40 = .ok (.istore_n 0, 1) := by decide +kernel
theorem dJ6_bitCount_0f7a4_41 : decode cJ6_bitCount_0f7a4 41 = .ok (.iload_n 0, 1) := by decide +kernel
theorem dJ6_bitCount_0f7a4_42 : decode cJ6_bitCount_0f7a4 42 = .ok (.iload_n 0, 1) := by decide +kernel
theorem dJ6_bitCount_0f7a4_43 : decode cJ6_bitCount_0f7a4 43 = .ok (.bipush 16, 2) := by decide +kernel
theorem dJ6_bitCount_0f7a4_45 : decode cJ6_bitCount_0f7a4 45 = .ok (.iushr, 1) := by decide +kernel
theorem dJ6_bitCount_0f7a4_46 : decode cJ6_bitCount_0f7a4 46 = .ok (.iadd, 1) := by decide +kernel
theorem dJ6_bitCount_0f7a4_47 : decode cJ6_bitCount_0f7a4 47 = .ok (.istore_n 0, 1) := by decide +kernel
theorem dJ6_bitCount_0f7a4_48 : decode cJ6_bitCount_0f7a4 48 = .ok (.iload_n 0, 1) := by decide +kernel
theorem dJ6_bitCount_0f7a4_49 : decode cJ6_bitCount_0f7a4 49 = .ok (.bipush 63, 2) := by decide +kernel
theorem dJ6_bitCount_0f7a4_51 : decode cJ6_bitCount_0f7a4 51 = .ok (.iand, 1) := by decide +kernel
theorem dJ6_bitCount_0f7a4_52 : decode cJ6_bitCount_0f7a4 52 = .ok (.ireturn, 1) := by decide +kernel
theorem dJ7_fill_53178_0 : decode cJ7_fill_53178 0 = .ok (.iconst 0, 1) := by decide +kernel
theorem dJ7_fill_53178_1 : decode cJ7_fill_53178 1 = .ok (.istore_n 2, 1) := by decide +kernel
theorem dJ7_fill_53178_2 : decode cJ7_fill_53178 2 = .ok (.aload_n 0, 1) := by decide +kernel
theorem dJ7_fill_53178_3 : decode cJ7_fill_53178 3 = .ok (.arraylength, 1) := by decide +kernel
theorem dJ7_fill_53178_4 : decode cJ7_fill_53178 4 = .ok (.istore_n 3, 1) := by decide +kernel
theorem dJ7_fill_53178_5 : decode cJ7_fill_53178 5 = .ok (.iload_n 2, 1) := by decide +kernel
theorem dJ7_fill_53178_6 : decode cJ7_fill_53178 6 = .ok (.iload_n 3, 1) := by decide +kernel
theorem dJ7_fill_53178_7 : decode cJ7_fill_53178 7 = .ok (.if_icmp .ge 13, 3) := by decide +kernel
theorem dJ7_fill_53178_10 : decode cJ7_fill_53178 10 = .ok (.aload_n 0, 1) := by decide +kernel
theorem dJ7_fill_53178_11 : decode cJ7_fill_53178 11 = .ok (.iload_n 2, 1) := by decide +kernel
theorem dJ7_fill_53178_12 : decode cJ7_fill_53178 12 = .ok (.iload_n 1, 1) := by decide +kernel
theorem dJ7_fill_53178_13 : decode cJ7_fill_53178 13 = .ok (.iastore, 1) := by decide +kernel
theorem dJ7_fill_53178_14 : decode cJ7_fill_53178 14 = .ok (.iinc 2 1, 3) := by decide +kernel
theorem dJ7_fill_53178_17 : decode cJ7_fill_53178 17 = .ok (.goto (-12), 3) := by decide +kernel
theorem dJ7_fill_53178_20 : decode cJ7_fill_53178 20 = .ok (.return_, 1) := by decide +kernel
set_option maxRecDepth 20000 in
theorem ggL_untag_X0_untag : GoodIn wsL_untag wsX0_untag := goodIn_ca (goodIn_ca (goodIn_r _ [7, 8, 9, 10, 11, 12, 6, 13, 14, 15, 16, 17, 18, 19, 20, 21, 22, 23, 24, 25, 26, 27, 28, 29, 30, 31, 32, 33, 34, 35, 36, 37, 38, 39, 40, 41, 42, 43, 44, 45, 46, 47] (by decide +kernel) (by decide +kernel)) (goodIn_sub (fun _ h => List.mem_cons_of_mem _ (List.mem_append_left _ (List.mem_append_right _ h))) (by decide +kernel))) (goodIn_sub (fun _ h => List.mem_cons_of_mem _ (List.mem_append_right _ h)) (by decide +kernel))
set_option maxRecDepth 20000 in
theorem gL_untag_X0_untag : GoodIn wsL_untag (wsV RL 7 RX0 yX0_untag wsX0_untag) := goodIn_app (goodIn_of _ (by decide +kernel)) ggL_untag_X0_untag
theorem dL_untag_0 : decode cL_untag 0 = .ok (.aload 4, 2) := by decide +kernel
theorem dL_untag_2 : decode cL_untag 2 = .ok (.iconst 0, 1) := by decide +kernel
theorem dL_untag_3 : decode cL_untag 3 = .ok (.aload_n 0, 1) := by decide +kernel
theorem dL_untag_4 : decode cL_untag 4 = .ok (.iload_n 1, 1) := by decide +kernel
theorem dL_untag_5 : decode cL_untag 5 = .ok (.iload_n 2, 1) := by decide +kernel
theorem dL_untag_6 : decode cL_untag 6 = .ok (.iload_n 3, 1) := by decide +kernel
theorem dL_untag_7 : decode cL_untag 7 = .ok (.invokevirtual 7, 3) := by decide +kernel
theorem dL_untag_10 : decode cL_untag 10 = .ok (.i2l, 1) := by decide +kernel
theorem dL_untag_11 : decode cL_untag 11 = .ok (.lastore, 1) := by decide +kernel
theorem dL_untag_12 : decode cL_untag 12 = .ok (.goto 11, 3) := by decide +kernel
theorem dL_untag_15 : decode cL_untag 15 = .ok (.astore 5, 2) := by decide +kernel
theorem dL_untag_17 : decode cL_untag 17 = .ok (.iconst 1, 1) := by decide +kernel
theorem dL_untag_18 : decode cL_untag 18 = .ok (.ireturn, 1) := by decide +kernel
theorem dL_untag_19 : decode cL_untag 19 = .ok (.astore 5, 2) := by decide +kernel
theorem dL_untag_21 : decode cL_untag 21 = .ok (.iconst 2, 1) := by decide +kernel
theorem dL_untag_22 : decode cL_untag 22 = .ok (.ireturn, 1) := by decide +kernel
theorem dL_untag_23 : decode cL_untag 23 = .ok (.iconst 0, 1) := by decide +kernel
theorem dL_untag_24 : decode cL_untag 24 = .ok (.ireturn, 1) := by decide +kernel
set_option maxRecDepth 20000 in
theorem ggL_tag_X0_tag : GoodIn wsL_tag wsX0_tag := goodIn_ca (goodIn_ca (goodIn_r _ [7, 8, 9, 10, 11, 12, 13, 6, 14, 15, 16, 17, 18, 19, 20, 21, 22, 23, 24, 25, 26, 27, 28, 29, 30, 31, 32, 33, 34, 35, 36, 37, 38, 39, 40, 41, 42, 43, 44, 45, 46, 47] (by decide +kernel) (by decide +kernel)) (goodIn_sub (fun _ h => List.mem_cons_of_mem _ (List.mem_append_left _ (List.mem_append_right _ h))) (by decide +kernel))) (goodIn_sub (fun _ h => List.mem_cons_of_mem _ (List.mem_append_right _ h)) (by decide +kernel))
set_option maxRecDepth 20000 in
theorem gL_tag_X0_tag : GoodIn wsL_tag (wsV RL 17 RX0 yX0_tag wsX0_tag) := goodIn_app (goodIn_of _ (by decide +kernel)) ggL_tag_X0_tag
theorem dL_tag_0 : decode cL_tag 0 = .ok (.aload 5, 2) := by decide +kernel
theorem dL_tag_2 : decode cL_tag 2 = .ok (.iconst 0, 1) := by decide +kernel
theorem dL_tag_3 : decode cL_tag 3 = .ok (.aload_n 0, 1) := by decide +kernel
theorem dL_tag_4 : decode cL_tag 4 = .ok (.iload_n 1, 1) := by decide +kernel
theorem dL_tag_5 : decode cL_tag 5 = .ok (.iload_n 2, 1) := by decide +kernel
theorem dL_tag_6 : decode cL_tag 6 = .ok (.iload_n 3, 1) := by decide +kernel
theorem dL_tag_7 : decode cL_tag 7 = .ok (.iload 4, 2) := by decide +kernel
theorem dL_tag_9 : decode cL_tag 9 = .ok (.invokevirtual 17, 3) := by decide +kernel
theorem dL_tag_12 : decode cL_tag 12 = .ok (.ifCond .eq 7, 3) := by decide +kernel
theorem dL_tag_15 : decode cL_tag 15 = .ok (.lconst 1, 1) := by decide +kernel
theorem dL_tag_16 : decode cL_tag 16 = .ok (.goto 4, 3) := by decide +kernel
theorem dL_tag_19 : decode cL_tag 19 = .ok (.lconst 0, 1) := by decide +kernel
theorem dL_tag_20 : decode cL_tag 20 = .ok (.lastore, 1) := by decide +kernel
theorem dL_tag_21 : decode cL_tag 21 = .ok (.goto 11, 3) := by decide +kernel
theorem dL_tag_24 : decode cL_tag 24 = .ok (.astore 6, 2) := by decide +kernel
theorem dL_tag_26 : decode cL_tag 26 = .ok (.iconst 1, 1) := by decide +kernel
theorem dL_tag_27 : decode cL_tag 27 = .ok (.ireturn, 1) := by decide +kernel
theorem dL_tag_28 : decode cL_tag 28 = .ok (.astore 6, 2) := by decide +kernel
theorem dL_tag_30 : decode cL_tag 30 = .ok (.iconst 2, 1) := by decide +kernel
theorem dL_tag_31 : decode cL_tag 31 = .ok (.ireturn, 1) := by decide +kernel
theorem dL_tag_32 : decode cL_tag 32 = .ok (.iconst 0, 1) := by decide +kernel
theorem dL_tag_33 : decode cL_tag 33 = .ok (.ireturn, 1) := by decide +kernel
set_option maxRecDepth 20000 in
theorem ggL_cable_X0_cable : GoodIn wsL_cable wsX0_cable := goodIn_ca (goodIn_ca (goodIn_r _ [7, 8, 9, 10, 11, 12, 13, 14, 6, 15, 16, 17, 18, 19, 20, 21, 22, 23, 24, 25, 26, 27, 28, 29, 30, 31, 32, 33, 34, 35, 36, 37, 38, 39, 40, 41, 42, 43, 44, 45, 46, 47, 48, 49, 50, 51, 52, 53, 54, 55, 56, 57, 58, 59, 60, 61, 62, 63, 64, 65, 66, 67, 68, 69, 70, 71, 72, 73, 74, 75, 76, 77, 78, 79, 80, 81] (by decide +kernel) (by decide +kernel)) (goodIn_sub (fun _ h => List.mem_cons_of_mem _ (List.mem_append_left _ (List.mem_append_right _ h))) (by decide +kernel))) (goodIn_sub (fun _ h => List.mem_cons_of_mem _ (List.mem_append_right _ h)) (by decide +kernel))
set_option maxRecDepth 20000 in
theorem gL_cable_X0_cable : GoodIn wsL_cable (wsV RL 21 RX0 yX0_cable wsX0_cable) := goodIn_app (goodIn_of _ (by decide +kernel)) ggL_cable_X0_cable
theorem dL_cable_0 : decode cL_cable 0 = .ok (.aload 6, 2) := by decide +kernel
theorem dL_cable_2 : decode cL_cable 2 = .ok (.iconst 0, 1) := by decide +kernel
theorem dL_cable_3 : decode cL_cable 3 = .ok (.aload_n 0, 1) := by decide +kernel
theorem dL_cable_4 : decode cL_cable 4 = .ok (.iload_n 1, 1) := by decide +kernel
theorem dL_cable_5 : decode cL_cable 5 = .ok (.iload_n 2, 1) := by decide +kernel
theorem dL_cable_6 : decode cL_cable 6 = .ok (.iload_n 3, 1) := by decide +kernel
theorem dL_cable_7 : decode cL_cable 7 = .ok (.iload 4, 2) := by decide +kernel
theorem dL_cable_9 : decode cL_cable 9 = .ok (.iload 5, 2) := by decide +kernel
theorem dL_cable_11 : decode cL_cable 11 = .ok (.invokevirtual 21, 3) := by decide +kernel
theorem dL_cable_14 : decode cL_cable 14 = .ok (.i2l, 1) := by decide +kernel
theorem dL_cable_15 : decode cL_cable 15 = .ok (.lastore, 1) := by decide +kernel
theorem dL_cable_16 : decode cL_cable 16 = .ok (.goto 11, 3) := by decide +kernel
theorem dL_cable_19 : decode cL_cable 19 = .ok (.astore 7, 2) := by decide +kernel
theorem dL_cable_21 : decode cL_cable 21 = .ok (.iconst 1, 1) := by decide +kernel
theorem dL_cable_22 : decode cL_cable 22 = .ok (.ireturn, 1) := by decide +kernel
theorem dL_cable_23 : decode cL_cable 23 = .ok (.astore 7, 2) := by decide +kernel
theorem dL_cable_25 : decode cL_cable 25 = .ok (.iconst 2, 1) := by decide +kernel
theorem dL_cable_26 : decode cL_cable 26 = .ok (.ireturn, 1) := by decide +kernel
theorem dL_cable_27 : decode cL_cable 27 = .ok (.iconst 0, 1) := by decide +kernel
theorem dL_cable_28 : decode cL_cable 28 = .ok (.ireturn, 1) := by decide +kernel
set_option maxRecDepth 20000 in
theorem ggL_pull_X0_pull : GoodIn wsL_pull wsX0_pull := goodIn_ca (goodIn_ca (goodIn_r _ [7, 8, 9, 10, 11, 12, 13, 6, 14, 15, 16, 17, 18, 19, 20, 21, 22, 23, 24, 25, 26, 27, 28, 29, 30, 31, 32, 33, 34, 35, 36, 37, 38, 39, 40, 41, 42, 43, 44, 45, 46, 47, 48, 49, 50, 51, 52, 53, 54, 55, 56, 57, 58, 59, 60, 61, 62, 63, 64, 65, 66, 67, 68, 69, 70, 71, 72, 73, 74, 75, 76, 77, 78, 79, 80, 81, 82, 83, 84, 85] (by decide +kernel) (by decide +kernel)) (goodIn_sub (fun _ h => List.mem_cons_of_mem _ (List.mem_append_left _ (List.mem_append_right _ h))) (by decide +kernel))) (goodIn_sub (fun _ h => List.mem_cons_of_mem _ (List.mem_append_right _ h)) (by decide +kernel))
set_option maxRecDepth 20000 in
theorem gL_pull_X0_pull : GoodIn wsL_pull (wsV RL 25 RX0 yX0_pull wsX0_pull) := goodIn_app (goodIn_of _ (by decide +kernel)) ggL_pull_X0_pull
theorem dL_pull_0 : decode cL_pull 0 = .ok (.aload_n 3, 1) := by decide +kernel
theorem dL_pull_1 : decode cL_pull 1 = .ok (.iconst 0, 1) := by decide +kernel
theorem dL_pull_2 : decode cL_pull 2 = .ok (.aload_n 0, 1) := by decide +kernel
theorem dL_pull_3 : decode cL_pull 3 = .ok (.iload_n 1, 1) := by decide +kernel
theorem dL_pull_4 : decode cL_pull 4 = .ok (.iload_n 2, 1) := by decide +kernel
theorem dL_pull_5 : decode cL_pull 5 = .ok (.invokevirtual 25, 3) := by decide +kernel
theorem dL_pull_8 : decode cL_pull 8 = .ok (.i2l, 1) := by decide +kernel
theorem dL_pull_9 : decode cL_pull 9 = .ok (.lastore, 1) := by decide +kernel
theorem dL_pull_10 : decode cL_pull 10 = .ok (.goto 11, 3) := by decide +kernel
theorem dL_pull_13 : decode cL_pull 13 = .ok (.astore 4, 2) := by decide +kernel
theorem dL_pull_15 : decode cL_pull 15 = .ok (.iconst 1, 1) := by decide +kernel
theorem dL_pull_16 : decode cL_pull 16 = .ok (.ireturn, 1) := by decide +kernel
theorem dL_pull_17 : decode cL_pull 17 = .ok (.astore 4, 2) := by decide +kernel
theorem dL_pull_19 : decode cL_pull 19 = .ok (.iconst 2, 1) := by decide +kernel
theorem dL_pull_20 : decode cL_pull 20 = .ok (.ireturn, 1) := by decide +kernel
theorem dL_pull_21 : decode cL_pull 21 = .ok (.iconst 0, 1) := by decide +kernel
theorem dL_pull_22 : decode cL_pull 22 = .ok (.ireturn, 1) := by decide +kernel
set_option maxRecDepth 20000 in
theorem ggL_note_X0_note : GoodIn wsL_note wsX0_note := goodIn_ca (goodIn_r _ [6, 7, 8, 9, 5, 10, 11, 12, 13, 14, 15, 16, 17, 18, 19, 20, 21, 22, 23, 24, 25, 26, 27, 28, 29, 30, 31, 32, 33, 34, 35, 36, 37, 38, 39] (by decide +kernel) (by decide +kernel)) (goodIn_sub (fun _ h => List.mem_cons_of_mem _ (List.mem_append_right _ h)) (by decide +kernel))
set_option maxRecDepth 20000 in
theorem gL_note_X0_note : GoodIn wsL_note (wsV RL 31 RX0 yX0_note wsX0_note) := goodIn_app (goodIn_of _ (by decide +kernel)) ggL_note_X0_note
theorem dL_note_0 : decode cL_note 0 = .ok (.aload 5, 2) := by decide +kernel
theorem dL_note_2 : decode cL_note 2 = .ok (.iconst 0, 1) := by decide +kernel
theorem dL_note_3 : decode cL_note 3 = .ok (.aload_n 0, 1) := by decide +kernel
theorem dL_note_4 : decode cL_note 4 = .ok (.iload_n 1, 1) := by decide +kernel
theorem dL_note_5 : decode cL_note 5 = .ok (.iload_n 2, 1) := by decide +kernel
theorem dL_note_6 : decode cL_note 6 = .ok (.iload_n 3, 1) := by decide +kernel
theorem dL_note_7 : decode cL_note 7 = .ok (.iload 4, 2) := by decide +kernel
theorem dL_note_9 : decode cL_note 9 = .ok (.invokevirtual 31, 3) := by decide +kernel
theorem dL_note_12 : decode cL_note 12 = .ok (.ifCond .eq 7, 3) := by decide +kernel
theorem dL_note_15 : decode cL_note 15 = .ok (.lconst 1, 1) := by decide +kernel
theorem dL_note_16 : decode cL_note 16 = .ok (.goto 4, 3) := by decide +kernel
theorem dL_note_19 : decode cL_note 19 = .ok (.lconst 0, 1) := by decide +kernel
theorem dL_note_20 : decode cL_note 20 = .ok (.lastore, 1) := by decide +kernel
theorem dL_note_21 : decode cL_note 21 = .ok (.goto 7, 3) := by decide +kernel
theorem dL_note_24 : decode cL_note 24 = .ok (.astore 6, 2) := by decide +kernel
theorem dL_note_26 : decode cL_note 26 = .ok (.iconst 1, 1) := by decide +kernel
theorem dL_note_27 : decode cL_note 27 = .ok (.ireturn, 1) := by decide +kernel
theorem dL_note_28 : decode cL_note 28 = .ok (.iconst 0, 1) := by decide +kernel
theorem dL_note_29 : decode cL_note 29 = .ok (.ireturn, 1) := by decide +kernel
set_option maxRecDepth 20000 in
theorem ggL_far_X0_far : GoodIn wsL_far wsX0_far := goodIn_ca (goodIn_r _ [6, 7, 8, 9, 5, 10, 11, 12, 13, 14, 15, 16, 17, 18, 19, 20, 21, 22, 23, 24, 25, 26, 27, 28, 29, 30, 31, 32, 33, 34, 35, 36] (by decide +kernel) (by decide +kernel)) (goodIn_sub (fun _ h => List.mem_cons_of_mem _ (List.mem_append_right _ h)) (by decide +kernel))
set_option maxRecDepth 20000 in
theorem gL_far_X0_far : GoodIn wsL_far (wsV RL 35 RX0 yX0_far wsX0_far) := goodIn_app (goodIn_of _ (by decide +kernel)) ggL_far_X0_far
theorem dL_far_0 : decode cL_far 0 = .ok (.aload_n 3, 1) := by decide +kernel
theorem dL_far_1 : decode cL_far 1 = .ok (.iconst 0, 1) := by decide +kernel
theorem dL_far_2 : decode cL_far 2 = .ok (.aload_n 0, 1) := by decide +kernel
theorem dL_far_3 : decode cL_far 3 = .ok (.iload_n 1, 1) := by decide +kernel
theorem dL_far_4 : decode cL_far 4 = .ok (.iload_n 2, 1) := by decide +kernel
theorem dL_far_5 : decode cL_far 5 = .ok (.invokevirtual 35, 3) := by decide +kernel
theorem dL_far_8 : decode cL_far 8 = .ok (.i2l, 1) := by decide +kernel
theorem dL_far_9 : decode cL_far 9 = .ok (.lastore, 1) := by decide +kernel
theorem dL_far_10 : decode cL_far 10 = .ok (.goto 7, 3) := by decide +kernel
theorem dL_far_13 : decode cL_far 13 = .ok (.astore 4, 2) := by decide +kernel
theorem dL_far_15 : decode cL_far 15 = .ok (.iconst 1, 1) := by decide +kernel
theorem dL_far_16 : decode cL_far 16 = .ok (.ireturn, 1) := by decide +kernel
theorem dL_far_17 : decode cL_far 17 = .ok (.iconst 0, 1) := by decide +kernel
theorem dL_far_18 : decode cL_far 18 = .ok (.ireturn, 1) := by decide +kernel
set_option maxRecDepth 20000 in
theorem ggL_isOn_X0_isOn : GoodIn wsL_isOn wsX0_isOn := goodIn_ca (goodIn_ca (goodIn_r _ [7, 8, 9, 10, 6, 11, 12, 13, 14, 15, 16, 17, 18, 19, 20, 21, 22, 23, 24, 25, 26, 27, 28, 29, 30, 31, 32, 33, 34, 35, 36, 37, 38, 39, 40, 41, 42, 43, 44, 45, 46, 47, 48, 49, 50] (by decide +kernel) (by decide +kernel)) (goodIn_sub (fun _ h => List.mem_cons_of_mem _ (List.mem_append_left _ (List.mem_append_right _ h))) (by decide +kernel))) (goodIn_sub (fun _ h => List.mem_cons_of_mem _ (List.mem_append_right _ h)) (by decide +kernel))
set_option maxRecDepth 20000 in
theorem gL_isOn_X0_isOn : GoodIn wsL_isOn (wsV RL 38 RX0 yX0_isOn wsX0_isOn) := goodIn_app (goodIn_of _ (by decide +kernel)) ggL_isOn_X0_isOn
theorem dL_isOn_0 : decode cL_isOn 0 = .ok (.aload_n 3, 1) := by decide +kernel
theorem dL_isOn_1 : decode cL_isOn 1 = .ok (.iconst 0, 1) := by decide +kernel
theorem dL_isOn_2 : decode cL_isOn 2 = .ok (.aload_n 0, 1) := by decide +kernel
theorem dL_isOn_3 : decode cL_isOn 3 = .ok (.iload_n 1, 1) := by decide +kernel
theorem dL_isOn_4 : decode cL_isOn 4 = .ok (.iload_n 2, 1) := by decide +kernel
theorem dL_isOn_5 : decode cL_isOn 5 = .ok (.invokevirtual 38, 3) := by decide +kernel
theorem dL_isOn_8 : decode cL_isOn 8 = .ok (.ifCond .eq 7, 3) := by decide +kernel
theorem dL_isOn_11 : decode cL_isOn 11 = .ok (.lconst 1, 1) := by decide +kernel
theorem dL_isOn_12 : decode cL_isOn 12 = .ok (.goto 4, 3) := by decide +kernel
theorem dL_isOn_15 : decode cL_isOn 15 = .ok (.lconst 0, 1) := by decide +kernel
theorem dL_isOn_16 : decode cL_isOn 16 = .ok (.lastore, 1) := by decide +kernel
theorem dL_isOn_17 : decode cL_isOn 17 = .ok (.goto 11, 3) := by decide +kernel
theorem dL_isOn_20 : decode cL_isOn 20 = .ok (.astore 4, 2) := by decide +kernel
theorem dL_isOn_22 : decode cL_isOn 22 = .ok (.iconst 1, 1) := by decide +kernel
theorem dL_isOn_23 : decode cL_isOn 23 = .ok (.ireturn, 1) := by decide +kernel
theorem dL_isOn_24 : decode cL_isOn 24 = .ok (.astore 4, 2) := by decide +kernel
theorem dL_isOn_26 : decode cL_isOn 26 = .ok (.iconst 2, 1) := by decide +kernel
theorem dL_isOn_27 : decode cL_isOn 27 = .ok (.ireturn, 1) := by decide +kernel
theorem dL_isOn_28 : decode cL_isOn 28 = .ok (.iconst 0, 1) := by decide +kernel
theorem dL_isOn_29 : decode cL_isOn 29 = .ok (.ireturn, 1) := by decide +kernel
set_option maxRecDepth 20000 in
theorem ggL_comesAs_X0_comesAs : GoodIn wsL_comesAs wsX0_comesAs := goodIn_ca (goodIn_ca (goodIn_r _ [7, 8, 9, 6, 10, 11, 12, 13, 14, 15, 16, 17, 18, 19, 20, 21, 22, 23, 24, 25, 26, 27, 28, 29, 30, 31, 32, 33, 34, 35, 36, 37, 38, 39, 40, 41, 42, 43, 44, 45, 46, 47, 48, 49, 50, 51, 52, 53, 54, 55, 56, 57] (by decide +kernel) (by decide +kernel)) (goodIn_sub (fun _ h => List.mem_cons_of_mem _ (List.mem_append_left _ (List.mem_append_right _ h))) (by decide +kernel))) (goodIn_sub (fun _ h => List.mem_cons_of_mem _ (List.mem_append_right _ h)) (by decide +kernel))
set_option maxRecDepth 20000 in
theorem gL_comesAs_X0_comesAs : GoodIn wsL_comesAs (wsV RL 42 RX0 yX0_comesAs wsX0_comesAs) := goodIn_app (goodIn_of _ (by decide +kernel)) ggL_comesAs_X0_comesAs
theorem dL_comesAs_0 : decode cL_comesAs 0 = .ok (.aload 4, 2) := by decide +kernel
theorem dL_comesAs_2 : decode cL_comesAs 2 = .ok (.iconst 0, 1) := by decide +kernel
theorem dL_comesAs_3 : decode cL_comesAs 3 = .ok (.aload_n 0, 1) := by decide +kernel
theorem dL_comesAs_4 : decode cL_comesAs 4 = .ok (.iload_n 1, 1) := by decide +kernel
theorem dL_comesAs_5 : decode cL_comesAs 5 = .ok (.iload_n 2, 1) := by decide +kernel
theorem dL_comesAs_6 : decode cL_comesAs 6 = .ok (.iload_n 3, 1) := by decide +kernel
theorem dL_comesAs_7 : decode cL_comesAs 7 = .ok (.invokevirtual 42, 3) := by decide +kernel
theorem dL_comesAs_10 : decode cL_comesAs 10 = .ok (.i2l, 1) := by decide +kernel
theorem dL_comesAs_11 : decode cL_comesAs 11 = .ok (.lastore, 1) := by decide +kernel
theorem dL_comesAs_12 : decode cL_comesAs 12 = .ok (.goto 11, 3) := by decide +kernel
theorem dL_comesAs_15 : decode cL_comesAs 15 = .ok (.astore 5, 2) := by decide +kernel
theorem dL_comesAs_17 : decode cL_comesAs 17 = .ok (.iconst 1, 1) := by decide +kernel
theorem dL_comesAs_18 : decode cL_comesAs 18 = .ok (.ireturn, 1) := by decide +kernel
theorem dL_comesAs_19 : decode cL_comesAs 19 = .ok (.astore 5, 2) := by decide +kernel
theorem dL_comesAs_21 : decode cL_comesAs 21 = .ok (.iconst 2, 1) := by decide +kernel
theorem dL_comesAs_22 : decode cL_comesAs 22 = .ok (.ireturn, 1) := by decide +kernel
theorem dL_comesAs_23 : decode cL_comesAs 23 = .ok (.iconst 0, 1) := by decide +kernel
theorem dL_comesAs_24 : decode cL_comesAs 24 = .ok (.ireturn, 1) := by decide +kernel
set_option maxRecDepth 20000 in
theorem ggL_oneSided_X0_oneSided : GoodIn wsL_oneSided wsX0_oneSided := goodIn_ca (goodIn_ca (goodIn_r _ [7, 8, 9, 10, 11, 12, 6, 13, 14, 15, 16, 17, 18, 19, 20, 21, 22, 23, 24, 25, 26, 27, 28, 29, 30, 31, 32, 33, 34, 35, 36, 37, 38, 39, 40, 41, 42, 43, 44, 45, 46, 47, 48, 49, 50, 51, 52] (by decide +kernel) (by decide +kernel)) (goodIn_sub (fun _ h => List.mem_cons_of_mem _ (List.mem_append_left _ (List.mem_append_right _ h))) (by decide +kernel))) (goodIn_sub (fun _ h => List.mem_cons_of_mem _ (List.mem_append_right _ h)) (by decide +kernel))
set_option maxRecDepth 20000 in
theorem gL_oneSided_X0_oneSided : GoodIn wsL_oneSided (wsV RL 45 RX0 yX0_oneSided wsX0_oneSided) := goodIn_app (goodIn_of _ (by decide +kernel)) ggL_oneSided_X0_oneSided
theorem dL_oneSided_0 : decode cL_oneSided 0 = .ok (.aload_n 3, 1) := by decide +kernel
theorem dL_oneSided_1 : decode cL_oneSided 1 = .ok (.iconst 0, 1) := by decide +kernel
theorem dL_oneSided_2 : decode cL_oneSided 2 = .ok (.aload_n 0, 1) := by decide +kernel
theorem dL_oneSided_3 : decode cL_oneSided 3 = .ok (.iload_n 1, 1) := by decide +kernel
theorem dL_oneSided_4 : decode cL_oneSided 4 = .ok (.iload_n 2, 1) := by decide +kernel
theorem dL_oneSided_5 : decode cL_oneSided 5 = .ok (.invokevirtual 45, 3) := by decide +kernel
theorem dL_oneSided_8 : decode cL_oneSided 8 = .ok (.i2l, 1) := by decide +kernel
theorem dL_oneSided_9 : decode cL_oneSided 9 = .ok (.lastore, 1) := by decide +kernel
theorem dL_oneSided_10 : decode cL_oneSided 10 = .ok (.goto 11, 3) := by decide +kernel
theorem dL_oneSided_13 : decode cL_oneSided 13 = .ok (.astore 4, 2) := by decide +kernel
theorem dL_oneSided_15 : decode cL_oneSided 15 = .ok (.iconst 1, 1) := by decide +kernel
theorem dL_oneSided_16 : decode cL_oneSided 16 = .ok (.ireturn, 1) := by decide +kernel
theorem dL_oneSided_17 : decode cL_oneSided 17 = .ok (.astore 4, 2) := by decide +kernel
theorem dL_oneSided_19 : decode cL_oneSided 19 = .ok (.iconst 2, 1) := by decide +kernel
theorem dL_oneSided_20 : decode cL_oneSided 20 = .ok (.ireturn, 1) := by decide +kernel
theorem dL_oneSided_21 : decode cL_oneSided 21 = .ok (.iconst 0, 1) := by decide +kernel
theorem dL_oneSided_22 : decode cL_oneSided 22 = .ok (.ireturn, 1) := by decide +kernel
set_option maxRecDepth 20000 in
theorem ggL_root_X0_root : GoodIn wsL_root wsX0_root := goodIn_ca (goodIn_r _ [6, 7, 8, 9, 5, 10, 11, 12, 13, 14, 15, 16, 17, 18, 19, 20, 21, 22, 23, 24, 25, 26, 27, 28, 29, 30] (by decide +kernel) (by decide +kernel)) (goodIn_sub (fun _ h => List.mem_cons_of_mem _ (List.mem_append_right _ h)) (by decide +kernel))
set_option maxRecDepth 20000 in
theorem gL_root_X0_root : GoodIn wsL_root (wsV RL 48 RX0 yX0_root wsX0_root) := goodIn_app (goodIn_of _ (by decide +kernel)) ggL_root_X0_root
theorem dL_root_0 : decode cL_root 0 = .ok (.aload_n 2, 1) := by decide +kernel
theorem dL_root_1 : decode cL_root 1 = .ok (.iconst 0, 1) := by decide +kernel
theorem dL_root_2 : decode cL_root 2 = .ok (.aload_n 0, 1) := by decide +kernel
theorem dL_root_3 : decode cL_root 3 = .ok (.iload_n 1, 1) := by decide +kernel
theorem dL_root_4 : decode cL_root 4 = .ok (.invokevirtual 48, 3) := by decide +kernel
theorem dL_root_7 : decode cL_root 7 = .ok (.i2l, 1) := by decide +kernel
theorem dL_root_8 : decode cL_root 8 = .ok (.lastore, 1) := by decide +kernel
theorem dL_root_9 : decode cL_root 9 = .ok (.goto 6, 3) := by decide +kernel
theorem dL_root_12 : decode cL_root 12 = .ok (.astore_n 3, 1) := by decide +kernel
theorem dL_root_13 : decode cL_root 13 = .ok (.iconst 1, 1) := by decide +kernel
theorem dL_root_14 : decode cL_root 14 = .ok (.ireturn, 1) := by decide +kernel
theorem dL_root_15 : decode cL_root 15 = .ok (.iconst 0, 1) := by decide +kernel
theorem dL_root_16 : decode cL_root 16 = .ok (.ireturn, 1) := by decide +kernel
set_option maxRecDepth 20000 in
theorem ggL_costOf_X0_costOf : GoodIn wsL_costOf wsX0_costOf := goodIn_ca (goodIn_r _ [6, 7, 8, 9, 5, 10, 11, 12, 13, 14, 15, 16, 17, 18, 19, 20, 21, 22, 23, 24, 25, 26, 27, 28, 29, 30] (by decide +kernel) (by decide +kernel)) (goodIn_sub (fun _ h => List.mem_cons_of_mem _ (List.mem_append_right _ h)) (by decide +kernel))
set_option maxRecDepth 20000 in
theorem gL_costOf_X0_costOf : GoodIn wsL_costOf (wsV RL 52 RX0 yX0_costOf wsX0_costOf) := goodIn_app (goodIn_of _ (by decide +kernel)) ggL_costOf_X0_costOf
theorem dL_costOf_0 : decode cL_costOf 0 = .ok (.aload_n 2, 1) := by decide +kernel
theorem dL_costOf_1 : decode cL_costOf 1 = .ok (.iconst 0, 1) := by decide +kernel
theorem dL_costOf_2 : decode cL_costOf 2 = .ok (.aload_n 0, 1) := by decide +kernel
theorem dL_costOf_3 : decode cL_costOf 3 = .ok (.iload_n 1, 1) := by decide +kernel
theorem dL_costOf_4 : decode cL_costOf 4 = .ok (.invokevirtual 52, 3) := by decide +kernel
theorem dL_costOf_7 : decode cL_costOf 7 = .ok (.i2l, 1) := by decide +kernel
theorem dL_costOf_8 : decode cL_costOf 8 = .ok (.lastore, 1) := by decide +kernel
theorem dL_costOf_9 : decode cL_costOf 9 = .ok (.goto 6, 3) := by decide +kernel
theorem dL_costOf_12 : decode cL_costOf 12 = .ok (.astore_n 3, 1) := by decide +kernel
theorem dL_costOf_13 : decode cL_costOf 13 = .ok (.iconst 1, 1) := by decide +kernel
theorem dL_costOf_14 : decode cL_costOf 14 = .ok (.ireturn, 1) := by decide +kernel
theorem dL_costOf_15 : decode cL_costOf 15 = .ok (.iconst 0, 1) := by decide +kernel
theorem dL_costOf_16 : decode cL_costOf 16 = .ok (.ireturn, 1) := by decide +kernel
set_option maxRecDepth 20000 in
theorem ggL_wayUp_X0_wayUp : GoodIn wsL_wayUp wsX0_wayUp := goodIn_ca (goodIn_r _ [6, 7, 8, 9, 5, 10, 11, 12, 13, 14, 15, 16, 17, 18, 19, 20, 21, 22, 23, 24, 25, 26, 27, 28, 29, 30] (by decide +kernel) (by decide +kernel)) (goodIn_sub (fun _ h => List.mem_cons_of_mem _ (List.mem_append_right _ h)) (by decide +kernel))
set_option maxRecDepth 20000 in
theorem gL_wayUp_X0_wayUp : GoodIn wsL_wayUp (wsV RL 55 RX0 yX0_wayUp wsX0_wayUp) := goodIn_app (goodIn_of _ (by decide +kernel)) ggL_wayUp_X0_wayUp
theorem dL_wayUp_0 : decode cL_wayUp 0 = .ok (.aload_n 2, 1) := by decide +kernel
theorem dL_wayUp_1 : decode cL_wayUp 1 = .ok (.iconst 0, 1) := by decide +kernel
theorem dL_wayUp_2 : decode cL_wayUp 2 = .ok (.aload_n 0, 1) := by decide +kernel
theorem dL_wayUp_3 : decode cL_wayUp 3 = .ok (.iload_n 1, 1) := by decide +kernel
theorem dL_wayUp_4 : decode cL_wayUp 4 = .ok (.invokevirtual 55, 3) := by decide +kernel
theorem dL_wayUp_7 : decode cL_wayUp 7 = .ok (.i2l, 1) := by decide +kernel
theorem dL_wayUp_8 : decode cL_wayUp 8 = .ok (.lastore, 1) := by decide +kernel
theorem dL_wayUp_9 : decode cL_wayUp 9 = .ok (.goto 6, 3) := by decide +kernel
theorem dL_wayUp_12 : decode cL_wayUp 12 = .ok (.astore_n 3, 1) := by decide +kernel
theorem dL_wayUp_13 : decode cL_wayUp 13 = .ok (.iconst 1, 1) := by decide +kernel
theorem dL_wayUp_14 : decode cL_wayUp 14 = .ok (.ireturn, 1) := by decide +kernel
theorem dL_wayUp_15 : decode cL_wayUp 15 = .ok (.iconst 0, 1) := by decide +kernel
theorem dL_wayUp_16 : decode cL_wayUp 16 = .ok (.ireturn, 1) := by decide +kernel
set_option maxRecDepth 20000 in
theorem ggL_hops_X0_hops : GoodIn wsL_hops wsX0_hops := goodIn_ca (goodIn_r _ [6, 7, 8, 9, 5, 10, 11, 12, 13, 14, 15, 16, 17, 18, 19, 20, 21, 22, 23, 24, 25, 26, 27, 28, 29, 30, 31, 32, 33, 34, 35, 36, 37, 38, 39, 40, 41, 42, 43, 44, 45, 46, 47, 48, 49, 50, 51, 52, 53, 54, 55, 56, 57, 58, 59, 60, 61, 62, 63, 64, 65, 66, 67, 68, 69, 70, 71, 72, 73, 74, 75, 76, 77, 78, 79, 80, 81, 82] (by decide +kernel) (by decide +kernel)) (goodIn_sub (fun _ h => List.mem_cons_of_mem _ (List.mem_append_right _ h)) (by decide +kernel))
set_option maxRecDepth 20000 in
theorem gL_hops_X0_hops : GoodIn wsL_hops (wsV RL 58 RX0 yX0_hops wsX0_hops) := goodIn_app (goodIn_of _ (by decide +kernel)) ggL_hops_X0_hops
theorem dL_hops_0 : decode cL_hops 0 = .ok (.aload 5, 2) := by decide +kernel
theorem dL_hops_2 : decode cL_hops 2 = .ok (.iconst 0, 1) := by decide +kernel
theorem dL_hops_3 : decode cL_hops 3 = .ok (.aload_n 0, 1) := by decide +kernel
theorem dL_hops_4 : decode cL_hops 4 = .ok (.iload_n 1, 1) := by decide +kernel
theorem dL_hops_5 : decode cL_hops 5 = .ok (.iload_n 2, 1) := by decide +kernel
theorem dL_hops_6 : decode cL_hops 6 = .ok (.iload_n 3, 1) := by decide +kernel
theorem dL_hops_7 : decode cL_hops 7 = .ok (.iload 4, 2) := by decide +kernel
theorem dL_hops_9 : decode cL_hops 9 = .ok (.invokevirtual 58, 3) := by decide +kernel
theorem dL_hops_12 : decode cL_hops 12 = .ok (.i2l, 1) := by decide +kernel
theorem dL_hops_13 : decode cL_hops 13 = .ok (.lastore, 1) := by decide +kernel
theorem dL_hops_14 : decode cL_hops 14 = .ok (.goto 7, 3) := by decide +kernel
theorem dL_hops_17 : decode cL_hops 17 = .ok (.astore 6, 2) := by decide +kernel
theorem dL_hops_19 : decode cL_hops 19 = .ok (.iconst 1, 1) := by decide +kernel
theorem dL_hops_20 : decode cL_hops 20 = .ok (.ireturn, 1) := by decide +kernel
theorem dL_hops_21 : decode cL_hops 21 = .ok (.iconst 0, 1) := by decide +kernel
theorem dL_hops_22 : decode cL_hops 22 = .ok (.ireturn, 1) := by decide +kernel
set_option maxRecDepth 20000 in
theorem ggL_meet_X0_meet : GoodIn wsL_meet wsX0_meet := goodIn_ca (goodIn_r _ [6, 7, 8, 9, 5, 10, 11, 12, 13, 14, 15, 16, 17, 18, 19, 20, 21, 22, 23, 24, 25, 26, 27, 28, 29, 30, 31, 32, 33, 34, 35, 36, 37, 38, 39, 40, 41, 42, 43, 44, 45, 46, 47, 48, 49, 50, 51, 52, 53, 54, 55, 56, 57, 58, 59, 60, 61, 62, 63, 64, 65, 66, 67, 68, 69, 70, 71, 72, 73, 74, 75, 76, 77, 78, 79, 80, 81, 82, 83, 84, 85, 86, 87, 88, 89] (by decide +kernel) (by decide +kernel)) (goodIn_sub (fun _ h => List.mem_cons_of_mem _ (List.mem_append_right _ h)) (by decide +kernel))
set_option maxRecDepth 20000 in
theorem gL_meet_X0_meet : GoodIn wsL_meet (wsV RL 62 RX0 yX0_meet wsX0_meet) := goodIn_app (goodIn_of _ (by decide +kernel)) ggL_meet_X0_meet
theorem dL_meet_0 : decode cL_meet 0 = .ok (.aload 5, 2) := by decide +kernel
theorem dL_meet_2 : decode cL_meet 2 = .ok (.iconst 0, 1) := by decide +kernel
theorem dL_meet_3 : decode cL_meet 3 = .ok (.aload_n 0, 1) := by decide +kernel
theorem dL_meet_4 : decode cL_meet 4 = .ok (.iload_n 1, 1) := by decide +kernel
theorem dL_meet_5 : decode cL_meet 5 = .ok (.iload_n 2, 1) := by decide +kernel
theorem dL_meet_6 : decode cL_meet 6 = .ok (.iload_n 3, 1) := by decide +kernel
theorem dL_meet_7 : decode cL_meet 7 = .ok (.iload 4, 2) := by decide +kernel
theorem dL_meet_9 : decode cL_meet 9 = .ok (.invokevirtual 62, 3) := by decide +kernel
theorem dL_meet_12 : decode cL_meet 12 = .ok (.ifCond .eq 7, 3) := by decide +kernel
theorem dL_meet_15 : decode cL_meet 15 = .ok (.lconst 1, 1) := by decide +kernel
theorem dL_meet_16 : decode cL_meet 16 = .ok (.goto 4, 3) := by decide +kernel
theorem dL_meet_19 : decode cL_meet 19 = .ok (.lconst 0, 1) := by decide +kernel
theorem dL_meet_20 : decode cL_meet 20 = .ok (.lastore, 1) := by decide +kernel
theorem dL_meet_21 : decode cL_meet 21 = .ok (.goto 7, 3) := by decide +kernel
theorem dL_meet_24 : decode cL_meet 24 = .ok (.astore 6, 2) := by decide +kernel
theorem dL_meet_26 : decode cL_meet 26 = .ok (.iconst 1, 1) := by decide +kernel
theorem dL_meet_27 : decode cL_meet 27 = .ok (.ireturn, 1) := by decide +kernel
theorem dL_meet_28 : decode cL_meet 28 = .ok (.iconst 0, 1) := by decide +kernel
theorem dL_meet_29 : decode cL_meet 29 = .ok (.ireturn, 1) := by decide +kernel
set_option maxRecDepth 20000 in
theorem ggL_joined_X0_joined : GoodIn wsL_joined wsX0_joined := goodIn_ca (goodIn_r _ [6, 7, 8, 9, 5, 10, 11, 12, 13, 14, 15, 16, 17, 18, 19, 20, 21, 22, 23, 24, 25, 26, 27, 28, 29, 30, 31, 32, 33, 34, 35, 36, 37, 38, 39, 40, 41, 42, 43, 44, 45, 46, 47, 48, 49, 50, 51, 52, 53, 54, 55, 56, 57, 58, 59, 60, 61, 62, 63, 64, 65, 66, 67, 68, 69, 70, 71, 72, 73, 74, 75, 76, 77, 78, 79, 80, 81, 82] (by decide +kernel) (by decide +kernel)) (goodIn_sub (fun _ h => List.mem_cons_of_mem _ (List.mem_append_right _ h)) (by decide +kernel))
set_option maxRecDepth 20000 in
theorem gL_joined_X0_joined : GoodIn wsL_joined (wsV RL 65 RX0 yX0_joined wsX0_joined) := goodIn_app (goodIn_of _ (by decide +kernel)) ggL_joined_X0_joined
theorem dL_joined_0 : decode cL_joined 0 = .ok (.aload_n 3, 1) := by decide +kernel
theorem dL_joined_1 : decode cL_joined 1 = .ok (.iconst 0, 1) := by decide +kernel
theorem dL_joined_2 : decode cL_joined 2 = .ok (.aload_n 0, 1) := by decide +kernel
theorem dL_joined_3 : decode cL_joined 3 = .ok (.iload_n 1, 1) := by decide +kernel
theorem dL_joined_4 : decode cL_joined 4 = .ok (.iload_n 2, 1) := by decide +kernel
theorem dL_joined_5 : decode cL_joined 5 = .ok (.invokevirtual 65, 3) := by decide +kernel
theorem dL_joined_8 : decode cL_joined 8 = .ok (.i2l, 1) := by decide +kernel
theorem dL_joined_9 : decode cL_joined 9 = .ok (.lastore, 1) := by decide +kernel
theorem dL_joined_10 : decode cL_joined 10 = .ok (.goto 7, 3) := by decide +kernel
theorem dL_joined_13 : decode cL_joined 13 = .ok (.astore 4, 2) := by decide +kernel
theorem dL_joined_15 : decode cL_joined 15 = .ok (.iconst 1, 1) := by decide +kernel
theorem dL_joined_16 : decode cL_joined 16 = .ok (.ireturn, 1) := by decide +kernel
theorem dL_joined_17 : decode cL_joined 17 = .ok (.iconst 0, 1) := by decide +kernel
theorem dL_joined_18 : decode cL_joined 18 = .ok (.ireturn, 1) := by decide +kernel
set_option maxRecDepth 20000 in
theorem ggL_changes_X0_changes : GoodIn wsL_changes wsX0_changes := goodIn_ca (goodIn_r _ [6, 7, 8, 9, 10, 11, 5, 12, 13, 14, 15, 16, 17, 18, 19, 20, 21, 22, 23, 24, 25, 26, 27, 28, 29, 30, 31, 32, 33, 34, 35, 36, 37, 38, 39, 40, 41, 42, 43, 44, 45, 46, 47, 48, 49, 50, 51, 52, 53, 54, 55, 56, 57, 58, 59, 60, 61, 62, 63, 64, 65, 66] (by decide +kernel) (by decide +kernel)) (goodIn_sub (fun _ h => List.mem_cons_of_mem _ (List.mem_append_right _ h)) (by decide +kernel))
set_option maxRecDepth 20000 in
theorem gL_changes_X0_changes : GoodIn wsL_changes (wsV RL 68 RX0 yX0_changes wsX0_changes) := goodIn_app (goodIn_of _ (by decide +kernel)) ggL_changes_X0_changes
theorem dL_changes_0 : decode cL_changes 0 = .ok (.aload 5, 2) := by decide +kernel
theorem dL_changes_2 : decode cL_changes 2 = .ok (.iconst 0, 1) := by decide +kernel
theorem dL_changes_3 : decode cL_changes 3 = .ok (.aload_n 0, 1) := by decide +kernel
theorem dL_changes_4 : decode cL_changes 4 = .ok (.iload_n 1, 1) := by decide +kernel
theorem dL_changes_5 : decode cL_changes 5 = .ok (.iload_n 2, 1) := by decide +kernel
theorem dL_changes_6 : decode cL_changes 6 = .ok (.iload_n 3, 1) := by decide +kernel
theorem dL_changes_7 : decode cL_changes 7 = .ok (.iload 4, 2) := by decide +kernel
theorem dL_changes_9 : decode cL_changes 9 = .ok (.invokevirtual 68, 3) := by decide +kernel
theorem dL_changes_12 : decode cL_changes 12 = .ok (.i2l, 1) := by decide +kernel
theorem dL_changes_13 : decode cL_changes 13 = .ok (.lastore, 1) := by decide +kernel
theorem dL_changes_14 : decode cL_changes 14 = .ok (.goto 7, 3) := by decide +kernel
theorem dL_changes_17 : decode cL_changes 17 = .ok (.astore 6, 2) := by decide +kernel
theorem dL_changes_19 : decode cL_changes 19 = .ok (.iconst 1, 1) := by decide +kernel
theorem dL_changes_20 : decode cL_changes 20 = .ok (.ireturn, 1) := by decide +kernel
theorem dL_changes_21 : decode cL_changes 21 = .ok (.iconst 0, 1) := by decide +kernel
theorem dL_changes_22 : decode cL_changes 22 = .ok (.ireturn, 1) := by decide +kernel
end
section
theorem in_X0_init : ∀ w ∈ wsX00, w ∈ wsX0_init := fun _ h => List.mem_cons_of_mem _ (List.mem_append_right _ h)
theorem fl_X0_init_9 : Cond.fieldLink RX0 9 "LaneTrunks" "untaggedLane" "[I" ∈ wsX0_init := by decide +kernel
theorem fl_X0_init_13 : Cond.fieldLink RX0 13 "LaneTrunks" "taggedLanes" "[I" ∈ wsX0_init := by decide +kernel
theorem fl_X0_init_16 : Cond.fieldLink RX0 16 "LaneTrunks" "farSlot" "[I" ∈ wsX0_init := by decide +kernel
theorem fl_X0_init_19 : Cond.fieldLink RX0 19 "LaneTrunks" "cableCost" "[I" ∈ wsX0_init := by decide +kernel
theorem fl_X0_init_22 : Cond.fieldLink RX0 22 "LaneTrunks" "book" "[I" ∈ wsX0_init := by decide +kernel
theorem fl_X0_init_25 : Cond.fieldLink RX0 25 "LaneTrunks" "rootUnit" "[I" ∈ wsX0_init := by decide +kernel
theorem fl_X0_init_28 : Cond.fieldLink RX0 28 "LaneTrunks" "rootCost" "[I" ∈ wsX0_init := by decide +kernel
theorem fl_X0_init_31 : Cond.fieldLink RX0 31 "LaneTrunks" "wayUpSlot" "[I" ∈ wsX0_init := by decide +kernel
theorem fl_X0_init_34 : Cond.fieldLink RX0 34 "LaneTrunks" "steps" "[I" ∈ wsX0_init := by decide +kernel
theorem fl_X0_init_37 : Cond.fieldLink RX0 37 "LaneTrunks" "reachedPlaces" "[I" ∈ wsX0_init := by decide +kernel
theorem fl_X0_init_40 : Cond.fieldLink RX0 40 "LaneTrunks" "weights" "[I" ∈ wsX0_init := by decide +kernel
theorem fl_X0_init_43 : Cond.fieldLink RX0 43 "LaneTrunks" "sums" "[I" ∈ wsX0_init := by decide +kernel
theorem in_X0_untag : ∀ w ∈ wsX00, w ∈ wsX0_untag := fun _ h => List.mem_cons_of_mem _ (List.mem_append_left _ (List.mem_append_left _ (List.mem_append_right _ h)))
theorem fl_X0_untag_9 : Cond.fieldLink RX0 9 "LaneTrunks" "untaggedLane" "[I" ∈ wsX0_untag := by decide +kernel
theorem in_X0_tag : ∀ w ∈ wsX00, w ∈ wsX0_tag := fun _ h => List.mem_cons_of_mem _ (List.mem_append_left _ (List.mem_append_left _ (List.mem_append_right _ h)))
theorem fl_X0_tag_9 : Cond.fieldLink RX0 9 "LaneTrunks" "untaggedLane" "[I" ∈ wsX0_tag := by decide +kernel
theorem fl_X0_tag_13 : Cond.fieldLink RX0 13 "LaneTrunks" "taggedLanes" "[I" ∈ wsX0_tag := by decide +kernel
theorem in_X0_cable : ∀ w ∈ wsX00, w ∈ wsX0_cable := fun _ h => List.mem_cons_of_mem _ (List.mem_append_left _ (List.mem_append_left _ (List.mem_append_right _ h)))
theorem fl_X0_cable_101 : Cond.fieldLink RX0 101 "LaneTrunks" "cableCount" "I" ∈ wsX0_cable := by decide +kernel
theorem in_X0_pull : ∀ w ∈ wsX00, w ∈ wsX0_pull := fun _ h => List.mem_cons_of_mem _ (List.mem_append_left _ (List.mem_append_left _ (List.mem_append_right _ h)))
theorem fl_X0_pull_16 : Cond.fieldLink RX0 16 "LaneTrunks" "farSlot" "[I" ∈ wsX0_pull := by decide +kernel
theorem fl_X0_pull_19 : Cond.fieldLink RX0 19 "LaneTrunks" "cableCost" "[I" ∈ wsX0_pull := by decide +kernel
theorem fl_X0_pull_101 : Cond.fieldLink RX0 101 "LaneTrunks" "cableCount" "I" ∈ wsX0_pull := by decide +kernel
theorem in_X0_tree : ∀ w ∈ wsX00, w ∈ wsX0_tree := fun _ h => List.mem_cons_of_mem _ (List.mem_append_right _ h)
theorem fl_X0_tree_108 : Cond.fieldLink RX0 108 "LaneTrunks" "isTreeOn" "Z" ∈ wsX0_tree := by decide +kernel
theorem in_X0_note : ∀ w ∈ wsX00, w ∈ wsX0_note := fun _ h => List.mem_cons_of_mem _ (List.mem_append_left _ (List.mem_append_right _ h))
theorem fl_X0_note_22 : Cond.fieldLink RX0 22 "LaneTrunks" "book" "[I" ∈ wsX0_note := by decide +kernel
theorem in_X0_far : ∀ w ∈ wsX00, w ∈ wsX0_far := fun _ h => List.mem_cons_of_mem _ (List.mem_append_left _ (List.mem_append_right _ h))
theorem fl_X0_far_16 : Cond.fieldLink RX0 16 "LaneTrunks" "farSlot" "[I" ∈ wsX0_far := by decide +kernel
theorem in_X0_oneSided : ∀ w ∈ wsX00, w ∈ wsX0_oneSided := fun _ h => List.mem_cons_of_mem _ (List.mem_append_left _ (List.mem_append_left _ (List.mem_append_right _ h)))
theorem fl_X0_oneSided_13 : Cond.fieldLink RX0 13 "LaneTrunks" "taggedLanes" "[I" ∈ wsX0_oneSided := by decide +kernel
theorem fl_X0_oneSided_16 : Cond.fieldLink RX0 16 "LaneTrunks" "farSlot" "[I" ∈ wsX0_oneSided := by decide +kernel
theorem in_X0_wrong : ∀ w ∈ wsX00, w ∈ wsX0_wrong := fun _ h => List.mem_cons_of_mem _ (List.mem_append_right _ h)
theorem fl_X0_wrong_16 : Cond.fieldLink RX0 16 "LaneTrunks" "farSlot" "[I" ∈ wsX0_wrong := by decide +kernel
theorem fl_X0_wrong_22 : Cond.fieldLink RX0 22 "LaneTrunks" "book" "[I" ∈ wsX0_wrong := by decide +kernel
theorem in_X0_root : ∀ w ∈ wsX00, w ∈ wsX0_root := fun _ h => List.mem_cons_of_mem _ (List.mem_append_left _ (List.mem_append_right _ h))
theorem fl_X0_root_25 : Cond.fieldLink RX0 25 "LaneTrunks" "rootUnit" "[I" ∈ wsX0_root := by decide +kernel
theorem in_X0_costOf : ∀ w ∈ wsX00, w ∈ wsX0_costOf := fun _ h => List.mem_cons_of_mem _ (List.mem_append_left _ (List.mem_append_right _ h))
theorem fl_X0_costOf_28 : Cond.fieldLink RX0 28 "LaneTrunks" "rootCost" "[I" ∈ wsX0_costOf := by decide +kernel
theorem in_X0_wayUp : ∀ w ∈ wsX00, w ∈ wsX0_wayUp := fun _ h => List.mem_cons_of_mem _ (List.mem_append_left _ (List.mem_append_right _ h))
theorem fl_X0_wayUp_31 : Cond.fieldLink RX0 31 "LaneTrunks" "wayUpSlot" "[I" ∈ wsX0_wayUp := by decide +kernel
theorem in_X0_hops : ∀ w ∈ wsX00, w ∈ wsX0_hops := fun _ h => List.mem_cons_of_mem _ (List.mem_append_left _ (List.mem_append_right _ h))
theorem fl_X0_hops_34 : Cond.fieldLink RX0 34 "LaneTrunks" "steps" "[I" ∈ wsX0_hops := by decide +kernel
theorem in_X0_meet : ∀ w ∈ wsX00, w ∈ wsX0_meet := fun _ h => List.mem_cons_of_mem _ (List.mem_append_left _ (List.mem_append_right _ h))
theorem fl_X0_meet_9 : Cond.fieldLink RX0 9 "LaneTrunks" "untaggedLane" "[I" ∈ wsX0_meet := by decide +kernel
theorem in_X0_joined : ∀ w ∈ wsX00, w ∈ wsX0_joined := fun _ h => List.mem_cons_of_mem _ (List.mem_append_left _ (List.mem_append_right _ h))
theorem fl_X0_joined_143 : Cond.fieldLink RX0 143 "LaneTrunks" "reachedCount" "I" ∈ wsX0_joined := by decide +kernel
theorem in_X0_islands : ∀ w ∈ wsX00, w ∈ wsX0_islands := fun _ h => List.mem_cons_of_mem _ (List.mem_append_right _ h)
theorem fl_X0_islands_34 : Cond.fieldLink RX0 34 "LaneTrunks" "steps" "[I" ∈ wsX0_islands := by decide +kernel
theorem in_X0_changes : ∀ w ∈ wsX00, w ∈ wsX0_changes := fun _ h => List.mem_cons_of_mem _ (List.mem_append_left _ (List.mem_append_right _ h))
theorem fl_X0_changes_9 : Cond.fieldLink RX0 9 "LaneTrunks" "untaggedLane" "[I" ∈ wsX0_changes := by decide +kernel
theorem fl_X0_changes_40 : Cond.fieldLink RX0 40 "LaneTrunks" "weights" "[I" ∈ wsX0_changes := by decide +kernel
theorem fl_X0_changes_43 : Cond.fieldLink RX0 43 "LaneTrunks" "sums" "[I" ∈ wsX0_changes := by decide +kernel
theorem in_X0_isTagged : ∀ w ∈ wsX00, w ∈ wsX0_isTagged := fun _ h => List.mem_cons_of_mem _ (List.mem_append_right _ h)
theorem fl_X0_isTagged_13 : Cond.fieldLink RX0 13 "LaneTrunks" "taggedLanes" "[I" ∈ wsX0_isTagged := by decide +kernel
theorem in_X0_hasCable : ∀ w ∈ wsX00, w ∈ wsX0_hasCable := fun _ h => List.mem_cons_of_mem _ (List.mem_append_right _ h)
theorem fl_X0_hasCable_16 : Cond.fieldLink RX0 16 "LaneTrunks" "farSlot" "[I" ∈ wsX0_hasCable := by decide +kernel
theorem in_X0_setCable : ∀ w ∈ wsX00, w ∈ wsX0_setCable := fun _ h => List.mem_cons_of_mem _ (List.mem_append_right _ h)
theorem fl_X0_setCable_16 : Cond.fieldLink RX0 16 "LaneTrunks" "farSlot" "[I" ∈ wsX0_setCable := by decide +kernel
theorem fl_X0_setCable_19 : Cond.fieldLink RX0 19 "LaneTrunks" "cableCost" "[I" ∈ wsX0_setCable := by decide +kernel
theorem in_X0_hasLiveCable : ∀ w ∈ wsX00, w ∈ wsX0_hasLiveCable := fun _ h => List.mem_cons_of_mem _ (List.mem_append_right _ h)
theorem fl_X0_hasLiveCable_16 : Cond.fieldLink RX0 16 "LaneTrunks" "farSlot" "[I" ∈ wsX0_hasLiveCable := by decide +kernel
theorem fl_X0_hasLiveCable_31 : Cond.fieldLink RX0 31 "LaneTrunks" "wayUpSlot" "[I" ∈ wsX0_hasLiveCable := by decide +kernel
theorem fl_X0_hasLiveCable_108 : Cond.fieldLink RX0 108 "LaneTrunks" "isTreeOn" "Z" ∈ wsX0_hasLiveCable := by decide +kernel
theorem in_X0_laneBeyond : ∀ w ∈ wsX00, w ∈ wsX0_laneBeyond := fun _ h => List.mem_cons_of_mem _ (List.mem_append_right _ h)
theorem fl_X0_laneBeyond_9 : Cond.fieldLink RX0 9 "LaneTrunks" "untaggedLane" "[I" ∈ wsX0_laneBeyond := by decide +kernel
theorem fl_X0_laneBeyond_16 : Cond.fieldLink RX0 16 "LaneTrunks" "farSlot" "[I" ∈ wsX0_laneBeyond := by decide +kernel
theorem in_X0_growTree : ∀ w ∈ wsX00, w ∈ wsX0_growTree := fun _ h => List.mem_cons_of_mem _ (List.mem_append_right _ h)
theorem fl_X0_growTree_31 : Cond.fieldLink RX0 31 "LaneTrunks" "wayUpSlot" "[I" ∈ wsX0_growTree := by decide +kernel
theorem in_X0_findRoots : ∀ w ∈ wsX00, w ∈ wsX0_findRoots := fun _ h => List.mem_cons_of_mem _ (List.mem_append_right _ h)
theorem fl_X0_findRoots_25 : Cond.fieldLink RX0 25 "LaneTrunks" "rootUnit" "[I" ∈ wsX0_findRoots := by decide +kernel
theorem fl_X0_findRoots_40 : Cond.fieldLink RX0 40 "LaneTrunks" "weights" "[I" ∈ wsX0_findRoots := by decide +kernel
theorem in_X0_findCosts : ∀ w ∈ wsX00, w ∈ wsX0_findCosts := fun _ h => List.mem_cons_of_mem _ (List.mem_append_right _ h)
theorem fl_X0_findCosts_19 : Cond.fieldLink RX0 19 "LaneTrunks" "cableCost" "[I" ∈ wsX0_findCosts := by decide +kernel
theorem fl_X0_findCosts_25 : Cond.fieldLink RX0 25 "LaneTrunks" "rootUnit" "[I" ∈ wsX0_findCosts := by decide +kernel
theorem fl_X0_findCosts_28 : Cond.fieldLink RX0 28 "LaneTrunks" "rootCost" "[I" ∈ wsX0_findCosts := by decide +kernel
theorem in_X0_bestWayUp : ∀ w ∈ wsX00, w ∈ wsX0_bestWayUp := fun _ h => List.mem_cons_of_mem _ (List.mem_append_right _ h)
theorem fl_X0_bestWayUp_16 : Cond.fieldLink RX0 16 "LaneTrunks" "farSlot" "[I" ∈ wsX0_bestWayUp := by decide +kernel
theorem fl_X0_bestWayUp_19 : Cond.fieldLink RX0 19 "LaneTrunks" "cableCost" "[I" ∈ wsX0_bestWayUp := by decide +kernel
theorem fl_X0_bestWayUp_28 : Cond.fieldLink RX0 28 "LaneTrunks" "rootCost" "[I" ∈ wsX0_bestWayUp := by decide +kernel
theorem in_X0_lowerSum : ∀ w ∈ wsX00, w ∈ wsX0_lowerSum := fun _ h => List.mem_cons_of_mem _ (List.mem_append_right _ h)
theorem fl_X0_lowerSum_16 : Cond.fieldLink RX0 16 "LaneTrunks" "farSlot" "[I" ∈ wsX0_lowerSum := by decide +kernel
theorem in_X0_forgetWalks : ∀ w ∈ wsX00, w ∈ wsX0_forgetWalks := fun _ h => List.mem_cons_of_mem _ (List.mem_append_right _ h)
theorem fl_X0_forgetWalks_34 : Cond.fieldLink RX0 34 "LaneTrunks" "steps" "[I" ∈ wsX0_forgetWalks := by decide +kernel
theorem fl_X0_forgetWalks_143 : Cond.fieldLink RX0 143 "LaneTrunks" "reachedCount" "I" ∈ wsX0_forgetWalks := by decide +kernel
theorem in_X0_walkFrom : ∀ w ∈ wsX00, w ∈ wsX0_walkFrom := fun _ h => List.mem_cons_of_mem _ (List.mem_append_right _ h)
theorem fl_X0_walkFrom_37 : Cond.fieldLink RX0 37 "LaneTrunks" "reachedPlaces" "[I" ∈ wsX0_walkFrom := by decide +kernel
theorem fl_X0_walkFrom_143 : Cond.fieldLink RX0 143 "LaneTrunks" "reachedCount" "I" ∈ wsX0_walkFrom := by decide +kernel
theorem in_X0_reach : ∀ w ∈ wsX00, w ∈ wsX0_reach := fun _ h => List.mem_cons_of_mem _ (List.mem_append_right _ h)
theorem fl_X0_reach_34 : Cond.fieldLink RX0 34 "LaneTrunks" "steps" "[I" ∈ wsX0_reach := by decide +kernel
theorem fl_X0_reach_37 : Cond.fieldLink RX0 37 "LaneTrunks" "reachedPlaces" "[I" ∈ wsX0_reach := by decide +kernel
theorem fl_X0_reach_143 : Cond.fieldLink RX0 143 "LaneTrunks" "reachedCount" "I" ∈ wsX0_reach := by decide +kernel
theorem in_X0_reachNeighbours : ∀ w ∈ wsX00, w ∈ wsX0_reachNeighbours := fun _ h => List.mem_cons_of_mem _ (List.mem_append_right _ h)
theorem fl_X0_reachNeighbours_34 : Cond.fieldLink RX0 34 "LaneTrunks" "steps" "[I" ∈ wsX0_reachNeighbours := by decide +kernel
theorem in_X0_placeBeyond : ∀ w ∈ wsX00, w ∈ wsX0_placeBeyond := fun _ h => List.mem_cons_of_mem _ (List.mem_append_right _ h)
theorem fl_X0_placeBeyond_16 : Cond.fieldLink RX0 16 "LaneTrunks" "farSlot" "[I" ∈ wsX0_placeBeyond := by decide +kernel
theorem in_X0_isUsed : ∀ w ∈ wsX00, w ∈ wsX0_isUsed := fun _ h => List.mem_cons_of_mem _ (List.mem_append_right _ h)
theorem fl_X0_isUsed_9 : Cond.fieldLink RX0 9 "LaneTrunks" "untaggedLane" "[I" ∈ wsX0_isUsed := by decide +kernel
theorem in_X0_countWays : ∀ w ∈ wsX00, w ∈ wsX0_countWays := fun _ h => List.mem_cons_of_mem _ (List.mem_append_right _ h)
theorem fl_X0_countWays_16 : Cond.fieldLink RX0 16 "LaneTrunks" "farSlot" "[I" ∈ wsX0_countWays := by decide +kernel
theorem in_X0_waysOver : ∀ w ∈ wsX00, w ∈ wsX0_waysOver := fun _ h => List.mem_cons_of_mem _ (List.mem_append_right _ h)
theorem fl_X0_waysOver_9 : Cond.fieldLink RX0 9 "LaneTrunks" "untaggedLane" "[I" ∈ wsX0_waysOver := by decide +kernel
theorem fl_X0_waysOver_13 : Cond.fieldLink RX0 13 "LaneTrunks" "taggedLanes" "[I" ∈ wsX0_waysOver := by decide +kernel
theorem in_X0_changesOver : ∀ w ∈ wsX00, w ∈ wsX0_changesOver := fun _ h => List.mem_cons_of_mem _ (List.mem_append_right _ h)
theorem fl_X0_changesOver_9 : Cond.fieldLink RX0 9 "LaneTrunks" "untaggedLane" "[I" ∈ wsX0_changesOver := by decide +kernel
theorem fl_X0_changesOver_16 : Cond.fieldLink RX0 16 "LaneTrunks" "farSlot" "[I" ∈ wsX0_changesOver := by decide +kernel
theorem in_X1_init : ∀ w ∈ wsX10, w ∈ wsX1_init := fun _ h => List.mem_cons_of_mem _ (List.mem_append_right _ h)
theorem fl_X1_init_7 : Cond.fieldLink RX1 7 "LaneTrunksModel" "untagged" "[I" ∈ wsX1_init := by decide +kernel
theorem fl_X1_init_13 : Cond.fieldLink RX1 13 "LaneTrunksModel" "tagged" "[I" ∈ wsX1_init := by decide +kernel
theorem fl_X1_init_16 : Cond.fieldLink RX1 16 "LaneTrunksModel" "ends" "[I" ∈ wsX1_init := by decide +kernel
theorem fl_X1_init_19 : Cond.fieldLink RX1 19 "LaneTrunksModel" "costs" "[I" ∈ wsX1_init := by decide +kernel
theorem fl_X1_init_22 : Cond.fieldLink RX1 22 "LaneTrunksModel" "books" "[I" ∈ wsX1_init := by decide +kernel
theorem fl_X1_init_25 : Cond.fieldLink RX1 25 "LaneTrunksModel" "roots" "[I" ∈ wsX1_init := by decide +kernel
theorem fl_X1_init_28 : Cond.fieldLink RX1 28 "LaneTrunksModel" "ways" "[I" ∈ wsX1_init := by decide +kernel
theorem fl_X1_init_31 : Cond.fieldLink RX1 31 "LaneTrunksModel" "sums" "[I" ∈ wsX1_init := by decide +kernel
theorem fl_X1_init_34 : Cond.fieldLink RX1 34 "LaneTrunksModel" "steps" "[I" ∈ wsX1_init := by decide +kernel
theorem fl_X1_init_37 : Cond.fieldLink RX1 37 "LaneTrunksModel" "queue" "[I" ∈ wsX1_init := by decide +kernel
theorem fl_X1_init_40 : Cond.fieldLink RX1 40 "LaneTrunksModel" "fewest" "[I" ∈ wsX1_init := by decide +kernel
theorem in_X1_thrown : ∀ w ∈ wsX10, w ∈ wsX1_thrown := fun _ h => List.mem_cons_of_mem _ (List.mem_append_right _ h)
theorem fl_X1_thrown_43 : Cond.fieldLink RX1 43 "LaneTrunksModel" "thrown" "I" ∈ wsX1_thrown := by decide +kernel
theorem in_X1_isTagged : ∀ w ∈ wsX10, w ∈ wsX1_isTagged := fun _ h => List.mem_cons_of_mem _ (List.mem_append_right _ h)
theorem fl_X1_isTagged_13 : Cond.fieldLink RX1 13 "LaneTrunksModel" "tagged" "[I" ∈ wsX1_isTagged := by decide +kernel
theorem in_X1_untag : ∀ w ∈ wsX10, w ∈ wsX1_untag := fun _ h => List.mem_cons_of_mem _ (List.mem_append_right _ h)
theorem fl_X1_untag_7 : Cond.fieldLink RX1 7 "LaneTrunksModel" "untagged" "[I" ∈ wsX1_untag := by decide +kernel
theorem fl_X1_untag_43 : Cond.fieldLink RX1 43 "LaneTrunksModel" "thrown" "I" ∈ wsX1_untag := by decide +kernel
theorem in_X1_tag : ∀ w ∈ wsX10, w ∈ wsX1_tag := fun _ h => List.mem_cons_of_mem _ (List.mem_append_right _ h)
theorem fl_X1_tag_7 : Cond.fieldLink RX1 7 "LaneTrunksModel" "untagged" "[I" ∈ wsX1_tag := by decide +kernel
theorem fl_X1_tag_13 : Cond.fieldLink RX1 13 "LaneTrunksModel" "tagged" "[I" ∈ wsX1_tag := by decide +kernel
theorem fl_X1_tag_43 : Cond.fieldLink RX1 43 "LaneTrunksModel" "thrown" "I" ∈ wsX1_tag := by decide +kernel
theorem in_X1_cable : ∀ w ∈ wsX10, w ∈ wsX1_cable := fun _ h => List.mem_cons_of_mem _ (List.mem_append_right _ h)
theorem fl_X1_cable_16 : Cond.fieldLink RX1 16 "LaneTrunksModel" "ends" "[I" ∈ wsX1_cable := by decide +kernel
theorem fl_X1_cable_19 : Cond.fieldLink RX1 19 "LaneTrunksModel" "costs" "[I" ∈ wsX1_cable := by decide +kernel
theorem fl_X1_cable_43 : Cond.fieldLink RX1 43 "LaneTrunksModel" "thrown" "I" ∈ wsX1_cable := by decide +kernel
theorem fl_X1_cable_61 : Cond.fieldLink RX1 61 "LaneTrunksModel" "cableMany" "I" ∈ wsX1_cable := by decide +kernel
theorem in_X1_hasCable : ∀ w ∈ wsX10, w ∈ wsX1_hasCable := fun _ h => List.mem_cons_of_mem _ (List.mem_append_right _ h)
theorem fl_X1_hasCable_16 : Cond.fieldLink RX1 16 "LaneTrunksModel" "ends" "[I" ∈ wsX1_hasCable := by decide +kernel
theorem fl_X1_hasCable_43 : Cond.fieldLink RX1 43 "LaneTrunksModel" "thrown" "I" ∈ wsX1_hasCable := by decide +kernel
theorem in_X1_pull : ∀ w ∈ wsX10, w ∈ wsX1_pull := fun _ h => List.mem_cons_of_mem _ (List.mem_append_right _ h)
theorem fl_X1_pull_16 : Cond.fieldLink RX1 16 "LaneTrunksModel" "ends" "[I" ∈ wsX1_pull := by decide +kernel
theorem fl_X1_pull_19 : Cond.fieldLink RX1 19 "LaneTrunksModel" "costs" "[I" ∈ wsX1_pull := by decide +kernel
theorem fl_X1_pull_61 : Cond.fieldLink RX1 61 "LaneTrunksModel" "cableMany" "I" ∈ wsX1_pull := by decide +kernel
theorem in_X1_tree : ∀ w ∈ wsX10, w ∈ wsX1_tree := fun _ h => List.mem_cons_of_mem _ (List.mem_append_right _ h)
theorem fl_X1_tree_43 : Cond.fieldLink RX1 43 "LaneTrunksModel" "thrown" "I" ∈ wsX1_tree := by decide +kernel
theorem fl_X1_tree_67 : Cond.fieldLink RX1 67 "LaneTrunksModel" "isTree" "Z" ∈ wsX1_tree := by decide +kernel
theorem in_X1_note : ∀ w ∈ wsX10, w ∈ wsX1_note := fun _ h => List.mem_cons_of_mem _ (List.mem_append_right _ h)
theorem fl_X1_note_22 : Cond.fieldLink RX1 22 "LaneTrunksModel" "books" "[I" ∈ wsX1_note := by decide +kernel
theorem fl_X1_note_43 : Cond.fieldLink RX1 43 "LaneTrunksModel" "thrown" "I" ∈ wsX1_note := by decide +kernel
theorem in_X1_layTree : ∀ w ∈ wsX10, w ∈ wsX1_layTree := fun _ h => List.mem_cons_of_mem _ (List.mem_append_right _ h)
theorem fl_X1_layTree_16 : Cond.fieldLink RX1 16 "LaneTrunksModel" "ends" "[I" ∈ wsX1_layTree := by decide +kernel
theorem fl_X1_layTree_19 : Cond.fieldLink RX1 19 "LaneTrunksModel" "costs" "[I" ∈ wsX1_layTree := by decide +kernel
theorem fl_X1_layTree_25 : Cond.fieldLink RX1 25 "LaneTrunksModel" "roots" "[I" ∈ wsX1_layTree := by decide +kernel
theorem fl_X1_layTree_28 : Cond.fieldLink RX1 28 "LaneTrunksModel" "ways" "[I" ∈ wsX1_layTree := by decide +kernel
theorem fl_X1_layTree_31 : Cond.fieldLink RX1 31 "LaneTrunksModel" "sums" "[I" ∈ wsX1_layTree := by decide +kernel
theorem in_X1_isLive : ∀ w ∈ wsX10, w ∈ wsX1_isLive := fun _ h => List.mem_cons_of_mem _ (List.mem_append_right _ h)
theorem fl_X1_isLive_16 : Cond.fieldLink RX1 16 "LaneTrunksModel" "ends" "[I" ∈ wsX1_isLive := by decide +kernel
theorem fl_X1_isLive_28 : Cond.fieldLink RX1 28 "LaneTrunksModel" "ways" "[I" ∈ wsX1_isLive := by decide +kernel
theorem fl_X1_isLive_67 : Cond.fieldLink RX1 67 "LaneTrunksModel" "isTree" "Z" ∈ wsX1_isLive := by decide +kernel
theorem in_X1_far : ∀ w ∈ wsX10, w ∈ wsX1_far := fun _ h => List.mem_cons_of_mem _ (List.mem_append_right _ h)
theorem fl_X1_far_16 : Cond.fieldLink RX1 16 "LaneTrunksModel" "ends" "[I" ∈ wsX1_far := by decide +kernel
theorem fl_X1_far_43 : Cond.fieldLink RX1 43 "LaneTrunksModel" "thrown" "I" ∈ wsX1_far := by decide +kernel
theorem in_X1_carried : ∀ w ∈ wsX10, w ∈ wsX1_carried := fun _ h => List.mem_cons_of_mem _ (List.mem_append_right _ h)
theorem fl_X1_carried_7 : Cond.fieldLink RX1 7 "LaneTrunksModel" "untagged" "[I" ∈ wsX1_carried := by decide +kernel
theorem fl_X1_carried_16 : Cond.fieldLink RX1 16 "LaneTrunksModel" "ends" "[I" ∈ wsX1_carried := by decide +kernel
theorem in_X1_comesAs : ∀ w ∈ wsX10, w ∈ wsX1_comesAs := fun _ h => List.mem_cons_of_mem _ (List.mem_append_right _ h)
theorem fl_X1_comesAs_43 : Cond.fieldLink RX1 43 "LaneTrunksModel" "thrown" "I" ∈ wsX1_comesAs := by decide +kernel
theorem in_X1_oneSided : ∀ w ∈ wsX10, w ∈ wsX1_oneSided := fun _ h => List.mem_cons_of_mem _ (List.mem_append_right _ h)
theorem fl_X1_oneSided_13 : Cond.fieldLink RX1 13 "LaneTrunksModel" "tagged" "[I" ∈ wsX1_oneSided := by decide +kernel
theorem fl_X1_oneSided_16 : Cond.fieldLink RX1 16 "LaneTrunksModel" "ends" "[I" ∈ wsX1_oneSided := by decide +kernel
theorem in_X1_wrong : ∀ w ∈ wsX10, w ∈ wsX1_wrong := fun _ h => List.mem_cons_of_mem _ (List.mem_append_right _ h)
theorem fl_X1_wrong_16 : Cond.fieldLink RX1 16 "LaneTrunksModel" "ends" "[I" ∈ wsX1_wrong := by decide +kernel
theorem fl_X1_wrong_22 : Cond.fieldLink RX1 22 "LaneTrunksModel" "books" "[I" ∈ wsX1_wrong := by decide +kernel
theorem fl_X1_wrong_43 : Cond.fieldLink RX1 43 "LaneTrunksModel" "thrown" "I" ∈ wsX1_wrong := by decide +kernel
theorem in_X1_asksFor : ∀ w ∈ wsX10, w ∈ wsX1_asksFor := fun _ h => List.mem_cons_of_mem _ (List.mem_append_right _ h)
theorem fl_X1_asksFor_43 : Cond.fieldLink RX1 43 "LaneTrunksModel" "thrown" "I" ∈ wsX1_asksFor := by decide +kernel
theorem in_X1_root : ∀ w ∈ wsX10, w ∈ wsX1_root := fun _ h => List.mem_cons_of_mem _ (List.mem_append_right _ h)
theorem fl_X1_root_25 : Cond.fieldLink RX1 25 "LaneTrunksModel" "roots" "[I" ∈ wsX1_root := by decide +kernel
theorem in_X1_costOf : ∀ w ∈ wsX10, w ∈ wsX1_costOf := fun _ h => List.mem_cons_of_mem _ (List.mem_append_right _ h)
theorem fl_X1_costOf_31 : Cond.fieldLink RX1 31 "LaneTrunksModel" "sums" "[I" ∈ wsX1_costOf := by decide +kernel
theorem in_X1_wayUp : ∀ w ∈ wsX10, w ∈ wsX1_wayUp := fun _ h => List.mem_cons_of_mem _ (List.mem_append_right _ h)
theorem fl_X1_wayUp_28 : Cond.fieldLink RX1 28 "LaneTrunksModel" "ways" "[I" ∈ wsX1_wayUp := by decide +kernel
theorem in_X1_spread : ∀ w ∈ wsX10, w ∈ wsX1_spread := fun _ h => List.mem_cons_of_mem _ (List.mem_append_right _ h)
theorem fl_X1_spread_16 : Cond.fieldLink RX1 16 "LaneTrunksModel" "ends" "[I" ∈ wsX1_spread := by decide +kernel
theorem fl_X1_spread_34 : Cond.fieldLink RX1 34 "LaneTrunksModel" "steps" "[I" ∈ wsX1_spread := by decide +kernel
theorem fl_X1_spread_37 : Cond.fieldLink RX1 37 "LaneTrunksModel" "queue" "[I" ∈ wsX1_spread := by decide +kernel
theorem fl_X1_spread_90 : Cond.fieldLink RX1 90 "LaneTrunksModel" "queued" "I" ∈ wsX1_spread := by decide +kernel
theorem in_X1_hops : ∀ w ∈ wsX10, w ∈ wsX1_hops := fun _ h => List.mem_cons_of_mem _ (List.mem_append_right _ h)
theorem fl_X1_hops_34 : Cond.fieldLink RX1 34 "LaneTrunksModel" "steps" "[I" ∈ wsX1_hops := by decide +kernel
theorem fl_X1_hops_43 : Cond.fieldLink RX1 43 "LaneTrunksModel" "thrown" "I" ∈ wsX1_hops := by decide +kernel
theorem in_X1_meet : ∀ w ∈ wsX10, w ∈ wsX1_meet := fun _ h => List.mem_cons_of_mem _ (List.mem_append_right _ h)
theorem fl_X1_meet_7 : Cond.fieldLink RX1 7 "LaneTrunksModel" "untagged" "[I" ∈ wsX1_meet := by decide +kernel
theorem fl_X1_meet_34 : Cond.fieldLink RX1 34 "LaneTrunksModel" "steps" "[I" ∈ wsX1_meet := by decide +kernel
theorem fl_X1_meet_43 : Cond.fieldLink RX1 43 "LaneTrunksModel" "thrown" "I" ∈ wsX1_meet := by decide +kernel
theorem in_X1_joined : ∀ w ∈ wsX10, w ∈ wsX1_joined := fun _ h => List.mem_cons_of_mem _ (List.mem_append_right _ h)
theorem fl_X1_joined_43 : Cond.fieldLink RX1 43 "LaneTrunksModel" "thrown" "I" ∈ wsX1_joined := by decide +kernel
theorem fl_X1_joined_90 : Cond.fieldLink RX1 90 "LaneTrunksModel" "queued" "I" ∈ wsX1_joined := by decide +kernel
theorem in_X1_isUsed : ∀ w ∈ wsX10, w ∈ wsX1_isUsed := fun _ h => List.mem_cons_of_mem _ (List.mem_append_right _ h)
theorem fl_X1_isUsed_7 : Cond.fieldLink RX1 7 "LaneTrunksModel" "untagged" "[I" ∈ wsX1_isUsed := by decide +kernel
theorem in_X1_islandMany : ∀ w ∈ wsX10, w ∈ wsX1_islandMany := fun _ h => List.mem_cons_of_mem _ (List.mem_append_right _ h)
theorem fl_X1_islandMany_34 : Cond.fieldLink RX1 34 "LaneTrunksModel" "steps" "[I" ∈ wsX1_islandMany := by decide +kernel
theorem in_X1_islands : ∀ w ∈ wsX10, w ∈ wsX1_islands := fun _ h => List.mem_cons_of_mem _ (List.mem_append_right _ h)
theorem fl_X1_islands_43 : Cond.fieldLink RX1 43 "LaneTrunksModel" "thrown" "I" ∈ wsX1_islands := by decide +kernel
theorem in_X1_loops : ∀ w ∈ wsX10, w ∈ wsX1_loops := fun _ h => List.mem_cons_of_mem _ (List.mem_append_right _ h)
theorem fl_X1_loops_16 : Cond.fieldLink RX1 16 "LaneTrunksModel" "ends" "[I" ∈ wsX1_loops := by decide +kernel
theorem fl_X1_loops_43 : Cond.fieldLink RX1 43 "LaneTrunksModel" "thrown" "I" ∈ wsX1_loops := by decide +kernel
theorem in_X1_changesAt : ∀ w ∈ wsX10, w ∈ wsX1_changesAt := fun _ h => List.mem_cons_of_mem _ (List.mem_append_right _ h)
theorem fl_X1_changesAt_7 : Cond.fieldLink RX1 7 "LaneTrunksModel" "untagged" "[I" ∈ wsX1_changesAt := by decide +kernel
theorem fl_X1_changesAt_16 : Cond.fieldLink RX1 16 "LaneTrunksModel" "ends" "[I" ∈ wsX1_changesAt := by decide +kernel
theorem in_X1_changes : ∀ w ∈ wsX10, w ∈ wsX1_changes := fun _ h => List.mem_cons_of_mem _ (List.mem_append_right _ h)
theorem fl_X1_changes_7 : Cond.fieldLink RX1 7 "LaneTrunksModel" "untagged" "[I" ∈ wsX1_changes := by decide +kernel
theorem fl_X1_changes_16 : Cond.fieldLink RX1 16 "LaneTrunksModel" "ends" "[I" ∈ wsX1_changes := by decide +kernel
theorem fl_X1_changes_40 : Cond.fieldLink RX1 40 "LaneTrunksModel" "fewest" "[I" ∈ wsX1_changes := by decide +kernel
theorem fl_X1_changes_43 : Cond.fieldLink RX1 43 "LaneTrunksModel" "thrown" "I" ∈ wsX1_changes := by decide +kernel
end
section
/-! THE WALK'S JUDGEMENT: heap, locations and the locals' array are hidden; a world, the listed locals, a place in the code, a stack -/
section VK
variable {p : Program} {l : Launch} {e : Env} {R : Room} {s : State} {m : MethodId} {args : Array Value} {below : List Frame} {meth : Method} {c : Code} {D : va_G} {A : Nat → Prop} {nL k n : Nat} {Q : State → Prop}
variable {cc : ByteArray} {Ts : List Cond} {own : String} {ws ws' : va_W} {lv lv' : List (Nat × Value)} {pc : Nat} {st : List Value} {tys : List (ClassId × FieldType)}
def V (p : Program) (l : Launch) (e : Env) (R : Room) (s : State) (m : MethodId) (args : Array Value) (below : List Frame) (meth : Method) (c : Code) (D : va_G) (A : Nat → Prop) (nL k n : Nat) (Q : State → Prop) (ws : va_W) (lv : List (Nat × Value)) (pc : Nat) (st : List Value) : Prop :=
  ∀ (H : Heap) (locs : List Loc) (ls : Array Slot), va_P D vwCl ws H → va_D A ws → va_S A s.heap H locs → lv_has ls nL lv → W p l e R s m args below meth c H locs k n Q (F0 m pc ls st)
theorem v_sub (is : List Nat) (h : lv_pick lv is = lv') (kk : V p l e R s m args below meth c D A nL k n Q ws lv' pc st) : V p l e R s m args below meth c D A nL k n Q ws lv pc st := fun H locs ls hP hD hS hl => kk H locs ls hP hD hS (lv_sub hl is h)
theorem v_widen {k2 n2 : Nat} (h1 : k ≤ k2) (h2 : n ≤ n2) (kk : V p l e R s m args below meth c D A nL k2 n2 Q ws lv pc st) : V p l e R s m args below meth c D A nL k n Q ws lv pc st := fun H locs ls hP hD hS hl => W.widen h1 h2 (kk H locs ls hP hD hS hl)
theorem v_world (h : ws = ws') (kk : V p l e R s m args below meth c D A nL k n Q ws' lv pc st) : V p l e R s m args below meth c D A nL k n Q ws lv pc st := h ▸ kk
theorem v_eqi {x y : Int32} (h : x = y) (kk : V p l e R s m args below meth c D A nL k n Q ws lv pc (.int y :: st)) : V p l e R s m args below meth c D A nL k n Q ws lv pc (.int x :: st) := h ▸ kk

theorem v_iconst (C0 : CallFix p m c cc nL s args Ts own) {pc' : Nat} {j : Int} (v : Int32) (hv : Int32.ofInt j = v) (hdg : decode cc pc = .ok (.iconst j, 1)) (hn : pc + 1 = pc') (kk : V p l e R s m args below meth c D A nL k n Q ws lv pc' (.int v :: st)) : V p l e R s m args below meth c D A nL k n Q ws lv pc st := fun H locs ls hP hD hS hl => lv_iconst C0.1 C0.2.1 hdg hv (hn ▸ kk H locs ls hP hD hS hl)
theorem v_bipush (C0 : CallFix p m c cc nL s args Ts own) {pc' : Nat} {j : Int} (v : Int32) (hv : (Int8.ofInt j).toInt32 = v) (hdg : decode cc pc = .ok (.bipush j, 2)) (hn : pc + 2 = pc') (kk : V p l e R s m args below meth c D A nL k n Q ws lv pc' (.int v :: st)) : V p l e R s m args below meth c D A nL k n Q ws lv pc st := fun H locs ls hP hD hS hl => lv_bipush C0.1 C0.2.1 hdg hv (hn ▸ kk H locs ls hP hD hS hl)
theorem v_sipush (C0 : CallFix p m c cc nL s args Ts own) {pc' : Nat} {j : Int} (v : Int32) (hv : (Int16.ofInt j).toInt32 = v) (hdg : decode cc pc = .ok (.sipush j, 3)) (hn : pc + 3 = pc') (kk : V p l e R s m args below meth c D A nL k n Q ws lv pc' (.int v :: st)) : V p l e R s m args below meth c D A nL k n Q ws lv pc st := fun H locs ls hP hD hS hl => lv_sipush C0.1 C0.2.1 hdg hv (hn ▸ kk H locs ls hP hD hS hl)
theorem v_lconst (C0 : CallFix p m c cc nL s args Ts own) {pc' : Nat} {j : Fin 2} (v : Int64) (hv : Int64.ofNat (j : Nat) = v) (hdg : decode cc pc = .ok (.lconst j, 1)) (hn : pc + 1 = pc') (kk : V p l e R s m args below meth c D A nL k n Q ws lv pc' (.long v :: st)) : V p l e R s m args below meth c D A nL k n Q ws lv pc st := fun H locs ls hP hD hS hl => lv_lconst C0.1 C0.2.1 hdg hv (hn ▸ kk H locs ls hP hD hS hl)
theorem v_iload_n (C0 : CallFix p m c cc nL s args Ts own) {pc' : Nat} {j : Fin 4} {i : Nat} {x : Int32} (q : Nat) (hk : lv[q]? = some (i, .int x)) (hi : (j : Nat) = i) (hdg : decode cc pc = .ok (.iload_n j, 1)) (hn : pc + 1 = pc') (kk : V p l e R s m args below meth c D A nL k n Q ws lv pc' (.int x :: st)) : V p l e R s m args below meth c D A nL k n Q ws lv pc st := fun H locs ls hP hD hS hl => lv_iload_n C0.1 C0.2.1 hdg hi (lv_at hl q hk) (hn ▸ kk H locs ls hP hD hS hl)
theorem v_iload (C0 : CallFix p m c cc nL s args Ts own) {pc' : Nat} {i : Nat} {x : Int32} (q : Nat) (hk : lv[q]? = some (i, .int x)) (hdg : decode cc pc = .ok (.iload i, 2)) (hn : pc + 2 = pc') (kk : V p l e R s m args below meth c D A nL k n Q ws lv pc' (.int x :: st)) : V p l e R s m args below meth c D A nL k n Q ws lv pc st := fun H locs ls hP hD hS hl => lv_iload C0.1 C0.2.1 hdg (lv_at hl q hk) (hn ▸ kk H locs ls hP hD hS hl)
theorem v_aload_n (C0 : CallFix p m c cc nL s args Ts own) {pc' : Nat} {j : Fin 4} {i : Nat} {x : Nat} (q : Nat) (hk : lv[q]? = some (i, .ref x)) (hi : (j : Nat) = i) (hdg : decode cc pc = .ok (.aload_n j, 1)) (hn : pc + 1 = pc') (kk : V p l e R s m args below meth c D A nL k n Q ws lv pc' (.ref x :: st)) : V p l e R s m args below meth c D A nL k n Q ws lv pc st := fun H locs ls hP hD hS hl => lv_aload_n C0.1 C0.2.1 hdg hi (lv_at hl q hk) (hn ▸ kk H locs ls hP hD hS hl)
theorem v_aload (C0 : CallFix p m c cc nL s args Ts own) {pc' : Nat} {i : Nat} {x : Nat} (q : Nat) (hk : lv[q]? = some (i, .ref x)) (hdg : decode cc pc = .ok (.aload i, 2)) (hn : pc + 2 = pc') (kk : V p l e R s m args below meth c D A nL k n Q ws lv pc' (.ref x :: st)) : V p l e R s m args below meth c D A nL k n Q ws lv pc st := fun H locs ls hP hD hS hl => lv_aload C0.1 C0.2.1 hdg (lv_at hl q hk) (hn ▸ kk H locs ls hP hD hS hl)
theorem v_istore_n (C0 : CallFix p m c cc nL s args Ts own) {j : Fin 4} {i : Nat} {x : Int32} {pc' : Nat} (hi : (j : Nat) = i) (hn1 : i < nL) (hv : (i, Value.int x) :: lv.filter (fun q => !(q.1 == i) && !(q.1 + 1 == i && q.2.category == 2)) = lv') (hdg : decode cc pc = .ok (.istore_n j, 1)) (hn : pc + 1 = pc') (kk : V p l e R s m args below meth c D A nL k n Q ws lv' pc' st) : V p l e R s m args below meth c D A nL k n Q ws lv pc (Value.int x :: st) := fun H locs ls hP hD hS hl => lv_istore_n C0.1 C0.2.1 hdg hi hl hn1 hv (fun ls2 hl2 => hn ▸ kk H locs ls2 hP hD hS hl2)
theorem v_istore (C0 : CallFix p m c cc nL s args Ts own) {i : Nat} {x : Int32} {pc' : Nat} (hn1 : i < nL) (hv : (i, Value.int x) :: lv.filter (fun q => !(q.1 == i) && !(q.1 + 1 == i && q.2.category == 2)) = lv') (hdg : decode cc pc = .ok (.istore i, 2)) (hn : pc + 2 = pc') (kk : V p l e R s m args below meth c D A nL k n Q ws lv' pc' st) : V p l e R s m args below meth c D A nL k n Q ws lv pc (Value.int x :: st) := fun H locs ls hP hD hS hl => lv_istore C0.1 C0.2.1 hdg hl hn1 hv (fun ls2 hl2 => hn ▸ kk H locs ls2 hP hD hS hl2)
theorem v_astore_n (C0 : CallFix p m c cc nL s args Ts own) {j : Fin 4} {i : Nat} {x : Nat} {pc' : Nat} (hi : (j : Nat) = i) (hn1 : i < nL) (hv : (i, Value.ref x) :: lv.filter (fun q => !(q.1 == i) && !(q.1 + 1 == i && q.2.category == 2)) = lv') (hdg : decode cc pc = .ok (.astore_n j, 1)) (hn : pc + 1 = pc') (kk : V p l e R s m args below meth c D A nL k n Q ws lv' pc' st) : V p l e R s m args below meth c D A nL k n Q ws lv pc (Value.ref x :: st) := fun H locs ls hP hD hS hl => lv_astore_n C0.1 C0.2.1 hdg hi hl hn1 hv (fun ls2 hl2 => hn ▸ kk H locs ls2 hP hD hS hl2)
theorem v_astore (C0 : CallFix p m c cc nL s args Ts own) {i : Nat} {x : Nat} {pc' : Nat} (hn1 : i < nL) (hv : (i, Value.ref x) :: lv.filter (fun q => !(q.1 == i) && !(q.1 + 1 == i && q.2.category == 2)) = lv') (hdg : decode cc pc = .ok (.astore i, 2)) (hn : pc + 2 = pc') (kk : V p l e R s m args below meth c D A nL k n Q ws lv' pc' st) : V p l e R s m args below meth c D A nL k n Q ws lv pc (Value.ref x :: st) := fun H locs ls hP hD hS hl => lv_astore C0.1 C0.2.1 hdg hl hn1 hv (fun ls2 hl2 => hn ▸ kk H locs ls2 hP hD hS hl2)
theorem v_iinc (C0 : CallFix p m c cc nL s args Ts own) {i : Nat} {j : Int} {x : Int32} {pc' : Nat} (q : Nat) (hk : lv[q]? = some (i, .int x)) (v : Int32) (hx : x + Int32.ofInt j = v) (hn1 : i < nL) (hv : (i, Value.int v) :: lv.filter (fun q => !(q.1 == i) && !(q.1 + 1 == i && q.2.category == 2)) = lv') (hdg : decode cc pc = .ok (.iinc i j, 3)) (hn : pc + 3 = pc') (kk : V p l e R s m args below meth c D A nL k n Q ws lv' pc' st) : V p l e R s m args below meth c D A nL k n Q ws lv pc st := fun H locs ls hP hD hS hl => lv_iinc C0.1 C0.2.1 hdg hl hk hx hn1 hv (fun ls2 hl2 => hn ▸ kk H locs ls2 hP hD hS hl2)
theorem v_iadd (C0 : CallFix p m c cc nL s args Ts own) {pc' : Nat} {x y : Int32} (hdg : decode cc pc = .ok (.iadd, 1)) (hn : pc + 1 = pc') (kk : V p l e R s m args below meth c D A nL k n Q ws lv pc' (.int (x + y) :: st)) : V p l e R s m args below meth c D A nL k n Q ws lv pc (.int y :: .int x :: st) := fun H locs ls hP hD hS hl => lv_iadd C0.1 C0.2.1 hdg (hn ▸ kk H locs ls hP hD hS hl)
theorem v_isub (C0 : CallFix p m c cc nL s args Ts own) {pc' : Nat} {x y : Int32} (hdg : decode cc pc = .ok (.isub, 1)) (hn : pc + 1 = pc') (kk : V p l e R s m args below meth c D A nL k n Q ws lv pc' (.int (x - y) :: st)) : V p l e R s m args below meth c D A nL k n Q ws lv pc (.int y :: .int x :: st) := fun H locs ls hP hD hS hl => lv_isub C0.1 C0.2.1 hdg (hn ▸ kk H locs ls hP hD hS hl)
theorem v_imul (C0 : CallFix p m c cc nL s args Ts own) {pc' : Nat} {x y : Int32} (hdg : decode cc pc = .ok (.imul, 1)) (hn : pc + 1 = pc') (kk : V p l e R s m args below meth c D A nL k n Q ws lv pc' (.int (x * y) :: st)) : V p l e R s m args below meth c D A nL k n Q ws lv pc (.int y :: .int x :: st) := fun H locs ls hP hD hS hl => lv_imul C0.1 C0.2.1 hdg (hn ▸ kk H locs ls hP hD hS hl)
theorem v_iand (C0 : CallFix p m c cc nL s args Ts own) {pc' : Nat} {x y : Int32} (hdg : decode cc pc = .ok (.iand, 1)) (hn : pc + 1 = pc') (kk : V p l e R s m args below meth c D A nL k n Q ws lv pc' (.int (x &&& y) :: st)) : V p l e R s m args below meth c D A nL k n Q ws lv pc (.int y :: .int x :: st) := fun H locs ls hP hD hS hl => lv_iand C0.1 C0.2.1 hdg (hn ▸ kk H locs ls hP hD hS hl)
theorem v_ior (C0 : CallFix p m c cc nL s args Ts own) {pc' : Nat} {x y : Int32} (hdg : decode cc pc = .ok (.ior, 1)) (hn : pc + 1 = pc') (kk : V p l e R s m args below meth c D A nL k n Q ws lv pc' (.int (x ||| y) :: st)) : V p l e R s m args below meth c D A nL k n Q ws lv pc (.int y :: .int x :: st) := fun H locs ls hP hD hS hl => lv_ior C0.1 C0.2.1 hdg (hn ▸ kk H locs ls hP hD hS hl)
theorem v_ixor (C0 : CallFix p m c cc nL s args Ts own) {pc' : Nat} {x y : Int32} (hdg : decode cc pc = .ok (.ixor, 1)) (hn : pc + 1 = pc') (kk : V p l e R s m args below meth c D A nL k n Q ws lv pc' (.int (x ^^^ y) :: st)) : V p l e R s m args below meth c D A nL k n Q ws lv pc (.int y :: .int x :: st) := fun H locs ls hP hD hS hl => lv_ixor C0.1 C0.2.1 hdg (hn ▸ kk H locs ls hP hD hS hl)
theorem v_ishl (C0 : CallFix p m c cc nL s args Ts own) {pc' : Nat} {x y : Int32} (hdg : decode cc pc = .ok (.ishl, 1)) (hn : pc + 1 = pc') (kk : V p l e R s m args below meth c D A nL k n Q ws lv pc' (.int (x <<< (y &&& 31)) :: st)) : V p l e R s m args below meth c D A nL k n Q ws lv pc (.int y :: .int x :: st) := fun H locs ls hP hD hS hl => lv_ishl C0.1 C0.2.1 hdg (hn ▸ kk H locs ls hP hD hS hl)
theorem v_ishr (C0 : CallFix p m c cc nL s args Ts own) {pc' : Nat} {x y : Int32} (hdg : decode cc pc = .ok (.ishr, 1)) (hn : pc + 1 = pc') (kk : V p l e R s m args below meth c D A nL k n Q ws lv pc' (.int (x >>> (y &&& 31)) :: st)) : V p l e R s m args below meth c D A nL k n Q ws lv pc (.int y :: .int x :: st) := fun H locs ls hP hD hS hl => lv_ishr C0.1 C0.2.1 hdg (hn ▸ kk H locs ls hP hD hS hl)
theorem v_idiv (C0 : CallFix p m c cc nL s args Ts own) {pc' : Nat} {x y : Int32} (hy : ¬ y = 0) (hdg : decode cc pc = .ok (.idiv, 1)) (hn : pc + 1 = pc') (kk : V p l e R s m args below meth c D A nL k n Q ws lv pc' (.int (x / y) :: st)) : V p l e R s m args below meth c D A nL k n Q ws lv pc (.int y :: .int x :: st) := fun H locs ls hP hD hS hl => lv_idiv C0.1 C0.2.1 hdg hy (hn ▸ kk H locs ls hP hD hS hl)
theorem v_irem (C0 : CallFix p m c cc nL s args Ts own) {pc' : Nat} {x y : Int32} (hy : ¬ y = 0) (hdg : decode cc pc = .ok (.irem, 1)) (hn : pc + 1 = pc') (kk : V p l e R s m args below meth c D A nL k n Q ws lv pc' (.int (x - x / y * y) :: st)) : V p l e R s m args below meth c D A nL k n Q ws lv pc (.int y :: .int x :: st) := fun H locs ls hP hD hS hl => lv_irem C0.1 C0.2.1 hdg hy (hn ▸ kk H locs ls hP hD hS hl)
theorem v_iushr (C0 : CallFix p m c cc nL s args Ts own) {pc' : Nat} {x y : Int32} (hdg : decode cc pc = .ok (.iushr, 1)) (hn : pc + 1 = pc') (kk : V p l e R s m args below meth c D A nL k n Q ws lv pc' (.int ((x.toUInt32 >>> (y.toUInt32 &&& Int32.toUInt32 31)).toInt32) :: st)) : V p l e R s m args below meth c D A nL k n Q ws lv pc (.int y :: .int x :: st) := fun H locs ls hP hD hS hl => lv_iushr C0.1 C0.2.1 hdg rfl (hn ▸ kk H locs ls hP hD hS hl)
theorem v_i2l (C0 : CallFix p m c cc nL s args Ts own) {pc' : Nat} {x : Int32} (hdg : decode cc pc = .ok (.i2l, 1)) (hn : pc + 1 = pc') (kk : V p l e R s m args below meth c D A nL k n Q ws lv pc' (.long (x.toInt64) :: st)) : V p l e R s m args below meth c D A nL k n Q ws lv pc (.int x :: st) := fun H locs ls hP hD hS hl => lv_i2l C0.1 C0.2.1 hdg rfl (hn ▸ kk H locs ls hP hD hS hl)
theorem v_dup (C0 : CallFix p m c cc nL s args Ts own) {pc' : Nat} {va : Value} (hva : va.category = 1) (hdg : decode cc pc = .ok (.dup, 1)) (hn : pc + 1 = pc') (kk : V p l e R s m args below meth c D A nL k n Q ws lv pc' (va :: va :: st)) : V p l e R s m args below meth c D A nL k n Q ws lv pc (va :: st) := fun H locs ls hP hD hS hl => lv_dup C0.1 C0.2.1 hdg hva (hn ▸ kk H locs ls hP hD hS hl)
theorem v_lcmp (C0 : CallFix p m c cc nL s args Ts own) {pc' : Nat} {x y : Int64} (hdg : decode cc pc = .ok (.lcmp, 1)) (hn : pc + 1 = pc') (kk : V p l e R s m args below meth c D A nL k n Q ws lv pc' (.int (lg_cmp x y) :: st)) : V p l e R s m args below meth c D A nL k n Q ws lv pc (.long y :: .long x :: st) := fun H locs ls hP hD hS hl => W.lcmp C0.1 C0.2.1 hdg (hn ▸ kk H locs ls hP hD hS hl)
theorem v_ldc (C0 : CallFix p m c cc nL s args Ts own) {pc' : Nat} {ix : Nat} (v : Int32) (hc : (Jvm.Cond.constant own ix v).before args s = true) (hdg : decode cc pc = .ok (.ldc ix, 2)) (hn : pc + 2 = pc') (kk : V p l e R s m args below meth c D A nL k n Q ws lv pc' (.int v :: st)) : V p l e R s m args below meth c D A nL k n Q ws lv pc st := fun H locs ls hP hD hS hl => lv_ldc C0.1 C0.2.1 C0.2.2.2.1 hc hdg (hn ▸ kk H locs ls hP hD hS hl)
theorem v_ldcw (C0 : CallFix p m c cc nL s args Ts own) {pc' : Nat} {ix : Nat} (v : Int32) (hc : (Jvm.Cond.constant own ix v).before args s = true) (hdg : decode cc pc = .ok (.ldc_w ix, 3)) (hn : pc + 3 = pc') (kk : V p l e R s m args below meth c D A nL k n Q ws lv pc' (.int v :: st)) : V p l e R s m args below meth c D A nL k n Q ws lv pc st := fun H locs ls hP hD hS hl => lv_ldcw C0.1 C0.2.1 C0.2.2.2.1 hc hdg (hn ▸ kk H locs ls hP hD hS hl)
theorem v_goto (C0 : CallFix p m c cc nL s args Ts own) {off : Int} (tgt : Nat) (hdg : decode cc pc = .ok (.goto off, 3)) (ht : (pc : Int) + off = (tgt : Int)) (kk : V p l e R s m args below meth c D A nL k n Q ws lv tgt st) : V p l e R s m args below meth c D A nL k n Q ws lv pc st := fun H locs ls hP hD hS hl => lv_goto C0.1 C0.2.1 hdg ht (kk H locs ls hP hD hS hl)
theorem v_if_eq (C0 : CallFix p m c cc nL s args Ts own) {x : Int32} {off : Int} (tgt : Nat) {pc' : Nat} (hdg : decode cc pc = .ok (.ifCond .eq off, 3)) (ht : (pc : Int) + off = (tgt : Int)) (hn : pc + 3 = pc') (kt : x = 0 → V p l e R s m args below meth c D A nL k n Q ws lv tgt st) (kf : ¬ x = 0 → V p l e R s m args below meth c D A nL k n Q ws lv pc' st) : V p l e R s m args below meth c D A nL k n Q ws lv pc (.int x :: st) := fun H locs ls hP hD hS hl => lv_if_eq C0.1 C0.2.1 hdg ht (fun h => kt h H locs ls hP hD hS hl) (fun h => hn ▸ kf h H locs ls hP hD hS hl)
theorem v_icmp_eq (C0 : CallFix p m c cc nL s args Ts own) {x y : Int32} {off : Int} (tgt : Nat) {pc' : Nat} (hdg : decode cc pc = .ok (.if_icmp .eq off, 3)) (ht : (pc : Int) + off = (tgt : Int)) (hn : pc + 3 = pc') (kt : x = y → V p l e R s m args below meth c D A nL k n Q ws lv tgt st) (kf : ¬ x = y → V p l e R s m args below meth c D A nL k n Q ws lv pc' st) : V p l e R s m args below meth c D A nL k n Q ws lv pc (.int y :: .int x :: st) := fun H locs ls hP hD hS hl => lv_icmp_eq C0.1 C0.2.1 hdg ht (fun h => kt h H locs ls hP hD hS hl) (fun h => hn ▸ kf h H locs ls hP hD hS hl)
theorem v_if_ne (C0 : CallFix p m c cc nL s args Ts own) {x : Int32} {off : Int} (tgt : Nat) {pc' : Nat} (hdg : decode cc pc = .ok (.ifCond .ne off, 3)) (ht : (pc : Int) + off = (tgt : Int)) (hn : pc + 3 = pc') (kt : ¬ x = 0 → V p l e R s m args below meth c D A nL k n Q ws lv tgt st) (kf : x = 0 → V p l e R s m args below meth c D A nL k n Q ws lv pc' st) : V p l e R s m args below meth c D A nL k n Q ws lv pc (.int x :: st) := fun H locs ls hP hD hS hl => lv_if_ne C0.1 C0.2.1 hdg ht (fun h => kt h H locs ls hP hD hS hl) (fun h => hn ▸ kf h H locs ls hP hD hS hl)
theorem v_icmp_ne (C0 : CallFix p m c cc nL s args Ts own) {x y : Int32} {off : Int} (tgt : Nat) {pc' : Nat} (hdg : decode cc pc = .ok (.if_icmp .ne off, 3)) (ht : (pc : Int) + off = (tgt : Int)) (hn : pc + 3 = pc') (kt : ¬ x = y → V p l e R s m args below meth c D A nL k n Q ws lv tgt st) (kf : x = y → V p l e R s m args below meth c D A nL k n Q ws lv pc' st) : V p l e R s m args below meth c D A nL k n Q ws lv pc (.int y :: .int x :: st) := fun H locs ls hP hD hS hl => lv_icmp_ne C0.1 C0.2.1 hdg ht (fun h => kt h H locs ls hP hD hS hl) (fun h => hn ▸ kf h H locs ls hP hD hS hl)
theorem v_if_lt (C0 : CallFix p m c cc nL s args Ts own) {x : Int32} {off : Int} (tgt : Nat) {pc' : Nat} (hdg : decode cc pc = .ok (.ifCond .lt off, 3)) (ht : (pc : Int) + off = (tgt : Int)) (hn : pc + 3 = pc') (kt : x < 0 → V p l e R s m args below meth c D A nL k n Q ws lv tgt st) (kf : ¬ x < 0 → V p l e R s m args below meth c D A nL k n Q ws lv pc' st) : V p l e R s m args below meth c D A nL k n Q ws lv pc (.int x :: st) := fun H locs ls hP hD hS hl => lv_if_lt C0.1 C0.2.1 hdg ht (fun h => kt h H locs ls hP hD hS hl) (fun h => hn ▸ kf h H locs ls hP hD hS hl)
theorem v_icmp_lt (C0 : CallFix p m c cc nL s args Ts own) {x y : Int32} {off : Int} (tgt : Nat) {pc' : Nat} (hdg : decode cc pc = .ok (.if_icmp .lt off, 3)) (ht : (pc : Int) + off = (tgt : Int)) (hn : pc + 3 = pc') (kt : x < y → V p l e R s m args below meth c D A nL k n Q ws lv tgt st) (kf : ¬ x < y → V p l e R s m args below meth c D A nL k n Q ws lv pc' st) : V p l e R s m args below meth c D A nL k n Q ws lv pc (.int y :: .int x :: st) := fun H locs ls hP hD hS hl => lv_icmp_lt C0.1 C0.2.1 hdg ht (fun h => kt h H locs ls hP hD hS hl) (fun h => hn ▸ kf h H locs ls hP hD hS hl)
theorem v_if_ge (C0 : CallFix p m c cc nL s args Ts own) {x : Int32} {off : Int} (tgt : Nat) {pc' : Nat} (hdg : decode cc pc = .ok (.ifCond .ge off, 3)) (ht : (pc : Int) + off = (tgt : Int)) (hn : pc + 3 = pc') (kt : 0 ≤ x → V p l e R s m args below meth c D A nL k n Q ws lv tgt st) (kf : ¬ 0 ≤ x → V p l e R s m args below meth c D A nL k n Q ws lv pc' st) : V p l e R s m args below meth c D A nL k n Q ws lv pc (.int x :: st) := fun H locs ls hP hD hS hl => lv_if_ge C0.1 C0.2.1 hdg ht (fun h => kt h H locs ls hP hD hS hl) (fun h => hn ▸ kf h H locs ls hP hD hS hl)
theorem v_icmp_ge (C0 : CallFix p m c cc nL s args Ts own) {x y : Int32} {off : Int} (tgt : Nat) {pc' : Nat} (hdg : decode cc pc = .ok (.if_icmp .ge off, 3)) (ht : (pc : Int) + off = (tgt : Int)) (hn : pc + 3 = pc') (kt : y ≤ x → V p l e R s m args below meth c D A nL k n Q ws lv tgt st) (kf : ¬ y ≤ x → V p l e R s m args below meth c D A nL k n Q ws lv pc' st) : V p l e R s m args below meth c D A nL k n Q ws lv pc (.int y :: .int x :: st) := fun H locs ls hP hD hS hl => lv_icmp_ge C0.1 C0.2.1 hdg ht (fun h => kt h H locs ls hP hD hS hl) (fun h => hn ▸ kf h H locs ls hP hD hS hl)
theorem v_if_gt (C0 : CallFix p m c cc nL s args Ts own) {x : Int32} {off : Int} (tgt : Nat) {pc' : Nat} (hdg : decode cc pc = .ok (.ifCond .gt off, 3)) (ht : (pc : Int) + off = (tgt : Int)) (hn : pc + 3 = pc') (kt : 0 < x → V p l e R s m args below meth c D A nL k n Q ws lv tgt st) (kf : ¬ 0 < x → V p l e R s m args below meth c D A nL k n Q ws lv pc' st) : V p l e R s m args below meth c D A nL k n Q ws lv pc (.int x :: st) := fun H locs ls hP hD hS hl => lv_if_gt C0.1 C0.2.1 hdg ht (fun h => kt h H locs ls hP hD hS hl) (fun h => hn ▸ kf h H locs ls hP hD hS hl)
theorem v_icmp_gt (C0 : CallFix p m c cc nL s args Ts own) {x y : Int32} {off : Int} (tgt : Nat) {pc' : Nat} (hdg : decode cc pc = .ok (.if_icmp .gt off, 3)) (ht : (pc : Int) + off = (tgt : Int)) (hn : pc + 3 = pc') (kt : y < x → V p l e R s m args below meth c D A nL k n Q ws lv tgt st) (kf : ¬ y < x → V p l e R s m args below meth c D A nL k n Q ws lv pc' st) : V p l e R s m args below meth c D A nL k n Q ws lv pc (.int y :: .int x :: st) := fun H locs ls hP hD hS hl => lv_icmp_gt C0.1 C0.2.1 hdg ht (fun h => kt h H locs ls hP hD hS hl) (fun h => hn ▸ kf h H locs ls hP hD hS hl)
theorem v_if_le (C0 : CallFix p m c cc nL s args Ts own) {x : Int32} {off : Int} (tgt : Nat) {pc' : Nat} (hdg : decode cc pc = .ok (.ifCond .le off, 3)) (ht : (pc : Int) + off = (tgt : Int)) (hn : pc + 3 = pc') (kt : x ≤ 0 → V p l e R s m args below meth c D A nL k n Q ws lv tgt st) (kf : ¬ x ≤ 0 → V p l e R s m args below meth c D A nL k n Q ws lv pc' st) : V p l e R s m args below meth c D A nL k n Q ws lv pc (.int x :: st) := fun H locs ls hP hD hS hl => lv_if_le C0.1 C0.2.1 hdg ht (fun h => kt h H locs ls hP hD hS hl) (fun h => hn ▸ kf h H locs ls hP hD hS hl)
theorem v_icmp_le (C0 : CallFix p m c cc nL s args Ts own) {x y : Int32} {off : Int} (tgt : Nat) {pc' : Nat} (hdg : decode cc pc = .ok (.if_icmp .le off, 3)) (ht : (pc : Int) + off = (tgt : Int)) (hn : pc + 3 = pc') (kt : x ≤ y → V p l e R s m args below meth c D A nL k n Q ws lv tgt st) (kf : ¬ x ≤ y → V p l e R s m args below meth c D A nL k n Q ws lv pc' st) : V p l e R s m args below meth c D A nL k n Q ws lv pc (.int y :: .int x :: st) := fun H locs ls hP hD hS hl => lv_icmp_le C0.1 C0.2.1 hdg ht (fun h => kt h H locs ls hP hD hS hl) (fun h => hn ▸ kf h H locs ls hP hD hS hl)
theorem v_get (C0 : CallFix p m c cc nL s args Ts own) (hK : va_K D vwCl tys s) {ref C : String} {T : u_T} {N ci index a : Nat} {fs : List Value} {v : Value} {pc' : Nat} (q0 f : Nat) (he : ws[q0]? = some (a, .inr (ci, fs))) (hv : fs[f]? = some v) (hc : vwCl[ci]? = some (C, T, N)) (hf : f < N) (hin : ∀ w ∈ u_ws C T N, w ∈ Ts) (hlink : Cond.fieldLink own index ref (T f).2.1 (T f).2.2.1 ∈ Ts) (hsame : (T f).1 = ref) (hdg : decode cc pc = .ok (.getfield index, 3)) (hn : pc + 3 = pc') (kk : V p l e R s m args below meth c D A nL k n Q ws lv pc' (v :: st)) : V p l e R s m args below meth c D A nL k n Q ws lv pc (.ref a :: st) := fun H locs ls hP hD hS hl => va_get C0.1 C0.2.1 C0.2.2.2.2 hin C0.2.2.2.1 hK hP q0 he hc f hf (C0.2.2.2.2 _ hlink) (fun x h => hsame ▸ h) hv hdg (hn ▸ kk H locs ls hP hD hS hl)
theorem v_put (C0 : CallFix p m c cc nL s args Ts own) (hK : va_K D vwCl tys s) {ref C : String} {T : u_T} {N ci index a : Nat} {fs : List Value} {v : Value} {pc' : Nat} {ty : FieldType} (q0 f : Nat) (ty0 : Nat → FieldType) (he : ws[q0]? = some (a, .inr (ci, fs))) (hw : ws.set q0 (a, .inr (ci, fs.set f v)) = ws') (hc : vwCl[ci]? = some (C, T, N)) (hf : f < N) (hl0 : f < fs.length) (hty : ∀ k, k < N → parseFieldDescriptor (T k).2.2.1 = some (ty0 k)) (hnm : ∀ a, a < N → ∀ b, b < N → a ≠ b → (T a).2.1 ≠ (T b).2.1) (hin : ∀ w ∈ u_ws C T N, w ∈ Ts) (hlink : Cond.fieldLink own index ref (T f).2.1 (T f).2.2.1 ∈ Ts) (hsame : (T f).1 = ref) (hfin : (T f).2.2.2 = false) (hd : ty0 f = ty) (hnr : narrow ty v = v) (hft : fits ty v = true) (hdg : decode cc pc = .ok (.putfield index, 3)) (hn : pc + 3 = pc') (kk : V p l e R s m args below meth c D A nL k n Q ws' lv pc' st) : V p l e R s m args below meth c D A nL k n Q ws lv pc (v :: .ref a :: st) := fun H locs ls hP hD hS hl => va_put C0.1 C0.2.1 C0.2.2.2.2 hin ty0 hty hnm C0.2.2.2.1 hK hP hD hS q0 he hc f hf (C0.2.2.2.2 _ hlink) (fun x h => hsame ▸ h) hfin (hd ▸ hty f hf) hnr hft hl0 hdg (fun H1 locs1 hP1 hD1 hS1 => hn ▸ kk H1 locs1 ls (hw ▸ hP1) (hw ▸ hD1) hS1 hl)
theorem v_iald (C0 : CallFix p m c cc nL s args Ts own) (hK : va_K D vwCl tys s) {a : Nat} {cA : ClassId} {z : Nat} {g : Nat → Int32} {i : Int32} {pc' : Nat} (q0 t0 : Nat) (ha : ws[q0]? = some (a, .inl (cA, z, .inl g))) (ht : tys[t0]? = some (cA, .int)) (hin : vp_in i z) (hdg : decode cc pc = .ok (.iaload, 1)) (hn : pc + 1 = pc') (kk : V p l e R s m args below meth c D A nL k n Q ws lv pc' (.int (g i.toNatClampNeg) :: st)) : V p l e R s m args below meth c D A nL k n Q ws lv pc (.int i :: .ref a :: st) := fun H locs ls hP hD hS hl => va_iald C0.1 C0.2.1 hK hP q0 t0 ha ht hin hdg (hn ▸ kk H locs ls hP hD hS hl)
theorem v_iast (C0 : CallFix p m c cc nL s args Ts own) (hK : va_K D vwCl tys s) {a : Nat} {cA : ClassId} {z : Nat} {g : Nat → Int32} {i x : Int32} {pc' : Nat} (q0 t0 : Nat) (ha : ws[q0]? = some (a, .inl (cA, z, .inl g))) (hw : ws.set q0 (a, .inl (cA, z, .inl (upd g i.toNatClampNeg x))) = ws') (ht : tys[t0]? = some (cA, .int)) (hin : vp_in i z) (hdg : decode cc pc = .ok (.iastore, 1)) (hn : pc + 1 = pc') (kk : V p l e R s m args below meth c D A nL k n Q ws' lv pc' st) : V p l e R s m args below meth c D A nL k n Q ws lv pc (.int x :: .int i :: .ref a :: st) := fun H locs ls hP hD hS hl => va_iast C0.1 C0.2.1 hK hP hD hS q0 t0 ha ht hin hdg (fun H1 locs1 hP1 hD1 hS1 => hn ▸ kk H1 locs1 ls (hw ▸ hP1) (hw ▸ hD1) hS1 hl)
theorem v_lald (C0 : CallFix p m c cc nL s args Ts own) (hK : va_K D vwCl tys s) {a : Nat} {cA : ClassId} {z : Nat} {g : Nat → Int64} {i : Int32} {pc' : Nat} (q0 t0 : Nat) (ha : ws[q0]? = some (a, .inl (cA, z, .inr (.inl g)))) (ht : tys[t0]? = some (cA, .long)) (hin : vp_in i z) (hdg : decode cc pc = .ok (.laload, 1)) (hn : pc + 1 = pc') (kk : V p l e R s m args below meth c D A nL k n Q ws lv pc' (.long (g i.toNatClampNeg) :: st)) : V p l e R s m args below meth c D A nL k n Q ws lv pc (.int i :: .ref a :: st) := fun H locs ls hP hD hS hl => va_lald C0.1 C0.2.1 hK hP q0 t0 ha ht hin hdg (hn ▸ kk H locs ls hP hD hS hl)
theorem v_last (C0 : CallFix p m c cc nL s args Ts own) (hK : va_K D vwCl tys s) {a : Nat} {cA : ClassId} {z : Nat} {g : Nat → Int64} {i : Int32} {x : Int64} {pc' : Nat} (q0 t0 : Nat) (ha : ws[q0]? = some (a, .inl (cA, z, .inr (.inl g)))) (hw : ws.set q0 (a, .inl (cA, z, .inr (.inl (vp_updL g i.toNatClampNeg x)))) = ws') (ht : tys[t0]? = some (cA, .long)) (hin : vp_in i z) (hdg : decode cc pc = .ok (.lastore, 1)) (hn : pc + 1 = pc') (kk : V p l e R s m args below meth c D A nL k n Q ws' lv pc' st) : V p l e R s m args below meth c D A nL k n Q ws lv pc (.long x :: .int i :: .ref a :: st) := fun H locs ls hP hD hS hl => va_last C0.1 C0.2.1 hK hP hD hS q0 t0 ha ht hin hdg (fun H1 locs1 hP1 hD1 hS1 => hn ▸ kk H1 locs1 ls (hw ▸ hP1) (hw ▸ hD1) hS1 hl)
theorem v_alen (C0 : CallFix p m c cc nL s args Ts own) (hK : va_K D vwCl tys s) {a : Nat} {cA : ClassId} {x : vp_A} {ty : FieldType} {pc' : Nat} (q0 t0 : Nat) (ha : ws[q0]? = some (a, .inl (cA, x))) (ht : tys[t0]? = some (cA, ty)) (hdg : decode cc pc = .ok (.arraylength, 1)) (hn : pc + 1 = pc') (kk : V p l e R s m args below meth c D A nL k n Q ws lv pc' (.int (Int32.ofNat x.1) :: st)) : V p l e R s m args below meth c D A nL k n Q ws lv pc (.ref a :: st) := fun H locs ls hP hD hS hl => va_alen C0.1 C0.2.1 hK hP q0 t0 ha ht rfl hdg (hn ▸ kk H locs ls hP hD hS hl)

/-- a contract's start: the heap's size, the world, the classes, the cells apart -/
def CP (D : va_G) (tys : List (ClassId × FieldType)) (W0 : va_W) (sz : Nat) (U : State) : Prop := U.heap.size = sz ∧ va_P D vwCl W0 U.heap ∧ va_K D vwCl tys U ∧ va_D (fun _ => True) W0
/-- its end -/
def CQ (D : va_G) (tys : List (ClassId × FieldType)) (W1 : va_W) (A : Nat → Prop) (t : State) : Prop := va_P D vwCl W1 t.heap ∧ va_K D vwCl tys t ∧ va_D A W1
def QI (D : va_G) (tys : List (ClassId × FieldType)) (W1 : va_W) (A : Nat → Prop) (r : Int32) : Array Value → State → Outcome → State → Prop := va_Qi (fun x (_ : Unit) => x = r) (fun _ t => CQ D tys W1 A t) A
def QV (D : va_G) (tys : List (ClassId × FieldType)) (W1 : va_W) (A : Nat → Prop) : Array Value → State → Outcome → State → Prop := va_Qv (fun (_ : Unit) => True) (fun _ t => CQ D tys W1 A t) A
def Ki (l : Launch) (y : MethodName) (wy : List Cond) (fr lo mc ms : Nat) (D : va_G) (tys : List (ClassId × FieldType)) (av : List Value) (W0 W1 : va_W) (r : Int32) : Prop := ∀ sz, Met l y wy { frames := fr, cells := mc, slots := ms, locals := lo } (va_Pc av (CP D tys W0 sz)) (QI D tys W1 (va_A W0 sz) r) mc ms (va_A W0 sz)
def Kv (l : Launch) (y : MethodName) (wy : List Cond) (fr lo mc ms : Nat) (D : va_G) (tys : List (ClassId × FieldType)) (av : List Value) (W0 W1 : va_W) : Prop := ∀ sz, Met l y wy { frames := fr, cells := mc, slots := ms, locals := lo } (va_Pc av (CP D tys W0 sz)) (QV D tys W1 (va_A W0 sz)) mc ms (va_A W0 sz)
theorem CP.blind {D : va_G} {tys : List (ClassId × FieldType)} {W0 : va_W} {sz : Nat} {av : List Value} : FrameBlind (va_Pc av (CP D tys W0 sz)) := fun a U g mk h => ⟨h.1, h.2.1, h.2.2.1, va_K.moved (u := U) (U := U.calling g mk a) (Vm.Alike.refl U.vm) h.2.2.2.1, h.2.2.2.2⟩
/-- from a body's walk to its contract -/
theorem Ki.of {y : MethodName} {wy ws' : List Cond} {fr lo mc ms maxL : Nat} {rt : FieldType} {av : List Value} {W0 W1 : va_W} {r : Int32} {lv0 : List (Nat × Value)} (hy : plainName y.cls = true) (hw : wy = Cond.code y cc maxL (some rt) :: ws') (hlen : (lg_sl av).length ≤ maxL) (hlv : lv_args 0 av = lv0)
    (body : ∀ (p : Program) (e : Env) (s : State) (m : MethodId) (args : Array Value) (below : List Frame) (meth : Method) (c : Code) (A : Nat → Prop), CallFix p m c cc maxL s args wy y.cls → meth.sig.returnType = some rt → meth.locks = false → va_K D vwCl tys s → (∀ q, s.heap.size ≤ q → A q) → V p l e { frames := fr, cells := mc, slots := ms, locals := lo } s m args below meth c D A maxL 0 0 (MQ below (QI D tys W1 A r) args s mc ms A) W0 lv0 0 []) : Ki l y wy fr lo mc ms D tys av W0 W1 r := by
  intro sz
  refine Met.ofW (cc := cc) (maxL := maxL) (ret := some rt) hy hw ?_
  intro p e s m args below meth c s₁ B hml hv
  obtain ⟨rfl, hsz, hP, hK, hD0⟩ := hv
  subst hsz
  have hl := lv_entry av (n := maxL) hlen
  rw [lg_entry_eq]
  rw [hlv] at hl
  exact body p e s m _ below meth c _ ⟨B.exec, B.bytes, hml, findClass_of_methodNamed B.named, atoms_spec (ws := wy) B.pre⟩ B.returns B.notSynchronized hK (fun q h => Or.inr h) _ _ _ hP hD0.self va_S.rf hl
theorem Kv.of {y : MethodName} {wy ws' : List Cond} {fr lo mc ms maxL : Nat} {av : List Value} {W0 W1 : va_W} {lv0 : List (Nat × Value)} (hy : plainName y.cls = true) (hw : wy = Cond.code y cc maxL none :: ws') (hlen : (lg_sl av).length ≤ maxL) (hlv : lv_args 0 av = lv0)
    (body : ∀ (p : Program) (e : Env) (s : State) (m : MethodId) (args : Array Value) (below : List Frame) (meth : Method) (c : Code) (A : Nat → Prop), CallFix p m c cc maxL s args wy y.cls → meth.sig.returnType = none → meth.locks = false → va_K D vwCl tys s → (∀ q, s.heap.size ≤ q → A q) → V p l e { frames := fr, cells := mc, slots := ms, locals := lo } s m args below meth c D A maxL 0 0 (MQ below (QV D tys W1 A) args s mc ms A) W0 lv0 0 []) : Kv l y wy fr lo mc ms D tys av W0 W1 := by
  intro sz
  refine Met.ofW (cc := cc) (maxL := maxL) (ret := none) hy hw ?_
  intro p e s m args below meth c s₁ B hml hv
  obtain ⟨rfl, hsz, hP, hK, hD0⟩ := hv
  subst hsz
  have hl := lv_entry av (n := maxL) hlen
  rw [lg_entry_eq]
  rw [hlv] at hl
  exact body p e s m _ below meth c _ ⟨B.exec, B.bytes, hml, findClass_of_methodNamed B.named, atoms_spec (ws := wy) B.pre⟩ B.returns B.notSynchronized hK (fun q h => Or.inr h) _ _ _ hP hD0.self va_S.rf hl

theorem v_iret (C0 : CallFix p m c cc nL s args Ts own) (hr : meth.sig.returnType = some .int) (hlk : meth.locks = false) (hK : va_K D vwCl tys s) {v r : Int32} (hv : v = r) (hdg : decode cc pc = .ok (.ireturn, 1)) : V p l e R s m args below meth c D A nL k n (MQ below (QI D tys ws A r) args s k n A) ws lv pc [.int v] := fun H locs ls hP hD hS hl => W.iret C0.1 C0.2.1 hr (fun t ht hW => ⟨⟨v, (), rfl, hv, by rw [ht]; exact hP, va_K.moved hW.alike hK, hD⟩, hS.F ht⟩) hS.2.2 hdg hlk
theorem v_zret (C0 : CallFix p m c cc nL s args Ts own) (hr : meth.sig.returnType = some .boolean) (hlk : meth.locks = false) (hK : va_K D vwCl tys s) {v r : Int32} (hb : v = 0 ∨ v = 1) (hv : v = r) (hdg : decode cc pc = .ok (.ireturn, 1)) : V p l e R s m args below meth c D A nL k n (MQ below (QI D tys ws A r) args s k n A) ws lv pc [.int v] := fun H locs ls hP hD hS hl => W.zret C0.1 C0.2.1 hr (by rcases hb with rfl | rfl <;> rfl) (fun t ht hW => ⟨⟨v, (), rfl, hv, by rw [ht]; exact hP, va_K.moved hW.alike hK, hD⟩, hS.F ht⟩) hS.2.2 hdg hlk
theorem v_vret (C0 : CallFix p m c cc nL s args Ts own) (hr : meth.sig.returnType = none) (hlk : meth.locks = false) (hK : va_K D vwCl tys s) (hdg : decode cc pc = .ok (.return_, 1)) : V p l e R s m args below meth c D A nL k n (MQ below (QV D tys ws A) args s k n A) ws lv pc [] := fun H locs ls hP hD hS hl => W.vret C0.1 C0.2.1 hr (fun t ht hW => ⟨⟨(), rfl, trivial, by rw [ht]; exact hP, va_K.moved hW.alike hK, hD⟩, hS.F ht⟩) hS.2.2 hdg hlk

/-- a callee's world wc lies in the caller's ws at the places isC; with it changed to w1 the caller's is ws' -/
def PL (ws wc w1 ws' : va_W) (isC isR isP : List Nat) (wr : va_W) : Prop := isC.map (fun i => ws[i]?) = wc.map some ∧ va_nd isC = true ∧ isR.map (fun i => ws[i]?) = wr.map some ∧ va_nd isR = true ∧ (∀ i ∈ isR, i ∉ isC) ∧ isP.map (fun i => (wr ++ w1)[i]?) = ws'.map some ∧ va_nd isP = true
theorem PL.sub {ws wc w1 ws' wr : va_W} {isC isR isP : List Nat} (h : PL ws wc w1 ws' isC isR isP wr) {D : va_G} {H : Heap} (hP : va_P D vwCl ws H) : va_P D vwCl wc H := by
  have key : ∀ (is : List Nat) (w : va_W), is.map (fun i => ws[i]?) = w.map some → is.filterMap (fun i => ws[i]?) = w := by
    intro is
    induction is with
    | nil => intro w h; cases w with
      | nil => rfl
      | cons a t => cases h
    | cons a t ih => intro w h; cases w with
      | nil => cases h
      | cons b u =>
        rw [List.map_cons, List.map_cons, List.cons.injEq] at h
        rw [List.filterMap_cons, h.1]
        exact congrArg _ (ih u h.2)
  exact hP.sub isC (key isC wc h.1)
theorem PL.back {ws wc w1 ws' wr : va_W} {isC isR isP : List Nat} (h : PL ws wc w1 ws' isC isR isP wr) {D : va_G} {A0 : Nat → Prop} {H H1 : Heap} (hP : va_P D vwCl ws H) (hD : va_D A0 ws) (hk : ∀ q : Nat, q < H.size → ¬ va_A wc H.size q → H1[q]? = H[q]?) (hF : ∀ q, va_A wc H.size q → A0 q) (hP1 : va_P D vwCl w1 H1) (hD1 : va_D (va_A wc H.size) w1) : va_P D vwCl ws' H1 ∧ va_D A0 ws' := by
  obtain ⟨h1, h2, h3, h4, h5, h6, h7⟩ := h
  obtain ⟨a, b⟩ := va_join hP hD isC isR h1 h3 h4 h5 hk hF hP1 hD1
  refine ⟨fun k q hq => ?_, b.sub isP h7 h6⟩
  have h8 : (isP.map (fun i => (wr ++ w1)[i]?))[k]? = some (some q) := by rw [h6, List.getElem?_map, hq]; rfl
  rw [List.getElem?_map] at h8
  cases hi : isP[k]? with
  | none => rw [hi] at h8; cases h8
  | some i => rw [hi] at h8; exact a i q (Option.some.inj h8)
def PLs (ws wc w1 ws' : va_W) : Prop := (∀ (D : va_G) (H : Heap), va_P D vwCl ws H → va_P D vwCl wc H) ∧ (∀ A : Nat → Prop, va_D A ws → va_D A wc) ∧ ∀ (D : va_G) (A0 : Nat → Prop) (H H1 : Heap), va_P D vwCl ws H → va_D A0 ws → (∀ q : Nat, q < H.size → ¬ va_A wc H.size q → H1[q]? = H[q]?) → (∀ q, va_A wc H.size q → A0 q) → va_P D vwCl w1 H1 → va_D (va_A wc H.size) w1 → va_P D vwCl ws' H1 ∧ va_D A0 ws'
theorem PLs.of {ws wc w1 ws' wr : va_W} {isC isR isP : List Nat} (h : PL ws wc w1 ws' isC isR isP wr) : PLs ws wc w1 ws' := ⟨fun _ _ hP => h.sub hP, fun _ hD => hD.sub isC h.2.1 h.1, fun _ _ _ _ hP hD hk hF hP1 hD1 => h.back hP hD hk hF hP1 hD1⟩
theorem PLs.free {ws wc w1 ws' : va_W} (h : PLs ws wc w1 ws') {A0 : Nat → Prop} {H0 H : Heap} {locs : List Loc} (hD : va_D A0 ws) (hS : va_S A0 H0 H locs) (hA : ∀ q, H0.size ≤ q → A0 q) : ∀ q, va_A wc H.size q → A0 q := by
  intro q hq
  rcases hq with ⟨k, e, hk⟩ | hq
  · exact (h.2.1 A0 hD).2 k _ hk
  · exact hA q (Nat.le_trans hS.1 hq)
theorem PLs.nil {ws : va_W} : PLs ws [] [] ws := ⟨fun _ _ _ k q h => by simp at h, fun _ _ => ⟨fun i j p q h => by simp at h, fun k q h => by simp at h⟩, fun D A0 H H1 hP hD hk hF _ _ => ⟨hP.kept (fun k q hq => hk q.1 (hP k q hq).lt (fun h => by
  rcases h with ⟨k2, e, h⟩ | h
  · simp at h
  · exact absurd (hP k q hq).lt (Nat.not_lt.mpr h))), hD⟩⟩
theorem PLs.all {ws w1 : va_W} : PLs ws ws w1 w1 := ⟨fun _ _ h => h, fun _ h => h, fun D A0 H H1 hP hD hk hF hP1 hD1 => ⟨hP1, hD1.weaken (fun _ q _ h => hF q.1 h)⟩⟩
theorem PLs.one {ws : va_W} {a : Nat} {e e1 : va_E} (q0 : Nat) (he : ws[q0]? = some (a, e)) : PLs ws [(a, e)] [(a, e1)] (ws.set q0 (a, e1)) := by
  refine ⟨fun D H hP k q hq => ?_, fun A hD => ⟨fun i j p q hi hj _ => ?_, fun k q hq => ?_⟩, fun D A0 H H1 hP hD hk hF hP1 hD1 => ⟨fun k q hq => ?_, hD.set he⟩⟩
  · obtain ⟨hl, h2⟩ := List.getElem?_eq_some_iff.mp hq
    have h0 : k = 0 := by simp at hl; exact hl
    subst h0
    cases hq
    exact hP q0 _ he
  · obtain ⟨hl, -⟩ := List.getElem?_eq_some_iff.mp hi
    obtain ⟨hl2, -⟩ := List.getElem?_eq_some_iff.mp hj
    simp at hl hl2
    omega
  · obtain ⟨hl, h2⟩ := List.getElem?_eq_some_iff.mp hq
    have h0 : k = 0 := by simp at hl; exact hl
    subst h0
    cases hq
    exact hD.2 q0 _ he
  · have hl := (List.getElem?_eq_some_iff.mp he).1
    by_cases hkp : k = q0
    · subst hkp
      rw [List.getElem?_set_self hl] at hq
      cases hq
      exact hP1 0 _ rfl
    · rw [List.getElem?_set_ne (Ne.symm hkp)] at hq
      refine (hP k q hq).kept (hk q.1 (hP k q hq).lt (fun h => ?_))
      rcases h with ⟨k2, e2, h⟩ | h
      · obtain ⟨hl2, h2⟩ := List.getElem?_eq_some_iff.mp h
        have h0 : k2 = 0 := by simp at hl2; exact hl2
        subst h0
        have h3 : a = q.1 := by simp at h; exact h.1
        exact hkp (hD.1 k q0 q (a, e) hq he h3.symm)
      · exact absurd (hP k q hq).lt (Nat.not_lt.mpr h)
theorem PLs.one0 {ws : va_W} {a : Nat} {e : va_E} (q0 : Nat) (he : ws[q0]? = some (a, e)) : PLs ws [(a, e)] [(a, e)] ws := by
  have h := PLs.one (e1 := e) q0 he
  have h2 : ws.set q0 (a, e) = ws := by
    refine List.ext_getElem? fun k => ?_
    by_cases hk : k = q0
    · subst hk
      rw [List.getElem?_set_self (List.getElem?_eq_some_iff.mp he).1, he]
    · rw [List.getElem?_set_ne (Ne.symm hk)]
  rw [h2] at h
  exact h
theorem PL.all {ws ws' : va_W} (hn : va_nd (List.range ws.length) = true) (hn' : va_nd (List.range ws'.length) = true) : PL ws ws ws' ws' (List.range ws.length) [] (List.range ws'.length) [] := by
  have key : ∀ w : va_W, (List.range w.length).map (fun i => w[i]?) = w.map some := by
    intro w
    refine List.ext_getElem? fun i => ?_
    rw [List.getElem?_map, List.getElem?_map]
    by_cases h : i < w.length
    · simp [h]
    · rw [List.getElem?_eq_none (by simpa using h), List.getElem?_eq_none (by omega)]; rfl
  exact ⟨key ws, hn, rfl, rfl, fun i h => absurd h List.not_mem_nil, key ws', hn'⟩

variable {y : MethodName} {bytes : ByteArray} {maxL fr lo mc ms na index : Nat} {ret : Option FieldType} {wy : List Cond} {av rest : List Value} {W0 W1 wr : va_W} {isC isR isP : List Nat} {r : Int32}

theorem v_callSi (C0 : CallFix p m c cc nL s args Ts own) {pc' : Nat} (hK : va_K D vwCl tys s) (hA : ∀ q, s.heap.size ≤ q → A q) (hM : Ki l y wy fr lo mc ms D tys av W0 W1 r) (cw : CallB R s args own index y bytes maxL ret wy { frames := fr, cells := mc, slots := ms, locals := lo } mc ms na ∧ (Cond.static y).before args s = true) (hPL : PLs ws W0 W1 ws') (hlen : av.length = na) (hst : st = av.reverse ++ rest) (hro : (rest.map fun v => v.category).sum ≤ 8) (hfit : k + mc ≤ R.cells ∧ n + ms ≤ R.slots) (hdg : decode cc pc = .ok (.invokestatic index, 3)) (hn : pc + 3 = pc') (kk : V p l e R s m args below meth c D A nL (k + mc) (n + ms) Q ws' lv pc' (.int r :: rest)) : V p l e R s m args below meth c D A nL k n Q ws lv pc st := by
  intro H locs ls hP hD hS hl
  have hFc := hPL.free hD hS hA
  refine va_calli (va_runS (As := av) (rest := rest) C0 (hM H.size) cw ⟨CP.blind, fun U hU hW => ⟨rfl, by rw [hU], by rw [hU]; exact hPL.1 _ _ hP, va_K.moved hW.alike hK, (hPL.2.1 _ hD).weaken (fun _ _ _ _ => trivial)⟩⟩ rfl hlen hl.1 hst (lv_room hro) hdg hfit) hS (fun q _ h => hFc q h) hFc (fun r1 u t H1 locs1 ht hvm hw hB hz1 hk1 hS1 => ?_)
  obtain ⟨q1, q2, q3⟩ := hB
  rw [ht] at q1
  obtain ⟨hP2, hD2⟩ := hPL.2.2 _ _ _ _ hP hD hk1 hFc q1 q3
  subst hw
  exact hn ▸ kk H1 locs1 ls hP2 hD2 hS1 hl
theorem v_callSv (C0 : CallFix p m c cc nL s args Ts own) {pc' : Nat} (hK : va_K D vwCl tys s) (hA : ∀ q, s.heap.size ≤ q → A q) (hM : Kv l y wy fr lo mc ms D tys av W0 W1) (cw : CallB R s args own index y bytes maxL ret wy { frames := fr, cells := mc, slots := ms, locals := lo } mc ms na ∧ (Cond.static y).before args s = true) (hPL : PLs ws W0 W1 ws') (hlen : av.length = na) (hst : st = av.reverse ++ rest) (hro : (rest.map fun v => v.category).sum ≤ 8) (hfit : k + mc ≤ R.cells ∧ n + ms ≤ R.slots) (hdg : decode cc pc = .ok (.invokestatic index, 3)) (hn : pc + 3 = pc') (kk : V p l e R s m args below meth c D A nL (k + mc) (n + ms) Q ws' lv pc' rest) : V p l e R s m args below meth c D A nL k n Q ws lv pc st := by
  intro H locs ls hP hD hS hl
  have hFc := hPL.free hD hS hA
  refine va_callv (va_runS (As := av) (rest := rest) C0 (hM H.size) cw ⟨CP.blind, fun U hU hW => ⟨rfl, by rw [hU], by rw [hU]; exact hPL.1 _ _ hP, va_K.moved hW.alike hK, (hPL.2.1 _ hD).weaken (fun _ _ _ _ => trivial)⟩⟩ rfl hlen hl.1 hst (lv_room hro) hdg hfit) hS (fun q _ h => hFc q h) hFc (fun u t H1 locs1 ht hvm hw hB hz1 hk1 hS1 => ?_)
  obtain ⟨q1, q2, q3⟩ := hB
  rw [ht] at q1
  obtain ⟨hP2, hD2⟩ := hPL.2.2 _ _ _ _ hP hD hk1 hFc q1 q3
  exact hn ▸ kk H1 locs1 ls hP2 hD2 hS1 hl

theorem v_callVi (C0 : CallFix p m c cc nL s args Ts own) {b : Nat} {pc' : Nat} (hK : va_K D vwCl tys s) (hA : ∀ q, s.heap.size ≤ q → A q) (hM : Ki l y wy fr lo mc ms D tys (.ref b :: av) W0 W1 r) (cw : CallW R s args own y.cls index y bytes maxL ret wy { frames := fr, cells := mc, slots := ms, locals := lo } mc ms na) (hrec : ∃ (q0 ci : Nat) (T : u_T) (N : Nat) (fs : List Value), vwCl[ci]? = some (y.cls, T, N) ∧ ws[q0]? = some (b, .inr (ci, fs))) (hPL : PLs ws W0 W1 ws') (hlen : av.length = na) (hst : st = av.reverse ++ .ref b :: rest) (hro : (rest.map fun v => v.category).sum ≤ 8) (hfit : k + mc ≤ R.cells ∧ n + ms ≤ R.slots) (hdg : decode cc pc = .ok (.invokevirtual index, 3)) (hn : pc + 3 = pc') (kk : V p l e R s m args below meth c D A nL (k + mc) (n + ms) Q ws' lv pc' (.int r :: rest)) : V p l e R s m args below meth c D A nL k n Q ws lv pc st := by
  intro H locs ls hP hD hS hl
  have hFc := hPL.free hD hS hA
  obtain ⟨q0, ci, T, N, fs, hc0, he0⟩ := hrec
  refine va_calli (va_runV (As := av) (rest := rest) C0 (hM H.size) cw ⟨CP.blind, va_recv hK hP hc0 he0, fun U hU hW => ⟨rfl, by rw [hU], by rw [hU]; exact hPL.1 _ _ hP, va_K.moved hW.alike hK, (hPL.2.1 _ hD).weaken (fun _ _ _ _ => trivial)⟩⟩ rfl hlen hl.1 hst (lv_room hro) hdg hfit) hS (fun q _ h => hFc q h) hFc (fun r1 u t H1 locs1 ht hvm hw hB hz1 hk1 hS1 => ?_)
  obtain ⟨q1, q2, q3⟩ := hB
  rw [ht] at q1
  obtain ⟨hP2, hD2⟩ := hPL.2.2 _ _ _ _ hP hD hk1 hFc q1 q3
  subst hw
  exact hn ▸ kk H1 locs1 ls hP2 hD2 hS1 hl

theorem v_callVv (C0 : CallFix p m c cc nL s args Ts own) {b : Nat} {pc' : Nat} (hK : va_K D vwCl tys s) (hA : ∀ q, s.heap.size ≤ q → A q) (hM : Kv l y wy fr lo mc ms D tys (.ref b :: av) W0 W1) (cw : CallW R s args own y.cls index y bytes maxL ret wy { frames := fr, cells := mc, slots := ms, locals := lo } mc ms na) (hrec : ∃ (q0 ci : Nat) (T : u_T) (N : Nat) (fs : List Value), vwCl[ci]? = some (y.cls, T, N) ∧ ws[q0]? = some (b, .inr (ci, fs))) (hPL : PLs ws W0 W1 ws') (hlen : av.length = na) (hst : st = av.reverse ++ .ref b :: rest) (hro : (rest.map fun v => v.category).sum ≤ 8) (hfit : k + mc ≤ R.cells ∧ n + ms ≤ R.slots) (hdg : decode cc pc = .ok (.invokevirtual index, 3)) (hn : pc + 3 = pc') (kk : V p l e R s m args below meth c D A nL (k + mc) (n + ms) Q ws' lv pc' rest) : V p l e R s m args below meth c D A nL k n Q ws lv pc st := by
  intro H locs ls hP hD hS hl
  have hFc := hPL.free hD hS hA
  obtain ⟨q0, ci, T, N, fs, hc0, he0⟩ := hrec
  refine va_callv (va_runV (As := av) (rest := rest) C0 (hM H.size) cw ⟨CP.blind, va_recv hK hP hc0 he0, fun U hU hW => ⟨rfl, by rw [hU], by rw [hU]; exact hPL.1 _ _ hP, va_K.moved hW.alike hK, (hPL.2.1 _ hD).weaken (fun _ _ _ _ => trivial)⟩⟩ rfl hlen hl.1 hst (lv_room hro) hdg hfit) hS (fun q _ h => hFc q h) hFc (fun u t H1 locs1 ht hvm hw hB hz1 hk1 hS1 => ?_)
  obtain ⟨q1, q2, q3⟩ := hB
  rw [ht] at q1
  obtain ⟨hP2, hD2⟩ := hPL.2.2 _ _ _ _ hP hD hk1 hFc q1 q3
  exact hn ▸ kk H1 locs1 ls hP2 hD2 hS1 hl

theorem v_callSi0 (C0 : CallFix p m c cc nL s args Ts own) {pc' : Nat} (hK : va_K D vwCl tys s) (hA : ∀ q, s.heap.size ≤ q → A q) (hM : Ki l y wy fr lo 0 0 D tys av W0 W1 r) (cw : CallB R s args own index y bytes maxL ret wy { frames := fr, cells := 0, slots := 0, locals := lo } 0 0 na ∧ (Cond.static y).before args s = true) (hPL : PLs ws W0 W1 ws') (hlen : av.length = na) (hst : st = av.reverse ++ rest) (hro : (rest.map fun v => v.category).sum ≤ 8) (hfit : k ≤ R.cells ∧ n ≤ R.slots) (hdg : decode cc pc = .ok (.invokestatic index, 3)) (hn : pc + 3 = pc') (kk : V p l e R s m args below meth c D A nL k n Q ws' lv pc' (.int r :: rest)) : V p l e R s m args below meth c D A nL k n Q ws lv pc st := v_callSi C0 hK hA hM cw hPL hlen hst hro hfit hdg hn kk
theorem v_callSv0 (C0 : CallFix p m c cc nL s args Ts own) {pc' : Nat} (hK : va_K D vwCl tys s) (hA : ∀ q, s.heap.size ≤ q → A q) (hM : Kv l y wy fr lo 0 0 D tys av W0 W1) (cw : CallB R s args own index y bytes maxL ret wy { frames := fr, cells := 0, slots := 0, locals := lo } 0 0 na ∧ (Cond.static y).before args s = true) (hPL : PLs ws W0 W1 ws') (hlen : av.length = na) (hst : st = av.reverse ++ rest) (hro : (rest.map fun v => v.category).sum ≤ 8) (hfit : k ≤ R.cells ∧ n ≤ R.slots) (hdg : decode cc pc = .ok (.invokestatic index, 3)) (hn : pc + 3 = pc') (kk : V p l e R s m args below meth c D A nL k n Q ws' lv pc' rest) : V p l e R s m args below meth c D A nL k n Q ws lv pc st := v_callSv C0 hK hA hM cw hPL hlen hst hro hfit hdg hn kk
theorem v_callVi0 (C0 : CallFix p m c cc nL s args Ts own) {b : Nat} {pc' : Nat} (hK : va_K D vwCl tys s) (hA : ∀ q, s.heap.size ≤ q → A q) (hM : Ki l y wy fr lo 0 0 D tys (.ref b :: av) W0 W1 r) (cw : CallW R s args own y.cls index y bytes maxL ret wy { frames := fr, cells := 0, slots := 0, locals := lo } 0 0 na) (hrec : ∃ (q0 ci : Nat) (T : u_T) (N : Nat) (fs : List Value), vwCl[ci]? = some (y.cls, T, N) ∧ ws[q0]? = some (b, .inr (ci, fs))) (hPL : PLs ws W0 W1 ws') (hlen : av.length = na) (hst : st = av.reverse ++ .ref b :: rest) (hro : (rest.map fun v => v.category).sum ≤ 8) (hfit : k ≤ R.cells ∧ n ≤ R.slots) (hdg : decode cc pc = .ok (.invokevirtual index, 3)) (hn : pc + 3 = pc') (kk : V p l e R s m args below meth c D A nL k n Q ws' lv pc' (.int r :: rest)) : V p l e R s m args below meth c D A nL k n Q ws lv pc st := v_callVi C0 hK hA hM cw hrec hPL hlen hst hro hfit hdg hn kk
theorem v_callVv0 (C0 : CallFix p m c cc nL s args Ts own) {b : Nat} {pc' : Nat} (hK : va_K D vwCl tys s) (hA : ∀ q, s.heap.size ≤ q → A q) (hM : Kv l y wy fr lo 0 0 D tys (.ref b :: av) W0 W1) (cw : CallW R s args own y.cls index y bytes maxL ret wy { frames := fr, cells := 0, slots := 0, locals := lo } 0 0 na) (hrec : ∃ (q0 ci : Nat) (T : u_T) (N : Nat) (fs : List Value), vwCl[ci]? = some (y.cls, T, N) ∧ ws[q0]? = some (b, .inr (ci, fs))) (hPL : PLs ws W0 W1 ws') (hlen : av.length = na) (hst : st = av.reverse ++ .ref b :: rest) (hro : (rest.map fun v => v.category).sum ≤ 8) (hfit : k ≤ R.cells ∧ n ≤ R.slots) (hdg : decode cc pc = .ok (.invokevirtual index, 3)) (hn : pc + 3 = pc') (kk : V p l e R s m args below meth c D A nL k n Q ws' lv pc' rest) : V p l e R s m args below meth c D A nL k n Q ws lv pc st := v_callVv C0 hK hA hM cw hrec hPL hlen hst hro hfit hdg hn kk
end VK
end
section
/-! EXCEPTIONS: what a throw needs of the start, contracts Kx (always throws E, the world as it was), calls that let it out or catch it -/
section VKX
variable {p : Program} {l : Launch} {e : Env} {R : Room} {s : State} {m : MethodId} {args : Array Value} {below : List Frame} {meth : Method} {c : Code} {D : va_G} {A : Nat → Prop} {nL k n : Nat} {Q : State → Prop}
variable {cc : ByteArray} {Ts : List Cond} {own : String} {ws ws' : va_W} {lv lv' : List (Nat × Value)} {pc : Nat} {st : List Value} {tys : List (ClassId × FieldType)}
def xIAE : String := "java/lang/IllegalArgumentException"
def xISE : String := "java/lang/IllegalStateException"
def xNSE : String := "java/util/NoSuchElementException"
def xNames : List String := ["java/lang/RuntimeException", "java/lang/Exception"]
def ENs : List (Nat × String) := [(166, "a switch is 0 to 5"), (168, "a lane is 1 to 15"), (170, "a port is 0 to 5"), (174, "there is no cable at the port"), (69, "the lane is tagged at the port"), (82, "the lane is the untagged one of the port"), (86, "a cost is 1 to 20"), (89, "a cable joins two switches"), (95, "there is a cable at one of the ports")]
def xDs : List MethodName := [Bundle.initS "java/lang/RuntimeException", Bundle.initS "java/lang/Exception", Bundle.initS Bundle.tN]
def xB (E : String) : List Cond := [Cond.castable E E, Cond.declares (Bundle.initS "java/lang/RuntimeException"), Cond.declares (Bundle.initS "java/lang/Exception"), Cond.declares (Bundle.initS Bundle.tN)]
def EN (A : Nat → Prop) (U : State) : Prop := vx_Zq Bundle.tN "UNASSIGNED_STACK" Bundle.steD A U U.heap ∧ vx_Zq Bundle.tN "SUPPRESSED_SENTINEL" Bundle.listD A U U.heap ∧ (∀ q ∈ ENs, ∃ sa, vk_R RX0 q.1 q.2 sa U) ∧ (∀ X ∈ [xIAE, xISE, xNSE], va_Nw (.castable X X) U) ∧ va_Nc xISE xIAE U ∧ va_Nc xNSE xIAE U ∧ ∀ x ∈ xDs, va_Nw (.declares x) U
theorem EN.go {A A' : Nat → Prop} {s U : State} {H : Heap} {locs : List Loc} (h : EN A s) (hS : va_S A s.heap H locs) (hU : U.heap = H) (hW : s.WarmedH U.vm) (hF : ∀ q, A' q → A q) : EN A' U := by
  obtain ⟨h1, h2, h3, h4, h5, h6, h7⟩ := h
  subst hU
  exact ⟨((h1.kept hS.2.1).moved hW.alike).narrow hF, ((h2.kept hS.2.1).moved hW.alike).narrow hF, fun q hq => by obtain ⟨sa, h⟩ := h3 q hq; exact ⟨sa, vk_R.warm hW h⟩, fun X hX => va_Nw.warmC hW (h4 X hX), va_Nc.moved hW.alike h5, va_Nc.moved hW.alike h6, fun x hx => va_Nw.warmD hW (h7 x hx)⟩
theorem EN.same {A : Nat → Prop} {U U' : State} (h : EN A U) (hh : U'.heap = U.heap) (hW : U.WarmedH U'.vm) : EN A U' := EN.go (locs := []) h ⟨Nat.le_refl _, fun _ _ _ => rfl, fun _ h => by cases h⟩ hh hW (fun _ h => h)
def CPX (D : va_G) (tys : List (ClassId × FieldType)) (W0 : va_W) (sz : Nat) (U : State) : Prop := CP D tys W0 sz U ∧ EN (va_A W0 sz) U
theorem CPX.blind {D : va_G} {tys : List (ClassId × FieldType)} {W0 : va_W} {sz : Nat} {av : List Value} : FrameBlind (va_Pc av (CPX D tys W0 sz)) := fun a U g mk h => ⟨h.1, ⟨h.2.1.1, h.2.1.2.1, va_K.moved (u := U) (U := U.calling g mk a) (Vm.Alike.refl U.vm) h.2.1.2.2.1, h.2.1.2.2.2⟩, EN.same h.2.2 rfl (State.WarmedH.refl U)⟩
def XX (D : va_G) (tys : List (ClassId × FieldType)) (W0 : va_W) (A : Nat → Prop) (E : String) : String → State → State → Prop := vx_X (fun (_ : Unit) => True) (fun E' _ t => E' = E ∧ CQ D tys W0 A t) A
def QF : Array Value → State → Outcome → State → Prop := fun _ _ _ _ => False
def Kx (l : Launch) (y : MethodName) (wy : List Cond) (fr lo : Nat) (D : va_G) (tys : List (ClassId × FieldType)) (av : List Value) (W0 : va_W) (E : String) : Prop := ∀ sz, vx_Met l y wy { frames := fr, cells := 1, slots := 6, locals := lo } (va_Pc av (CPX D tys W0 sz)) QF (XX D tys W0 (va_A W0 sz) E) 1 6 (va_A W0 sz)
theorem Kx.of {y : MethodName} {wy ws' : List Cond} {fr lo maxL : Nat} {rt : Option FieldType} {av : List Value} {W0 : va_W} {E : String} {lv0 : List (Nat × Value)} (hy : plainName y.cls = true) (hw : wy = Cond.code y cc maxL rt :: ws') (hlen : (lg_sl av).length ≤ maxL) (hlv : lv_args 0 av = lv0)
    (body : ∀ (p : Program) (e : Env) (s : State) (m : MethodId) (args : Array Value) (below : List Frame) (meth : Method) (c : Code) (A : Nat → Prop), CallFix p m c cc maxL s args wy y.cls → (∀ x ∈ c.exceptionTable.toList, False) → meth.locks = false → va_K D vwCl tys s → (∀ q, s.heap.size ≤ q → A q) → EN A s → V p l e { frames := fr, cells := 1, slots := 6, locals := lo } s m args below meth c D A maxL 0 0 (vx_MQ below QF (XX D tys W0 A E) args s 1 6 A) W0 lv0 0 []) : Kx l y wy fr lo D tys av W0 E := by
  intro sz
  refine vx_ofW (cc := cc) (maxL := maxL) (ret := rt) hy hw ?_
  intro p e s m args below meth c s₁ B hml ht hv
  obtain ⟨rfl, ⟨hsz, hP, hK, hD0⟩, hE⟩ := hv
  subst hsz
  have hl := lv_entry av (n := maxL) hlen
  rw [lg_entry_eq]
  rw [hlv] at hl
  exact body p e s m _ below meth c _ ⟨B.exec, B.bytes, hml, findClass_of_methodNamed B.named, atoms_spec (ws := wy) B.pre⟩ ht B.notSynchronized hK (fun q h => Or.inr h) hE _ _ _ hP hD0.self va_S.rf hl
theorem XX.of {W0 : va_W} {E : String} {H : Heap} {locs : List Loc} {t : State} (hK : va_K D vwCl tys s) (hP : va_P D vwCl W0 H) (hD : va_D A W0) (hS : va_S A s.heap H locs) (hvm : s.vm.Alike t.vm) (hz : H.size ≤ t.heap.size) (ho : ∀ q : Nat, q < H.size → t.heap[q]? = H[q]?) : XX D tys W0 A E E s t :=
  ⟨(), trivial, ⟨rfl, hP.kept (fun k q hk => ho q.1 (hP k q hk).lt), va_K.moved hvm hK, hD⟩, Nat.le_trans hS.1 hz, fun q h1 h2 => (ho q (Nat.lt_of_lt_of_le h1 hS.1)).trans (hS.2.1 q h1 h2)⟩

theorem v_throw (C0 : CallFix p m c cc nL s args Ts own) (hst : l.stackTraces = false) (hEN : EN A s) (hT0 : ∀ x ∈ c.exceptionTable.toList, False) (hlk : meth.locks = false) (hK : va_K D vwCl tys s) (hown : own = RX0) {E text : String} {ik is ic : Nat} (hcls : Bundle.fit E = true) (hk : Cond.classLink own ik E ∈ Ts) (hini : Cond.initialized E ∈ Ts) (hat : ∀ w ∈ (vx_atS own ic E xNames).filter goodWord, w ∈ Ts) (hng : ∀ w ∈ (vx_atS own ic E xNames).filter (fun w => !goodWord w), w ∈ xB E) (hgood : ∀ w ∈ Cond.classLink own ik E :: Cond.initialized E :: vx_atS own ic E xNames, vx_ot w = true) (hX : E ∈ [xIAE, xISE, xNSE]) (htx : (is, text) ∈ ENs)
    (d0 : decode cc pc = .ok (.new ik, 3)) (d3 : decode cc (pc + 3) = .ok (.dup, 1)) (d4 : decode cc (pc + 4) = .ok (.ldc is, 2)) (d6 : decode cc (pc + 6) = .ok (.invokespecial ic, 3)) (d9 : decode cc (pc + 9) = .ok (.athrow, 1))
    (hRf : 5 < R.frames) (hRl : (st.map fun v => v.category).sum + 82 ≤ R.locals) (hRc : k + 1 ≤ R.cells) (hRs : n + 6 ≤ R.slots) {mc ms : Nat} (hc : k + 1 ≤ mc) (hs : n + 6 ≤ ms) : V p l e R s m args below meth c D A nL k n (vx_MQ below QF (XX D tys ws A E) args s mc ms A) ws lv pc st := by
  intro H locs ls hP hD hS hl
  obtain ⟨e1, e2, e3, e4, e5, e6, e7⟩ := hEN
  obtain ⟨sa, hsa⟩ := e3 _ htx
  refine vx_throwS (own := own) (cls := E) (text := text) (names := xNames) (ik := ik) (is := is) (ic := ic) (sa := sa) C0.1 C0.2.1 hst C0.2.2.2.1 hcls (by decide +kernel) (C0.2.2.2.2 _ hk) (C0.2.2.2.2 _ hini) (by rw [hown]; exact hsa) (vx_hat (fun w hw => C0.2.2.2.2 _ (hat w hw)) hng (vx_c (va_Nw.use rfl (e4 _ hX)) (vx_c (va_Nw.use rfl (e7 _ (by simp [xDs]))) (vx_c (va_Nw.use rfl (e7 _ (by simp [xDs]))) (vx_c (va_Nw.use rfl (e7 _ (by simp [xDs]))) vx_n))))) hgood e1 e2 hS (hl.1.trans C0.2.2.1.symm) d0 d3 d4 d6 d9 (fun x hx => (hT0 x hx).elim) hRf hRl hRc hRs hlk (fun t hvm hz ho => XX.of hK hP hD hS hvm hz ho) hS.2.2 hc hs
theorem vx_callF {H H0 : Heap} {locs : List Loc} {cells slots mc ms : Nat} {ls : Array Slot} {st0 rest : List Value} {free : Addr → Prop} {A0 : Nat → Prop} {SX : Type} {px : SX → Prop} {BX : String → SX → State → Prop} {AX : Nat → Prop} {Qa : State → Outcome → State → Prop} (hQ : ∀ a b c, ¬ Qa a b c) (hr : vx_Run p l e R s m args below meth c H locs cells slots mc ms (F0 m pc ls st0) rest Qa (vx_X px BX AX) free) (hS : va_S A0 H0 H locs) (hf : ∀ q, free q → A0 q) (hAX : ∀ q, q < H.size → AX q → A0 q)
    (kx : ∀ (E : String) (ce : Cell) (q9 : Addr) (u : SX) (t : State) (H1 : Heap) (locs1 : List Loc), t.heap = H1 → s.vm.Alike t.vm → px u → BX E u t → H.size ≤ H1.size → (∀ q : Nat, q < H.size → ¬ AX q → H1[q]? = H[q]?) → va_S A0 H0 H1 locs1 → H1[q9]? = some ce → ce.vm = .none → s.vm.findClass E = some ce.cls → vx_W p l e R s m args below meth c H1 locs1 (cells + mc) (slots + ms) Q (F0 m pc ls rest) q9) : W p l e R s m args below meth c H locs cells slots Q (F0 m pc ls st0) := by
  intro T hT X
  rcases hr T hT X with ⟨v, st₀, t, T', L, h0, X', hL, e1, e2, hq, st⟩ | ⟨q, st₀, t, T', L, E, ce, h0, X', hL, e1, e2, ⟨u, hp, hb, hF⟩, hce, hcv, hcl, st⟩
  · exact absurd hq (hQ _ _ _)
  · obtain ⟨k1, k2, k3⟩ := vx_keep h0 e1 hS hAX hf hL hF
    obtain ⟨t2, a1, b1⟩ := kx E ce q u t T'.heap (locs ++ L) e1.symm (by rw [← e2]; exact X'.warmed.alike) hp hb k1 k2 k3 (by rw [e1]; exact hce) hcv hcl T' rfl X'
    exact ⟨t2, st.trans a1, b1⟩

variable {y : MethodName} {bytes : ByteArray} {maxL fr lo na index : Nat} {ret : Option FieldType} {wy : List Cond} {av rest : List Value} {W0 wr : va_W} {isC isR isP : List Nat} {E : String}

theorem v_callSx_out (C0 : CallFix p m c cc nL s args Ts own) (hK : va_K D vwCl tys s) (hA : ∀ q, s.heap.size ≤ q → A q) (hEN : EN A s) (hM : Kx l y wy fr lo D tys av W0 E) (cw : CallB R s args own index y bytes maxL ret wy { frames := fr, cells := 1, slots := 6, locals := lo } 1 6 na ∧ (Cond.static y).before args s = true) (hPL : PLs ws W0 W0 ws) (hlen : av.length = na) (hst : st = av.reverse ++ rest) (hro : (rest.map fun v => v.category).sum ≤ 8) (hfit : k + 1 ≤ R.cells ∧ n + 6 ≤ R.slots) (hdg : decode cc pc = .ok (.invokestatic index, 3)) (hT0 : ∀ x ∈ c.exceptionTable.toList, False) (hlk : meth.locks = false) {mc ms : Nat} (hc : k + 1 ≤ mc) (hs : n + 6 ≤ ms) : V p l e R s m args below meth c D A nL k n (vx_MQ below QF (XX D tys ws A E) args s mc ms A) ws lv pc st := by
  intro H locs ls hP hD hS hl
  have hFc := hPL.free hD hS hA
  refine vx_callF (Qa := QF _) (fun _ _ _ h => h) (vx_runS (As := av) (rest := rest) C0 (hM H.size) cw ⟨CPX.blind, fun U hU hW => ⟨rfl, ⟨by rw [hU], by rw [hU]; exact hPL.1 _ _ hP, va_K.moved hW.alike hK, (hPL.2.1 _ hD).weaken (fun _ _ _ _ => trivial)⟩, hEN.go hS hU hW hFc⟩⟩ rfl hlen hl.1 hst (lv_room hro) hdg hfit) hS hFc (fun q _ h => hFc q h) (fun E1 ce q9 u t H1 locs1 ht hvm hw hB hz1 hk1 hS1 hce hcv hcl => ?_)
  obtain ⟨hE1, q1, q2, q3⟩ := hB
  subst hE1
  rw [ht] at q1
  obtain ⟨hP2, hD2⟩ := hPL.2.2 _ _ _ _ hP hD hk1 hFc q1 q3
  exact vx_out (fun x hx => (hT0 x hx).elim) hlk hce hcv hcl (fun t2 ht2 hvm2 => XX.of hK hP2 hD2 hS1 hvm2 (by rw [ht2]; exact Nat.le_refl _) (fun q _ => by rw [ht2])) hS1.2.2 hc hs
theorem v_callSx_catch (C0 : CallFix p m c cc nL s args Ts own) (hK : va_K D vwCl tys s) (hA : ∀ q, s.heap.size ≤ q → A q) (hEN : EN A s) (hM : Kx l y wy fr lo D tys av W0 E) (cw : CallB R s args own index y bytes maxL ret wy { frames := fr, cells := 1, slots := 6, locals := lo } 1 6 na ∧ (Cond.static y).before args s = true) (hPL : PLs ws W0 W0 ws) (hlen : av.length = na) (hst : st = av.reverse ++ rest) (hro : (rest.map fun v => v.category).sum ≤ 8) (hfit : k + 1 ≤ R.cells ∧ n + 6 ≤ R.slots) (hdg : decode cc pc = .ok (.invokestatic index, 3)) (name : String) (pre : List ExceptionTableEntry) (x : ExceptionTableEntry) (suf : List ExceptionTableEntry) (hsplit : c.exceptionTable.toList = pre ++ x :: suf) (hpass : ∀ z ∈ pre, covers z pc = false ∨ (z.catchType ≠ 0 ∧ ∃ nm : String, (Cond.classLink own z.catchType nm).before args s = true ∧ va_Nc E nm s)) (hx : covers x pc = true) (h0 : x.catchType ≠ 0) (hlink : (Cond.classLink own x.catchType name).before args s = true) (hcast : (Cond.castable E name).before args s = true) (kk : ∀ q9 : Nat, V p l e R s m args below meth c D A nL (k + 1) (n + 6) Q ws lv x.handlerPc [.ref q9]) : V p l e R s m args below meth c D A nL k n Q ws lv pc st := by
  intro H locs ls hP hD hS hl
  have hFc := hPL.free hD hS hA
  refine vx_callF (Qa := QF _) (fun _ _ _ h => h) (vx_runS (As := av) (rest := rest) C0 (hM H.size) cw ⟨CPX.blind, fun U hU hW => ⟨rfl, ⟨by rw [hU], by rw [hU]; exact hPL.1 _ _ hP, va_K.moved hW.alike hK, (hPL.2.1 _ hD).weaken (fun _ _ _ _ => trivial)⟩, hEN.go hS hU hW hFc⟩⟩ rfl hlen hl.1 hst (lv_room hro) hdg hfit) hS hFc (fun q _ h => hFc q h) (fun E1 ce q9 u t H1 locs1 ht hvm hw hB hz1 hk1 hS1 hce hcv hcl => ?_)
  obtain ⟨hE1, q1, q2, q3⟩ := hB
  subst hE1
  rw [ht] at q1
  obtain ⟨hP2, hD2⟩ := hPL.2.2 _ _ _ _ hP hD hk1 hFc q1 q3
  exact vx_catch C0.2.2.2.1 pre x suf hsplit hpass hx h0 hlink hcast hce hcv hcl (kk q9 H1 locs1 ls hP2 hD2 hS1 hl)

theorem v_callVx_out (C0 : CallFix p m c cc nL s args Ts own) {b : Nat} (hK : va_K D vwCl tys s) (hA : ∀ q, s.heap.size ≤ q → A q) (hEN : EN A s) (hM : Kx l y wy fr lo D tys (.ref b :: av) W0 E) (cw : CallW R s args own y.cls index y bytes maxL ret wy { frames := fr, cells := 1, slots := 6, locals := lo } 1 6 na) (hrec : ∃ (q0 ci : Nat) (T : u_T) (N : Nat) (fs : List Value), vwCl[ci]? = some (y.cls, T, N) ∧ ws[q0]? = some (b, .inr (ci, fs))) (hPL : PLs ws W0 W0 ws) (hlen : av.length = na) (hst : st = av.reverse ++ .ref b :: rest) (hro : (rest.map fun v => v.category).sum ≤ 8) (hfit : k + 1 ≤ R.cells ∧ n + 6 ≤ R.slots) (hdg : decode cc pc = .ok (.invokevirtual index, 3)) (hT0 : ∀ x ∈ c.exceptionTable.toList, False) (hlk : meth.locks = false) {mc ms : Nat} (hc : k + 1 ≤ mc) (hs : n + 6 ≤ ms) : V p l e R s m args below meth c D A nL k n (vx_MQ below QF (XX D tys ws A E) args s mc ms A) ws lv pc st := by
  intro H locs ls hP hD hS hl
  have hFc := hPL.free hD hS hA
  obtain ⟨q0, ci, T, N, fs, hc0, he0⟩ := hrec
  refine vx_callF (Qa := QF _) (fun _ _ _ h => h) (vx_runV (As := av) (rest := rest) C0 (hM H.size) cw ⟨CPX.blind, va_recv hK hP hc0 he0, fun U hU hW => ⟨rfl, ⟨by rw [hU], by rw [hU]; exact hPL.1 _ _ hP, va_K.moved hW.alike hK, (hPL.2.1 _ hD).weaken (fun _ _ _ _ => trivial)⟩, hEN.go hS hU hW hFc⟩⟩ rfl hlen hl.1 hst (lv_room hro) hdg hfit) hS hFc (fun q _ h => hFc q h) (fun E1 ce q9 u t H1 locs1 ht hvm hw hB hz1 hk1 hS1 hce hcv hcl => ?_)
  obtain ⟨hE1, q1, q2, q3⟩ := hB
  subst hE1
  rw [ht] at q1
  obtain ⟨hP2, hD2⟩ := hPL.2.2 _ _ _ _ hP hD hk1 hFc q1 q3
  exact vx_out (fun x hx => (hT0 x hx).elim) hlk hce hcv hcl (fun t2 ht2 hvm2 => XX.of hK hP2 hD2 hS1 hvm2 (by rw [ht2]; exact Nat.le_refl _) (fun q _ => by rw [ht2])) hS1.2.2 hc hs
theorem v_callVx_catch (C0 : CallFix p m c cc nL s args Ts own) {b : Nat} (hK : va_K D vwCl tys s) (hA : ∀ q, s.heap.size ≤ q → A q) (hEN : EN A s) (hM : Kx l y wy fr lo D tys (.ref b :: av) W0 E) (cw : CallW R s args own y.cls index y bytes maxL ret wy { frames := fr, cells := 1, slots := 6, locals := lo } 1 6 na) (hrec : ∃ (q0 ci : Nat) (T : u_T) (N : Nat) (fs : List Value), vwCl[ci]? = some (y.cls, T, N) ∧ ws[q0]? = some (b, .inr (ci, fs))) (hPL : PLs ws W0 W0 ws) (hlen : av.length = na) (hst : st = av.reverse ++ .ref b :: rest) (hro : (rest.map fun v => v.category).sum ≤ 8) (hfit : k + 1 ≤ R.cells ∧ n + 6 ≤ R.slots) (hdg : decode cc pc = .ok (.invokevirtual index, 3)) (name : String) (pre : List ExceptionTableEntry) (x : ExceptionTableEntry) (suf : List ExceptionTableEntry) (hsplit : c.exceptionTable.toList = pre ++ x :: suf) (hpass : ∀ z ∈ pre, covers z pc = false ∨ (z.catchType ≠ 0 ∧ ∃ nm : String, (Cond.classLink own z.catchType nm).before args s = true ∧ va_Nc E nm s)) (hx : covers x pc = true) (h0 : x.catchType ≠ 0) (hlink : (Cond.classLink own x.catchType name).before args s = true) (hcast : (Cond.castable E name).before args s = true) (kk : ∀ q9 : Nat, V p l e R s m args below meth c D A nL (k + 1) (n + 6) Q ws lv x.handlerPc [.ref q9]) : V p l e R s m args below meth c D A nL k n Q ws lv pc st := by
  intro H locs ls hP hD hS hl
  have hFc := hPL.free hD hS hA
  obtain ⟨q0, ci, T, N, fs, hc0, he0⟩ := hrec
  refine vx_callF (Qa := QF _) (fun _ _ _ h => h) (vx_runV (As := av) (rest := rest) C0 (hM H.size) cw ⟨CPX.blind, va_recv hK hP hc0 he0, fun U hU hW => ⟨rfl, ⟨by rw [hU], by rw [hU]; exact hPL.1 _ _ hP, va_K.moved hW.alike hK, (hPL.2.1 _ hD).weaken (fun _ _ _ _ => trivial)⟩, hEN.go hS hU hW hFc⟩⟩ rfl hlen hl.1 hst (lv_room hro) hdg hfit) hS hFc (fun q _ h => hFc q h) (fun E1 ce q9 u t H1 locs1 ht hvm hw hB hz1 hk1 hS1 hce hcv hcl => ?_)
  obtain ⟨hE1, q1, q2, q3⟩ := hB
  subst hE1
  rw [ht] at q1
  obtain ⟨hP2, hD2⟩ := hPL.2.2 _ _ _ _ hP hD hk1 hFc q1 q3
  exact vx_catch C0.2.2.2.1 pre x suf hsplit hpass hx h0 hlink hcast hce hcv hcl (kk q9 H1 locs1 ls hP2 hD2 hS1 hl)

end VKX
end
section
/-! THE WORLDS of the two objects, and the plain functions that their methods compute -/
abbrev TI (cI : ClassId) : List (ClassId × FieldType) := [(cI, .int)]
abbrev wX (cI : ClassId) (ad : Nat → Nat) (U T F C B RU RC WU ST RP : Nat → Int32) (RN : Int32) (WT SM : Nat → Int32) (CC TR : Int32) : va_W := [(ad 0, .inr (0, [.ref (ad 1), .ref (ad 2), .ref (ad 3), .ref (ad 4), .ref (ad 5), .ref (ad 6), .ref (ad 7), .ref (ad 8), .ref (ad 9), .ref (ad 10), .int RN, .ref (ad 11), .ref (ad 12), .int CC, .int TR])), (ad 1, .inl (cI, 36, .inl U)), (ad 2, .inl (cI, 36, .inl T)), (ad 3, .inl (cI, 36, .inl F)), (ad 4, .inl (cI, 36, .inl C)), (ad 5, .inl (cI, 36, .inl B)), (ad 6, .inl (cI, 6, .inl RU)), (ad 7, .inl (cI, 6, .inl RC)), (ad 8, .inl (cI, 6, .inl WU)), (ad 9, .inl (cI, 96, .inl ST)), (ad 10, .inl (cI, 96, .inl RP)), (ad 11, .inl (cI, 36, .inl WT)), (ad 12, .inl (cI, 6, .inl SM))]
abbrev wY (cI : ClassId) (bd : Nat → Nat) (U T F C B : Nat → Int32) (CM TR : Int32) (RO WY SU : Nat → Int32) (TH : Int32) (ST QU : Nat → Int32) (QN : Int32) (FE : Nat → Int32) : va_W := [(bd 0, .inr (1, [.ref (bd 1), .ref (bd 2), .ref (bd 3), .ref (bd 4), .ref (bd 5), .int CM, .int TR, .ref (bd 6), .ref (bd 7), .ref (bd 8), .int TH, .ref (bd 9), .ref (bd 10), .int QN, .ref (bd 11)])), (bd 1, .inl (cI, 36, .inl U)), (bd 2, .inl (cI, 36, .inl T)), (bd 3, .inl (cI, 36, .inl F)), (bd 4, .inl (cI, 36, .inl C)), (bd 5, .inl (cI, 36, .inl B)), (bd 6, .inl (cI, 6, .inl RO)), (bd 7, .inl (cI, 6, .inl WY)), (bd 8, .inl (cI, 6, .inl SU)), (bd 9, .inl (cI, 96, .inl ST)), (bd 10, .inl (cI, 96, .inl QU)), (bd 11, .inl (cI, 6, .inl FE))]
/-- n times f, with the index -/
def lp {α : Type} (f : Nat → α → α) : Nat → α → α
  | 0, s => s
  | n + 1, s => f n (lp f n s)
def xAt (n : Nat) (f : Nat → Int32) (i : Int32) : Int32 := if i < 0 then -1 else if Int32.ofNat n ≤ i then -1 else f i.toNatClampNeg
def xPut (n : Nat) (f : Nat → Int32) (i x : Int32) : Nat → Int32 := if i < 0 then f else if Int32.ofNat n ≤ i then f else upd f i.toNatClampNeg x
def xFill (f : Nat → Int32) (x : Int32) (n : Nat) : Nat → Int32 := fun j => if j < n then x else f j
theorem xFill_0 (f : Nat → Int32) (x : Int32) : xFill f x 0 = f := by funext j; simp [xFill]
theorem xFill_s (f : Nat → Int32) (x : Int32) (n : Nat) : upd (xFill f x n) n x = xFill f x (n + 1) := by
  funext j
  by_cases h : j = n
  · subst h; simp [upd, xFill]
  · simp only [upd, if_neg h, xFill]
    by_cases h2 : j < n
    · rw [if_pos h2, if_pos (by omega)]
    · rw [if_neg h2, if_neg (by omega)]
theorem vp_in_ofNat {i : Int32} {n : Nat} (hn : n < 2 ^ 31) (h0 : ¬ i < 0) (h1 : ¬ Int32.ofNat n ≤ i) : vp_in i n := by
  rcases pk_ix i hn with h | h | ⟨j, h2, h3⟩
  · exact absurd h h0
  · exact absurd h h1
  · rw [h3]; exact vp_in_nI h2 (by omega)
end
section
set_option maxHeartbeats 4000000 in
set_option maxRecDepth 100000 in
theorem k_X0_at (l : Launch) (D : va_G) (cI : ClassId) (a : Nat) (n : Nat) (f : Nat → Int32) (i : Int32) (hn : n < 2 ^ 31) : Ki l yX0_at wsX0_at 0 0 0 0 D (TI cI) [.ref a, .int i] ([(a, .inl (cI, n, .inl f))]) ([(a, .inl (cI, n, .inl f))]) (xAt n f i) := by
  refine Ki.of (cc := cX0_at) (maxL := 2) (rt := .int) (lv0 := [(0, .ref a), (1, .int i)]) (by decide +kernel) rfl (Nat.le_of_ble_eq_true rfl) rfl ?_
  intro p e s m args below meth c A C0 hr hlk hK hA
  refine v_iload_n C0 (pc' := 1) 1 rfl rfl dX0_at_0 rfl ?_
  refine v_if_lt C0 16 (pc' := 4) dX0_at_1 (by decide) rfl (fun h1 => ?_) (fun h1 => ?_)
  · refine v_iconst C0 (pc' := 17) (-1) (by decide) dX0_at_16 rfl ?_
    exact v_iret C0 hr hlk hK (by simp only [xAt, if_pos h1]) dX0_at_17
  · refine v_iload_n C0 (pc' := 5) 1 rfl rfl dX0_at_4 rfl ?_
    refine v_aload_n C0 (pc' := 6) 0 rfl rfl dX0_at_5 rfl ?_
    refine v_alen C0 hK (pc' := 7) 0 0 rfl rfl dX0_at_6 rfl ?_
    refine v_icmp_ge C0 16 (pc' := 10) dX0_at_7 (by decide) rfl (fun h2 => ?_) (fun h2 => ?_)
    · refine v_iconst C0 (pc' := 17) (-1) (by decide) dX0_at_16 rfl ?_
      exact v_iret C0 hr hlk hK (by simp only [xAt, if_neg h1, if_pos h2]) dX0_at_17
    · refine v_aload_n C0 (pc' := 11) 0 rfl rfl dX0_at_10 rfl ?_
      refine v_iload_n C0 (pc' := 12) 1 rfl rfl dX0_at_11 rfl ?_
      refine v_iald C0 hK (pc' := 13) 0 0 rfl rfl (vp_in_ofNat hn h1 h2) dX0_at_12 rfl ?_
      refine v_goto C0 17 dX0_at_13 (by decide) ?_
      exact v_iret C0 hr hlk hK (by simp only [xAt, if_neg h1, if_neg h2]) dX0_at_17
set_option maxHeartbeats 4000000 in
set_option maxRecDepth 100000 in
theorem k_X0_put (l : Launch) (D : va_G) (cI : ClassId) (a : Nat) (n : Nat) (f : Nat → Int32) (i : Int32) (x : Int32) (hn : n < 2 ^ 31) : Kv l yX0_put wsX0_put 0 0 0 0 D (TI cI) [.ref a, .int i, .int x] ([(a, .inl (cI, n, .inl f))]) ([(a, .inl (cI, n, .inl (xPut n f i x)))]) := by
  refine Kv.of (cc := cX0_put) (maxL := 3) (lv0 := [(0, .ref a), (1, .int i), (2, .int x)]) (by decide +kernel) rfl (Nat.le_of_ble_eq_true rfl) rfl ?_
  intro p e s m args below meth c A C0 hr hlk hK hA
  refine v_iload_n C0 (pc' := 1) 1 rfl rfl dX0_put_0 rfl ?_
  refine v_if_lt C0 14 (pc' := 4) dX0_put_1 (by decide) rfl (fun h1 => ?_) (fun h1 => ?_)
  · refine v_world (ws' := [(a, .inl (cI, n, .inl (xPut n f i x)))]) (by simp only [xPut, if_pos h1]) ?_
    exact v_vret C0 hr hlk hK dX0_put_14
  · refine v_iload_n C0 (pc' := 5) 1 rfl rfl dX0_put_4 rfl ?_
    refine v_aload_n C0 (pc' := 6) 0 rfl rfl dX0_put_5 rfl ?_
    refine v_alen C0 hK (pc' := 7) 0 0 rfl rfl dX0_put_6 rfl ?_
    refine v_icmp_ge C0 14 (pc' := 10) dX0_put_7 (by decide) rfl (fun h2 => ?_) (fun h2 => ?_)
    · refine v_world (ws' := [(a, .inl (cI, n, .inl (xPut n f i x)))]) (by simp only [xPut, if_neg h1, if_pos h2]) ?_
      exact v_vret C0 hr hlk hK dX0_put_14
    · refine v_aload_n C0 (pc' := 11) 0 rfl rfl dX0_put_10 rfl ?_
      refine v_iload_n C0 (pc' := 12) 1 rfl rfl dX0_put_11 rfl ?_
      refine v_iload_n C0 (pc' := 13) 2 rfl rfl dX0_put_12 rfl ?_
      refine v_iast C0 hK (ws' := [(a, .inl (cI, n, .inl (upd f i.toNatClampNeg x)))]) (pc' := 14) 0 0 rfl rfl rfl (vp_in_ofNat hn h1 h2) dX0_put_13 rfl ?_
      refine v_world (ws' := [(a, .inl (cI, n, .inl (xPut n f i x)))]) (by simp only [xPut, if_neg h1, if_neg h2]) ?_
      exact v_vret C0 hr hlk hK dX0_put_14
set_option maxHeartbeats 4000000 in
set_option maxRecDepth 100000 in
theorem k_J7_fill_53178 (l : Launch) (D : va_G) (cI : ClassId) (a : Nat) (n : Nat) (f : Nat → Int32) (x : Int32) (hn : n < 2 ^ 31) : Kv l yJ7_fill_53178 wsJ7_fill_53178 0 0 0 0 D (TI cI) [.ref a, .int x] ([(a, .inl (cI, n, .inl f))]) ([(a, .inl (cI, n, .inl (xFill f x n)))]) := by
  refine Kv.of (cc := cJ7_fill_53178) (maxL := 4) (lv0 := [(0, .ref a), (1, .int x)]) (by decide +kernel) rfl (Nat.le_of_ble_eq_true rfl) rfl ?_
  intro p e s m args below meth c A C0 hr hlk hK hA
  refine v_iconst C0 (pc' := 1) 0 (by decide) dJ7_fill_53178_0 rfl ?_
  refine v_istore_n C0 (lv' := [(2, .int 0), (0, .ref a), (1, .int x)]) (pc' := 2) rfl (by decide) rfl dJ7_fill_53178_1 rfl ?_
  refine v_aload_n C0 (pc' := 3) 1 rfl rfl dJ7_fill_53178_2 rfl ?_
  refine v_alen C0 hK (pc' := 4) 0 0 rfl rfl dJ7_fill_53178_3 rfl ?_
  refine v_istore_n C0 (lv' := [(3, .int (Int32.ofNat n)), (2, .int 0), (0, .ref a), (1, .int x)]) (pc' := 5) rfl (by decide) rfl dJ7_fill_53178_4 rfl ?_
  suffices LP : ∀ (j i : Nat), i + j = n → V p l e { frames := 0, cells := 0, slots := 0, locals := 0 } s m args below meth c D A 4 0 0 (MQ below (QV D (TI cI) [(a, .inl (cI, n, .inl (xFill f x n)))] A) args s 0 0 A) [(a, .inl (cI, n, .inl (xFill f x i)))] [(3, .int (Int32.ofNat n)), (2, .int (nI i)), (0, .ref a), (1, .int x)] 5 [] by
    have h := LP n 0 (Nat.zero_add n)
    rw [xFill_0] at h
    exact h
  intro j
  induction j with
  | zero =>
    intro i hi
    have hi : i = n := by omega
    subst hi
    refine v_iload_n C0 (pc' := 6) 1 rfl rfl dJ7_fill_53178_5 rfl ?_
    refine v_iload_n C0 (pc' := 7) 0 rfl rfl dJ7_fill_53178_6 rfl ?_
    refine v_icmp_ge C0 20 (pc' := 10) dJ7_fill_53178_7 (by decide) rfl (fun h1 => ?_) (fun h1 => ?_)
    · exact v_vret C0 hr hlk hK dJ7_fill_53178_20
    · exact absurd (Int32.le_refl _) h1
  | succ j ih =>
    intro i hi
    refine v_iload_n C0 (pc' := 6) 1 rfl rfl dJ7_fill_53178_5 rfl ?_
    refine v_iload_n C0 (pc' := 7) 0 rfl rfl dJ7_fill_53178_6 rfl ?_
    refine v_icmp_ge C0 20 (pc' := 10) dJ7_fill_53178_7 (by decide) rfl (fun h1 => ?_) (fun h1 => ?_)
    · exact absurd h1 (nI_ge (by omega) hn)
    · refine v_aload_n C0 (pc' := 11) 2 rfl rfl dJ7_fill_53178_10 rfl ?_
      refine v_iload_n C0 (pc' := 12) 1 rfl rfl dJ7_fill_53178_11 rfl ?_
      refine v_iload_n C0 (pc' := 13) 3 rfl rfl dJ7_fill_53178_12 rfl ?_
      refine v_iast C0 hK (ws' := [(a, .inl (cI, n, .inl (upd (xFill f x i) (nI i).toNatClampNeg x)))]) (pc' := 14) 0 0 rfl rfl rfl (vp_in_nI (show i < n by omega) hn) dJ7_fill_53178_13 rfl ?_
      refine v_iinc C0 (lv' := [(2, .int ((nI i) + 1)), (3, .int (Int32.ofNat n)), (0, .ref a), (1, .int x)]) (pc' := 17) 1 rfl ((nI i) + 1) rfl (by decide) rfl dJ7_fill_53178_14 rfl ?_
      refine v_goto C0 5 dJ7_fill_53178_17 (by decide) ?_
      have ha := ih (i + 1) (by omega)
      rw [← xFill_s, ← nI_1] at ha
      refine v_world (ws' := [(a, .inl (cI, n, .inl (upd (xFill f x i) i x)))]) (by rw [nI_clamp (show i < 2 ^ 31 by omega)]) ?_
      exact v_sub [1, 0, 2, 3] rfl ha
end
section
def bc1 (x : Int32) : Int32 := x - ((x.toUInt32 >>> ((1 : Int32).toUInt32 &&& Int32.toUInt32 31)).toInt32 &&& 1431655765)
def bc2 (x : Int32) : Int32 := (x &&& 858993459) + ((x.toUInt32 >>> ((2 : Int32).toUInt32 &&& Int32.toUInt32 31)).toInt32 &&& 858993459)
def bc3 (x : Int32) : Int32 := (x + (x.toUInt32 >>> ((4 : Int32).toUInt32 &&& Int32.toUInt32 31)).toInt32) &&& 252645135
def bc4 (x : Int32) : Int32 := x + (x.toUInt32 >>> ((8 : Int32).toUInt32 &&& Int32.toUInt32 31)).toInt32
def bc5 (x : Int32) : Int32 := x + (x.toUInt32 >>> ((16 : Int32).toUInt32 &&& Int32.toUInt32 31)).toInt32
def s_J6_bitCount_0f7a4 (x : Int32) : Int32 := (bc5 (bc4 (bc3 (bc2 (bc1 x))))) &&& 63
set_option maxHeartbeats 4000000 in
set_option maxRecDepth 100000 in
theorem k_J6_bitCount_0f7a4 (l : Launch) (D : va_G) (cI : ClassId)  (x : Int32) : Ki l yJ6_bitCount_0f7a4 wsJ6_bitCount_0f7a4 0 0 0 0 D (TI cI) [.int x] ([]) ([]) (s_J6_bitCount_0f7a4 x) := by
  refine Ki.of (cc := cJ6_bitCount_0f7a4) (maxL := 1) (rt := .int) (lv0 := [(0, .int x)]) (by decide +kernel) rfl (Nat.le_of_ble_eq_true rfl) rfl ?_
  intro p e s m args below meth c A C0 hr hlk hK hA
  refine v_iload_n C0 (pc' := 1) 0 rfl rfl dJ6_bitCount_0f7a4_0 rfl ?_
  refine v_iload_n C0 (pc' := 2) 0 rfl rfl dJ6_bitCount_0f7a4_1 rfl ?_
  refine v_iconst C0 (pc' := 3) 1 (by decide) dJ6_bitCount_0f7a4_2 rfl ?_
  refine v_iushr C0 (pc' := 4) dJ6_bitCount_0f7a4_3 rfl ?_
  refine v_ldcw C0 (pc' := 7) 1431655765 (C0.2.2.2.2 _ (by decide +kernel)) dJ6_bitCount_0f7a4_4 rfl ?_
  refine v_iand C0 (pc' := 8) dJ6_bitCount_0f7a4_7 rfl ?_
  refine v_isub C0 (pc' := 9) dJ6_bitCount_0f7a4_8 rfl ?_
  refine v_eqi (y := bc1 x) rfl ?_
  refine v_istore_n C0 (lv' := [(0, .int (bc1 x))]) (pc' := 10) rfl (by decide) rfl dJ6_bitCount_0f7a4_9 rfl ?_
  refine v_iload_n C0 (pc' := 11) 0 rfl rfl dJ6_bitCount_0f7a4_10 rfl ?_
  refine v_ldcw C0 (pc' := 14) 858993459 (C0.2.2.2.2 _ (by decide +kernel)) dJ6_bitCount_0f7a4_11 rfl ?_
  refine v_iand C0 (pc' := 15) dJ6_bitCount_0f7a4_14 rfl ?_
  refine v_iload_n C0 (pc' := 16) 0 rfl rfl dJ6_bitCount_0f7a4_15 rfl ?_
  refine v_iconst C0 (pc' := 17) 2 (by decide) dJ6_bitCount_0f7a4_16 rfl ?_
  refine v_iushr C0 (pc' := 18) dJ6_bitCount_0f7a4_17 rfl ?_
  refine v_ldcw C0 (pc' := 21) 858993459 (C0.2.2.2.2 _ (by decide +kernel)) dJ6_bitCount_0f7a4_18 rfl ?_
  refine v_iand C0 (pc' := 22) dJ6_bitCount_0f7a4_21 rfl ?_
  refine v_iadd C0 (pc' := 23) dJ6_bitCount_0f7a4_22 rfl ?_
  refine v_eqi (y := bc2 (bc1 x)) rfl ?_
  refine v_istore_n C0 (lv' := [(0, .int (bc2 (bc1 x)))]) (pc' := 24) rfl (by decide) rfl dJ6_bitCount_0f7a4_23 rfl ?_
  refine v_iload_n C0 (pc' := 25) 0 rfl rfl dJ6_bitCount_0f7a4_24 rfl ?_
  refine v_iload_n C0 (pc' := 26) 0 rfl rfl dJ6_bitCount_0f7a4_25 rfl ?_
  refine v_iconst C0 (pc' := 27) 4 (by decide) dJ6_bitCount_0f7a4_26 rfl ?_
  refine v_iushr C0 (pc' := 28) dJ6_bitCount_0f7a4_27 rfl ?_
  refine v_iadd C0 (pc' := 29) dJ6_bitCount_0f7a4_28 rfl ?_
  refine v_ldcw C0 (pc' := 32) 252645135 (C0.2.2.2.2 _ (by decide +kernel)) dJ6_bitCount_0f7a4_29 rfl ?_
  refine v_iand C0 (pc' := 33) dJ6_bitCount_0f7a4_32 rfl ?_
  refine v_eqi (y := bc3 (bc2 (bc1 x))) rfl ?_
  refine v_istore_n C0 (lv' := [(0, .int (bc3 (bc2 (bc1 x))))]) (pc' := 34) rfl (by decide) rfl dJ6_bitCount_0f7a4_33 rfl ?_
  refine v_iload_n C0 (pc' := 35) 0 rfl rfl dJ6_bitCount_0f7a4_34 rfl ?_
  refine v_iload_n C0 (pc' := 36) 0 rfl rfl dJ6_bitCount_0f7a4_35 rfl ?_
  refine v_bipush C0 (pc' := 38) 8 (by decide) dJ6_bitCount_0f7a4_36 rfl ?_
  refine v_iushr C0 (pc' := 39) dJ6_bitCount_0f7a4_38 rfl ?_
  refine v_iadd C0 (pc' := 40) dJ6_bitCount_0f7a4_39 rfl ?_
  refine v_eqi (y := bc4 (bc3 (bc2 (bc1 x)))) rfl ?_
  refine v_istore_n C0 (lv' := [(0, .int (bc4 (bc3 (bc2 (bc1 x)))))]) (pc' := 41) rfl (by decide) rfl dJ6_bitCount_0f7a4_40 rfl ?_
  refine v_iload_n C0 (pc' := 42) 0 rfl rfl dJ6_bitCount_0f7a4_41 rfl ?_
  refine v_iload_n C0 (pc' := 43) 0 rfl rfl dJ6_bitCount_0f7a4_42 rfl ?_
  refine v_bipush C0 (pc' := 45) 16 (by decide) dJ6_bitCount_0f7a4_43 rfl ?_
  refine v_iushr C0 (pc' := 46) dJ6_bitCount_0f7a4_45 rfl ?_
  refine v_iadd C0 (pc' := 47) dJ6_bitCount_0f7a4_46 rfl ?_
  refine v_eqi (y := bc5 (bc4 (bc3 (bc2 (bc1 x))))) rfl ?_
  refine v_istore_n C0 (lv' := [(0, .int (bc5 (bc4 (bc3 (bc2 (bc1 x))))))]) (pc' := 48) rfl (by decide) rfl dJ6_bitCount_0f7a4_47 rfl ?_
  refine v_iload_n C0 (pc' := 49) 0 rfl rfl dJ6_bitCount_0f7a4_48 rfl ?_
  refine v_bipush C0 (pc' := 51) 63 (by decide) dJ6_bitCount_0f7a4_49 rfl ?_
  refine v_iand C0 (pc' := 52) dJ6_bitCount_0f7a4_51 rfl ?_
  exact v_iret C0 hr hlk hK rfl dJ6_bitCount_0f7a4_52
def s_X0_endName (slot : Int32) : Int32 := if slot = (-1) then (-1) else ((slot / 6) * 10) + (slot - slot / 6 * 6)
set_option maxHeartbeats 4000000 in
set_option maxRecDepth 100000 in
theorem k_X0_endName (l : Launch) (D : va_G) (cI : ClassId)  (slot : Int32) : Ki l yX0_endName wsX0_endName 0 0 0 0 D (TI cI) [.int slot] ([]) ([]) (s_X0_endName slot) := by
  refine Ki.of (cc := cX0_endName) (maxL := 1) (rt := .int) (lv0 := [(0, .int slot)]) (by decide +kernel) rfl (Nat.le_of_ble_eq_true rfl) rfl ?_
  intro p e s m args below meth c A C0 hr hlk hK hA
  refine v_iload_n C0 (pc' := 1) 0 rfl rfl dX0_endName_0 rfl ?_
  refine v_iconst C0 (pc' := 2) (-1) (by decide) dX0_endName_1 rfl ?_
  refine v_icmp_ne C0 9 (pc' := 5) dX0_endName_2 (by decide) rfl (fun h1 => ?_) (fun h1 => ?_)
  · refine v_iload_n C0 (pc' := 10) 0 rfl rfl dX0_endName_9 rfl ?_
    refine v_bipush C0 (pc' := 12) 6 (by decide) dX0_endName_10 rfl ?_
    refine v_idiv C0 (pc' := 13) (by decide) dX0_endName_12 rfl ?_
    refine v_bipush C0 (pc' := 15) 10 (by decide) dX0_endName_13 rfl ?_
    refine v_imul C0 (pc' := 16) dX0_endName_15 rfl ?_
    refine v_iload_n C0 (pc' := 17) 0 rfl rfl dX0_endName_16 rfl ?_
    refine v_bipush C0 (pc' := 19) 6 (by decide) dX0_endName_17 rfl ?_
    refine v_irem C0 (pc' := 20) (by decide) dX0_endName_19 rfl ?_
    refine v_iadd C0 (pc' := 21) dX0_endName_20 rfl ?_
    exact v_iret C0 hr hlk hK (by simp only [s_X0_endName, if_neg h1]) dX0_endName_21
  · refine v_iconst C0 (pc' := 6) (-1) (by decide) dX0_endName_5 rfl ?_
    refine v_goto C0 21 dX0_endName_6 (by decide) ?_
    exact v_iret C0 hr hlk hK (by simp only [s_X0_endName, if_pos h1]) dX0_endName_21
def s_X0_isTagged (T : Nat → Int32) (slot : Int32) (lane : Int32) : Int32 := if ((xAt 36 T slot) &&& ((1 : Int32) <<< (lane &&& 31))) = 0 then 0 else 1
set_option maxHeartbeats 4000000 in
set_option maxRecDepth 100000 in
theorem k_X0_isTagged (l : Launch) (D : va_G) (cI : ClassId) (ad : Nat → Nat) (U : Nat → Int32) (T : Nat → Int32) (F : Nat → Int32) (C : Nat → Int32) (B : Nat → Int32) (RU : Nat → Int32) (RC : Nat → Int32) (WU : Nat → Int32) (ST : Nat → Int32) (RP : Nat → Int32) (RN : Int32) (WT : Nat → Int32) (SM : Nat → Int32) (CC : Int32) (TR : Int32) (slot : Int32) (lane : Int32) : Ki l yX0_isTagged wsX0_isTagged 1 21 0 0 D (TI cI) [.ref (ad 0), .int slot, .int lane] (wX cI ad U T F C B RU RC WU ST RP RN WT SM CC TR) (wX cI ad U T F C B RU RC WU ST RP RN WT SM CC TR) (s_X0_isTagged T slot lane) := by
  refine Ki.of (cc := cX0_isTagged) (maxL := 3) (rt := .boolean) (lv0 := [(0, .ref (ad 0)), (1, .int slot), (2, .int lane)]) (by decide +kernel) rfl (Nat.le_of_ble_eq_true rfl) rfl ?_
  intro p e s m args below meth c A C0 hr hlk hK hA
  refine v_aload_n C0 (pc' := 1) 0 rfl rfl dX0_isTagged_0 rfl ?_
  refine v_get C0 hK (C := RX0) (T := TX0) (N := 15) (pc' := 4) 0 1 rfl rfl rfl (by decide) in_X0_isTagged fl_X0_isTagged_13 rfl dX0_isTagged_1 rfl ?_
  refine v_iload_n C0 (pc' := 5) 1 rfl rfl dX0_isTagged_4 rfl ?_
  refine v_callSi0 C0 (av := [.ref (ad 2), .int slot]) (rest := []) (ws' := wX cI ad U T F C B RU RC WU ST RP RN WT SM CC TR) (pc' := 8) hK hA (k_X0_at l D cI (ad 2) 36 T slot (by decide)) (va_cwS 2 C0.2.2.2.2 gX0_isTagged_X0_at rfl rfl rfl (by decide +kernel) ⟨Nat.le_of_ble_eq_true rfl, Nat.le_of_ble_eq_true rfl⟩) (PLs.one0 2 rfl) rfl rfl (Nat.le_of_ble_eq_true rfl) ⟨Nat.zero_le _, Nat.zero_le _⟩ dX0_isTagged_5 rfl ?_
  refine v_iconst C0 (pc' := 9) 1 (by decide) dX0_isTagged_8 rfl ?_
  refine v_iload_n C0 (pc' := 10) 2 rfl rfl dX0_isTagged_9 rfl ?_
  refine v_ishl C0 (pc' := 11) dX0_isTagged_10 rfl ?_
  refine v_iand C0 (pc' := 12) dX0_isTagged_11 rfl ?_
  refine v_if_eq C0 19 (pc' := 15) dX0_isTagged_12 (by decide) rfl (fun h1 => ?_) (fun h1 => ?_)
  · refine v_iconst C0 (pc' := 20) 0 (by decide) dX0_isTagged_19 rfl ?_
    exact v_zret C0 hr hlk hK (Or.inl rfl : (0 : Int32) = 0 ∨ (0 : Int32) = 1) (by simp only [s_X0_isTagged, if_pos h1]) dX0_isTagged_20
  · refine v_iconst C0 (pc' := 16) 1 (by decide) dX0_isTagged_15 rfl ?_
    refine v_goto C0 20 dX0_isTagged_16 (by decide) ?_
    exact v_zret C0 hr hlk hK (Or.inr rfl : (1 : Int32) = 0 ∨ (1 : Int32) = 1) (by simp only [s_X0_isTagged, if_neg h1]) dX0_isTagged_20
theorem b_X0_isTagged (T : Nat → Int32) (slot : Int32) (lane : Int32) : s_X0_isTagged T slot lane = 0 ∨ s_X0_isTagged T slot lane = 1 := by unfold s_X0_isTagged; (repeat' split) <;> first | exact Or.inl rfl | exact Or.inr rfl
def s_X0_hasCable (F : Nat → Int32) (slot : Int32) : Int32 := if (xAt 36 F slot) = (-1) then 0 else 1
set_option maxHeartbeats 4000000 in
set_option maxRecDepth 100000 in
theorem k_X0_hasCable (l : Launch) (D : va_G) (cI : ClassId) (ad : Nat → Nat) (U : Nat → Int32) (T : Nat → Int32) (F : Nat → Int32) (C : Nat → Int32) (B : Nat → Int32) (RU : Nat → Int32) (RC : Nat → Int32) (WU : Nat → Int32) (ST : Nat → Int32) (RP : Nat → Int32) (RN : Int32) (WT : Nat → Int32) (SM : Nat → Int32) (CC : Int32) (TR : Int32) (slot : Int32) : Ki l yX0_hasCable wsX0_hasCable 1 21 0 0 D (TI cI) [.ref (ad 0), .int slot] (wX cI ad U T F C B RU RC WU ST RP RN WT SM CC TR) (wX cI ad U T F C B RU RC WU ST RP RN WT SM CC TR) (s_X0_hasCable F slot) := by
  refine Ki.of (cc := cX0_hasCable) (maxL := 2) (rt := .boolean) (lv0 := [(0, .ref (ad 0)), (1, .int slot)]) (by decide +kernel) rfl (Nat.le_of_ble_eq_true rfl) rfl ?_
  intro p e s m args below meth c A C0 hr hlk hK hA
  refine v_aload_n C0 (pc' := 1) 0 rfl rfl dX0_hasCable_0 rfl ?_
  refine v_get C0 hK (C := RX0) (T := TX0) (N := 15) (pc' := 4) 0 2 rfl rfl rfl (by decide) in_X0_hasCable fl_X0_hasCable_16 rfl dX0_hasCable_1 rfl ?_
  refine v_iload_n C0 (pc' := 5) 1 rfl rfl dX0_hasCable_4 rfl ?_
  refine v_callSi0 C0 (av := [.ref (ad 3), .int slot]) (rest := []) (ws' := wX cI ad U T F C B RU RC WU ST RP RN WT SM CC TR) (pc' := 8) hK hA (k_X0_at l D cI (ad 3) 36 F slot (by decide)) (va_cwS 2 C0.2.2.2.2 gX0_hasCable_X0_at rfl rfl rfl (by decide +kernel) ⟨Nat.le_of_ble_eq_true rfl, Nat.le_of_ble_eq_true rfl⟩) (PLs.one0 3 rfl) rfl rfl (Nat.le_of_ble_eq_true rfl) ⟨Nat.zero_le _, Nat.zero_le _⟩ dX0_hasCable_5 rfl ?_
  refine v_iconst C0 (pc' := 9) (-1) (by decide) dX0_hasCable_8 rfl ?_
  refine v_icmp_eq C0 16 (pc' := 12) dX0_hasCable_9 (by decide) rfl (fun h1 => ?_) (fun h1 => ?_)
  · refine v_iconst C0 (pc' := 17) 0 (by decide) dX0_hasCable_16 rfl ?_
    exact v_zret C0 hr hlk hK (Or.inl rfl : (0 : Int32) = 0 ∨ (0 : Int32) = 1) (by simp only [s_X0_hasCable, if_pos h1]) dX0_hasCable_17
  · refine v_iconst C0 (pc' := 13) 1 (by decide) dX0_hasCable_12 rfl ?_
    refine v_goto C0 17 dX0_hasCable_13 (by decide) ?_
    exact v_zret C0 hr hlk hK (Or.inr rfl : (1 : Int32) = 0 ∨ (1 : Int32) = 1) (by simp only [s_X0_hasCable, if_neg h1]) dX0_hasCable_17
theorem b_X0_hasCable (F : Nat → Int32) (slot : Int32) : s_X0_hasCable F slot = 0 ∨ s_X0_hasCable F slot = 1 := by unfold s_X0_hasCable; (repeat' split) <;> first | exact Or.inl rfl | exact Or.inr rfl
def s_X0_setCable_F (F : Nat → Int32) (slot : Int32) (fin : Int32) : Nat → Int32 := (xPut 36 F slot fin)
def s_X0_setCable_C (C : Nat → Int32) (slot : Int32) (cost : Int32) : Nat → Int32 := (xPut 36 C slot cost)
set_option maxHeartbeats 4000000 in
set_option maxRecDepth 100000 in
theorem k_X0_setCable (l : Launch) (D : va_G) (cI : ClassId) (ad : Nat → Nat) (U : Nat → Int32) (T : Nat → Int32) (F : Nat → Int32) (C : Nat → Int32) (B : Nat → Int32) (RU : Nat → Int32) (RC : Nat → Int32) (WU : Nat → Int32) (ST : Nat → Int32) (RP : Nat → Int32) (RN : Int32) (WT : Nat → Int32) (SM : Nat → Int32) (CC : Int32) (TR : Int32) (slot : Int32) (fin : Int32) (cost : Int32) : Kv l yX0_setCable wsX0_setCable 1 22 0 0 D (TI cI) [.ref (ad 0), .int slot, .int fin, .int cost] (wX cI ad U T F C B RU RC WU ST RP RN WT SM CC TR) (wX cI ad U T (s_X0_setCable_F F slot fin) (s_X0_setCable_C C slot cost) B RU RC WU ST RP RN WT SM CC TR) := by
  refine Kv.of (cc := cX0_setCable) (maxL := 4) (lv0 := [(0, .ref (ad 0)), (1, .int slot), (2, .int fin), (3, .int cost)]) (by decide +kernel) rfl (Nat.le_of_ble_eq_true rfl) rfl ?_
  intro p e s m args below meth c A C0 hr hlk hK hA
  refine v_aload_n C0 (pc' := 1) 0 rfl rfl dX0_setCable_0 rfl ?_
  refine v_get C0 hK (C := RX0) (T := TX0) (N := 15) (pc' := 4) 0 2 rfl rfl rfl (by decide) in_X0_setCable fl_X0_setCable_16 rfl dX0_setCable_1 rfl ?_
  refine v_iload_n C0 (pc' := 5) 1 rfl rfl dX0_setCable_4 rfl ?_
  refine v_iload_n C0 (pc' := 6) 2 rfl rfl dX0_setCable_5 rfl ?_
  refine v_callSv0 C0 (av := [.ref (ad 3), .int slot, .int fin]) (rest := []) (ws' := wX cI ad U T (xPut 36 F slot fin) C B RU RC WU ST RP RN WT SM CC TR) (pc' := 9) hK hA (k_X0_put l D cI (ad 3) 36 F slot fin (by decide)) (va_cwS 3 C0.2.2.2.2 gX0_setCable_X0_put rfl rfl rfl (by decide +kernel) ⟨Nat.le_of_ble_eq_true rfl, Nat.le_of_ble_eq_true rfl⟩) (PLs.one 3 rfl) rfl rfl (Nat.le_of_ble_eq_true rfl) ⟨Nat.zero_le _, Nat.zero_le _⟩ dX0_setCable_6 rfl ?_
  refine v_aload_n C0 (pc' := 10) 0 rfl rfl dX0_setCable_9 rfl ?_
  refine v_get C0 hK (C := RX0) (T := TX0) (N := 15) (pc' := 13) 0 3 rfl rfl rfl (by decide) in_X0_setCable fl_X0_setCable_19 rfl dX0_setCable_10 rfl ?_
  refine v_iload_n C0 (pc' := 14) 1 rfl rfl dX0_setCable_13 rfl ?_
  refine v_iload_n C0 (pc' := 15) 3 rfl rfl dX0_setCable_14 rfl ?_
  refine v_callSv0 C0 (av := [.ref (ad 4), .int slot, .int cost]) (rest := []) (ws' := wX cI ad U T (xPut 36 F slot fin) (xPut 36 C slot cost) B RU RC WU ST RP RN WT SM CC TR) (pc' := 18) hK hA (k_X0_put l D cI (ad 4) 36 C slot cost (by decide)) (va_cwS 3 C0.2.2.2.2 gX0_setCable_X0_put rfl rfl rfl (by decide +kernel) ⟨Nat.le_of_ble_eq_true rfl, Nat.le_of_ble_eq_true rfl⟩) (PLs.one 4 rfl) rfl rfl (Nat.le_of_ble_eq_true rfl) ⟨Nat.zero_le _, Nat.zero_le _⟩ dX0_setCable_15 rfl ?_
  refine v_world (ws' := wX cI ad U T (s_X0_setCable_F F slot fin) (s_X0_setCable_C C slot cost) B RU RC WU ST RP RN WT SM CC TR) rfl ?_
  exact v_vret C0 hr hlk hK dX0_setCable_18
def s_X0_hasLiveCable (F : Nat → Int32) (WU : Nat → Int32) (TR : Int32) (slot : Int32) : Int32 := if (xAt 36 F slot) = (-1) then 0 else (if TR = 0 then 1 else (if (xAt 6 WU (slot / 6)) = slot then 1 else (if (xAt 6 WU ((xAt 36 F slot) / 6)) = (xAt 36 F slot) then 1 else 0)))
set_option maxHeartbeats 4000000 in
set_option maxRecDepth 100000 in
theorem k_X0_hasLiveCable (l : Launch) (D : va_G) (cI : ClassId) (ad : Nat → Nat) (U : Nat → Int32) (T : Nat → Int32) (F : Nat → Int32) (C : Nat → Int32) (B : Nat → Int32) (RU : Nat → Int32) (RC : Nat → Int32) (WU : Nat → Int32) (ST : Nat → Int32) (RP : Nat → Int32) (RN : Int32) (WT : Nat → Int32) (SM : Nat → Int32) (CC : Int32) (TR : Int32) (slot : Int32) (hb_TR : TR = 0 ∨ TR = 1) : Ki l yX0_hasLiveCable wsX0_hasLiveCable 1 21 0 0 D (TI cI) [.ref (ad 0), .int slot] (wX cI ad U T F C B RU RC WU ST RP RN WT SM CC TR) (wX cI ad U T F C B RU RC WU ST RP RN WT SM CC TR) (s_X0_hasLiveCable F WU TR slot) := by
  refine Ki.of (cc := cX0_hasLiveCable) (maxL := 3) (rt := .boolean) (lv0 := [(0, .ref (ad 0)), (1, .int slot)]) (by decide +kernel) rfl (Nat.le_of_ble_eq_true rfl) rfl ?_
  intro p e s m args below meth c A C0 hr hlk hK hA
  refine v_aload_n C0 (pc' := 1) 0 rfl rfl dX0_hasLiveCable_0 rfl ?_
  refine v_get C0 hK (C := RX0) (T := TX0) (N := 15) (pc' := 4) 0 2 rfl rfl rfl (by decide) in_X0_hasLiveCable fl_X0_hasLiveCable_16 rfl dX0_hasLiveCable_1 rfl ?_
  refine v_iload_n C0 (pc' := 5) 1 rfl rfl dX0_hasLiveCable_4 rfl ?_
  refine v_callSi0 C0 (av := [.ref (ad 3), .int slot]) (rest := []) (ws' := wX cI ad U T F C B RU RC WU ST RP RN WT SM CC TR) (pc' := 8) hK hA (k_X0_at l D cI (ad 3) 36 F slot (by decide)) (va_cwS 2 C0.2.2.2.2 gX0_hasLiveCable_X0_at rfl rfl rfl (by decide +kernel) ⟨Nat.le_of_ble_eq_true rfl, Nat.le_of_ble_eq_true rfl⟩) (PLs.one0 3 rfl) rfl rfl (Nat.le_of_ble_eq_true rfl) ⟨Nat.zero_le _, Nat.zero_le _⟩ dX0_hasLiveCable_5 rfl ?_
  refine v_istore_n C0 (lv' := [(2, .int (xAt 36 F slot)), (0, .ref (ad 0)), (1, .int slot)]) (pc' := 9) rfl (by decide) rfl dX0_hasLiveCable_8 rfl ?_
  refine v_iload_n C0 (pc' := 10) 0 rfl rfl dX0_hasLiveCable_9 rfl ?_
  refine v_iconst C0 (pc' := 11) (-1) (by decide) dX0_hasLiveCable_10 rfl ?_
  refine v_icmp_ne C0 16 (pc' := 14) dX0_hasLiveCable_11 (by decide) rfl (fun h1 => ?_) (fun h1 => ?_)
  · refine v_aload_n C0 (pc' := 17) 1 rfl rfl dX0_hasLiveCable_16 rfl ?_
    refine v_get C0 hK (C := RX0) (T := TX0) (N := 15) (pc' := 20) 0 14 rfl rfl rfl (by decide) in_X0_hasLiveCable fl_X0_hasLiveCable_108 rfl dX0_hasLiveCable_17 rfl ?_
    refine v_if_eq C0 53 (pc' := 23) dX0_hasLiveCable_20 (by decide) rfl (fun h2 => ?_) (fun h2 => ?_)
    · refine v_iconst C0 (pc' := 54) 1 (by decide) dX0_hasLiveCable_53 rfl ?_
      refine v_goto C0 58 dX0_hasLiveCable_54 (by decide) ?_
      exact v_zret C0 hr hlk hK (Or.inr rfl : (1 : Int32) = 0 ∨ (1 : Int32) = 1) (by simp only [s_X0_hasLiveCable, if_neg h1, if_pos h2]) dX0_hasLiveCable_58
    · refine v_aload_n C0 (pc' := 24) 1 rfl rfl dX0_hasLiveCable_23 rfl ?_
      refine v_get C0 hK (C := RX0) (T := TX0) (N := 15) (pc' := 27) 0 7 rfl rfl rfl (by decide) in_X0_hasLiveCable fl_X0_hasLiveCable_31 rfl dX0_hasLiveCable_24 rfl ?_
      refine v_iload_n C0 (pc' := 28) 2 rfl rfl dX0_hasLiveCable_27 rfl ?_
      refine v_bipush C0 (pc' := 30) 6 (by decide) dX0_hasLiveCable_28 rfl ?_
      refine v_idiv C0 (pc' := 31) (by decide) dX0_hasLiveCable_30 rfl ?_
      refine v_callSi0 C0 (av := [.ref (ad 8), .int (slot / 6)]) (rest := []) (ws' := wX cI ad U T F C B RU RC WU ST RP RN WT SM CC TR) (pc' := 34) hK hA (k_X0_at l D cI (ad 8) 6 WU (slot / 6) (by decide)) (va_cwS 2 C0.2.2.2.2 gX0_hasLiveCable_X0_at rfl rfl rfl (by decide +kernel) ⟨Nat.le_of_ble_eq_true rfl, Nat.le_of_ble_eq_true rfl⟩) (PLs.one0 8 rfl) rfl rfl (Nat.le_of_ble_eq_true rfl) ⟨Nat.zero_le _, Nat.zero_le _⟩ dX0_hasLiveCable_31 rfl ?_
      refine v_iload_n C0 (pc' := 35) 2 rfl rfl dX0_hasLiveCable_34 rfl ?_
      refine v_icmp_eq C0 53 (pc' := 38) dX0_hasLiveCable_35 (by decide) rfl (fun h3 => ?_) (fun h3 => ?_)
      · refine v_iconst C0 (pc' := 54) 1 (by decide) dX0_hasLiveCable_53 rfl ?_
        refine v_goto C0 58 dX0_hasLiveCable_54 (by decide) ?_
        exact v_zret C0 hr hlk hK (Or.inr rfl : (1 : Int32) = 0 ∨ (1 : Int32) = 1) (by simp only [s_X0_hasLiveCable, if_neg h1, if_neg h2, if_pos h3]) dX0_hasLiveCable_58
      · refine v_aload_n C0 (pc' := 39) 1 rfl rfl dX0_hasLiveCable_38 rfl ?_
        refine v_get C0 hK (C := RX0) (T := TX0) (N := 15) (pc' := 42) 0 7 rfl rfl rfl (by decide) in_X0_hasLiveCable fl_X0_hasLiveCable_31 rfl dX0_hasLiveCable_39 rfl ?_
        refine v_iload_n C0 (pc' := 43) 0 rfl rfl dX0_hasLiveCable_42 rfl ?_
        refine v_bipush C0 (pc' := 45) 6 (by decide) dX0_hasLiveCable_43 rfl ?_
        refine v_idiv C0 (pc' := 46) (by decide) dX0_hasLiveCable_45 rfl ?_
        refine v_callSi0 C0 (av := [.ref (ad 8), .int ((xAt 36 F slot) / 6)]) (rest := []) (ws' := wX cI ad U T F C B RU RC WU ST RP RN WT SM CC TR) (pc' := 49) hK hA (k_X0_at l D cI (ad 8) 6 WU ((xAt 36 F slot) / 6) (by decide)) (va_cwS 2 C0.2.2.2.2 gX0_hasLiveCable_X0_at rfl rfl rfl (by decide +kernel) ⟨Nat.le_of_ble_eq_true rfl, Nat.le_of_ble_eq_true rfl⟩) (PLs.one0 8 rfl) rfl rfl (Nat.le_of_ble_eq_true rfl) ⟨Nat.zero_le _, Nat.zero_le _⟩ dX0_hasLiveCable_46 rfl ?_
        refine v_iload_n C0 (pc' := 50) 0 rfl rfl dX0_hasLiveCable_49 rfl ?_
        refine v_icmp_ne C0 57 (pc' := 53) dX0_hasLiveCable_50 (by decide) rfl (fun h4 => ?_) (fun h4 => ?_)
        · refine v_iconst C0 (pc' := 58) 0 (by decide) dX0_hasLiveCable_57 rfl ?_
          exact v_zret C0 hr hlk hK (Or.inl rfl : (0 : Int32) = 0 ∨ (0 : Int32) = 1) (by simp only [s_X0_hasLiveCable, if_neg h1, if_neg h2, if_neg h3, if_neg h4]) dX0_hasLiveCable_58
        · refine v_iconst C0 (pc' := 54) 1 (by decide) dX0_hasLiveCable_53 rfl ?_
          refine v_goto C0 58 dX0_hasLiveCable_54 (by decide) ?_
          exact v_zret C0 hr hlk hK (Or.inr rfl : (1 : Int32) = 0 ∨ (1 : Int32) = 1) (by simp only [s_X0_hasLiveCable, if_neg h1, if_neg h2, if_neg h3, if_pos h4]) dX0_hasLiveCable_58
  · refine v_iconst C0 (pc' := 15) 0 (by decide) dX0_hasLiveCable_14 rfl ?_
    exact v_zret C0 hr hlk hK (Or.inl rfl : (0 : Int32) = 0 ∨ (0 : Int32) = 1) (by simp only [s_X0_hasLiveCable, if_pos h1]) dX0_hasLiveCable_15
theorem b_X0_hasLiveCable (F : Nat → Int32) (WU : Nat → Int32) (TR : Int32) (slot : Int32) : s_X0_hasLiveCable F WU TR slot = 0 ∨ s_X0_hasLiveCable F WU TR slot = 1 := by unfold s_X0_hasLiveCable; (repeat' split) <;> first | exact Or.inl rfl | exact Or.inr rfl
def s_X0_laneBeyond (U : Nat → Int32) (T : Nat → Int32) (F : Nat → Int32) (slot : Int32) (lane : Int32) : Int32 := if (s_X0_isTagged T slot lane) = 0 then (if (xAt 36 U slot) = lane then (if (xAt 36 U (xAt 36 F slot)) = 0 then (-1) else xAt 36 U (xAt 36 F slot)) else (-1)) else (if (s_X0_isTagged T (xAt 36 F slot) lane) = 0 then (-1) else lane)
set_option maxHeartbeats 4000000 in
set_option maxRecDepth 100000 in
theorem k_X0_laneBeyond (l : Launch) (D : va_G) (cI : ClassId) (ad : Nat → Nat) (U : Nat → Int32) (T : Nat → Int32) (F : Nat → Int32) (C : Nat → Int32) (B : Nat → Int32) (RU : Nat → Int32) (RC : Nat → Int32) (WU : Nat → Int32) (ST : Nat → Int32) (RP : Nat → Int32) (RN : Int32) (WT : Nat → Int32) (SM : Nat → Int32) (CC : Int32) (TR : Int32) (slot : Int32) (lane : Int32) : Ki l yX0_laneBeyond wsX0_laneBeyond 2 43 0 0 D (TI cI) [.ref (ad 0), .int slot, .int lane] (wX cI ad U T F C B RU RC WU ST RP RN WT SM CC TR) (wX cI ad U T F C B RU RC WU ST RP RN WT SM CC TR) (s_X0_laneBeyond U T F slot lane) := by
  refine Ki.of (cc := cX0_laneBeyond) (maxL := 5) (rt := .int) (lv0 := [(0, .ref (ad 0)), (1, .int slot), (2, .int lane)]) (by decide +kernel) rfl (Nat.le_of_ble_eq_true rfl) rfl ?_
  intro p e s m args below meth c A C0 hr hlk hK hA
  refine v_aload_n C0 (pc' := 1) 0 rfl rfl dX0_laneBeyond_0 rfl ?_
  refine v_get C0 hK (C := RX0) (T := TX0) (N := 15) (pc' := 4) 0 2 rfl rfl rfl (by decide) in_X0_laneBeyond fl_X0_laneBeyond_16 rfl dX0_laneBeyond_1 rfl ?_
  refine v_iload_n C0 (pc' := 5) 1 rfl rfl dX0_laneBeyond_4 rfl ?_
  refine v_callSi0 C0 (av := [.ref (ad 3), .int slot]) (rest := []) (ws' := wX cI ad U T F C B RU RC WU ST RP RN WT SM CC TR) (pc' := 8) hK hA (k_X0_at l D cI (ad 3) 36 F slot (by decide)) (va_cwS 2 C0.2.2.2.2 gX0_laneBeyond_X0_at rfl rfl rfl (by decide +kernel) ⟨Nat.le_of_ble_eq_true rfl, Nat.le_of_ble_eq_true rfl⟩) (PLs.one0 3 rfl) rfl rfl (Nat.le_of_ble_eq_true rfl) ⟨Nat.zero_le _, Nat.zero_le _⟩ dX0_laneBeyond_5 rfl ?_
  refine v_istore_n C0 (lv' := [(3, .int (xAt 36 F slot)), (0, .ref (ad 0)), (1, .int slot), (2, .int lane)]) (pc' := 9) rfl (by decide) rfl dX0_laneBeyond_8 rfl ?_
  refine v_aload_n C0 (pc' := 10) 1 rfl rfl dX0_laneBeyond_9 rfl ?_
  refine v_iload_n C0 (pc' := 11) 2 rfl rfl dX0_laneBeyond_10 rfl ?_
  refine v_iload_n C0 (pc' := 12) 3 rfl rfl dX0_laneBeyond_11 rfl ?_
  refine v_callVi0 C0 (av := [.int slot, .int lane]) (rest := []) (ws' := wX cI ad U T F C B RU RC WU ST RP RN WT SM CC TR) (pc' := 15) hK hA (k_X0_isTagged l D cI ad U T F C B RU RC WU ST RP RN WT SM CC TR slot lane) (cwV 2 C0.2.2.2.2 gX0_laneBeyond_X0_isTagged rfl rfl rfl (by decide +kernel) ⟨Nat.le_of_ble_eq_true rfl, Nat.le_of_ble_eq_true rfl⟩) ⟨0, 0, _, _, _, rfl, rfl⟩ PLs.all rfl rfl (Nat.le_of_ble_eq_true rfl) ⟨Nat.zero_le _, Nat.zero_le _⟩ dX0_laneBeyond_12 rfl ?_
  refine v_if_eq C0 33 (pc' := 18) dX0_laneBeyond_15 (by decide) rfl (fun h1 => ?_) (fun h1 => ?_)
  · refine v_aload_n C0 (pc' := 34) 1 rfl rfl dX0_laneBeyond_33 rfl ?_
    refine v_get C0 hK (C := RX0) (T := TX0) (N := 15) (pc' := 37) 0 0 rfl rfl rfl (by decide) in_X0_laneBeyond fl_X0_laneBeyond_9 rfl dX0_laneBeyond_34 rfl ?_
    refine v_iload_n C0 (pc' := 38) 0 rfl rfl dX0_laneBeyond_37 rfl ?_
    refine v_callSi0 C0 (av := [.ref (ad 1), .int (xAt 36 F slot)]) (rest := []) (ws' := wX cI ad U T F C B RU RC WU ST RP RN WT SM CC TR) (pc' := 41) hK hA (k_X0_at l D cI (ad 1) 36 U (xAt 36 F slot) (by decide)) (va_cwS 2 C0.2.2.2.2 gX0_laneBeyond_X0_at rfl rfl rfl (by decide +kernel) ⟨Nat.le_of_ble_eq_true rfl, Nat.le_of_ble_eq_true rfl⟩) (PLs.one0 1 rfl) rfl rfl (Nat.le_of_ble_eq_true rfl) ⟨Nat.zero_le _, Nat.zero_le _⟩ dX0_laneBeyond_38 rfl ?_
    refine v_istore C0 (lv' := [(4, .int (xAt 36 U (xAt 36 F slot))), (3, .int (xAt 36 F slot)), (0, .ref (ad 0)), (1, .int slot), (2, .int lane)]) (pc' := 43) (by decide) rfl dX0_laneBeyond_41 rfl ?_
    refine v_aload_n C0 (pc' := 44) 2 rfl rfl dX0_laneBeyond_43 rfl ?_
    refine v_get C0 hK (C := RX0) (T := TX0) (N := 15) (pc' := 47) 0 0 rfl rfl rfl (by decide) in_X0_laneBeyond fl_X0_laneBeyond_9 rfl dX0_laneBeyond_44 rfl ?_
    refine v_iload_n C0 (pc' := 48) 3 rfl rfl dX0_laneBeyond_47 rfl ?_
    refine v_callSi0 C0 (av := [.ref (ad 1), .int slot]) (rest := []) (ws' := wX cI ad U T F C B RU RC WU ST RP RN WT SM CC TR) (pc' := 51) hK hA (k_X0_at l D cI (ad 1) 36 U slot (by decide)) (va_cwS 2 C0.2.2.2.2 gX0_laneBeyond_X0_at rfl rfl rfl (by decide +kernel) ⟨Nat.le_of_ble_eq_true rfl, Nat.le_of_ble_eq_true rfl⟩) (PLs.one0 1 rfl) rfl rfl (Nat.le_of_ble_eq_true rfl) ⟨Nat.zero_le _, Nat.zero_le _⟩ dX0_laneBeyond_48 rfl ?_
    refine v_iload_n C0 (pc' := 52) 4 rfl rfl dX0_laneBeyond_51 rfl ?_
    refine v_icmp_ne C0 65 (pc' := 55) dX0_laneBeyond_52 (by decide) rfl (fun h2 => ?_) (fun h2 => ?_)
    · refine v_iconst C0 (pc' := 66) (-1) (by decide) dX0_laneBeyond_65 rfl ?_
      exact v_iret C0 hr hlk hK (by simp only [s_X0_laneBeyond, if_pos h1, if_neg h2]) dX0_laneBeyond_66
    · refine v_iload C0 (pc' := 57) 0 rfl dX0_laneBeyond_55 rfl ?_
      refine v_if_eq C0 65 (pc' := 60) dX0_laneBeyond_57 (by decide) rfl (fun h3 => ?_) (fun h3 => ?_)
      · refine v_iconst C0 (pc' := 66) (-1) (by decide) dX0_laneBeyond_65 rfl ?_
        exact v_iret C0 hr hlk hK (by simp only [s_X0_laneBeyond, if_pos h1, if_pos h2, if_pos h3]) dX0_laneBeyond_66
      · refine v_iload C0 (pc' := 62) 0 rfl dX0_laneBeyond_60 rfl ?_
        refine v_goto C0 66 dX0_laneBeyond_62 (by decide) ?_
        exact v_iret C0 hr hlk hK (by simp only [s_X0_laneBeyond, if_pos h1, if_pos h2, if_neg h3]) dX0_laneBeyond_66
  · refine v_aload_n C0 (pc' := 19) 1 rfl rfl dX0_laneBeyond_18 rfl ?_
    refine v_iload_n C0 (pc' := 20) 0 rfl rfl dX0_laneBeyond_19 rfl ?_
    refine v_iload_n C0 (pc' := 21) 3 rfl rfl dX0_laneBeyond_20 rfl ?_
    refine v_callVi0 C0 (av := [.int (xAt 36 F slot), .int lane]) (rest := []) (ws' := wX cI ad U T F C B RU RC WU ST RP RN WT SM CC TR) (pc' := 24) hK hA (k_X0_isTagged l D cI ad U T F C B RU RC WU ST RP RN WT SM CC TR (xAt 36 F slot) lane) (cwV 2 C0.2.2.2.2 gX0_laneBeyond_X0_isTagged rfl rfl rfl (by decide +kernel) ⟨Nat.le_of_ble_eq_true rfl, Nat.le_of_ble_eq_true rfl⟩) ⟨0, 0, _, _, _, rfl, rfl⟩ PLs.all rfl rfl (Nat.le_of_ble_eq_true rfl) ⟨Nat.zero_le _, Nat.zero_le _⟩ dX0_laneBeyond_21 rfl ?_
    refine v_if_eq C0 31 (pc' := 27) dX0_laneBeyond_24 (by decide) rfl (fun h4 => ?_) (fun h4 => ?_)
    · refine v_iconst C0 (pc' := 32) (-1) (by decide) dX0_laneBeyond_31 rfl ?_
      exact v_iret C0 hr hlk hK (by simp only [s_X0_laneBeyond, if_neg h1, if_pos h4]) dX0_laneBeyond_32
    · refine v_iload_n C0 (pc' := 28) 3 rfl rfl dX0_laneBeyond_27 rfl ?_
      refine v_goto C0 32 dX0_laneBeyond_28 (by decide) ?_
      exact v_iret C0 hr hlk hK (by simp only [s_X0_laneBeyond, if_neg h1, if_neg h4]) dX0_laneBeyond_32
def s_X0_reach_ST (ST : Nat → Int32) (place : Int32) (cables : Int32) : Nat → Int32 := (xPut 96 ST place cables)
def s_X0_reach_RP (RP : Nat → Int32) (RN : Int32) (place : Int32) : Nat → Int32 := (xPut 96 RP RN place)
def s_X0_reach_RN (RN : Int32) : Int32 := (RN + 1)
set_option maxHeartbeats 4000000 in
set_option maxRecDepth 100000 in
theorem k_X0_reach (l : Launch) (D : va_G) (cI : ClassId) (ad : Nat → Nat) (U : Nat → Int32) (T : Nat → Int32) (F : Nat → Int32) (C : Nat → Int32) (B : Nat → Int32) (RU : Nat → Int32) (RC : Nat → Int32) (WU : Nat → Int32) (ST : Nat → Int32) (RP : Nat → Int32) (RN : Int32) (WT : Nat → Int32) (SM : Nat → Int32) (CC : Int32) (TR : Int32) (place : Int32) (cables : Int32) : Kv l yX0_reach wsX0_reach 1 22 0 0 D (TI cI) [.ref (ad 0), .int place, .int cables] (wX cI ad U T F C B RU RC WU ST RP RN WT SM CC TR) (wX cI ad U T F C B RU RC WU (s_X0_reach_ST ST place cables) (s_X0_reach_RP RP RN place) (s_X0_reach_RN RN) WT SM CC TR) := by
  refine Kv.of (cc := cX0_reach) (maxL := 3) (lv0 := [(0, .ref (ad 0)), (1, .int place), (2, .int cables)]) (by decide +kernel) rfl (Nat.le_of_ble_eq_true rfl) rfl ?_
  intro p e s m args below meth c A C0 hr hlk hK hA
  refine v_aload_n C0 (pc' := 1) 0 rfl rfl dX0_reach_0 rfl ?_
  refine v_get C0 hK (C := RX0) (T := TX0) (N := 15) (pc' := 4) 0 8 rfl rfl rfl (by decide) in_X0_reach fl_X0_reach_34 rfl dX0_reach_1 rfl ?_
  refine v_iload_n C0 (pc' := 5) 1 rfl rfl dX0_reach_4 rfl ?_
  refine v_iload_n C0 (pc' := 6) 2 rfl rfl dX0_reach_5 rfl ?_
  refine v_callSv0 C0 (av := [.ref (ad 9), .int place, .int cables]) (rest := []) (ws' := wX cI ad U T F C B RU RC WU (xPut 96 ST place cables) RP RN WT SM CC TR) (pc' := 9) hK hA (k_X0_put l D cI (ad 9) 96 ST place cables (by decide)) (va_cwS 3 C0.2.2.2.2 gX0_reach_X0_put rfl rfl rfl (by decide +kernel) ⟨Nat.le_of_ble_eq_true rfl, Nat.le_of_ble_eq_true rfl⟩) (PLs.one 9 rfl) rfl rfl (Nat.le_of_ble_eq_true rfl) ⟨Nat.zero_le _, Nat.zero_le _⟩ dX0_reach_6 rfl ?_
  refine v_aload_n C0 (pc' := 10) 0 rfl rfl dX0_reach_9 rfl ?_
  refine v_get C0 hK (C := RX0) (T := TX0) (N := 15) (pc' := 13) 0 9 rfl rfl rfl (by decide) in_X0_reach fl_X0_reach_37 rfl dX0_reach_10 rfl ?_
  refine v_aload_n C0 (pc' := 14) 0 rfl rfl dX0_reach_13 rfl ?_
  refine v_get C0 hK (C := RX0) (T := TX0) (N := 15) (pc' := 17) 0 10 rfl rfl rfl (by decide) in_X0_reach fl_X0_reach_143 rfl dX0_reach_14 rfl ?_
  refine v_iload_n C0 (pc' := 18) 1 rfl rfl dX0_reach_17 rfl ?_
  refine v_callSv0 C0 (av := [.ref (ad 10), .int RN, .int place]) (rest := []) (ws' := wX cI ad U T F C B RU RC WU (xPut 96 ST place cables) (xPut 96 RP RN place) RN WT SM CC TR) (pc' := 21) hK hA (k_X0_put l D cI (ad 10) 96 RP RN place (by decide)) (va_cwS 3 C0.2.2.2.2 gX0_reach_X0_put rfl rfl rfl (by decide +kernel) ⟨Nat.le_of_ble_eq_true rfl, Nat.le_of_ble_eq_true rfl⟩) (PLs.one 10 rfl) rfl rfl (Nat.le_of_ble_eq_true rfl) ⟨Nat.zero_le _, Nat.zero_le _⟩ dX0_reach_18 rfl ?_
  refine v_aload_n C0 (pc' := 22) 0 rfl rfl dX0_reach_21 rfl ?_
  refine v_dup C0 (pc' := 23) rfl dX0_reach_22 rfl ?_
  refine v_get C0 hK (C := RX0) (T := TX0) (N := 15) (pc' := 26) 0 10 rfl rfl rfl (by decide) in_X0_reach fl_X0_reach_143 rfl dX0_reach_23 rfl ?_
  refine v_iconst C0 (pc' := 27) 1 (by decide) dX0_reach_26 rfl ?_
  refine v_iadd C0 (pc' := 28) dX0_reach_27 rfl ?_
  refine v_put C0 hK (C := RX0) (T := TX0) (N := 15) (ws' := wX cI ad U T F C B RU RC WU (xPut 96 ST place cables) (xPut 96 RP RN place) (RN + 1) WT SM CC TR) (pc' := 31) 0 10 tyX0 rfl rfl rfl (by decide) (Nat.le_of_ble_eq_true rfl) tyX0_ok nmX0 in_X0_reach fl_X0_reach_143 rfl rfl rfl rfl rfl dX0_reach_28 rfl ?_
  refine v_world (ws' := wX cI ad U T F C B RU RC WU (s_X0_reach_ST ST place cables) (s_X0_reach_RP RP RN place) (s_X0_reach_RN RN) WT SM CC TR) rfl ?_
  exact v_vret C0 hr hlk hK dX0_reach_31
def s_X0_forgetWalks_ST (ST : Nat → Int32) : Nat → Int32 := (xFill ST (-1) 96)
def s_X0_forgetWalks_RN  : Int32 := 0
set_option maxHeartbeats 4000000 in
set_option maxRecDepth 100000 in
theorem k_X0_forgetWalks (l : Launch) (D : va_G) (cI : ClassId) (ad : Nat → Nat) (U : Nat → Int32) (T : Nat → Int32) (F : Nat → Int32) (C : Nat → Int32) (B : Nat → Int32) (RU : Nat → Int32) (RC : Nat → Int32) (WU : Nat → Int32) (ST : Nat → Int32) (RP : Nat → Int32) (RN : Int32) (WT : Nat → Int32) (SM : Nat → Int32) (CC : Int32) (TR : Int32)  : Kv l yX0_forgetWalks wsX0_forgetWalks 1 23 0 0 D (TI cI) [.ref (ad 0)] (wX cI ad U T F C B RU RC WU ST RP RN WT SM CC TR) (wX cI ad U T F C B RU RC WU (s_X0_forgetWalks_ST ST) RP (s_X0_forgetWalks_RN ) WT SM CC TR) := by
  refine Kv.of (cc := cX0_forgetWalks) (maxL := 1) (lv0 := [(0, .ref (ad 0))]) (by decide +kernel) rfl (Nat.le_of_ble_eq_true rfl) rfl ?_
  intro p e s m args below meth c A C0 hr hlk hK hA
  refine v_aload_n C0 (pc' := 1) 0 rfl rfl dX0_forgetWalks_0 rfl ?_
  refine v_get C0 hK (C := RX0) (T := TX0) (N := 15) (pc' := 4) 0 8 rfl rfl rfl (by decide) in_X0_forgetWalks fl_X0_forgetWalks_34 rfl dX0_forgetWalks_1 rfl ?_
  refine v_iconst C0 (pc' := 5) (-1) (by decide) dX0_forgetWalks_4 rfl ?_
  refine v_callSv0 C0 (av := [.ref (ad 9), .int (-1)]) (rest := []) (ws' := wX cI ad U T F C B RU RC WU (xFill ST (-1) 96) RP RN WT SM CC TR) (pc' := 8) hK hA (k_J7_fill_53178 l D cI (ad 9) 96 ST (-1) (by decide)) (va_cwS 2 C0.2.2.2.2 gX0_forgetWalks_J7_fill_53178 rfl rfl rfl (by decide +kernel) ⟨Nat.le_of_ble_eq_true rfl, Nat.le_of_ble_eq_true rfl⟩) (PLs.one 9 rfl) rfl rfl (Nat.le_of_ble_eq_true rfl) ⟨Nat.zero_le _, Nat.zero_le _⟩ dX0_forgetWalks_5 rfl ?_
  refine v_aload_n C0 (pc' := 9) 0 rfl rfl dX0_forgetWalks_8 rfl ?_
  refine v_iconst C0 (pc' := 10) 0 (by decide) dX0_forgetWalks_9 rfl ?_
  refine v_put C0 hK (C := RX0) (T := TX0) (N := 15) (ws' := wX cI ad U T F C B RU RC WU (xFill ST (-1) 96) RP 0 WT SM CC TR) (pc' := 13) 0 10 tyX0 rfl rfl rfl (by decide) (Nat.le_of_ble_eq_true rfl) tyX0_ok nmX0 in_X0_forgetWalks fl_X0_forgetWalks_143 rfl rfl rfl rfl rfl dX0_forgetWalks_10 rfl ?_
  refine v_world (ws' := wX cI ad U T F C B RU RC WU (s_X0_forgetWalks_ST ST) RP (s_X0_forgetWalks_RN ) WT SM CC TR) rfl ?_
  exact v_vret C0 hr hlk hK dX0_forgetWalks_13
def s_X0_placeBeyond (U : Nat → Int32) (T : Nat → Int32) (F : Nat → Int32) (WU : Nat → Int32) (TR : Int32) (slot : Int32) (lane : Int32) : Int32 := if (s_X0_hasLiveCable F WU TR slot) = 0 then (-1) else (if (s_X0_laneBeyond U T F slot lane) = (-1) then (-1) else (((xAt 36 F slot) / 6) * 16) + (s_X0_laneBeyond U T F slot lane))
set_option maxHeartbeats 4000000 in
set_option maxRecDepth 100000 in
theorem k_X0_placeBeyond (l : Launch) (D : va_G) (cI : ClassId) (ad : Nat → Nat) (U : Nat → Int32) (T : Nat → Int32) (F : Nat → Int32) (C : Nat → Int32) (B : Nat → Int32) (RU : Nat → Int32) (RC : Nat → Int32) (WU : Nat → Int32) (ST : Nat → Int32) (RP : Nat → Int32) (RN : Int32) (WT : Nat → Int32) (SM : Nat → Int32) (CC : Int32) (TR : Int32) (slot : Int32) (lane : Int32) (hb_TR : TR = 0 ∨ TR = 1) : Ki l yX0_placeBeyond wsX0_placeBeyond 3 67 0 0 D (TI cI) [.ref (ad 0), .int slot, .int lane] (wX cI ad U T F C B RU RC WU ST RP RN WT SM CC TR) (wX cI ad U T F C B RU RC WU ST RP RN WT SM CC TR) (s_X0_placeBeyond U T F WU TR slot lane) := by
  refine Ki.of (cc := cX0_placeBeyond) (maxL := 4) (rt := .int) (lv0 := [(0, .ref (ad 0)), (1, .int slot), (2, .int lane)]) (by decide +kernel) rfl (Nat.le_of_ble_eq_true rfl) rfl ?_
  intro p e s m args below meth c A C0 hr hlk hK hA
  refine v_aload_n C0 (pc' := 1) 0 rfl rfl dX0_placeBeyond_0 rfl ?_
  refine v_iload_n C0 (pc' := 2) 1 rfl rfl dX0_placeBeyond_1 rfl ?_
  refine v_callVi0 C0 (av := [.int slot]) (rest := []) (ws' := wX cI ad U T F C B RU RC WU ST RP RN WT SM CC TR) (pc' := 5) hK hA (k_X0_hasLiveCable l D cI ad U T F C B RU RC WU ST RP RN WT SM CC TR slot hb_TR) (cwV 1 C0.2.2.2.2 gX0_placeBeyond_X0_hasLiveCable rfl rfl rfl (by decide +kernel) ⟨Nat.le_of_ble_eq_true rfl, Nat.le_of_ble_eq_true rfl⟩) ⟨0, 0, _, _, _, rfl, rfl⟩ PLs.all rfl rfl (Nat.le_of_ble_eq_true rfl) ⟨Nat.zero_le _, Nat.zero_le _⟩ dX0_placeBeyond_2 rfl ?_
  refine v_if_eq C0 17 (pc' := 8) dX0_placeBeyond_5 (by decide) rfl (fun h1 => ?_) (fun h1 => ?_)
  · refine v_iconst C0 (pc' := 18) (-1) (by decide) dX0_placeBeyond_17 rfl ?_
    refine v_istore_n C0 (lv' := [(3, .int (-1)), (0, .ref (ad 0)), (1, .int slot), (2, .int lane)]) (pc' := 19) rfl (by decide) rfl dX0_placeBeyond_18 rfl ?_
    refine v_iload_n C0 (pc' := 20) 0 rfl rfl dX0_placeBeyond_19 rfl ?_
    refine v_iconst C0 (pc' := 21) (-1) (by decide) dX0_placeBeyond_20 rfl ?_
    refine v_icmp_ne C0 26 (pc' := 24) dX0_placeBeyond_21 (by decide) rfl (fun h2 => ?_) (fun h2 => ?_)
    · exact absurd (by decide) h2
    · refine v_iconst C0 (pc' := 25) (-1) (by decide) dX0_placeBeyond_24 rfl ?_
      exact v_iret C0 hr hlk hK (by simp only [s_X0_placeBeyond, if_pos h1]) dX0_placeBeyond_25
  · refine v_aload_n C0 (pc' := 9) 0 rfl rfl dX0_placeBeyond_8 rfl ?_
    refine v_iload_n C0 (pc' := 10) 1 rfl rfl dX0_placeBeyond_9 rfl ?_
    refine v_iload_n C0 (pc' := 11) 2 rfl rfl dX0_placeBeyond_10 rfl ?_
    refine v_callVi0 C0 (av := [.int slot, .int lane]) (rest := []) (ws' := wX cI ad U T F C B RU RC WU ST RP RN WT SM CC TR) (pc' := 14) hK hA (k_X0_laneBeyond l D cI ad U T F C B RU RC WU ST RP RN WT SM CC TR slot lane) (cwV 2 C0.2.2.2.2 gX0_placeBeyond_X0_laneBeyond rfl rfl rfl (by decide +kernel) ⟨Nat.le_of_ble_eq_true rfl, Nat.le_of_ble_eq_true rfl⟩) ⟨0, 0, _, _, _, rfl, rfl⟩ PLs.all rfl rfl (Nat.le_of_ble_eq_true rfl) ⟨Nat.zero_le _, Nat.zero_le _⟩ dX0_placeBeyond_11 rfl ?_
    refine v_goto C0 18 dX0_placeBeyond_14 (by decide) ?_
    refine v_istore_n C0 (lv' := [(3, .int (s_X0_laneBeyond U T F slot lane)), (0, .ref (ad 0)), (1, .int slot), (2, .int lane)]) (pc' := 19) rfl (by decide) rfl dX0_placeBeyond_18 rfl ?_
    refine v_iload_n C0 (pc' := 20) 0 rfl rfl dX0_placeBeyond_19 rfl ?_
    refine v_iconst C0 (pc' := 21) (-1) (by decide) dX0_placeBeyond_20 rfl ?_
    refine v_icmp_ne C0 26 (pc' := 24) dX0_placeBeyond_21 (by decide) rfl (fun h3 => ?_) (fun h3 => ?_)
    · refine v_aload_n C0 (pc' := 27) 1 rfl rfl dX0_placeBeyond_26 rfl ?_
      refine v_get C0 hK (C := RX0) (T := TX0) (N := 15) (pc' := 30) 0 2 rfl rfl rfl (by decide) in_X0_placeBeyond fl_X0_placeBeyond_16 rfl dX0_placeBeyond_27 rfl ?_
      refine v_iload_n C0 (pc' := 31) 2 rfl rfl dX0_placeBeyond_30 rfl ?_
      refine v_callSi0 C0 (av := [.ref (ad 3), .int slot]) (rest := []) (ws' := wX cI ad U T F C B RU RC WU ST RP RN WT SM CC TR) (pc' := 34) hK hA (k_X0_at l D cI (ad 3) 36 F slot (by decide)) (va_cwS 2 C0.2.2.2.2 gX0_placeBeyond_X0_at rfl rfl rfl (by decide +kernel) ⟨Nat.le_of_ble_eq_true rfl, Nat.le_of_ble_eq_true rfl⟩) (PLs.one0 3 rfl) rfl rfl (Nat.le_of_ble_eq_true rfl) ⟨Nat.zero_le _, Nat.zero_le _⟩ dX0_placeBeyond_31 rfl ?_
      refine v_bipush C0 (pc' := 36) 6 (by decide) dX0_placeBeyond_34 rfl ?_
      refine v_idiv C0 (pc' := 37) (by decide) dX0_placeBeyond_36 rfl ?_
      refine v_bipush C0 (pc' := 39) 16 (by decide) dX0_placeBeyond_37 rfl ?_
      refine v_imul C0 (pc' := 40) dX0_placeBeyond_39 rfl ?_
      refine v_iload_n C0 (pc' := 41) 0 rfl rfl dX0_placeBeyond_40 rfl ?_
      refine v_iadd C0 (pc' := 42) dX0_placeBeyond_41 rfl ?_
      exact v_iret C0 hr hlk hK (by simp only [s_X0_placeBeyond, if_neg h1, if_neg h3]) dX0_placeBeyond_42
    · refine v_iconst C0 (pc' := 25) (-1) (by decide) dX0_placeBeyond_24 rfl ?_
      exact v_iret C0 hr hlk hK (by simp only [s_X0_placeBeyond, if_neg h1, if_pos h3]) dX0_placeBeyond_25
def s_X0_waysOver (U : Nat → Int32) (T : Nat → Int32) (slot : Int32) (fin : Int32) : Int32 := if (xAt 36 U slot) = 0 then s_J6_bitCount_0f7a4 ((xAt 36 T slot) &&& (xAt 36 T fin)) else (if (xAt 36 U fin) = 0 then s_J6_bitCount_0f7a4 ((xAt 36 T slot) &&& (xAt 36 T fin)) else (s_J6_bitCount_0f7a4 ((xAt 36 T slot) &&& (xAt 36 T fin))) + 1)
set_option maxHeartbeats 4000000 in
set_option maxRecDepth 100000 in
theorem k_X0_waysOver (l : Launch) (D : va_G) (cI : ClassId) (ad : Nat → Nat) (U : Nat → Int32) (T : Nat → Int32) (F : Nat → Int32) (C : Nat → Int32) (B : Nat → Int32) (RU : Nat → Int32) (RC : Nat → Int32) (WU : Nat → Int32) (ST : Nat → Int32) (RP : Nat → Int32) (RN : Int32) (WT : Nat → Int32) (SM : Nat → Int32) (CC : Int32) (TR : Int32) (slot : Int32) (fin : Int32) : Ki l yX0_waysOver wsX0_waysOver 1 21 0 0 D (TI cI) [.ref (ad 0), .int slot, .int fin] (wX cI ad U T F C B RU RC WU ST RP RN WT SM CC TR) (wX cI ad U T F C B RU RC WU ST RP RN WT SM CC TR) (s_X0_waysOver U T slot fin) := by
  refine Ki.of (cc := cX0_waysOver) (maxL := 5) (rt := .int) (lv0 := [(0, .ref (ad 0)), (1, .int slot), (2, .int fin)]) (by decide +kernel) rfl (Nat.le_of_ble_eq_true rfl) rfl ?_
  intro p e s m args below meth c A C0 hr hlk hK hA
  refine v_aload_n C0 (pc' := 1) 0 rfl rfl dX0_waysOver_0 rfl ?_
  refine v_get C0 hK (C := RX0) (T := TX0) (N := 15) (pc' := 4) 0 1 rfl rfl rfl (by decide) in_X0_waysOver fl_X0_waysOver_13 rfl dX0_waysOver_1 rfl ?_
  refine v_iload_n C0 (pc' := 5) 1 rfl rfl dX0_waysOver_4 rfl ?_
  refine v_callSi0 C0 (av := [.ref (ad 2), .int slot]) (rest := []) (ws' := wX cI ad U T F C B RU RC WU ST RP RN WT SM CC TR) (pc' := 8) hK hA (k_X0_at l D cI (ad 2) 36 T slot (by decide)) (va_cwS 2 C0.2.2.2.2 gX0_waysOver_X0_at rfl rfl rfl (by decide +kernel) ⟨Nat.le_of_ble_eq_true rfl, Nat.le_of_ble_eq_true rfl⟩) (PLs.one0 2 rfl) rfl rfl (Nat.le_of_ble_eq_true rfl) ⟨Nat.zero_le _, Nat.zero_le _⟩ dX0_waysOver_5 rfl ?_
  refine v_aload_n C0 (pc' := 9) 0 rfl rfl dX0_waysOver_8 rfl ?_
  refine v_get C0 hK (C := RX0) (T := TX0) (N := 15) (pc' := 12) 0 1 rfl rfl rfl (by decide) in_X0_waysOver fl_X0_waysOver_13 rfl dX0_waysOver_9 rfl ?_
  refine v_iload_n C0 (pc' := 13) 2 rfl rfl dX0_waysOver_12 rfl ?_
  refine v_callSi0 C0 (av := [.ref (ad 2), .int fin]) (rest := [.int (xAt 36 T slot)]) (ws' := wX cI ad U T F C B RU RC WU ST RP RN WT SM CC TR) (pc' := 16) hK hA (k_X0_at l D cI (ad 2) 36 T fin (by decide)) (va_cwS 2 C0.2.2.2.2 gX0_waysOver_X0_at rfl rfl rfl (by decide +kernel) ⟨Nat.le_of_ble_eq_true rfl, Nat.le_of_ble_eq_true rfl⟩) (PLs.one0 2 rfl) rfl rfl (Nat.le_of_ble_eq_true rfl) ⟨Nat.zero_le _, Nat.zero_le _⟩ dX0_waysOver_13 rfl ?_
  refine v_iand C0 (pc' := 17) dX0_waysOver_16 rfl ?_
  refine v_callSi0 C0 (av := [.int ((xAt 36 T slot) &&& (xAt 36 T fin))]) (rest := []) (ws' := wX cI ad U T F C B RU RC WU ST RP RN WT SM CC TR) (pc' := 20) hK hA (k_J6_bitCount_0f7a4 l D cI ((xAt 36 T slot) &&& (xAt 36 T fin))) (va_cwS 1 C0.2.2.2.2 gX0_waysOver_J6_bitCount_0f7a4 rfl rfl rfl (by decide +kernel) ⟨Nat.le_of_ble_eq_true rfl, Nat.le_of_ble_eq_true rfl⟩) PLs.nil rfl rfl (Nat.le_of_ble_eq_true rfl) ⟨Nat.zero_le _, Nat.zero_le _⟩ dX0_waysOver_17 rfl ?_
  refine v_istore_n C0 (lv' := [(3, .int (s_J6_bitCount_0f7a4 ((xAt 36 T slot) &&& (xAt 36 T fin)))), (0, .ref (ad 0)), (1, .int slot), (2, .int fin)]) (pc' := 21) rfl (by decide) rfl dX0_waysOver_20 rfl ?_
  refine v_aload_n C0 (pc' := 22) 1 rfl rfl dX0_waysOver_21 rfl ?_
  refine v_get C0 hK (C := RX0) (T := TX0) (N := 15) (pc' := 25) 0 0 rfl rfl rfl (by decide) in_X0_waysOver fl_X0_waysOver_9 rfl dX0_waysOver_22 rfl ?_
  refine v_iload_n C0 (pc' := 26) 2 rfl rfl dX0_waysOver_25 rfl ?_
  refine v_callSi0 C0 (av := [.ref (ad 1), .int slot]) (rest := []) (ws' := wX cI ad U T F C B RU RC WU ST RP RN WT SM CC TR) (pc' := 29) hK hA (k_X0_at l D cI (ad 1) 36 U slot (by decide)) (va_cwS 2 C0.2.2.2.2 gX0_waysOver_X0_at rfl rfl rfl (by decide +kernel) ⟨Nat.le_of_ble_eq_true rfl, Nat.le_of_ble_eq_true rfl⟩) (PLs.one0 1 rfl) rfl rfl (Nat.le_of_ble_eq_true rfl) ⟨Nat.zero_le _, Nat.zero_le _⟩ dX0_waysOver_26 rfl ?_
  refine v_if_eq C0 47 (pc' := 32) dX0_waysOver_29 (by decide) rfl (fun h1 => ?_) (fun h1 => ?_)
  · refine v_iconst C0 (pc' := 48) 0 (by decide) dX0_waysOver_47 rfl ?_
    refine v_istore C0 (lv' := [(4, .int 0), (3, .int (s_J6_bitCount_0f7a4 ((xAt 36 T slot) &&& (xAt 36 T fin)))), (0, .ref (ad 0)), (1, .int slot), (2, .int fin)]) (pc' := 50) (by decide) rfl dX0_waysOver_48 rfl ?_
    refine v_iload C0 (pc' := 52) 0 rfl dX0_waysOver_50 rfl ?_
    refine v_if_eq C0 61 (pc' := 55) dX0_waysOver_52 (by decide) rfl (fun h2 => ?_) (fun h2 => ?_)
    · refine v_iload_n C0 (pc' := 62) 1 rfl rfl dX0_waysOver_61 rfl ?_
      exact v_iret C0 hr hlk hK (by simp only [s_X0_waysOver, if_pos h1]) dX0_waysOver_62
    · exact absurd (by decide) h2
  · refine v_aload_n C0 (pc' := 33) 1 rfl rfl dX0_waysOver_32 rfl ?_
    refine v_get C0 hK (C := RX0) (T := TX0) (N := 15) (pc' := 36) 0 0 rfl rfl rfl (by decide) in_X0_waysOver fl_X0_waysOver_9 rfl dX0_waysOver_33 rfl ?_
    refine v_iload_n C0 (pc' := 37) 3 rfl rfl dX0_waysOver_36 rfl ?_
    refine v_callSi0 C0 (av := [.ref (ad 1), .int fin]) (rest := []) (ws' := wX cI ad U T F C B RU RC WU ST RP RN WT SM CC TR) (pc' := 40) hK hA (k_X0_at l D cI (ad 1) 36 U fin (by decide)) (va_cwS 2 C0.2.2.2.2 gX0_waysOver_X0_at rfl rfl rfl (by decide +kernel) ⟨Nat.le_of_ble_eq_true rfl, Nat.le_of_ble_eq_true rfl⟩) (PLs.one0 1 rfl) rfl rfl (Nat.le_of_ble_eq_true rfl) ⟨Nat.zero_le _, Nat.zero_le _⟩ dX0_waysOver_37 rfl ?_
    refine v_if_eq C0 47 (pc' := 43) dX0_waysOver_40 (by decide) rfl (fun h3 => ?_) (fun h3 => ?_)
    · refine v_iconst C0 (pc' := 48) 0 (by decide) dX0_waysOver_47 rfl ?_
      refine v_istore C0 (lv' := [(4, .int 0), (3, .int (s_J6_bitCount_0f7a4 ((xAt 36 T slot) &&& (xAt 36 T fin)))), (0, .ref (ad 0)), (1, .int slot), (2, .int fin)]) (pc' := 50) (by decide) rfl dX0_waysOver_48 rfl ?_
      refine v_iload C0 (pc' := 52) 0 rfl dX0_waysOver_50 rfl ?_
      refine v_if_eq C0 61 (pc' := 55) dX0_waysOver_52 (by decide) rfl (fun h4 => ?_) (fun h4 => ?_)
      · refine v_iload_n C0 (pc' := 62) 1 rfl rfl dX0_waysOver_61 rfl ?_
        exact v_iret C0 hr hlk hK (by simp only [s_X0_waysOver, if_neg h1, if_pos h3]) dX0_waysOver_62
      · exact absurd (by decide) h4
    · refine v_iconst C0 (pc' := 44) 1 (by decide) dX0_waysOver_43 rfl ?_
      refine v_goto C0 48 dX0_waysOver_44 (by decide) ?_
      refine v_istore C0 (lv' := [(4, .int 1), (3, .int (s_J6_bitCount_0f7a4 ((xAt 36 T slot) &&& (xAt 36 T fin)))), (0, .ref (ad 0)), (1, .int slot), (2, .int fin)]) (pc' := 50) (by decide) rfl dX0_waysOver_48 rfl ?_
      refine v_iload C0 (pc' := 52) 0 rfl dX0_waysOver_50 rfl ?_
      refine v_if_eq C0 61 (pc' := 55) dX0_waysOver_52 (by decide) rfl (fun h5 => ?_) (fun h5 => ?_)
      · exact absurd h5 (by decide)
      · refine v_iload_n C0 (pc' := 56) 1 rfl rfl dX0_waysOver_55 rfl ?_
        refine v_iconst C0 (pc' := 57) 1 (by decide) dX0_waysOver_56 rfl ?_
        refine v_iadd C0 (pc' := 58) dX0_waysOver_57 rfl ?_
        refine v_goto C0 62 dX0_waysOver_58 (by decide) ?_
        exact v_iret C0 hr hlk hK (by simp only [s_X0_waysOver, if_neg h1, if_neg h3]) dX0_waysOver_62
def s_X0_changesOver (U : Nat → Int32) (T : Nat → Int32) (F : Nat → Int32) (WU : Nat → Int32) (TR : Int32) (slot : Int32) (lane : Int32) : Int32 := if (s_X0_hasLiveCable F WU TR slot) = 0 then (-1) else (if (xAt 36 U slot) = lane then (if (xAt 36 U (xAt 36 F slot)) = lane then 0 else (-1)) else (if (xAt 36 U (xAt 36 F slot)) = lane then (-1) else (if (s_X0_isTagged T slot lane) = 0 then (if (s_X0_isTagged T (xAt 36 F slot) lane) = 0 then 1 + 1 else 1 + 0) else (if (s_X0_isTagged T (xAt 36 F slot) lane) = 0 then 0 + 1 else 0 + 0))))
set_option maxHeartbeats 4000000 in
set_option maxRecDepth 100000 in
theorem k_X0_changesOver (l : Launch) (D : va_G) (cI : ClassId) (ad : Nat → Nat) (U : Nat → Int32) (T : Nat → Int32) (F : Nat → Int32) (C : Nat → Int32) (B : Nat → Int32) (RU : Nat → Int32) (RC : Nat → Int32) (WU : Nat → Int32) (ST : Nat → Int32) (RP : Nat → Int32) (RN : Int32) (WT : Nat → Int32) (SM : Nat → Int32) (CC : Int32) (TR : Int32) (slot : Int32) (lane : Int32) (hb_TR : TR = 0 ∨ TR = 1) : Ki l yX0_changesOver wsX0_changesOver 2 43 0 0 D (TI cI) [.ref (ad 0), .int slot, .int lane] (wX cI ad U T F C B RU RC WU ST RP RN WT SM CC TR) (wX cI ad U T F C B RU RC WU ST RP RN WT SM CC TR) (s_X0_changesOver U T F WU TR slot lane) := by
  refine Ki.of (cc := cX0_changesOver) (maxL := 6) (rt := .int) (lv0 := [(0, .ref (ad 0)), (1, .int slot), (2, .int lane)]) (by decide +kernel) rfl (Nat.le_of_ble_eq_true rfl) rfl ?_
  intro p e s m args below meth c A C0 hr hlk hK hA
  refine v_aload_n C0 (pc' := 1) 0 rfl rfl dX0_changesOver_0 rfl ?_
  refine v_iload_n C0 (pc' := 2) 1 rfl rfl dX0_changesOver_1 rfl ?_
  refine v_callVi0 C0 (av := [.int slot]) (rest := []) (ws' := wX cI ad U T F C B RU RC WU ST RP RN WT SM CC TR) (pc' := 5) hK hA (k_X0_hasLiveCable l D cI ad U T F C B RU RC WU ST RP RN WT SM CC TR slot hb_TR) (cwV 1 C0.2.2.2.2 gX0_changesOver_X0_hasLiveCable rfl rfl rfl (by decide +kernel) ⟨Nat.le_of_ble_eq_true rfl, Nat.le_of_ble_eq_true rfl⟩) ⟨0, 0, _, _, _, rfl, rfl⟩ PLs.all rfl rfl (Nat.le_of_ble_eq_true rfl) ⟨Nat.zero_le _, Nat.zero_le _⟩ dX0_changesOver_2 rfl ?_
  refine v_if_ne C0 10 (pc' := 8) dX0_changesOver_5 (by decide) rfl (fun h1 => ?_) (fun h1 => ?_)
  · refine v_aload_n C0 (pc' := 11) 0 rfl rfl dX0_changesOver_10 rfl ?_
    refine v_get C0 hK (C := RX0) (T := TX0) (N := 15) (pc' := 14) 0 2 rfl rfl rfl (by decide) in_X0_changesOver fl_X0_changesOver_16 rfl dX0_changesOver_11 rfl ?_
    refine v_iload_n C0 (pc' := 15) 1 rfl rfl dX0_changesOver_14 rfl ?_
    refine v_callSi0 C0 (av := [.ref (ad 3), .int slot]) (rest := []) (ws' := wX cI ad U T F C B RU RC WU ST RP RN WT SM CC TR) (pc' := 18) hK hA (k_X0_at l D cI (ad 3) 36 F slot (by decide)) (va_cwS 2 C0.2.2.2.2 gX0_changesOver_X0_at rfl rfl rfl (by decide +kernel) ⟨Nat.le_of_ble_eq_true rfl, Nat.le_of_ble_eq_true rfl⟩) (PLs.one0 3 rfl) rfl rfl (Nat.le_of_ble_eq_true rfl) ⟨Nat.zero_le _, Nat.zero_le _⟩ dX0_changesOver_15 rfl ?_
    refine v_istore_n C0 (lv' := [(3, .int (xAt 36 F slot)), (0, .ref (ad 0)), (1, .int slot), (2, .int lane)]) (pc' := 19) rfl (by decide) rfl dX0_changesOver_18 rfl ?_
    refine v_aload_n C0 (pc' := 20) 1 rfl rfl dX0_changesOver_19 rfl ?_
    refine v_get C0 hK (C := RX0) (T := TX0) (N := 15) (pc' := 23) 0 0 rfl rfl rfl (by decide) in_X0_changesOver fl_X0_changesOver_9 rfl dX0_changesOver_20 rfl ?_
    refine v_iload_n C0 (pc' := 24) 2 rfl rfl dX0_changesOver_23 rfl ?_
    refine v_callSi0 C0 (av := [.ref (ad 1), .int slot]) (rest := []) (ws' := wX cI ad U T F C B RU RC WU ST RP RN WT SM CC TR) (pc' := 27) hK hA (k_X0_at l D cI (ad 1) 36 U slot (by decide)) (va_cwS 2 C0.2.2.2.2 gX0_changesOver_X0_at rfl rfl rfl (by decide +kernel) ⟨Nat.le_of_ble_eq_true rfl, Nat.le_of_ble_eq_true rfl⟩) (PLs.one0 1 rfl) rfl rfl (Nat.le_of_ble_eq_true rfl) ⟨Nat.zero_le _, Nat.zero_le _⟩ dX0_changesOver_24 rfl ?_
    refine v_iload_n C0 (pc' := 28) 3 rfl rfl dX0_changesOver_27 rfl ?_
    refine v_icmp_ne C0 35 (pc' := 31) dX0_changesOver_28 (by decide) rfl (fun h2 => ?_) (fun h2 => ?_)
    · refine v_iconst C0 (pc' := 36) 0 (by decide) dX0_changesOver_35 rfl ?_
      refine v_istore C0 (lv' := [(4, .int 0), (3, .int (xAt 36 F slot)), (0, .ref (ad 0)), (1, .int slot), (2, .int lane)]) (pc' := 38) (by decide) rfl dX0_changesOver_36 rfl ?_
      refine v_aload_n C0 (pc' := 39) 2 rfl rfl dX0_changesOver_38 rfl ?_
      refine v_get C0 hK (C := RX0) (T := TX0) (N := 15) (pc' := 42) 0 0 rfl rfl rfl (by decide) in_X0_changesOver fl_X0_changesOver_9 rfl dX0_changesOver_39 rfl ?_
      refine v_iload_n C0 (pc' := 43) 1 rfl rfl dX0_changesOver_42 rfl ?_
      refine v_callSi0 C0 (av := [.ref (ad 1), .int (xAt 36 F slot)]) (rest := []) (ws' := wX cI ad U T F C B RU RC WU ST RP RN WT SM CC TR) (pc' := 46) hK hA (k_X0_at l D cI (ad 1) 36 U (xAt 36 F slot) (by decide)) (va_cwS 2 C0.2.2.2.2 gX0_changesOver_X0_at rfl rfl rfl (by decide +kernel) ⟨Nat.le_of_ble_eq_true rfl, Nat.le_of_ble_eq_true rfl⟩) (PLs.one0 1 rfl) rfl rfl (Nat.le_of_ble_eq_true rfl) ⟨Nat.zero_le _, Nat.zero_le _⟩ dX0_changesOver_43 rfl ?_
      refine v_iload_n C0 (pc' := 47) 4 rfl rfl dX0_changesOver_46 rfl ?_
      refine v_icmp_ne C0 54 (pc' := 50) dX0_changesOver_47 (by decide) rfl (fun h3 => ?_) (fun h3 => ?_)
      · refine v_iconst C0 (pc' := 55) 0 (by decide) dX0_changesOver_54 rfl ?_
        refine v_istore C0 (lv' := [(5, .int 0), (4, .int 0), (3, .int (xAt 36 F slot)), (0, .ref (ad 0)), (1, .int slot), (2, .int lane)]) (pc' := 57) (by decide) rfl dX0_changesOver_55 rfl ?_
        refine v_iload C0 (pc' := 59) 1 rfl dX0_changesOver_57 rfl ?_
        refine v_if_ne C0 67 (pc' := 62) dX0_changesOver_59 (by decide) rfl (fun h4 => ?_) (fun h4 => ?_)
        · exact absurd (by decide) h4
        · refine v_iload C0 (pc' := 64) 0 rfl dX0_changesOver_62 rfl ?_
          refine v_if_eq C0 83 (pc' := 67) dX0_changesOver_64 (by decide) rfl (fun h5 => ?_) (fun h5 => ?_)
          · refine v_aload_n C0 (pc' := 84) 3 rfl rfl dX0_changesOver_83 rfl ?_
            refine v_iload_n C0 (pc' := 85) 4 rfl rfl dX0_changesOver_84 rfl ?_
            refine v_iload_n C0 (pc' := 86) 5 rfl rfl dX0_changesOver_85 rfl ?_
            refine v_callVi0 C0 (av := [.int slot, .int lane]) (rest := []) (ws' := wX cI ad U T F C B RU RC WU ST RP RN WT SM CC TR) (pc' := 89) hK hA (k_X0_isTagged l D cI ad U T F C B RU RC WU ST RP RN WT SM CC TR slot lane) (cwV 2 C0.2.2.2.2 gX0_changesOver_X0_isTagged rfl rfl rfl (by decide +kernel) ⟨Nat.le_of_ble_eq_true rfl, Nat.le_of_ble_eq_true rfl⟩) ⟨0, 0, _, _, _, rfl, rfl⟩ PLs.all rfl rfl (Nat.le_of_ble_eq_true rfl) ⟨Nat.zero_le _, Nat.zero_le _⟩ dX0_changesOver_86 rfl ?_
            refine v_if_eq C0 96 (pc' := 92) dX0_changesOver_89 (by decide) rfl (fun h6 => ?_) (fun h6 => ?_)
            · refine v_iconst C0 (pc' := 97) 1 (by decide) dX0_changesOver_96 rfl ?_
              refine v_aload_n C0 (pc' := 98) 3 rfl rfl dX0_changesOver_97 rfl ?_
              refine v_iload_n C0 (pc' := 99) 2 rfl rfl dX0_changesOver_98 rfl ?_
              refine v_iload_n C0 (pc' := 100) 5 rfl rfl dX0_changesOver_99 rfl ?_
              refine v_callVi0 C0 (av := [.int (xAt 36 F slot), .int lane]) (rest := [.int 1]) (ws' := wX cI ad U T F C B RU RC WU ST RP RN WT SM CC TR) (pc' := 103) hK hA (k_X0_isTagged l D cI ad U T F C B RU RC WU ST RP RN WT SM CC TR (xAt 36 F slot) lane) (cwV 2 C0.2.2.2.2 gX0_changesOver_X0_isTagged rfl rfl rfl (by decide +kernel) ⟨Nat.le_of_ble_eq_true rfl, Nat.le_of_ble_eq_true rfl⟩) ⟨0, 0, _, _, _, rfl, rfl⟩ PLs.all rfl rfl (Nat.le_of_ble_eq_true rfl) ⟨Nat.zero_le _, Nat.zero_le _⟩ dX0_changesOver_100 rfl ?_
              refine v_if_eq C0 110 (pc' := 106) dX0_changesOver_103 (by decide) rfl (fun h7 => ?_) (fun h7 => ?_)
              · refine v_iconst C0 (pc' := 111) 1 (by decide) dX0_changesOver_110 rfl ?_
                refine v_iadd C0 (pc' := 112) dX0_changesOver_111 rfl ?_
                exact v_iret C0 hr hlk hK (by simp only [s_X0_changesOver, if_neg h1, if_neg h2, if_neg h3, if_pos h6, if_pos h7]) dX0_changesOver_112
              · refine v_iconst C0 (pc' := 107) 0 (by decide) dX0_changesOver_106 rfl ?_
                refine v_goto C0 111 dX0_changesOver_107 (by decide) ?_
                refine v_iadd C0 (pc' := 112) dX0_changesOver_111 rfl ?_
                exact v_iret C0 hr hlk hK (by simp only [s_X0_changesOver, if_neg h1, if_neg h2, if_neg h3, if_pos h6, if_neg h7]) dX0_changesOver_112
            · refine v_iconst C0 (pc' := 93) 0 (by decide) dX0_changesOver_92 rfl ?_
              refine v_goto C0 97 dX0_changesOver_93 (by decide) ?_
              refine v_aload_n C0 (pc' := 98) 3 rfl rfl dX0_changesOver_97 rfl ?_
              refine v_iload_n C0 (pc' := 99) 2 rfl rfl dX0_changesOver_98 rfl ?_
              refine v_iload_n C0 (pc' := 100) 5 rfl rfl dX0_changesOver_99 rfl ?_
              refine v_callVi0 C0 (av := [.int (xAt 36 F slot), .int lane]) (rest := [.int 0]) (ws' := wX cI ad U T F C B RU RC WU ST RP RN WT SM CC TR) (pc' := 103) hK hA (k_X0_isTagged l D cI ad U T F C B RU RC WU ST RP RN WT SM CC TR (xAt 36 F slot) lane) (cwV 2 C0.2.2.2.2 gX0_changesOver_X0_isTagged rfl rfl rfl (by decide +kernel) ⟨Nat.le_of_ble_eq_true rfl, Nat.le_of_ble_eq_true rfl⟩) ⟨0, 0, _, _, _, rfl, rfl⟩ PLs.all rfl rfl (Nat.le_of_ble_eq_true rfl) ⟨Nat.zero_le _, Nat.zero_le _⟩ dX0_changesOver_100 rfl ?_
              refine v_if_eq C0 110 (pc' := 106) dX0_changesOver_103 (by decide) rfl (fun h8 => ?_) (fun h8 => ?_)
              · refine v_iconst C0 (pc' := 111) 1 (by decide) dX0_changesOver_110 rfl ?_
                refine v_iadd C0 (pc' := 112) dX0_changesOver_111 rfl ?_
                exact v_iret C0 hr hlk hK (by simp only [s_X0_changesOver, if_neg h1, if_neg h2, if_neg h3, if_neg h6, if_pos h8]) dX0_changesOver_112
              · refine v_iconst C0 (pc' := 107) 0 (by decide) dX0_changesOver_106 rfl ?_
                refine v_goto C0 111 dX0_changesOver_107 (by decide) ?_
                refine v_iadd C0 (pc' := 112) dX0_changesOver_111 rfl ?_
                exact v_iret C0 hr hlk hK (by simp only [s_X0_changesOver, if_neg h1, if_neg h2, if_neg h3, if_neg h6, if_neg h8]) dX0_changesOver_112
          · exact absurd (by decide) h5
      · refine v_iconst C0 (pc' := 51) 1 (by decide) dX0_changesOver_50 rfl ?_
        refine v_goto C0 55 dX0_changesOver_51 (by decide) ?_
        refine v_istore C0 (lv' := [(5, .int 1), (4, .int 0), (3, .int (xAt 36 F slot)), (0, .ref (ad 0)), (1, .int slot), (2, .int lane)]) (pc' := 57) (by decide) rfl dX0_changesOver_55 rfl ?_
        refine v_iload C0 (pc' := 59) 1 rfl dX0_changesOver_57 rfl ?_
        refine v_if_ne C0 67 (pc' := 62) dX0_changesOver_59 (by decide) rfl (fun h9 => ?_) (fun h9 => ?_)
        · exact absurd (by decide) h9
        · refine v_iload C0 (pc' := 64) 0 rfl dX0_changesOver_62 rfl ?_
          refine v_if_eq C0 83 (pc' := 67) dX0_changesOver_64 (by decide) rfl (fun h10 => ?_) (fun h10 => ?_)
          · exact absurd h10 (by decide)
          · refine v_iload C0 (pc' := 69) 1 rfl dX0_changesOver_67 rfl ?_
            refine v_if_eq C0 81 (pc' := 72) dX0_changesOver_69 (by decide) rfl (fun h11 => ?_) (fun h11 => ?_)
            · refine v_iconst C0 (pc' := 82) (-1) (by decide) dX0_changesOver_81 rfl ?_
              exact v_iret C0 hr hlk hK (by simp only [s_X0_changesOver, if_neg h1, if_neg h2, if_pos h3]) dX0_changesOver_82
            · exact absurd (by decide) h11
    · refine v_iconst C0 (pc' := 32) 1 (by decide) dX0_changesOver_31 rfl ?_
      refine v_goto C0 36 dX0_changesOver_32 (by decide) ?_
      refine v_istore C0 (lv' := [(4, .int 1), (3, .int (xAt 36 F slot)), (0, .ref (ad 0)), (1, .int slot), (2, .int lane)]) (pc' := 38) (by decide) rfl dX0_changesOver_36 rfl ?_
      refine v_aload_n C0 (pc' := 39) 2 rfl rfl dX0_changesOver_38 rfl ?_
      refine v_get C0 hK (C := RX0) (T := TX0) (N := 15) (pc' := 42) 0 0 rfl rfl rfl (by decide) in_X0_changesOver fl_X0_changesOver_9 rfl dX0_changesOver_39 rfl ?_
      refine v_iload_n C0 (pc' := 43) 1 rfl rfl dX0_changesOver_42 rfl ?_
      refine v_callSi0 C0 (av := [.ref (ad 1), .int (xAt 36 F slot)]) (rest := []) (ws' := wX cI ad U T F C B RU RC WU ST RP RN WT SM CC TR) (pc' := 46) hK hA (k_X0_at l D cI (ad 1) 36 U (xAt 36 F slot) (by decide)) (va_cwS 2 C0.2.2.2.2 gX0_changesOver_X0_at rfl rfl rfl (by decide +kernel) ⟨Nat.le_of_ble_eq_true rfl, Nat.le_of_ble_eq_true rfl⟩) (PLs.one0 1 rfl) rfl rfl (Nat.le_of_ble_eq_true rfl) ⟨Nat.zero_le _, Nat.zero_le _⟩ dX0_changesOver_43 rfl ?_
      refine v_iload_n C0 (pc' := 47) 4 rfl rfl dX0_changesOver_46 rfl ?_
      refine v_icmp_ne C0 54 (pc' := 50) dX0_changesOver_47 (by decide) rfl (fun h12 => ?_) (fun h12 => ?_)
      · refine v_iconst C0 (pc' := 55) 0 (by decide) dX0_changesOver_54 rfl ?_
        refine v_istore C0 (lv' := [(5, .int 0), (4, .int 1), (3, .int (xAt 36 F slot)), (0, .ref (ad 0)), (1, .int slot), (2, .int lane)]) (pc' := 57) (by decide) rfl dX0_changesOver_55 rfl ?_
        refine v_iload C0 (pc' := 59) 1 rfl dX0_changesOver_57 rfl ?_
        refine v_if_ne C0 67 (pc' := 62) dX0_changesOver_59 (by decide) rfl (fun h13 => ?_) (fun h13 => ?_)
        · refine v_iload C0 (pc' := 69) 1 rfl dX0_changesOver_67 rfl ?_
          refine v_if_eq C0 81 (pc' := 72) dX0_changesOver_69 (by decide) rfl (fun h14 => ?_) (fun h14 => ?_)
          · exact absurd h14 (by decide)
          · refine v_iload C0 (pc' := 74) 0 rfl dX0_changesOver_72 rfl ?_
            refine v_if_eq C0 81 (pc' := 77) dX0_changesOver_74 (by decide) rfl (fun h15 => ?_) (fun h15 => ?_)
            · refine v_iconst C0 (pc' := 82) (-1) (by decide) dX0_changesOver_81 rfl ?_
              exact v_iret C0 hr hlk hK (by simp only [s_X0_changesOver, if_neg h1, if_pos h2, if_neg h12]) dX0_changesOver_82
            · exact absurd (by decide) h15
        · exact absurd h13 (by decide)
      · refine v_iconst C0 (pc' := 51) 1 (by decide) dX0_changesOver_50 rfl ?_
        refine v_goto C0 55 dX0_changesOver_51 (by decide) ?_
        refine v_istore C0 (lv' := [(5, .int 1), (4, .int 1), (3, .int (xAt 36 F slot)), (0, .ref (ad 0)), (1, .int slot), (2, .int lane)]) (pc' := 57) (by decide) rfl dX0_changesOver_55 rfl ?_
        refine v_iload C0 (pc' := 59) 1 rfl dX0_changesOver_57 rfl ?_
        refine v_if_ne C0 67 (pc' := 62) dX0_changesOver_59 (by decide) rfl (fun h16 => ?_) (fun h16 => ?_)
        · refine v_iload C0 (pc' := 69) 1 rfl dX0_changesOver_67 rfl ?_
          refine v_if_eq C0 81 (pc' := 72) dX0_changesOver_69 (by decide) rfl (fun h17 => ?_) (fun h17 => ?_)
          · exact absurd h17 (by decide)
          · refine v_iload C0 (pc' := 74) 0 rfl dX0_changesOver_72 rfl ?_
            refine v_if_eq C0 81 (pc' := 77) dX0_changesOver_74 (by decide) rfl (fun h18 => ?_) (fun h18 => ?_)
            · exact absurd h18 (by decide)
            · refine v_iconst C0 (pc' := 78) 0 (by decide) dX0_changesOver_77 rfl ?_
              refine v_goto C0 82 dX0_changesOver_78 (by decide) ?_
              exact v_iret C0 hr hlk hK (by simp only [s_X0_changesOver, if_neg h1, if_pos h2, if_pos h12]) dX0_changesOver_82
        · exact absurd h16 (by decide)
  · refine v_iconst C0 (pc' := 9) (-1) (by decide) dX0_changesOver_8 rfl ?_
    exact v_iret C0 hr hlk hK (by simp only [s_X0_changesOver, if_pos h1]) dX0_changesOver_9
end
section
def s_X0_lowerSum (F : Nat → Int32) (SU : Nat → Int32) (WT : Nat → Int32) (slot : Int32) : Nat → Int32 := if (xAt 36 F slot) = (-1) then SU else (if (xAt 36 WT slot) = (-1) then SU else (if (xAt 6 SU ((xAt 36 F slot) / 6)) ≤ ((xAt 6 SU (slot / 6)) + (xAt 36 WT slot)) then SU else (xPut 6 SU ((xAt 36 F slot) / 6) ((xAt 6 SU (slot / 6)) + (xAt 36 WT slot)))))
set_option maxHeartbeats 4000000 in
set_option maxRecDepth 100000 in
theorem k_X0_lowerSum (l : Launch) (D : va_G) (cI : ClassId) (h fa ua wa : Nat) (fs : List Value) (F SU WT : Nat → Int32) (slot : Int32) (hf_farSlot : fs[2]? = some (.ref fa)) : Kv l yX0_lowerSum wsX0_lowerSum 1 22 0 0 D (TI cI) [.ref h, .ref ua, .ref wa, .int slot] ([(h, .inr (0, fs)), (fa, .inl (cI, 36, .inl F)), (ua, .inl (cI, 6, .inl SU)), (wa, .inl (cI, 36, .inl WT))]) ([(h, .inr (0, fs)), (fa, .inl (cI, 36, .inl F)), (ua, .inl (cI, 6, .inl (s_X0_lowerSum F SU WT slot))), (wa, .inl (cI, 36, .inl WT))]) := by
  refine Kv.of (cc := cX0_lowerSum) (maxL := 7) (lv0 := [(0, .ref h), (1, .ref ua), (2, .ref wa), (3, .int slot)]) (by decide +kernel) rfl (Nat.le_of_ble_eq_true rfl) rfl ?_
  intro p e s m args below meth c A C0 hr hlk hK hA
  refine v_aload_n C0 (pc' := 1) 0 rfl rfl dX0_lowerSum_0 rfl ?_
  refine v_get C0 hK (C := RX0) (T := TX0) (N := 15) (pc' := 4) 0 2 rfl hf_farSlot rfl (by decide) in_X0_lowerSum fl_X0_lowerSum_16 rfl dX0_lowerSum_1 rfl ?_
  refine v_iload_n C0 (pc' := 5) 3 rfl rfl dX0_lowerSum_4 rfl ?_
  refine v_callSi0 C0 (av := [.ref fa, .int slot]) (rest := []) (ws' := [(h, .inr (0, fs)), (fa, .inl (cI, 36, .inl F)), (ua, .inl (cI, 6, .inl SU)), (wa, .inl (cI, 36, .inl WT))]) (pc' := 8) hK hA (k_X0_at l D cI fa 36 F slot (by decide)) (va_cwS 2 C0.2.2.2.2 gX0_lowerSum_X0_at rfl rfl rfl (by decide +kernel) ⟨Nat.le_of_ble_eq_true rfl, Nat.le_of_ble_eq_true rfl⟩) (PLs.one0 1 rfl) rfl rfl (Nat.le_of_ble_eq_true rfl) ⟨Nat.zero_le _, Nat.zero_le _⟩ dX0_lowerSum_5 rfl ?_
  refine v_istore C0 (lv' := [(4, .int (xAt 36 F slot)), (0, .ref h), (1, .ref ua), (2, .ref wa), (3, .int slot)]) (pc' := 10) (by decide) rfl dX0_lowerSum_8 rfl ?_
  refine v_aload_n C0 (pc' := 11) 3 rfl rfl dX0_lowerSum_10 rfl ?_
  refine v_iload_n C0 (pc' := 12) 4 rfl rfl dX0_lowerSum_11 rfl ?_
  refine v_callSi0 C0 (av := [.ref wa, .int slot]) (rest := []) (ws' := [(h, .inr (0, fs)), (fa, .inl (cI, 36, .inl F)), (ua, .inl (cI, 6, .inl SU)), (wa, .inl (cI, 36, .inl WT))]) (pc' := 15) hK hA (k_X0_at l D cI wa 36 WT slot (by decide)) (va_cwS 2 C0.2.2.2.2 gX0_lowerSum_X0_at rfl rfl rfl (by decide +kernel) ⟨Nat.le_of_ble_eq_true rfl, Nat.le_of_ble_eq_true rfl⟩) (PLs.one0 3 rfl) rfl rfl (Nat.le_of_ble_eq_true rfl) ⟨Nat.zero_le _, Nat.zero_le _⟩ dX0_lowerSum_12 rfl ?_
  refine v_istore C0 (lv' := [(5, .int (xAt 36 WT slot)), (4, .int (xAt 36 F slot)), (0, .ref h), (1, .ref ua), (2, .ref wa), (3, .int slot)]) (pc' := 17) (by decide) rfl dX0_lowerSum_15 rfl ?_
  refine v_iload C0 (pc' := 19) 1 rfl dX0_lowerSum_17 rfl ?_
  refine v_iconst C0 (pc' := 20) (-1) (by decide) dX0_lowerSum_19 rfl ?_
  refine v_icmp_eq C0 29 (pc' := 23) dX0_lowerSum_20 (by decide) rfl (fun h1 => ?_) (fun h1 => ?_)
  · refine v_world (ws' := [(h, .inr (0, fs)), (fa, .inl (cI, 36, .inl F)), (ua, .inl (cI, 6, .inl (s_X0_lowerSum F SU WT slot))), (wa, .inl (cI, 36, .inl WT))]) (by simp only [s_X0_lowerSum, if_pos h1]) ?_
    exact v_vret C0 hr hlk hK dX0_lowerSum_29
  · refine v_iload C0 (pc' := 25) 0 rfl dX0_lowerSum_23 rfl ?_
    refine v_iconst C0 (pc' := 26) (-1) (by decide) dX0_lowerSum_25 rfl ?_
    refine v_icmp_ne C0 30 (pc' := 29) dX0_lowerSum_26 (by decide) rfl (fun h2 => ?_) (fun h2 => ?_)
    · refine v_aload_n C0 (pc' := 31) 3 rfl rfl dX0_lowerSum_30 rfl ?_
      refine v_iload_n C0 (pc' := 32) 5 rfl rfl dX0_lowerSum_31 rfl ?_
      refine v_bipush C0 (pc' := 34) 6 (by decide) dX0_lowerSum_32 rfl ?_
      refine v_idiv C0 (pc' := 35) (by decide) dX0_lowerSum_34 rfl ?_
      refine v_callSi0 C0 (av := [.ref ua, .int (slot / 6)]) (rest := []) (ws' := [(h, .inr (0, fs)), (fa, .inl (cI, 36, .inl F)), (ua, .inl (cI, 6, .inl SU)), (wa, .inl (cI, 36, .inl WT))]) (pc' := 38) hK hA (k_X0_at l D cI ua 6 SU (slot / 6) (by decide)) (va_cwS 2 C0.2.2.2.2 gX0_lowerSum_X0_at rfl rfl rfl (by decide +kernel) ⟨Nat.le_of_ble_eq_true rfl, Nat.le_of_ble_eq_true rfl⟩) (PLs.one0 2 rfl) rfl rfl (Nat.le_of_ble_eq_true rfl) ⟨Nat.zero_le _, Nat.zero_le _⟩ dX0_lowerSum_35 rfl ?_
      refine v_iload C0 (pc' := 40) 0 rfl dX0_lowerSum_38 rfl ?_
      refine v_iadd C0 (pc' := 41) dX0_lowerSum_40 rfl ?_
      refine v_istore C0 (lv' := [(6, .int ((xAt 6 SU (slot / 6)) + (xAt 36 WT slot))), (5, .int (xAt 36 WT slot)), (4, .int (xAt 36 F slot)), (0, .ref h), (1, .ref ua), (2, .ref wa), (3, .int slot)]) (pc' := 43) (by decide) rfl dX0_lowerSum_41 rfl ?_
      refine v_iload C0 (pc' := 45) 0 rfl dX0_lowerSum_43 rfl ?_
      refine v_aload_n C0 (pc' := 46) 4 rfl rfl dX0_lowerSum_45 rfl ?_
      refine v_iload C0 (pc' := 48) 2 rfl dX0_lowerSum_46 rfl ?_
      refine v_bipush C0 (pc' := 50) 6 (by decide) dX0_lowerSum_48 rfl ?_
      refine v_idiv C0 (pc' := 51) (by decide) dX0_lowerSum_50 rfl ?_
      refine v_callSi0 C0 (av := [.ref ua, .int ((xAt 36 F slot) / 6)]) (rest := [.int ((xAt 6 SU (slot / 6)) + (xAt 36 WT slot))]) (ws' := [(h, .inr (0, fs)), (fa, .inl (cI, 36, .inl F)), (ua, .inl (cI, 6, .inl SU)), (wa, .inl (cI, 36, .inl WT))]) (pc' := 54) hK hA (k_X0_at l D cI ua 6 SU ((xAt 36 F slot) / 6) (by decide)) (va_cwS 2 C0.2.2.2.2 gX0_lowerSum_X0_at rfl rfl rfl (by decide +kernel) ⟨Nat.le_of_ble_eq_true rfl, Nat.le_of_ble_eq_true rfl⟩) (PLs.one0 2 rfl) rfl rfl (Nat.le_of_ble_eq_true rfl) ⟨Nat.zero_le _, Nat.zero_le _⟩ dX0_lowerSum_51 rfl ?_
      refine v_icmp_ge C0 68 (pc' := 57) dX0_lowerSum_54 (by decide) rfl (fun h3 => ?_) (fun h3 => ?_)
      · refine v_world (ws' := [(h, .inr (0, fs)), (fa, .inl (cI, 36, .inl F)), (ua, .inl (cI, 6, .inl (s_X0_lowerSum F SU WT slot))), (wa, .inl (cI, 36, .inl WT))]) (by simp only [s_X0_lowerSum, if_neg h1, if_neg h2, if_pos h3]) ?_
        exact v_vret C0 hr hlk hK dX0_lowerSum_68
      · refine v_aload_n C0 (pc' := 58) 4 rfl rfl dX0_lowerSum_57 rfl ?_
        refine v_iload C0 (pc' := 60) 2 rfl dX0_lowerSum_58 rfl ?_
        refine v_bipush C0 (pc' := 62) 6 (by decide) dX0_lowerSum_60 rfl ?_
        refine v_idiv C0 (pc' := 63) (by decide) dX0_lowerSum_62 rfl ?_
        refine v_iload C0 (pc' := 65) 0 rfl dX0_lowerSum_63 rfl ?_
        refine v_callSv0 C0 (av := [.ref ua, .int ((xAt 36 F slot) / 6), .int ((xAt 6 SU (slot / 6)) + (xAt 36 WT slot))]) (rest := []) (ws' := [(h, .inr (0, fs)), (fa, .inl (cI, 36, .inl F)), (ua, .inl (cI, 6, .inl (xPut 6 SU ((xAt 36 F slot) / 6) ((xAt 6 SU (slot / 6)) + (xAt 36 WT slot))))), (wa, .inl (cI, 36, .inl WT))]) (pc' := 68) hK hA (k_X0_put l D cI ua 6 SU ((xAt 36 F slot) / 6) ((xAt 6 SU (slot / 6)) + (xAt 36 WT slot)) (by decide)) (va_cwS 3 C0.2.2.2.2 gX0_lowerSum_X0_put rfl rfl rfl (by decide +kernel) ⟨Nat.le_of_ble_eq_true rfl, Nat.le_of_ble_eq_true rfl⟩) (PLs.one 2 rfl) rfl rfl (Nat.le_of_ble_eq_true rfl) ⟨Nat.zero_le _, Nat.zero_le _⟩ dX0_lowerSum_65 rfl ?_
        refine v_world (ws' := [(h, .inr (0, fs)), (fa, .inl (cI, 36, .inl F)), (ua, .inl (cI, 6, .inl (s_X0_lowerSum F SU WT slot))), (wa, .inl (cI, 36, .inl WT))]) (by simp only [s_X0_lowerSum, if_neg h1, if_neg h2, if_neg h3]) ?_
        exact v_vret C0 hr hlk hK dX0_lowerSum_68
    · refine v_world (ws' := [(h, .inr (0, fs)), (fa, .inl (cI, 36, .inl F)), (ua, .inl (cI, 6, .inl (s_X0_lowerSum F SU WT slot))), (wa, .inl (cI, 36, .inl WT))]) (by simp only [s_X0_lowerSum, if_neg h1, if_pos h2]) ?_
      exact v_vret C0 hr hlk hK dX0_lowerSum_29
def s_X0_leastSums_L2 (F : Nat → Int32) (WT : Nat → Int32) (i2 : Nat) (SU_2 : Nat → Int32) : Nat → Int32 := (s_X0_lowerSum F SU_2 WT (nI i2))
def s_X0_leastSums_L1 (F : Nat → Int32) (WT : Nat → Int32) (i1 : Nat) (SU_1 : Nat → Int32) : Nat → Int32 := (lp (s_X0_leastSums_L2 F WT) 36 SU_1)
def s_X0_leastSums (F : Nat → Int32) (SU : Nat → Int32) (WT : Nat → Int32) : Nat → Int32 := (lp (s_X0_leastSums_L1 F WT) 5 SU)
set_option maxHeartbeats 4000000 in
set_option maxRecDepth 100000 in
theorem k_X0_leastSums (l : Launch) (D : va_G) (cI : ClassId) (h fa ua wa : Nat) (fs : List Value) (F SU WT : Nat → Int32)  (hf_farSlot : fs[2]? = some (.ref fa)) : Kv l yX0_leastSums wsX0_leastSums 2 48 0 0 D (TI cI) [.ref h, .ref ua, .ref wa] ([(h, .inr (0, fs)), (fa, .inl (cI, 36, .inl F)), (ua, .inl (cI, 6, .inl SU)), (wa, .inl (cI, 36, .inl WT))]) ([(h, .inr (0, fs)), (fa, .inl (cI, 36, .inl F)), (ua, .inl (cI, 6, .inl (s_X0_leastSums F SU WT))), (wa, .inl (cI, 36, .inl WT))]) := by
  refine Kv.of (cc := cX0_leastSums) (maxL := 5) (lv0 := [(0, .ref h), (1, .ref ua), (2, .ref wa)]) (by decide +kernel) rfl (Nat.le_of_ble_eq_true rfl) rfl ?_
  intro p e s m args below meth c A C0 hr hlk hK hA
  refine v_iconst C0 (pc' := 1) 1 (by decide) dX0_leastSums_0 rfl ?_
  refine v_istore_n C0 (lv' := [(3, .int 1), (0, .ref h), (1, .ref ua), (2, .ref wa)]) (pc' := 2) rfl (by decide) rfl dX0_leastSums_1 rfl ?_
  suffices LP1 : ∀ (j1 i1 : Nat) (x1 : Int32) (SU_1 : Nat → Int32), i1 + j1 = 5 → x1 = nI (i1 + 1) → SU_1 = lp (s_X0_leastSums_L1 F WT) i1 SU → V p l e { frames := 2, cells := 0, slots := 0, locals := 48 } s m args below meth c D A 5 0 0 (MQ below (QV D (TI cI) ([(h, .inr (0, fs)), (fa, .inl (cI, 36, .inl F)), (ua, .inl (cI, 6, .inl (s_X0_leastSums F SU WT))), (wa, .inl (cI, 36, .inl WT))]) A) args s 0 0 A) ([(h, .inr (0, fs)), (fa, .inl (cI, 36, .inl F)), (ua, .inl (cI, 6, .inl SU_1)), (wa, .inl (cI, 36, .inl WT))]) [(3, .int x1), (0, .ref h), (1, .ref ua), (2, .ref wa)] 2 [] by
    exact v_sub (lv' := [(3, .int 1), (0, .ref h), (1, .ref ua), (2, .ref wa)]) [0, 1, 2, 3] rfl (LP1 5 0 1 SU rfl (by decide +kernel) rfl)
  intro j1
  induction j1 with
  | zero =>
    intro i1 x1 SU_1 hi1 hx1 hs1
    have hi1 : i1 = 5 := by omega
    subst hi1
    subst hx1
    refine v_iload_n C0 (pc' := 3) 0 rfl rfl dX0_leastSums_2 rfl ?_
    refine v_bipush C0 (pc' := 5) 6 (by decide) dX0_leastSums_3 rfl ?_
    refine v_icmp_ge C0 38 (pc' := 8) dX0_leastSums_5 (by decide) rfl (fun h1 => ?_) (fun h1 => ?_)
    · refine v_world (ws' := [(h, .inr (0, fs)), (fa, .inl (cI, 36, .inl F)), (ua, .inl (cI, 6, .inl (s_X0_leastSums F SU WT))), (wa, .inl (cI, 36, .inl WT))]) (by simp only [s_X0_leastSums, if_pos h1, ← hs1]) ?_
      exact v_vret C0 hr hlk hK dX0_leastSums_38
    · exact absurd (by decide +kernel) h1
  | succ j1 ih1 =>
    intro i1 x1 SU_1 hi1 hx1 hs1
    subst hx1
    refine v_iload_n C0 (pc' := 3) 0 rfl rfl dX0_leastSums_2 rfl ?_
    refine v_bipush C0 (pc' := 5) 6 (by decide) dX0_leastSums_3 rfl ?_
    refine v_icmp_ge C0 38 (pc' := 8) dX0_leastSums_5 (by decide) rfl (fun h2 => ?_) (fun h2 => ?_)
    · exact absurd h2 (nI_ge (a := i1 + 1) (b := 6) (by omega) (by decide))
    · refine v_iconst C0 (pc' := 9) 0 (by decide) dX0_leastSums_8 rfl ?_
      refine v_istore C0 (lv' := [(4, .int 0), (3, .int (nI (i1 + 1))), (0, .ref h), (1, .ref ua), (2, .ref wa)]) (pc' := 11) (by decide) rfl dX0_leastSums_9 rfl ?_
      suffices LP2 : ∀ (j2 i2 : Nat) (x2 : Int32) (SU_2 : Nat → Int32), i2 + j2 = 36 → x2 = nI i2 → SU_2 = lp (s_X0_leastSums_L2 F WT) i2 SU_1 → V p l e { frames := 2, cells := 0, slots := 0, locals := 48 } s m args below meth c D A 5 0 0 (MQ below (QV D (TI cI) ([(h, .inr (0, fs)), (fa, .inl (cI, 36, .inl F)), (ua, .inl (cI, 6, .inl (s_X0_leastSums F SU WT))), (wa, .inl (cI, 36, .inl WT))]) A) args s 0 0 A) ([(h, .inr (0, fs)), (fa, .inl (cI, 36, .inl F)), (ua, .inl (cI, 6, .inl SU_2)), (wa, .inl (cI, 36, .inl WT))]) [(4, .int x2), (3, .int (nI (i1 + 1))), (0, .ref h), (1, .ref ua), (2, .ref wa)] 11 [] by
        exact v_sub (lv' := [(4, .int 0), (3, .int (nI (i1 + 1))), (0, .ref h), (1, .ref ua), (2, .ref wa)]) [0, 1, 2, 3, 4] rfl (LP2 36 0 0 SU_1 rfl nI_0.symm rfl)
      intro j2
      induction j2 with
      | zero =>
        intro i2 x2 SU_2 hi2 hx2 hs2
        have hi2 : i2 = 36 := by omega
        subst hi2
        subst hx2
        refine v_iload C0 (pc' := 13) 0 rfl dX0_leastSums_11 rfl ?_
        refine v_bipush C0 (pc' := 15) 36 (by decide) dX0_leastSums_13 rfl ?_
        refine v_icmp_ge C0 32 (pc' := 18) dX0_leastSums_15 (by decide) rfl (fun h3 => ?_) (fun h3 => ?_)
        · refine v_iinc C0 (lv' := [(3, .int ((nI (i1 + 1)) + 1)), (4, .int (nI 36)), (0, .ref h), (1, .ref ua), (2, .ref wa)]) (pc' := 35) 1 rfl ((nI (i1 + 1)) + 1) rfl (by decide) rfl dX0_leastSums_32 rfl ?_
          refine v_goto C0 2 dX0_leastSums_35 (by decide) ?_
          exact v_sub (lv' := [(3, .int ((nI (i1 + 1)) + 1)), (0, .ref h), (1, .ref ua), (2, .ref wa)]) [0, 2, 3, 4] rfl (ih1 (i1 + 1) ((nI (i1 + 1)) + 1) SU_2 (by omega) (by rw [nI_1]) (by show _ = s_X0_leastSums_L1 F WT i1 (lp (s_X0_leastSums_L1 F WT) i1 SU); rw [← hs1]; simp only [s_X0_leastSums_L1, if_neg h2, if_pos h3, ← hs2]))
        · exact absurd (by decide +kernel) h3
      | succ j2 ih2 =>
        intro i2 x2 SU_2 hi2 hx2 hs2
        subst hx2
        refine v_iload C0 (pc' := 13) 0 rfl dX0_leastSums_11 rfl ?_
        refine v_bipush C0 (pc' := 15) 36 (by decide) dX0_leastSums_13 rfl ?_
        refine v_icmp_ge C0 32 (pc' := 18) dX0_leastSums_15 (by decide) rfl (fun h4 => ?_) (fun h4 => ?_)
        · exact absurd h4 (nI_ge (a := i2) (b := 36) (by omega) (by decide))
        · refine v_aload_n C0 (pc' := 19) 2 rfl rfl dX0_leastSums_18 rfl ?_
          refine v_aload_n C0 (pc' := 20) 3 rfl rfl dX0_leastSums_19 rfl ?_
          refine v_aload_n C0 (pc' := 21) 4 rfl rfl dX0_leastSums_20 rfl ?_
          refine v_iload C0 (pc' := 23) 0 rfl dX0_leastSums_21 rfl ?_
          refine v_callVv0 C0 (av := [.ref ua, .ref wa, .int (nI i2)]) (rest := []) (ws' := [(h, .inr (0, fs)), (fa, .inl (cI, 36, .inl F)), (ua, .inl (cI, 6, .inl (s_X0_lowerSum F SU_2 WT (nI i2)))), (wa, .inl (cI, 36, .inl WT))]) (pc' := 26) hK hA (k_X0_lowerSum l D cI h fa ua wa fs F SU_2 WT (nI i2) hf_farSlot) (cwV 3 C0.2.2.2.2 gX0_leastSums_X0_lowerSum rfl rfl rfl (by decide +kernel) ⟨Nat.le_of_ble_eq_true rfl, Nat.le_of_ble_eq_true rfl⟩) ⟨0, 0, _, _, _, rfl, rfl⟩ PLs.all rfl rfl (Nat.le_of_ble_eq_true rfl) ⟨Nat.zero_le _, Nat.zero_le _⟩ dX0_leastSums_23 rfl ?_
          refine v_iinc C0 (lv' := [(4, .int ((nI i2) + 1)), (3, .int (nI (i1 + 1))), (0, .ref h), (1, .ref ua), (2, .ref wa)]) (pc' := 29) 0 rfl ((nI i2) + 1) rfl (by decide) rfl dX0_leastSums_26 rfl ?_
          refine v_goto C0 11 dX0_leastSums_29 (by decide) ?_
          exact v_sub (lv' := [(4, .int ((nI i2) + 1)), (3, .int (nI (i1 + 1))), (0, .ref h), (1, .ref ua), (2, .ref wa)]) [0, 1, 2, 3, 4] rfl (ih2 (i2 + 1) ((nI i2) + 1) (s_X0_lowerSum F SU_2 WT (nI i2)) (by omega) (by rw [nI_1]) (by show _ = s_X0_leastSums_L2 F WT i2 (lp (s_X0_leastSums_L2 F WT) i2 SU_1); rw [← hs2]; simp only [s_X0_leastSums_L2, if_neg h2, if_neg h4]))
def s_X0_wrong_L1 (F : Nat → Int32) (B : Nat → Int32) (i1 : Nat) (n_1 : Int32) : Int32 := if (xAt 36 B (nI i1)) = (-1) then n_1 else (if (xAt 36 B (nI i1)) = (s_X0_endName (xAt 36 F (nI i1))) then n_1 else (n_1 + 1))
def s_X0_wrong (F : Nat → Int32) (B : Nat → Int32) : Int32 := (lp (s_X0_wrong_L1 F B) 36 0)
set_option maxHeartbeats 4000000 in
set_option maxRecDepth 100000 in
theorem k_X0_wrong (l : Launch) (D : va_G) (cI : ClassId) (ad : Nat → Nat) (U : Nat → Int32) (T : Nat → Int32) (F : Nat → Int32) (C : Nat → Int32) (B : Nat → Int32) (RU : Nat → Int32) (RC : Nat → Int32) (WU : Nat → Int32) (ST : Nat → Int32) (RP : Nat → Int32) (RN : Int32) (WT : Nat → Int32) (SM : Nat → Int32) (CC : Int32) (TR : Int32)  : Ki l yX0_wrong wsX0_wrong 1 21 0 0 D (TI cI) [.ref (ad 0)] (wX cI ad U T F C B RU RC WU ST RP RN WT SM CC TR) (wX cI ad U T F C B RU RC WU ST RP RN WT SM CC TR) (s_X0_wrong F B) := by
  refine Ki.of (cc := cX0_wrong) (maxL := 4) (rt := .int) (lv0 := [(0, .ref (ad 0))]) (by decide +kernel) rfl (Nat.le_of_ble_eq_true rfl) rfl ?_
  intro p e s m args below meth c A C0 hr hlk hK hA
  refine v_iconst C0 (pc' := 1) 0 (by decide) dX0_wrong_0 rfl ?_
  refine v_istore_n C0 (lv' := [(1, .int 0), (0, .ref (ad 0))]) (pc' := 2) rfl (by decide) rfl dX0_wrong_1 rfl ?_
  refine v_iconst C0 (pc' := 3) 0 (by decide) dX0_wrong_2 rfl ?_
  refine v_istore_n C0 (lv' := [(2, .int 0), (1, .int 0), (0, .ref (ad 0))]) (pc' := 4) rfl (by decide) rfl dX0_wrong_3 rfl ?_
  suffices LP1 : ∀ (j1 i1 : Nat) (x1 : Int32) (n_1 : Int32), i1 + j1 = 36 → x1 = nI i1 → n_1 = lp (s_X0_wrong_L1 F B) i1 0 → V p l e { frames := 1, cells := 0, slots := 0, locals := 21 } s m args below meth c D A 4 0 0 (MQ below (QI D (TI cI) (wX cI ad U T F C B RU RC WU ST RP RN WT SM CC TR) A (s_X0_wrong F B)) args s 0 0 A) (wX cI ad U T F C B RU RC WU ST RP RN WT SM CC TR) [(2, .int x1), (1, .int n_1), (0, .ref (ad 0))] 4 [] by
    exact v_sub (lv' := [(2, .int 0), (1, .int 0), (0, .ref (ad 0))]) [0, 1, 2] rfl (LP1 36 0 0 0 rfl nI_0.symm rfl)
  intro j1
  induction j1 with
  | zero =>
    intro i1 x1 n_1 hi1 hx1 hs1
    have hi1 : i1 = 36 := by omega
    subst hi1
    subst hx1
    refine v_iload_n C0 (pc' := 5) 0 rfl rfl dX0_wrong_4 rfl ?_
    refine v_bipush C0 (pc' := 7) 36 (by decide) dX0_wrong_5 rfl ?_
    refine v_icmp_ge C0 48 (pc' := 10) dX0_wrong_7 (by decide) rfl (fun h1 => ?_) (fun h1 => ?_)
    · refine v_iload_n C0 (pc' := 49) 1 rfl rfl dX0_wrong_48 rfl ?_
      exact v_iret C0 hr hlk hK (by simp only [s_X0_wrong, if_pos h1, ← hs1]) dX0_wrong_49
    · exact absurd (by decide +kernel) h1
  | succ j1 ih1 =>
    intro i1 x1 n_1 hi1 hx1 hs1
    subst hx1
    refine v_iload_n C0 (pc' := 5) 0 rfl rfl dX0_wrong_4 rfl ?_
    refine v_bipush C0 (pc' := 7) 36 (by decide) dX0_wrong_5 rfl ?_
    refine v_icmp_ge C0 48 (pc' := 10) dX0_wrong_7 (by decide) rfl (fun h2 => ?_) (fun h2 => ?_)
    · exact absurd h2 (nI_ge (a := i1) (b := 36) (by omega) (by decide))
    · refine v_aload_n C0 (pc' := 11) 2 rfl rfl dX0_wrong_10 rfl ?_
      refine v_get C0 hK (C := RX0) (T := TX0) (N := 15) (pc' := 14) 0 4 rfl rfl rfl (by decide) in_X0_wrong fl_X0_wrong_22 rfl dX0_wrong_11 rfl ?_
      refine v_iload_n C0 (pc' := 15) 0 rfl rfl dX0_wrong_14 rfl ?_
      refine v_callSi0 C0 (av := [.ref (ad 5), .int (nI i1)]) (rest := []) (ws' := wX cI ad U T F C B RU RC WU ST RP RN WT SM CC TR) (pc' := 18) hK hA (k_X0_at l D cI (ad 5) 36 B (nI i1) (by decide)) (va_cwS 2 C0.2.2.2.2 gX0_wrong_X0_at rfl rfl rfl (by decide +kernel) ⟨Nat.le_of_ble_eq_true rfl, Nat.le_of_ble_eq_true rfl⟩) (PLs.one0 5 rfl) rfl rfl (Nat.le_of_ble_eq_true rfl) ⟨Nat.zero_le _, Nat.zero_le _⟩ dX0_wrong_15 rfl ?_
      refine v_istore_n C0 (lv' := [(3, .int (xAt 36 B (nI i1))), (2, .int (nI i1)), (1, .int n_1), (0, .ref (ad 0))]) (pc' := 19) rfl (by decide) rfl dX0_wrong_18 rfl ?_
      refine v_iload_n C0 (pc' := 20) 0 rfl rfl dX0_wrong_19 rfl ?_
      refine v_iconst C0 (pc' := 21) (-1) (by decide) dX0_wrong_20 rfl ?_
      refine v_icmp_eq C0 42 (pc' := 24) dX0_wrong_21 (by decide) rfl (fun h3 => ?_) (fun h3 => ?_)
      · refine v_iinc C0 (lv' := [(2, .int ((nI i1) + 1)), (3, .int (xAt 36 B (nI i1))), (1, .int n_1), (0, .ref (ad 0))]) (pc' := 45) 1 rfl ((nI i1) + 1) rfl (by decide) rfl dX0_wrong_42 rfl ?_
        refine v_goto C0 4 dX0_wrong_45 (by decide) ?_
        exact v_sub (lv' := [(2, .int ((nI i1) + 1)), (1, .int n_1), (0, .ref (ad 0))]) [0, 2, 3] rfl (ih1 (i1 + 1) ((nI i1) + 1) n_1 (by omega) (by rw [nI_1]) (by show _ = s_X0_wrong_L1 F B i1 (lp (s_X0_wrong_L1 F B) i1 0); rw [← hs1]; simp only [s_X0_wrong_L1, if_neg h2, if_pos h3]))
      · refine v_iload_n C0 (pc' := 25) 0 rfl rfl dX0_wrong_24 rfl ?_
        refine v_aload_n C0 (pc' := 26) 3 rfl rfl dX0_wrong_25 rfl ?_
        refine v_get C0 hK (C := RX0) (T := TX0) (N := 15) (pc' := 29) 0 2 rfl rfl rfl (by decide) in_X0_wrong fl_X0_wrong_16 rfl dX0_wrong_26 rfl ?_
        refine v_iload_n C0 (pc' := 30) 1 rfl rfl dX0_wrong_29 rfl ?_
        refine v_callSi0 C0 (av := [.ref (ad 3), .int (nI i1)]) (rest := [.int (xAt 36 B (nI i1))]) (ws' := wX cI ad U T F C B RU RC WU ST RP RN WT SM CC TR) (pc' := 33) hK hA (k_X0_at l D cI (ad 3) 36 F (nI i1) (by decide)) (va_cwS 2 C0.2.2.2.2 gX0_wrong_X0_at rfl rfl rfl (by decide +kernel) ⟨Nat.le_of_ble_eq_true rfl, Nat.le_of_ble_eq_true rfl⟩) (PLs.one0 3 rfl) rfl rfl (Nat.le_of_ble_eq_true rfl) ⟨Nat.zero_le _, Nat.zero_le _⟩ dX0_wrong_30 rfl ?_
        refine v_callSi0 C0 (av := [.int (xAt 36 F (nI i1))]) (rest := [.int (xAt 36 B (nI i1))]) (ws' := wX cI ad U T F C B RU RC WU ST RP RN WT SM CC TR) (pc' := 36) hK hA (k_X0_endName l D cI (xAt 36 F (nI i1))) (va_cwS 1 C0.2.2.2.2 gX0_wrong_X0_endName rfl rfl rfl (by decide +kernel) ⟨Nat.le_of_ble_eq_true rfl, Nat.le_of_ble_eq_true rfl⟩) PLs.nil rfl rfl (Nat.le_of_ble_eq_true rfl) ⟨Nat.zero_le _, Nat.zero_le _⟩ dX0_wrong_33 rfl ?_
        refine v_icmp_eq C0 42 (pc' := 39) dX0_wrong_36 (by decide) rfl (fun h4 => ?_) (fun h4 => ?_)
        · refine v_iinc C0 (lv' := [(2, .int ((nI i1) + 1)), (3, .int (xAt 36 B (nI i1))), (1, .int n_1), (0, .ref (ad 0))]) (pc' := 45) 1 rfl ((nI i1) + 1) rfl (by decide) rfl dX0_wrong_42 rfl ?_
          refine v_goto C0 4 dX0_wrong_45 (by decide) ?_
          exact v_sub (lv' := [(2, .int ((nI i1) + 1)), (1, .int n_1), (0, .ref (ad 0))]) [0, 2, 3] rfl (ih1 (i1 + 1) ((nI i1) + 1) n_1 (by omega) (by rw [nI_1]) (by show _ = s_X0_wrong_L1 F B i1 (lp (s_X0_wrong_L1 F B) i1 0); rw [← hs1]; simp only [s_X0_wrong_L1, if_neg h2, if_neg h3, if_pos h4]))
        · refine v_iinc C0 (lv' := [(1, .int (n_1 + 1)), (3, .int (xAt 36 B (nI i1))), (2, .int (nI i1)), (0, .ref (ad 0))]) (pc' := 42) 2 rfl (n_1 + 1) rfl (by decide) rfl dX0_wrong_39 rfl ?_
          refine v_iinc C0 (lv' := [(2, .int ((nI i1) + 1)), (1, .int (n_1 + 1)), (3, .int (xAt 36 B (nI i1))), (0, .ref (ad 0))]) (pc' := 45) 2 rfl ((nI i1) + 1) rfl (by decide) rfl dX0_wrong_42 rfl ?_
          refine v_goto C0 4 dX0_wrong_45 (by decide) ?_
          exact v_sub (lv' := [(2, .int ((nI i1) + 1)), (1, .int (n_1 + 1)), (0, .ref (ad 0))]) [0, 1, 3] rfl (ih1 (i1 + 1) ((nI i1) + 1) (n_1 + 1) (by omega) (by rw [nI_1]) (by show _ = s_X0_wrong_L1 F B i1 (lp (s_X0_wrong_L1 F B) i1 0); rw [← hs1]; simp only [s_X0_wrong_L1, if_neg h2, if_neg h3, if_neg h4]))
def s_X0_countWays_L1 (U : Nat → Int32) (T : Nat → Int32) (F : Nat → Int32) (WU : Nat → Int32) (TR : Int32) (i1 : Nat) (n_1 : Int32) : Int32 := if (s_X0_hasLiveCable F WU TR (nI i1)) = 0 then n_1 else (if (xAt 36 F (nI i1)) ≤ (nI i1) then n_1 else (n_1 + (s_X0_waysOver U T (nI i1) (xAt 36 F (nI i1)))))
def s_X0_countWays (U : Nat → Int32) (T : Nat → Int32) (F : Nat → Int32) (WU : Nat → Int32) (TR : Int32) : Int32 := (lp (s_X0_countWays_L1 U T F WU TR) 36 0)
set_option maxHeartbeats 4000000 in
set_option maxRecDepth 100000 in
theorem k_X0_countWays (l : Launch) (D : va_G) (cI : ClassId) (ad : Nat → Nat) (U : Nat → Int32) (T : Nat → Int32) (F : Nat → Int32) (C : Nat → Int32) (B : Nat → Int32) (RU : Nat → Int32) (RC : Nat → Int32) (WU : Nat → Int32) (ST : Nat → Int32) (RP : Nat → Int32) (RN : Int32) (WT : Nat → Int32) (SM : Nat → Int32) (CC : Int32) (TR : Int32)  (hb_TR : TR = 0 ∨ TR = 1) : Ki l yX0_countWays wsX0_countWays 2 45 0 0 D (TI cI) [.ref (ad 0)] (wX cI ad U T F C B RU RC WU ST RP RN WT SM CC TR) (wX cI ad U T F C B RU RC WU ST RP RN WT SM CC TR) (s_X0_countWays U T F WU TR) := by
  refine Ki.of (cc := cX0_countWays) (maxL := 3) (rt := .int) (lv0 := [(0, .ref (ad 0))]) (by decide +kernel) rfl (Nat.le_of_ble_eq_true rfl) rfl ?_
  intro p e s m args below meth c A C0 hr hlk hK hA
  refine v_iconst C0 (pc' := 1) 0 (by decide) dX0_countWays_0 rfl ?_
  refine v_istore_n C0 (lv' := [(1, .int 0), (0, .ref (ad 0))]) (pc' := 2) rfl (by decide) rfl dX0_countWays_1 rfl ?_
  refine v_iconst C0 (pc' := 3) 0 (by decide) dX0_countWays_2 rfl ?_
  refine v_istore_n C0 (lv' := [(2, .int 0), (1, .int 0), (0, .ref (ad 0))]) (pc' := 4) rfl (by decide) rfl dX0_countWays_3 rfl ?_
  suffices LP1 : ∀ (j1 i1 : Nat) (x1 : Int32) (n_1 : Int32), i1 + j1 = 36 → x1 = nI i1 → n_1 = lp (s_X0_countWays_L1 U T F WU TR) i1 0 → V p l e { frames := 2, cells := 0, slots := 0, locals := 45 } s m args below meth c D A 3 0 0 (MQ below (QI D (TI cI) (wX cI ad U T F C B RU RC WU ST RP RN WT SM CC TR) A (s_X0_countWays U T F WU TR)) args s 0 0 A) (wX cI ad U T F C B RU RC WU ST RP RN WT SM CC TR) [(2, .int x1), (1, .int n_1), (0, .ref (ad 0))] 4 [] by
    exact v_sub (lv' := [(2, .int 0), (1, .int 0), (0, .ref (ad 0))]) [0, 1, 2] rfl (LP1 36 0 0 0 rfl nI_0.symm rfl)
  intro j1
  induction j1 with
  | zero =>
    intro i1 x1 n_1 hi1 hx1 hs1
    have hi1 : i1 = 36 := by omega
    subst hi1
    subst hx1
    refine v_iload_n C0 (pc' := 5) 0 rfl rfl dX0_countWays_4 rfl ?_
    refine v_bipush C0 (pc' := 7) 36 (by decide) dX0_countWays_5 rfl ?_
    refine v_icmp_ge C0 52 (pc' := 10) dX0_countWays_7 (by decide) rfl (fun h1 => ?_) (fun h1 => ?_)
    · refine v_iload_n C0 (pc' := 53) 1 rfl rfl dX0_countWays_52 rfl ?_
      exact v_iret C0 hr hlk hK (by simp only [s_X0_countWays, if_pos h1, ← hs1]) dX0_countWays_53
    · exact absurd (by decide +kernel) h1
  | succ j1 ih1 =>
    intro i1 x1 n_1 hi1 hx1 hs1
    subst hx1
    refine v_iload_n C0 (pc' := 5) 0 rfl rfl dX0_countWays_4 rfl ?_
    refine v_bipush C0 (pc' := 7) 36 (by decide) dX0_countWays_5 rfl ?_
    refine v_icmp_ge C0 52 (pc' := 10) dX0_countWays_7 (by decide) rfl (fun h2 => ?_) (fun h2 => ?_)
    · exact absurd h2 (nI_ge (a := i1) (b := 36) (by omega) (by decide))
    · refine v_aload_n C0 (pc' := 11) 2 rfl rfl dX0_countWays_10 rfl ?_
      refine v_iload_n C0 (pc' := 12) 0 rfl rfl dX0_countWays_11 rfl ?_
      refine v_callVi0 C0 (av := [.int (nI i1)]) (rest := []) (ws' := wX cI ad U T F C B RU RC WU ST RP RN WT SM CC TR) (pc' := 15) hK hA (k_X0_hasLiveCable l D cI ad U T F C B RU RC WU ST RP RN WT SM CC TR (nI i1) hb_TR) (cwV 1 C0.2.2.2.2 gX0_countWays_X0_hasLiveCable rfl rfl rfl (by decide +kernel) ⟨Nat.le_of_ble_eq_true rfl, Nat.le_of_ble_eq_true rfl⟩) ⟨0, 0, _, _, _, rfl, rfl⟩ PLs.all rfl rfl (Nat.le_of_ble_eq_true rfl) ⟨Nat.zero_le _, Nat.zero_le _⟩ dX0_countWays_12 rfl ?_
      refine v_if_eq C0 46 (pc' := 18) dX0_countWays_15 (by decide) rfl (fun h3 => ?_) (fun h3 => ?_)
      · refine v_iinc C0 (lv' := [(2, .int ((nI i1) + 1)), (1, .int n_1), (0, .ref (ad 0))]) (pc' := 49) 0 rfl ((nI i1) + 1) rfl (by decide) rfl dX0_countWays_46 rfl ?_
        refine v_goto C0 4 dX0_countWays_49 (by decide) ?_
        exact v_sub (lv' := [(2, .int ((nI i1) + 1)), (1, .int n_1), (0, .ref (ad 0))]) [0, 1, 2] rfl (ih1 (i1 + 1) ((nI i1) + 1) n_1 (by omega) (by rw [nI_1]) (by show _ = s_X0_countWays_L1 U T F WU TR i1 (lp (s_X0_countWays_L1 U T F WU TR) i1 0); rw [← hs1]; simp only [s_X0_countWays_L1, if_neg h2, if_pos h3]))
      · refine v_iload_n C0 (pc' := 19) 0 rfl rfl dX0_countWays_18 rfl ?_
        refine v_aload_n C0 (pc' := 20) 2 rfl rfl dX0_countWays_19 rfl ?_
        refine v_get C0 hK (C := RX0) (T := TX0) (N := 15) (pc' := 23) 0 2 rfl rfl rfl (by decide) in_X0_countWays fl_X0_countWays_16 rfl dX0_countWays_20 rfl ?_
        refine v_iload_n C0 (pc' := 24) 0 rfl rfl dX0_countWays_23 rfl ?_
        refine v_callSi0 C0 (av := [.ref (ad 3), .int (nI i1)]) (rest := [.int (nI i1)]) (ws' := wX cI ad U T F C B RU RC WU ST RP RN WT SM CC TR) (pc' := 27) hK hA (k_X0_at l D cI (ad 3) 36 F (nI i1) (by decide)) (va_cwS 2 C0.2.2.2.2 gX0_countWays_X0_at rfl rfl rfl (by decide +kernel) ⟨Nat.le_of_ble_eq_true rfl, Nat.le_of_ble_eq_true rfl⟩) (PLs.one0 3 rfl) rfl rfl (Nat.le_of_ble_eq_true rfl) ⟨Nat.zero_le _, Nat.zero_le _⟩ dX0_countWays_24 rfl ?_
        refine v_icmp_ge C0 46 (pc' := 30) dX0_countWays_27 (by decide) rfl (fun h4 => ?_) (fun h4 => ?_)
        · refine v_iinc C0 (lv' := [(2, .int ((nI i1) + 1)), (1, .int n_1), (0, .ref (ad 0))]) (pc' := 49) 0 rfl ((nI i1) + 1) rfl (by decide) rfl dX0_countWays_46 rfl ?_
          refine v_goto C0 4 dX0_countWays_49 (by decide) ?_
          exact v_sub (lv' := [(2, .int ((nI i1) + 1)), (1, .int n_1), (0, .ref (ad 0))]) [0, 1, 2] rfl (ih1 (i1 + 1) ((nI i1) + 1) n_1 (by omega) (by rw [nI_1]) (by show _ = s_X0_countWays_L1 U T F WU TR i1 (lp (s_X0_countWays_L1 U T F WU TR) i1 0); rw [← hs1]; simp only [s_X0_countWays_L1, if_neg h2, if_neg h3, if_pos h4]))
        · refine v_iload_n C0 (pc' := 31) 1 rfl rfl dX0_countWays_30 rfl ?_
          refine v_aload_n C0 (pc' := 32) 2 rfl rfl dX0_countWays_31 rfl ?_
          refine v_iload_n C0 (pc' := 33) 0 rfl rfl dX0_countWays_32 rfl ?_
          refine v_aload_n C0 (pc' := 34) 2 rfl rfl dX0_countWays_33 rfl ?_
          refine v_get C0 hK (C := RX0) (T := TX0) (N := 15) (pc' := 37) 0 2 rfl rfl rfl (by decide) in_X0_countWays fl_X0_countWays_16 rfl dX0_countWays_34 rfl ?_
          refine v_iload_n C0 (pc' := 38) 0 rfl rfl dX0_countWays_37 rfl ?_
          refine v_callSi0 C0 (av := [.ref (ad 3), .int (nI i1)]) (rest := [.int (nI i1), .ref (ad 0), .int n_1]) (ws' := wX cI ad U T F C B RU RC WU ST RP RN WT SM CC TR) (pc' := 41) hK hA (k_X0_at l D cI (ad 3) 36 F (nI i1) (by decide)) (va_cwS 2 C0.2.2.2.2 gX0_countWays_X0_at rfl rfl rfl (by decide +kernel) ⟨Nat.le_of_ble_eq_true rfl, Nat.le_of_ble_eq_true rfl⟩) (PLs.one0 3 rfl) rfl rfl (Nat.le_of_ble_eq_true rfl) ⟨Nat.zero_le _, Nat.zero_le _⟩ dX0_countWays_38 rfl ?_
          refine v_callVi0 C0 (av := [.int (nI i1), .int (xAt 36 F (nI i1))]) (rest := [.int n_1]) (ws' := wX cI ad U T F C B RU RC WU ST RP RN WT SM CC TR) (pc' := 44) hK hA (k_X0_waysOver l D cI ad U T F C B RU RC WU ST RP RN WT SM CC TR (nI i1) (xAt 36 F (nI i1))) (cwV 2 C0.2.2.2.2 gX0_countWays_X0_waysOver rfl rfl rfl (by decide +kernel) ⟨Nat.le_of_ble_eq_true rfl, Nat.le_of_ble_eq_true rfl⟩) ⟨0, 0, _, _, _, rfl, rfl⟩ PLs.all rfl rfl (Nat.le_of_ble_eq_true rfl) ⟨Nat.zero_le _, Nat.zero_le _⟩ dX0_countWays_41 rfl ?_
          refine v_iadd C0 (pc' := 45) dX0_countWays_44 rfl ?_
          refine v_istore_n C0 (lv' := [(1, .int (n_1 + (s_X0_waysOver U T (nI i1) (xAt 36 F (nI i1))))), (2, .int (nI i1)), (0, .ref (ad 0))]) (pc' := 46) rfl (by decide) rfl dX0_countWays_45 rfl ?_
          refine v_iinc C0 (lv' := [(2, .int ((nI i1) + 1)), (1, .int (n_1 + (s_X0_waysOver U T (nI i1) (xAt 36 F (nI i1))))), (0, .ref (ad 0))]) (pc' := 49) 1 rfl ((nI i1) + 1) rfl (by decide) rfl dX0_countWays_46 rfl ?_
          refine v_goto C0 4 dX0_countWays_49 (by decide) ?_
          exact v_sub (lv' := [(2, .int ((nI i1) + 1)), (1, .int (n_1 + (s_X0_waysOver U T (nI i1) (xAt 36 F (nI i1))))), (0, .ref (ad 0))]) [0, 1, 2] rfl (ih1 (i1 + 1) ((nI i1) + 1) (n_1 + (s_X0_waysOver U T (nI i1) (xAt 36 F (nI i1)))) (by omega) (by rw [nI_1]) (by show _ = s_X0_countWays_L1 U T F WU TR i1 (lp (s_X0_countWays_L1 U T F WU TR) i1 0); rw [← hs1]; simp only [s_X0_countWays_L1, if_neg h2, if_neg h3, if_neg h4]))
def s_X0_reachNeighbours_L1 (U : Nat → Int32) (T : Nat → Int32) (F : Nat → Int32) (WU : Nat → Int32) (TR : Int32) (place : Int32) (i1 : Nat) (z : (Nat → Int32) × (Nat → Int32) × Int32) : (Nat → Int32) × (Nat → Int32) × Int32 := match z with
  | (ST_1, RP_1, RN_1) => if (s_X0_placeBeyond U T F WU TR (((place / 16) * 6) + (nI i1)) (place - place / 16 * 16)) = (-1) then (ST_1, RP_1, RN_1) else (if (xAt 96 ST_1 (s_X0_placeBeyond U T F WU TR (((place / 16) * 6) + (nI i1)) (place - place / 16 * 16))) = (-1) then (s_X0_reach_ST ST_1 (s_X0_placeBeyond U T F WU TR (((place / 16) * 6) + (nI i1)) (place - place / 16 * 16)) ((xAt 96 ST_1 place) + 1), s_X0_reach_RP RP_1 RN_1 (s_X0_placeBeyond U T F WU TR (((place / 16) * 6) + (nI i1)) (place - place / 16 * 16)), s_X0_reach_RN RN_1) else (ST_1, RP_1, RN_1))
def s_X0_reachNeighbours_ST (U : Nat → Int32) (T : Nat → Int32) (F : Nat → Int32) (WU : Nat → Int32) (ST : Nat → Int32) (RP : Nat → Int32) (RN : Int32) (TR : Int32) (place : Int32) : Nat → Int32 := ((lp (s_X0_reachNeighbours_L1 U T F WU TR place) 6 (ST, RP, RN)).1)
def s_X0_reachNeighbours_RP (U : Nat → Int32) (T : Nat → Int32) (F : Nat → Int32) (WU : Nat → Int32) (ST : Nat → Int32) (RP : Nat → Int32) (RN : Int32) (TR : Int32) (place : Int32) : Nat → Int32 := ((lp (s_X0_reachNeighbours_L1 U T F WU TR place) 6 (ST, RP, RN)).2.1)
def s_X0_reachNeighbours_RN (U : Nat → Int32) (T : Nat → Int32) (F : Nat → Int32) (WU : Nat → Int32) (ST : Nat → Int32) (RP : Nat → Int32) (RN : Int32) (TR : Int32) (place : Int32) : Int32 := ((lp (s_X0_reachNeighbours_L1 U T F WU TR place) 6 (ST, RP, RN)).2.2)
set_option maxHeartbeats 4000000 in
set_option maxRecDepth 100000 in
theorem k_X0_reachNeighbours (l : Launch) (D : va_G) (cI : ClassId) (ad : Nat → Nat) (U : Nat → Int32) (T : Nat → Int32) (F : Nat → Int32) (C : Nat → Int32) (B : Nat → Int32) (RU : Nat → Int32) (RC : Nat → Int32) (WU : Nat → Int32) (ST : Nat → Int32) (RP : Nat → Int32) (RN : Int32) (WT : Nat → Int32) (SM : Nat → Int32) (CC : Int32) (TR : Int32) (place : Int32) (hb_TR : TR = 0 ∨ TR = 1) : Kv l yX0_reachNeighbours wsX0_reachNeighbours 4 90 0 0 D (TI cI) [.ref (ad 0), .int place] (wX cI ad U T F C B RU RC WU ST RP RN WT SM CC TR) (wX cI ad U T F C B RU RC WU (s_X0_reachNeighbours_ST U T F WU ST RP RN TR place) (s_X0_reachNeighbours_RP U T F WU ST RP RN TR place) (s_X0_reachNeighbours_RN U T F WU ST RP RN TR place) WT SM CC TR) := by
  refine Kv.of (cc := cX0_reachNeighbours) (maxL := 5) (lv0 := [(0, .ref (ad 0)), (1, .int place)]) (by decide +kernel) rfl (Nat.le_of_ble_eq_true rfl) rfl ?_
  intro p e s m args below meth c A C0 hr hlk hK hA
  refine v_iload_n C0 (pc' := 1) 1 rfl rfl dX0_reachNeighbours_0 rfl ?_
  refine v_bipush C0 (pc' := 3) 16 (by decide) dX0_reachNeighbours_1 rfl ?_
  refine v_idiv C0 (pc' := 4) (by decide) dX0_reachNeighbours_3 rfl ?_
  refine v_istore_n C0 (lv' := [(2, .int (place / 16)), (0, .ref (ad 0)), (1, .int place)]) (pc' := 5) rfl (by decide) rfl dX0_reachNeighbours_4 rfl ?_
  refine v_iconst C0 (pc' := 6) 0 (by decide) dX0_reachNeighbours_5 rfl ?_
  refine v_istore_n C0 (lv' := [(3, .int 0), (2, .int (place / 16)), (0, .ref (ad 0)), (1, .int place)]) (pc' := 7) rfl (by decide) rfl dX0_reachNeighbours_6 rfl ?_
  suffices LP1 : ∀ (j1 i1 : Nat) (x1 : Int32) (ST_1 : Nat → Int32) (RP_1 : Nat → Int32) (RN_1 : Int32), i1 + j1 = 6 → x1 = nI i1 → (ST_1, RP_1, RN_1) = lp (s_X0_reachNeighbours_L1 U T F WU TR place) i1 (ST, RP, RN) → V p l e { frames := 4, cells := 0, slots := 0, locals := 90 } s m args below meth c D A 5 0 0 (MQ below (QV D (TI cI) (wX cI ad U T F C B RU RC WU (s_X0_reachNeighbours_ST U T F WU ST RP RN TR place) (s_X0_reachNeighbours_RP U T F WU ST RP RN TR place) (s_X0_reachNeighbours_RN U T F WU ST RP RN TR place) WT SM CC TR) A) args s 0 0 A) (wX cI ad U T F C B RU RC WU ST_1 RP_1 RN_1 WT SM CC TR) [(3, .int x1), (2, .int (place / 16)), (0, .ref (ad 0)), (1, .int place)] 7 [] by
    exact v_sub (lv' := [(3, .int 0), (2, .int (place / 16)), (0, .ref (ad 0)), (1, .int place)]) [0, 1, 2, 3] rfl (LP1 6 0 0 ST RP RN rfl nI_0.symm rfl)
  intro j1
  induction j1 with
  | zero =>
    intro i1 x1 ST_1 RP_1 RN_1 hi1 hx1 hs1
    have hi1 : i1 = 6 := by omega
    subst hi1
    subst hx1
    refine v_iload_n C0 (pc' := 8) 0 rfl rfl dX0_reachNeighbours_7 rfl ?_
    refine v_bipush C0 (pc' := 10) 6 (by decide) dX0_reachNeighbours_8 rfl ?_
    refine v_icmp_ge C0 70 (pc' := 13) dX0_reachNeighbours_10 (by decide) rfl (fun h1 => ?_) (fun h1 => ?_)
    · refine v_world (ws' := wX cI ad U T F C B RU RC WU (s_X0_reachNeighbours_ST U T F WU ST RP RN TR place) (s_X0_reachNeighbours_RP U T F WU ST RP RN TR place) (s_X0_reachNeighbours_RN U T F WU ST RP RN TR place) WT SM CC TR) (by simp only [s_X0_reachNeighbours_ST, s_X0_reachNeighbours_RP, s_X0_reachNeighbours_RN, if_pos h1, ← hs1]) ?_
      exact v_vret C0 hr hlk hK dX0_reachNeighbours_70
    · exact absurd (by decide +kernel) h1
  | succ j1 ih1 =>
    intro i1 x1 ST_1 RP_1 RN_1 hi1 hx1 hs1
    subst hx1
    refine v_iload_n C0 (pc' := 8) 0 rfl rfl dX0_reachNeighbours_7 rfl ?_
    refine v_bipush C0 (pc' := 10) 6 (by decide) dX0_reachNeighbours_8 rfl ?_
    refine v_icmp_ge C0 70 (pc' := 13) dX0_reachNeighbours_10 (by decide) rfl (fun h2 => ?_) (fun h2 => ?_)
    · exact absurd h2 (nI_ge (a := i1) (b := 6) (by omega) (by decide))
    · refine v_aload_n C0 (pc' := 14) 2 rfl rfl dX0_reachNeighbours_13 rfl ?_
      refine v_iload_n C0 (pc' := 15) 1 rfl rfl dX0_reachNeighbours_14 rfl ?_
      refine v_bipush C0 (pc' := 17) 6 (by decide) dX0_reachNeighbours_15 rfl ?_
      refine v_imul C0 (pc' := 18) dX0_reachNeighbours_17 rfl ?_
      refine v_iload_n C0 (pc' := 19) 0 rfl rfl dX0_reachNeighbours_18 rfl ?_
      refine v_iadd C0 (pc' := 20) dX0_reachNeighbours_19 rfl ?_
      refine v_iload_n C0 (pc' := 21) 3 rfl rfl dX0_reachNeighbours_20 rfl ?_
      refine v_bipush C0 (pc' := 23) 16 (by decide) dX0_reachNeighbours_21 rfl ?_
      refine v_irem C0 (pc' := 24) (by decide) dX0_reachNeighbours_23 rfl ?_
      refine v_callVi0 C0 (av := [.int (((place / 16) * 6) + (nI i1)), .int (place - place / 16 * 16)]) (rest := []) (ws' := wX cI ad U T F C B RU RC WU ST_1 RP_1 RN_1 WT SM CC TR) (pc' := 27) hK hA (k_X0_placeBeyond l D cI ad U T F C B RU RC WU ST_1 RP_1 RN_1 WT SM CC TR (((place / 16) * 6) + (nI i1)) (place - place / 16 * 16) hb_TR) (cwV 2 C0.2.2.2.2 gX0_reachNeighbours_X0_placeBeyond rfl rfl rfl (by decide +kernel) ⟨Nat.le_of_ble_eq_true rfl, Nat.le_of_ble_eq_true rfl⟩) ⟨0, 0, _, _, _, rfl, rfl⟩ PLs.all rfl rfl (Nat.le_of_ble_eq_true rfl) ⟨Nat.zero_le _, Nat.zero_le _⟩ dX0_reachNeighbours_24 rfl ?_
      refine v_istore C0 (lv' := [(4, .int (s_X0_placeBeyond U T F WU TR (((place / 16) * 6) + (nI i1)) (place - place / 16 * 16))), (3, .int (nI i1)), (2, .int (place / 16)), (0, .ref (ad 0)), (1, .int place)]) (pc' := 29) (by decide) rfl dX0_reachNeighbours_27 rfl ?_
      refine v_iload C0 (pc' := 31) 0 rfl dX0_reachNeighbours_29 rfl ?_
      refine v_iconst C0 (pc' := 32) (-1) (by decide) dX0_reachNeighbours_31 rfl ?_
      refine v_icmp_eq C0 64 (pc' := 35) dX0_reachNeighbours_32 (by decide) rfl (fun h3 => ?_) (fun h3 => ?_)
      · refine v_iinc C0 (lv' := [(3, .int ((nI i1) + 1)), (4, .int (s_X0_placeBeyond U T F WU TR (((place / 16) * 6) + (nI i1)) (place - place / 16 * 16))), (2, .int (place / 16)), (0, .ref (ad 0)), (1, .int place)]) (pc' := 67) 1 rfl ((nI i1) + 1) rfl (by decide) rfl dX0_reachNeighbours_64 rfl ?_
        refine v_goto C0 7 dX0_reachNeighbours_67 (by decide) ?_
        exact v_sub (lv' := [(3, .int ((nI i1) + 1)), (2, .int (place / 16)), (0, .ref (ad 0)), (1, .int place)]) [0, 2, 3, 4] rfl (ih1 (i1 + 1) ((nI i1) + 1) ST_1 RP_1 RN_1 (by omega) (by rw [nI_1]) (by show _ = s_X0_reachNeighbours_L1 U T F WU TR place i1 (lp (s_X0_reachNeighbours_L1 U T F WU TR place) i1 (ST, RP, RN)); rw [← hs1]; simp only [s_X0_reachNeighbours_L1, if_neg h2, if_pos h3]))
      · refine v_aload_n C0 (pc' := 36) 3 rfl rfl dX0_reachNeighbours_35 rfl ?_
        refine v_get C0 hK (C := RX0) (T := TX0) (N := 15) (pc' := 39) 0 8 rfl rfl rfl (by decide) in_X0_reachNeighbours fl_X0_reachNeighbours_34 rfl dX0_reachNeighbours_36 rfl ?_
        refine v_iload C0 (pc' := 41) 0 rfl dX0_reachNeighbours_39 rfl ?_
        refine v_callSi0 C0 (av := [.ref (ad 9), .int (s_X0_placeBeyond U T F WU TR (((place / 16) * 6) + (nI i1)) (place - place / 16 * 16))]) (rest := []) (ws' := wX cI ad U T F C B RU RC WU ST_1 RP_1 RN_1 WT SM CC TR) (pc' := 44) hK hA (k_X0_at l D cI (ad 9) 96 ST_1 (s_X0_placeBeyond U T F WU TR (((place / 16) * 6) + (nI i1)) (place - place / 16 * 16)) (by decide)) (va_cwS 2 C0.2.2.2.2 gX0_reachNeighbours_X0_at rfl rfl rfl (by decide +kernel) ⟨Nat.le_of_ble_eq_true rfl, Nat.le_of_ble_eq_true rfl⟩) (PLs.one0 9 rfl) rfl rfl (Nat.le_of_ble_eq_true rfl) ⟨Nat.zero_le _, Nat.zero_le _⟩ dX0_reachNeighbours_41 rfl ?_
        refine v_iconst C0 (pc' := 45) (-1) (by decide) dX0_reachNeighbours_44 rfl ?_
        refine v_icmp_ne C0 64 (pc' := 48) dX0_reachNeighbours_45 (by decide) rfl (fun h4 => ?_) (fun h4 => ?_)
        · refine v_iinc C0 (lv' := [(3, .int ((nI i1) + 1)), (4, .int (s_X0_placeBeyond U T F WU TR (((place / 16) * 6) + (nI i1)) (place - place / 16 * 16))), (2, .int (place / 16)), (0, .ref (ad 0)), (1, .int place)]) (pc' := 67) 1 rfl ((nI i1) + 1) rfl (by decide) rfl dX0_reachNeighbours_64 rfl ?_
          refine v_goto C0 7 dX0_reachNeighbours_67 (by decide) ?_
          exact v_sub (lv' := [(3, .int ((nI i1) + 1)), (2, .int (place / 16)), (0, .ref (ad 0)), (1, .int place)]) [0, 2, 3, 4] rfl (ih1 (i1 + 1) ((nI i1) + 1) ST_1 RP_1 RN_1 (by omega) (by rw [nI_1]) (by show _ = s_X0_reachNeighbours_L1 U T F WU TR place i1 (lp (s_X0_reachNeighbours_L1 U T F WU TR place) i1 (ST, RP, RN)); rw [← hs1]; simp only [s_X0_reachNeighbours_L1, if_neg h2, if_neg h3, if_neg h4]))
        · refine v_aload_n C0 (pc' := 49) 3 rfl rfl dX0_reachNeighbours_48 rfl ?_
          refine v_iload C0 (pc' := 51) 0 rfl dX0_reachNeighbours_49 rfl ?_
          refine v_aload_n C0 (pc' := 52) 3 rfl rfl dX0_reachNeighbours_51 rfl ?_
          refine v_get C0 hK (C := RX0) (T := TX0) (N := 15) (pc' := 55) 0 8 rfl rfl rfl (by decide) in_X0_reachNeighbours fl_X0_reachNeighbours_34 rfl dX0_reachNeighbours_52 rfl ?_
          refine v_iload_n C0 (pc' := 56) 4 rfl rfl dX0_reachNeighbours_55 rfl ?_
          refine v_callSi0 C0 (av := [.ref (ad 9), .int place]) (rest := [.int (s_X0_placeBeyond U T F WU TR (((place / 16) * 6) + (nI i1)) (place - place / 16 * 16)), .ref (ad 0)]) (ws' := wX cI ad U T F C B RU RC WU ST_1 RP_1 RN_1 WT SM CC TR) (pc' := 59) hK hA (k_X0_at l D cI (ad 9) 96 ST_1 place (by decide)) (va_cwS 2 C0.2.2.2.2 gX0_reachNeighbours_X0_at rfl rfl rfl (by decide +kernel) ⟨Nat.le_of_ble_eq_true rfl, Nat.le_of_ble_eq_true rfl⟩) (PLs.one0 9 rfl) rfl rfl (Nat.le_of_ble_eq_true rfl) ⟨Nat.zero_le _, Nat.zero_le _⟩ dX0_reachNeighbours_56 rfl ?_
          refine v_iconst C0 (pc' := 60) 1 (by decide) dX0_reachNeighbours_59 rfl ?_
          refine v_iadd C0 (pc' := 61) dX0_reachNeighbours_60 rfl ?_
          refine v_callVv0 C0 (av := [.int (s_X0_placeBeyond U T F WU TR (((place / 16) * 6) + (nI i1)) (place - place / 16 * 16)), .int ((xAt 96 ST_1 place) + 1)]) (rest := []) (ws' := wX cI ad U T F C B RU RC WU (s_X0_reach_ST ST_1 (s_X0_placeBeyond U T F WU TR (((place / 16) * 6) + (nI i1)) (place - place / 16 * 16)) ((xAt 96 ST_1 place) + 1)) (s_X0_reach_RP RP_1 RN_1 (s_X0_placeBeyond U T F WU TR (((place / 16) * 6) + (nI i1)) (place - place / 16 * 16))) (s_X0_reach_RN RN_1) WT SM CC TR) (pc' := 64) hK hA (k_X0_reach l D cI ad U T F C B RU RC WU ST_1 RP_1 RN_1 WT SM CC TR (s_X0_placeBeyond U T F WU TR (((place / 16) * 6) + (nI i1)) (place - place / 16 * 16)) ((xAt 96 ST_1 place) + 1)) (cwV 2 C0.2.2.2.2 gX0_reachNeighbours_X0_reach rfl rfl rfl (by decide +kernel) ⟨Nat.le_of_ble_eq_true rfl, Nat.le_of_ble_eq_true rfl⟩) ⟨0, 0, _, _, _, rfl, rfl⟩ PLs.all rfl rfl (Nat.le_of_ble_eq_true rfl) ⟨Nat.zero_le _, Nat.zero_le _⟩ dX0_reachNeighbours_61 rfl ?_
          refine v_iinc C0 (lv' := [(3, .int ((nI i1) + 1)), (4, .int (s_X0_placeBeyond U T F WU TR (((place / 16) * 6) + (nI i1)) (place - place / 16 * 16))), (2, .int (place / 16)), (0, .ref (ad 0)), (1, .int place)]) (pc' := 67) 1 rfl ((nI i1) + 1) rfl (by decide) rfl dX0_reachNeighbours_64 rfl ?_
          refine v_goto C0 7 dX0_reachNeighbours_67 (by decide) ?_
          exact v_sub (lv' := [(3, .int ((nI i1) + 1)), (2, .int (place / 16)), (0, .ref (ad 0)), (1, .int place)]) [0, 2, 3, 4] rfl (ih1 (i1 + 1) ((nI i1) + 1) (s_X0_reach_ST ST_1 (s_X0_placeBeyond U T F WU TR (((place / 16) * 6) + (nI i1)) (place - place / 16 * 16)) ((xAt 96 ST_1 place) + 1)) (s_X0_reach_RP RP_1 RN_1 (s_X0_placeBeyond U T F WU TR (((place / 16) * 6) + (nI i1)) (place - place / 16 * 16))) (s_X0_reach_RN RN_1) (by omega) (by rw [nI_1]) (by show _ = s_X0_reachNeighbours_L1 U T F WU TR place i1 (lp (s_X0_reachNeighbours_L1 U T F WU TR place) i1 (ST, RP, RN)); rw [← hs1]; simp only [s_X0_reachNeighbours_L1, if_neg h2, if_neg h3, if_pos h4]))
def s_X0_bestWayUp_L1 (F : Nat → Int32) (C : Nat → Int32) (RC : Nat → Int32) (unit : Int32) (i1 : Nat) (z : Int32 × Int32) : Int32 × Int32 := match z with
  | (best_1, bu_1) => if (xAt 36 F ((unit * 6) + (nI i1))) = (-1) then (best_1, bu_1) else (if ((xAt 36 C ((unit * 6) + (nI i1))) + (xAt 6 RC ((xAt 36 F ((unit * 6) + (nI i1))) / 6))) = (xAt 6 RC unit) then (if bu_1 ≤ ((xAt 36 F ((unit * 6) + (nI i1))) / 6) then (best_1, bu_1) else ((unit * 6) + (nI i1), (xAt 36 F ((unit * 6) + (nI i1))) / 6)) else (best_1, bu_1))
def s_X0_bestWayUp (F : Nat → Int32) (C : Nat → Int32) (RC : Nat → Int32) (unit : Int32) : Int32 := ((lp (s_X0_bestWayUp_L1 F C RC unit) 6 ((-1), 6)).1)
set_option maxHeartbeats 4000000 in
set_option maxRecDepth 100000 in
theorem k_X0_bestWayUp (l : Launch) (D : va_G) (cI : ClassId) (ad : Nat → Nat) (U : Nat → Int32) (T : Nat → Int32) (F : Nat → Int32) (C : Nat → Int32) (B : Nat → Int32) (RU : Nat → Int32) (RC : Nat → Int32) (WU : Nat → Int32) (ST : Nat → Int32) (RP : Nat → Int32) (RN : Int32) (WT : Nat → Int32) (SM : Nat → Int32) (CC : Int32) (TR : Int32) (unit : Int32) : Ki l yX0_bestWayUp wsX0_bestWayUp 1 21 0 0 D (TI cI) [.ref (ad 0), .int unit] (wX cI ad U T F C B RU RC WU ST RP RN WT SM CC TR) (wX cI ad U T F C B RU RC WU ST RP RN WT SM CC TR) (s_X0_bestWayUp F C RC unit) := by
  refine Ki.of (cc := cX0_bestWayUp) (maxL := 9) (rt := .int) (lv0 := [(0, .ref (ad 0)), (1, .int unit)]) (by decide +kernel) rfl (Nat.le_of_ble_eq_true rfl) rfl ?_
  intro p e s m args below meth c A C0 hr hlk hK hA
  refine v_iconst C0 (pc' := 1) (-1) (by decide) dX0_bestWayUp_0 rfl ?_
  refine v_istore_n C0 (lv' := [(2, .int (-1)), (0, .ref (ad 0)), (1, .int unit)]) (pc' := 2) rfl (by decide) rfl dX0_bestWayUp_1 rfl ?_
  refine v_bipush C0 (pc' := 4) 6 (by decide) dX0_bestWayUp_2 rfl ?_
  refine v_istore_n C0 (lv' := [(3, .int 6), (2, .int (-1)), (0, .ref (ad 0)), (1, .int unit)]) (pc' := 5) rfl (by decide) rfl dX0_bestWayUp_4 rfl ?_
  refine v_iconst C0 (pc' := 6) 0 (by decide) dX0_bestWayUp_5 rfl ?_
  refine v_istore C0 (lv' := [(4, .int 0), (3, .int 6), (2, .int (-1)), (0, .ref (ad 0)), (1, .int unit)]) (pc' := 8) (by decide) rfl dX0_bestWayUp_6 rfl ?_
  suffices LP1 : ∀ (j1 i1 : Nat) (x1 : Int32) (best_1 : Int32) (bu_1 : Int32), i1 + j1 = 6 → x1 = nI i1 → (best_1, bu_1) = lp (s_X0_bestWayUp_L1 F C RC unit) i1 ((-1), 6) → V p l e { frames := 1, cells := 0, slots := 0, locals := 21 } s m args below meth c D A 9 0 0 (MQ below (QI D (TI cI) (wX cI ad U T F C B RU RC WU ST RP RN WT SM CC TR) A (s_X0_bestWayUp F C RC unit)) args s 0 0 A) (wX cI ad U T F C B RU RC WU ST RP RN WT SM CC TR) [(4, .int x1), (2, .int best_1), (3, .int bu_1), (0, .ref (ad 0)), (1, .int unit)] 8 [] by
    exact v_sub (lv' := [(4, .int 0), (2, .int (-1)), (3, .int 6), (0, .ref (ad 0)), (1, .int unit)]) [0, 2, 1, 3, 4] rfl (LP1 6 0 0 (-1) 6 rfl nI_0.symm rfl)
  intro j1
  induction j1 with
  | zero =>
    intro i1 x1 best_1 bu_1 hi1 hx1 hs1
    have hi1 : i1 = 6 := by omega
    subst hi1
    subst hx1
    refine v_iload C0 (pc' := 10) 0 rfl dX0_bestWayUp_8 rfl ?_
    refine v_bipush C0 (pc' := 12) 6 (by decide) dX0_bestWayUp_10 rfl ?_
    refine v_icmp_ge C0 103 (pc' := 15) dX0_bestWayUp_12 (by decide) rfl (fun h1 => ?_) (fun h1 => ?_)
    · refine v_iload_n C0 (pc' := 104) 1 rfl rfl dX0_bestWayUp_103 rfl ?_
      exact v_iret C0 hr hlk hK (by simp only [s_X0_bestWayUp, if_pos h1, ← hs1]) dX0_bestWayUp_104
    · exact absurd (by decide +kernel) h1
  | succ j1 ih1 =>
    intro i1 x1 best_1 bu_1 hi1 hx1 hs1
    subst hx1
    refine v_iload C0 (pc' := 10) 0 rfl dX0_bestWayUp_8 rfl ?_
    refine v_bipush C0 (pc' := 12) 6 (by decide) dX0_bestWayUp_10 rfl ?_
    refine v_icmp_ge C0 103 (pc' := 15) dX0_bestWayUp_12 (by decide) rfl (fun h2 => ?_) (fun h2 => ?_)
    · exact absurd h2 (nI_ge (a := i1) (b := 6) (by omega) (by decide))
    · refine v_iload_n C0 (pc' := 16) 4 rfl rfl dX0_bestWayUp_15 rfl ?_
      refine v_bipush C0 (pc' := 18) 6 (by decide) dX0_bestWayUp_16 rfl ?_
      refine v_imul C0 (pc' := 19) dX0_bestWayUp_18 rfl ?_
      refine v_iload C0 (pc' := 21) 0 rfl dX0_bestWayUp_19 rfl ?_
      refine v_iadd C0 (pc' := 22) dX0_bestWayUp_21 rfl ?_
      refine v_istore C0 (lv' := [(5, .int ((unit * 6) + (nI i1))), (4, .int (nI i1)), (2, .int best_1), (3, .int bu_1), (0, .ref (ad 0)), (1, .int unit)]) (pc' := 24) (by decide) rfl dX0_bestWayUp_22 rfl ?_
      refine v_aload_n C0 (pc' := 25) 4 rfl rfl dX0_bestWayUp_24 rfl ?_
      refine v_get C0 hK (C := RX0) (T := TX0) (N := 15) (pc' := 28) 0 2 rfl rfl rfl (by decide) in_X0_bestWayUp fl_X0_bestWayUp_16 rfl dX0_bestWayUp_25 rfl ?_
      refine v_iload C0 (pc' := 30) 0 rfl dX0_bestWayUp_28 rfl ?_
      refine v_callSi0 C0 (av := [.ref (ad 3), .int ((unit * 6) + (nI i1))]) (rest := []) (ws' := wX cI ad U T F C B RU RC WU ST RP RN WT SM CC TR) (pc' := 33) hK hA (k_X0_at l D cI (ad 3) 36 F ((unit * 6) + (nI i1)) (by decide)) (va_cwS 2 C0.2.2.2.2 gX0_bestWayUp_X0_at rfl rfl rfl (by decide +kernel) ⟨Nat.le_of_ble_eq_true rfl, Nat.le_of_ble_eq_true rfl⟩) (PLs.one0 3 rfl) rfl rfl (Nat.le_of_ble_eq_true rfl) ⟨Nat.zero_le _, Nat.zero_le _⟩ dX0_bestWayUp_30 rfl ?_
      refine v_istore C0 (lv' := [(6, .int (xAt 36 F ((unit * 6) + (nI i1)))), (5, .int ((unit * 6) + (nI i1))), (4, .int (nI i1)), (2, .int best_1), (3, .int bu_1), (0, .ref (ad 0)), (1, .int unit)]) (pc' := 35) (by decide) rfl dX0_bestWayUp_33 rfl ?_
      refine v_iload C0 (pc' := 37) 0 rfl dX0_bestWayUp_35 rfl ?_
      refine v_iconst C0 (pc' := 38) (-1) (by decide) dX0_bestWayUp_37 rfl ?_
      refine v_icmp_ne C0 44 (pc' := 41) dX0_bestWayUp_38 (by decide) rfl (fun h3 => ?_) (fun h3 => ?_)
      · refine v_iload C0 (pc' := 46) 0 rfl dX0_bestWayUp_44 rfl ?_
        refine v_bipush C0 (pc' := 48) 6 (by decide) dX0_bestWayUp_46 rfl ?_
        refine v_idiv C0 (pc' := 49) (by decide) dX0_bestWayUp_48 rfl ?_
        refine v_istore C0 (lv' := [(7, .int ((xAt 36 F ((unit * 6) + (nI i1))) / 6)), (6, .int (xAt 36 F ((unit * 6) + (nI i1)))), (5, .int ((unit * 6) + (nI i1))), (4, .int (nI i1)), (2, .int best_1), (3, .int bu_1), (0, .ref (ad 0)), (1, .int unit)]) (pc' := 51) (by decide) rfl dX0_bestWayUp_49 rfl ?_
        refine v_aload_n C0 (pc' := 52) 6 rfl rfl dX0_bestWayUp_51 rfl ?_
        refine v_get C0 hK (C := RX0) (T := TX0) (N := 15) (pc' := 55) 0 3 rfl rfl rfl (by decide) in_X0_bestWayUp fl_X0_bestWayUp_19 rfl dX0_bestWayUp_52 rfl ?_
        refine v_iload C0 (pc' := 57) 2 rfl dX0_bestWayUp_55 rfl ?_
        refine v_callSi0 C0 (av := [.ref (ad 4), .int ((unit * 6) + (nI i1))]) (rest := []) (ws' := wX cI ad U T F C B RU RC WU ST RP RN WT SM CC TR) (pc' := 60) hK hA (k_X0_at l D cI (ad 4) 36 C ((unit * 6) + (nI i1)) (by decide)) (va_cwS 2 C0.2.2.2.2 gX0_bestWayUp_X0_at rfl rfl rfl (by decide +kernel) ⟨Nat.le_of_ble_eq_true rfl, Nat.le_of_ble_eq_true rfl⟩) (PLs.one0 4 rfl) rfl rfl (Nat.le_of_ble_eq_true rfl) ⟨Nat.zero_le _, Nat.zero_le _⟩ dX0_bestWayUp_57 rfl ?_
        refine v_aload_n C0 (pc' := 61) 6 rfl rfl dX0_bestWayUp_60 rfl ?_
        refine v_get C0 hK (C := RX0) (T := TX0) (N := 15) (pc' := 64) 0 6 rfl rfl rfl (by decide) in_X0_bestWayUp fl_X0_bestWayUp_28 rfl dX0_bestWayUp_61 rfl ?_
        refine v_iload C0 (pc' := 66) 0 rfl dX0_bestWayUp_64 rfl ?_
        refine v_callSi0 C0 (av := [.ref (ad 7), .int ((xAt 36 F ((unit * 6) + (nI i1))) / 6)]) (rest := [.int (xAt 36 C ((unit * 6) + (nI i1)))]) (ws' := wX cI ad U T F C B RU RC WU ST RP RN WT SM CC TR) (pc' := 69) hK hA (k_X0_at l D cI (ad 7) 6 RC ((xAt 36 F ((unit * 6) + (nI i1))) / 6) (by decide)) (va_cwS 2 C0.2.2.2.2 gX0_bestWayUp_X0_at rfl rfl rfl (by decide +kernel) ⟨Nat.le_of_ble_eq_true rfl, Nat.le_of_ble_eq_true rfl⟩) (PLs.one0 7 rfl) rfl rfl (Nat.le_of_ble_eq_true rfl) ⟨Nat.zero_le _, Nat.zero_le _⟩ dX0_bestWayUp_66 rfl ?_
        refine v_iadd C0 (pc' := 70) dX0_bestWayUp_69 rfl ?_
        refine v_istore C0 (lv' := [(8, .int ((xAt 36 C ((unit * 6) + (nI i1))) + (xAt 6 RC ((xAt 36 F ((unit * 6) + (nI i1))) / 6)))), (7, .int ((xAt 36 F ((unit * 6) + (nI i1))) / 6)), (6, .int (xAt 36 F ((unit * 6) + (nI i1)))), (5, .int ((unit * 6) + (nI i1))), (4, .int (nI i1)), (2, .int best_1), (3, .int bu_1), (0, .ref (ad 0)), (1, .int unit)]) (pc' := 72) (by decide) rfl dX0_bestWayUp_70 rfl ?_
        refine v_iload C0 (pc' := 74) 0 rfl dX0_bestWayUp_72 rfl ?_
        refine v_aload_n C0 (pc' := 75) 7 rfl rfl dX0_bestWayUp_74 rfl ?_
        refine v_get C0 hK (C := RX0) (T := TX0) (N := 15) (pc' := 78) 0 6 rfl rfl rfl (by decide) in_X0_bestWayUp fl_X0_bestWayUp_28 rfl dX0_bestWayUp_75 rfl ?_
        refine v_iload_n C0 (pc' := 79) 8 rfl rfl dX0_bestWayUp_78 rfl ?_
        refine v_callSi0 C0 (av := [.ref (ad 7), .int unit]) (rest := [.int ((xAt 36 C ((unit * 6) + (nI i1))) + (xAt 6 RC ((xAt 36 F ((unit * 6) + (nI i1))) / 6)))]) (ws' := wX cI ad U T F C B RU RC WU ST RP RN WT SM CC TR) (pc' := 82) hK hA (k_X0_at l D cI (ad 7) 6 RC unit (by decide)) (va_cwS 2 C0.2.2.2.2 gX0_bestWayUp_X0_at rfl rfl rfl (by decide +kernel) ⟨Nat.le_of_ble_eq_true rfl, Nat.le_of_ble_eq_true rfl⟩) (PLs.one0 7 rfl) rfl rfl (Nat.le_of_ble_eq_true rfl) ⟨Nat.zero_le _, Nat.zero_le _⟩ dX0_bestWayUp_79 rfl ?_
        refine v_icmp_ne C0 97 (pc' := 85) dX0_bestWayUp_82 (by decide) rfl (fun h4 => ?_) (fun h4 => ?_)
        · refine v_iinc C0 (lv' := [(4, .int ((nI i1) + 1)), (8, .int ((xAt 36 C ((unit * 6) + (nI i1))) + (xAt 6 RC ((xAt 36 F ((unit * 6) + (nI i1))) / 6)))), (7, .int ((xAt 36 F ((unit * 6) + (nI i1))) / 6)), (6, .int (xAt 36 F ((unit * 6) + (nI i1)))), (5, .int ((unit * 6) + (nI i1))), (2, .int best_1), (3, .int bu_1), (0, .ref (ad 0)), (1, .int unit)]) (pc' := 100) 4 rfl ((nI i1) + 1) rfl (by decide) rfl dX0_bestWayUp_97 rfl ?_
          refine v_goto C0 8 dX0_bestWayUp_100 (by decide) ?_
          exact v_sub (lv' := [(4, .int ((nI i1) + 1)), (2, .int best_1), (3, .int bu_1), (0, .ref (ad 0)), (1, .int unit)]) [0, 5, 6, 7, 8] rfl (ih1 (i1 + 1) ((nI i1) + 1) best_1 bu_1 (by omega) (by rw [nI_1]) (by show _ = s_X0_bestWayUp_L1 F C RC unit i1 (lp (s_X0_bestWayUp_L1 F C RC unit) i1 ((-1), 6)); rw [← hs1]; simp only [s_X0_bestWayUp_L1, if_neg h2, if_neg h3, if_neg h4]))
        · refine v_iload C0 (pc' := 87) 1 rfl dX0_bestWayUp_85 rfl ?_
          refine v_iload_n C0 (pc' := 88) 6 rfl rfl dX0_bestWayUp_87 rfl ?_
          refine v_icmp_ge C0 97 (pc' := 91) dX0_bestWayUp_88 (by decide) rfl (fun h5 => ?_) (fun h5 => ?_)
          · refine v_iinc C0 (lv' := [(4, .int ((nI i1) + 1)), (8, .int ((xAt 36 C ((unit * 6) + (nI i1))) + (xAt 6 RC ((xAt 36 F ((unit * 6) + (nI i1))) / 6)))), (7, .int ((xAt 36 F ((unit * 6) + (nI i1))) / 6)), (6, .int (xAt 36 F ((unit * 6) + (nI i1)))), (5, .int ((unit * 6) + (nI i1))), (2, .int best_1), (3, .int bu_1), (0, .ref (ad 0)), (1, .int unit)]) (pc' := 100) 4 rfl ((nI i1) + 1) rfl (by decide) rfl dX0_bestWayUp_97 rfl ?_
            refine v_goto C0 8 dX0_bestWayUp_100 (by decide) ?_
            exact v_sub (lv' := [(4, .int ((nI i1) + 1)), (2, .int best_1), (3, .int bu_1), (0, .ref (ad 0)), (1, .int unit)]) [0, 5, 6, 7, 8] rfl (ih1 (i1 + 1) ((nI i1) + 1) best_1 bu_1 (by omega) (by rw [nI_1]) (by show _ = s_X0_bestWayUp_L1 F C RC unit i1 (lp (s_X0_bestWayUp_L1 F C RC unit) i1 ((-1), 6)); rw [← hs1]; simp only [s_X0_bestWayUp_L1, if_neg h2, if_neg h3, if_pos h4, if_pos h5]))
          · refine v_iload C0 (pc' := 93) 3 rfl dX0_bestWayUp_91 rfl ?_
            refine v_istore_n C0 (lv' := [(2, .int ((unit * 6) + (nI i1))), (8, .int ((xAt 36 C ((unit * 6) + (nI i1))) + (xAt 6 RC ((xAt 36 F ((unit * 6) + (nI i1))) / 6)))), (7, .int ((xAt 36 F ((unit * 6) + (nI i1))) / 6)), (6, .int (xAt 36 F ((unit * 6) + (nI i1)))), (5, .int ((unit * 6) + (nI i1))), (4, .int (nI i1)), (3, .int bu_1), (0, .ref (ad 0)), (1, .int unit)]) (pc' := 94) rfl (by decide) rfl dX0_bestWayUp_93 rfl ?_
            refine v_iload C0 (pc' := 96) 2 rfl dX0_bestWayUp_94 rfl ?_
            refine v_istore_n C0 (lv' := [(3, .int ((xAt 36 F ((unit * 6) + (nI i1))) / 6)), (2, .int ((unit * 6) + (nI i1))), (8, .int ((xAt 36 C ((unit * 6) + (nI i1))) + (xAt 6 RC ((xAt 36 F ((unit * 6) + (nI i1))) / 6)))), (7, .int ((xAt 36 F ((unit * 6) + (nI i1))) / 6)), (6, .int (xAt 36 F ((unit * 6) + (nI i1)))), (5, .int ((unit * 6) + (nI i1))), (4, .int (nI i1)), (0, .ref (ad 0)), (1, .int unit)]) (pc' := 97) rfl (by decide) rfl dX0_bestWayUp_96 rfl ?_
            refine v_iinc C0 (lv' := [(4, .int ((nI i1) + 1)), (3, .int ((xAt 36 F ((unit * 6) + (nI i1))) / 6)), (2, .int ((unit * 6) + (nI i1))), (8, .int ((xAt 36 C ((unit * 6) + (nI i1))) + (xAt 6 RC ((xAt 36 F ((unit * 6) + (nI i1))) / 6)))), (7, .int ((xAt 36 F ((unit * 6) + (nI i1))) / 6)), (6, .int (xAt 36 F ((unit * 6) + (nI i1)))), (5, .int ((unit * 6) + (nI i1))), (0, .ref (ad 0)), (1, .int unit)]) (pc' := 100) 6 rfl ((nI i1) + 1) rfl (by decide) rfl dX0_bestWayUp_97 rfl ?_
            refine v_goto C0 8 dX0_bestWayUp_100 (by decide) ?_
            exact v_sub (lv' := [(4, .int ((nI i1) + 1)), (2, .int ((unit * 6) + (nI i1))), (3, .int ((xAt 36 F ((unit * 6) + (nI i1))) / 6)), (0, .ref (ad 0)), (1, .int unit)]) [0, 2, 1, 7, 8] rfl (ih1 (i1 + 1) ((nI i1) + 1) ((unit * 6) + (nI i1)) ((xAt 36 F ((unit * 6) + (nI i1))) / 6) (by omega) (by rw [nI_1]) (by show _ = s_X0_bestWayUp_L1 F C RC unit i1 (lp (s_X0_bestWayUp_L1 F C RC unit) i1 ((-1), 6)); rw [← hs1]; simp only [s_X0_bestWayUp_L1, if_neg h2, if_neg h3, if_pos h4, if_neg h5]))
      · refine v_goto C0 97 dX0_bestWayUp_41 (by decide) ?_
        refine v_iinc C0 (lv' := [(4, .int ((nI i1) + 1)), (6, .int (xAt 36 F ((unit * 6) + (nI i1)))), (5, .int ((unit * 6) + (nI i1))), (2, .int best_1), (3, .int bu_1), (0, .ref (ad 0)), (1, .int unit)]) (pc' := 100) 2 rfl ((nI i1) + 1) rfl (by decide) rfl dX0_bestWayUp_97 rfl ?_
        refine v_goto C0 8 dX0_bestWayUp_100 (by decide) ?_
        exact v_sub (lv' := [(4, .int ((nI i1) + 1)), (2, .int best_1), (3, .int bu_1), (0, .ref (ad 0)), (1, .int unit)]) [0, 3, 4, 5, 6] rfl (ih1 (i1 + 1) ((nI i1) + 1) best_1 bu_1 (by omega) (by rw [nI_1]) (by show _ = s_X0_bestWayUp_L1 F C RC unit i1 (lp (s_X0_bestWayUp_L1 F C RC unit) i1 ((-1), 6)); rw [← hs1]; simp only [s_X0_bestWayUp_L1, if_neg h2, if_pos h3]))
end
section
def s_X0_findRoots_L1  (i1 : Nat) (RU_1 : Nat → Int32) : Nat → Int32 := (xPut 6 RU_1 (nI i1) (nI i1))
def s_X0_findRoots_RU (F : Nat → Int32) (RU : Nat → Int32) (WT : Nat → Int32) : Nat → Int32 := (s_X0_leastSums F (lp s_X0_findRoots_L1 6 RU) (xFill WT 0 36))
def s_X0_findRoots_WT (WT : Nat → Int32) : Nat → Int32 := (xFill WT 0 36)
set_option maxHeartbeats 4000000 in
set_option maxRecDepth 100000 in
theorem k_X0_findRoots (l : Launch) (D : va_G) (cI : ClassId) (ad : Nat → Nat) (U : Nat → Int32) (T : Nat → Int32) (F : Nat → Int32) (C : Nat → Int32) (B : Nat → Int32) (RU : Nat → Int32) (RC : Nat → Int32) (WU : Nat → Int32) (ST : Nat → Int32) (RP : Nat → Int32) (RN : Int32) (WT : Nat → Int32) (SM : Nat → Int32) (CC : Int32) (TR : Int32)  : Kv l yX0_findRoots wsX0_findRoots 3 72 0 0 D (TI cI) [.ref (ad 0)] (wX cI ad U T F C B RU RC WU ST RP RN WT SM CC TR) (wX cI ad U T F C B (s_X0_findRoots_RU F RU WT) RC WU ST RP RN (s_X0_findRoots_WT WT) SM CC TR) := by
  refine Kv.of (cc := cX0_findRoots) (maxL := 2) (lv0 := [(0, .ref (ad 0))]) (by decide +kernel) rfl (Nat.le_of_ble_eq_true rfl) rfl ?_
  intro p e s m args below meth c A C0 hr hlk hK hA
  refine v_iconst C0 (pc' := 1) 0 (by decide) dX0_findRoots_0 rfl ?_
  refine v_istore_n C0 (lv' := [(1, .int 0), (0, .ref (ad 0))]) (pc' := 2) rfl (by decide) rfl dX0_findRoots_1 rfl ?_
  suffices LP1 : ∀ (j1 i1 : Nat) (x1 : Int32) (RU_1 : Nat → Int32), i1 + j1 = 6 → x1 = nI i1 → RU_1 = lp s_X0_findRoots_L1 i1 RU → V p l e { frames := 3, cells := 0, slots := 0, locals := 72 } s m args below meth c D A 2 0 0 (MQ below (QV D (TI cI) (wX cI ad U T F C B (s_X0_findRoots_RU F RU WT) RC WU ST RP RN (s_X0_findRoots_WT WT) SM CC TR) A) args s 0 0 A) (wX cI ad U T F C B RU_1 RC WU ST RP RN WT SM CC TR) [(1, .int x1), (0, .ref (ad 0))] 2 [] by
    exact v_sub (lv' := [(1, .int 0), (0, .ref (ad 0))]) [0, 1] rfl (LP1 6 0 0 RU rfl nI_0.symm rfl)
  intro j1
  induction j1 with
  | zero =>
    intro i1 x1 RU_1 hi1 hx1 hs1
    have hi1 : i1 = 6 := by omega
    subst hi1
    subst hx1
    refine v_iload_n C0 (pc' := 3) 0 rfl rfl dX0_findRoots_2 rfl ?_
    refine v_bipush C0 (pc' := 5) 6 (by decide) dX0_findRoots_3 rfl ?_
    refine v_icmp_ge C0 23 (pc' := 8) dX0_findRoots_5 (by decide) rfl (fun h1 => ?_) (fun h1 => ?_)
    · refine v_aload_n C0 (pc' := 24) 1 rfl rfl dX0_findRoots_23 rfl ?_
      refine v_get C0 hK (C := RX0) (T := TX0) (N := 15) (pc' := 27) 0 11 rfl rfl rfl (by decide) in_X0_findRoots fl_X0_findRoots_40 rfl dX0_findRoots_24 rfl ?_
      refine v_iconst C0 (pc' := 28) 0 (by decide) dX0_findRoots_27 rfl ?_
      refine v_callSv0 C0 (av := [.ref (ad 11), .int 0]) (rest := []) (ws' := wX cI ad U T F C B RU_1 RC WU ST RP RN (xFill WT 0 36) SM CC TR) (pc' := 31) hK hA (k_J7_fill_53178 l D cI (ad 11) 36 WT 0 (by decide)) (va_cwS 2 C0.2.2.2.2 gX0_findRoots_J7_fill_53178 rfl rfl rfl (by decide +kernel) ⟨Nat.le_of_ble_eq_true rfl, Nat.le_of_ble_eq_true rfl⟩) (PLs.one 11 rfl) rfl rfl (Nat.le_of_ble_eq_true rfl) ⟨Nat.zero_le _, Nat.zero_le _⟩ dX0_findRoots_28 rfl ?_
      refine v_aload_n C0 (pc' := 32) 1 rfl rfl dX0_findRoots_31 rfl ?_
      refine v_aload_n C0 (pc' := 33) 1 rfl rfl dX0_findRoots_32 rfl ?_
      refine v_get C0 hK (C := RX0) (T := TX0) (N := 15) (pc' := 36) 0 5 rfl rfl rfl (by decide) in_X0_findRoots fl_X0_findRoots_25 rfl dX0_findRoots_33 rfl ?_
      refine v_aload_n C0 (pc' := 37) 1 rfl rfl dX0_findRoots_36 rfl ?_
      refine v_get C0 hK (C := RX0) (T := TX0) (N := 15) (pc' := 40) 0 11 rfl rfl rfl (by decide) in_X0_findRoots fl_X0_findRoots_40 rfl dX0_findRoots_37 rfl ?_
      refine v_callVv0 C0 (av := [.ref (ad 6), .ref (ad 11)]) (rest := []) (ws' := wX cI ad U T F C B (s_X0_leastSums F RU_1 (xFill WT 0 36)) RC WU ST RP RN (xFill WT 0 36) SM CC TR) (pc' := 43) hK hA (k_X0_leastSums l D cI (ad 0) (ad 3) (ad 6) (ad 11) _ F RU_1 (xFill WT 0 36)  rfl) (cwV 2 C0.2.2.2.2 gX0_findRoots_X0_leastSums rfl rfl rfl (by decide +kernel) ⟨Nat.le_of_ble_eq_true rfl, Nat.le_of_ble_eq_true rfl⟩) ⟨0, 0, _, _, _, rfl, rfl⟩ (PLs.of (isC := [0, 3, 6, 11]) (isR := [1, 2, 4, 5, 7, 8, 9, 10, 12]) (isP := [9, 0, 1, 10, 2, 3, 11, 4, 5, 6, 7, 12, 8]) (wr := [(ad 1, .inl (cI, 36, .inl U)), (ad 2, .inl (cI, 36, .inl T)), (ad 4, .inl (cI, 36, .inl C)), (ad 5, .inl (cI, 36, .inl B)), (ad 7, .inl (cI, 6, .inl RC)), (ad 8, .inl (cI, 6, .inl WU)), (ad 9, .inl (cI, 96, .inl ST)), (ad 10, .inl (cI, 96, .inl RP)), (ad 12, .inl (cI, 6, .inl SM))]) ⟨rfl, by decide, rfl, by decide, by decide, rfl, by decide⟩) rfl rfl (Nat.le_of_ble_eq_true rfl) ⟨Nat.zero_le _, Nat.zero_le _⟩ dX0_findRoots_40 rfl ?_
      refine v_world (ws' := wX cI ad U T F C B (s_X0_findRoots_RU F RU WT) RC WU ST RP RN (s_X0_findRoots_WT WT) SM CC TR) (by simp only [s_X0_findRoots_RU, s_X0_findRoots_WT, if_pos h1, ← hs1]) ?_
      exact v_vret C0 hr hlk hK dX0_findRoots_43
    · exact absurd (by decide +kernel) h1
  | succ j1 ih1 =>
    intro i1 x1 RU_1 hi1 hx1 hs1
    subst hx1
    refine v_iload_n C0 (pc' := 3) 0 rfl rfl dX0_findRoots_2 rfl ?_
    refine v_bipush C0 (pc' := 5) 6 (by decide) dX0_findRoots_3 rfl ?_
    refine v_icmp_ge C0 23 (pc' := 8) dX0_findRoots_5 (by decide) rfl (fun h2 => ?_) (fun h2 => ?_)
    · exact absurd h2 (nI_ge (a := i1) (b := 6) (by omega) (by decide))
    · refine v_aload_n C0 (pc' := 9) 1 rfl rfl dX0_findRoots_8 rfl ?_
      refine v_get C0 hK (C := RX0) (T := TX0) (N := 15) (pc' := 12) 0 5 rfl rfl rfl (by decide) in_X0_findRoots fl_X0_findRoots_25 rfl dX0_findRoots_9 rfl ?_
      refine v_iload_n C0 (pc' := 13) 0 rfl rfl dX0_findRoots_12 rfl ?_
      refine v_iload_n C0 (pc' := 14) 0 rfl rfl dX0_findRoots_13 rfl ?_
      refine v_callSv0 C0 (av := [.ref (ad 6), .int (nI i1), .int (nI i1)]) (rest := []) (ws' := wX cI ad U T F C B (xPut 6 RU_1 (nI i1) (nI i1)) RC WU ST RP RN WT SM CC TR) (pc' := 17) hK hA (k_X0_put l D cI (ad 6) 6 RU_1 (nI i1) (nI i1) (by decide)) (va_cwS 3 C0.2.2.2.2 gX0_findRoots_X0_put rfl rfl rfl (by decide +kernel) ⟨Nat.le_of_ble_eq_true rfl, Nat.le_of_ble_eq_true rfl⟩) (PLs.one 6 rfl) rfl rfl (Nat.le_of_ble_eq_true rfl) ⟨Nat.zero_le _, Nat.zero_le _⟩ dX0_findRoots_14 rfl ?_
      refine v_iinc C0 (lv' := [(1, .int ((nI i1) + 1)), (0, .ref (ad 0))]) (pc' := 20) 0 rfl ((nI i1) + 1) rfl (by decide) rfl dX0_findRoots_17 rfl ?_
      refine v_goto C0 2 dX0_findRoots_20 (by decide) ?_
      exact v_sub (lv' := [(1, .int ((nI i1) + 1)), (0, .ref (ad 0))]) [0, 1] rfl (ih1 (i1 + 1) ((nI i1) + 1) (xPut 6 RU_1 (nI i1) (nI i1)) (by omega) (by rw [nI_1]) (by show _ = s_X0_findRoots_L1 i1 (lp s_X0_findRoots_L1 i1 RU); rw [← hs1]; simp only [s_X0_findRoots_L1, if_neg h2]))
def s_X0_findCosts_L1 (RU : Nat → Int32) (i1 : Nat) (RC_1 : Nat → Int32) : Nat → Int32 := if (xAt 6 RU (nI i1)) = (nI i1) then (xPut 6 RC_1 (nI i1) 0) else (xPut 6 RC_1 (nI i1) 1000)
def s_X0_findCosts_RC (F : Nat → Int32) (C : Nat → Int32) (RU : Nat → Int32) (RC : Nat → Int32) : Nat → Int32 := (s_X0_leastSums F (lp (s_X0_findCosts_L1 RU) 6 RC) C)
set_option maxHeartbeats 4000000 in
set_option maxRecDepth 100000 in
theorem k_X0_findCosts (l : Launch) (D : va_G) (cI : ClassId) (ad : Nat → Nat) (U : Nat → Int32) (T : Nat → Int32) (F : Nat → Int32) (C : Nat → Int32) (B : Nat → Int32) (RU : Nat → Int32) (RC : Nat → Int32) (WU : Nat → Int32) (ST : Nat → Int32) (RP : Nat → Int32) (RN : Int32) (WT : Nat → Int32) (SM : Nat → Int32) (CC : Int32) (TR : Int32)  : Kv l yX0_findCosts wsX0_findCosts 3 72 0 0 D (TI cI) [.ref (ad 0)] (wX cI ad U T F C B RU RC WU ST RP RN WT SM CC TR) (wX cI ad U T F C B RU (s_X0_findCosts_RC F C RU RC) WU ST RP RN WT SM CC TR) := by
  refine Kv.of (cc := cX0_findCosts) (maxL := 2) (lv0 := [(0, .ref (ad 0))]) (by decide +kernel) rfl (Nat.le_of_ble_eq_true rfl) rfl ?_
  intro p e s m args below meth c A C0 hr hlk hK hA
  refine v_iconst C0 (pc' := 1) 0 (by decide) dX0_findCosts_0 rfl ?_
  refine v_istore_n C0 (lv' := [(1, .int 0), (0, .ref (ad 0))]) (pc' := 2) rfl (by decide) rfl dX0_findCosts_1 rfl ?_
  suffices LP1 : ∀ (j1 i1 : Nat) (x1 : Int32) (RC_1 : Nat → Int32), i1 + j1 = 6 → x1 = nI i1 → RC_1 = lp (s_X0_findCosts_L1 RU) i1 RC → V p l e { frames := 3, cells := 0, slots := 0, locals := 72 } s m args below meth c D A 2 0 0 (MQ below (QV D (TI cI) (wX cI ad U T F C B RU (s_X0_findCosts_RC F C RU RC) WU ST RP RN WT SM CC TR) A) args s 0 0 A) (wX cI ad U T F C B RU RC_1 WU ST RP RN WT SM CC TR) [(1, .int x1), (0, .ref (ad 0))] 2 [] by
    exact v_sub (lv' := [(1, .int 0), (0, .ref (ad 0))]) [0, 1] rfl (LP1 6 0 0 RC rfl nI_0.symm rfl)
  intro j1
  induction j1 with
  | zero =>
    intro i1 x1 RC_1 hi1 hx1 hs1
    have hi1 : i1 = 6 := by omega
    subst hi1
    subst hx1
    refine v_iload_n C0 (pc' := 3) 0 rfl rfl dX0_findCosts_2 rfl ?_
    refine v_bipush C0 (pc' := 5) 6 (by decide) dX0_findCosts_3 rfl ?_
    refine v_icmp_ge C0 41 (pc' := 8) dX0_findCosts_5 (by decide) rfl (fun h1 => ?_) (fun h1 => ?_)
    · refine v_aload_n C0 (pc' := 42) 1 rfl rfl dX0_findCosts_41 rfl ?_
      refine v_aload_n C0 (pc' := 43) 1 rfl rfl dX0_findCosts_42 rfl ?_
      refine v_get C0 hK (C := RX0) (T := TX0) (N := 15) (pc' := 46) 0 6 rfl rfl rfl (by decide) in_X0_findCosts fl_X0_findCosts_28 rfl dX0_findCosts_43 rfl ?_
      refine v_aload_n C0 (pc' := 47) 1 rfl rfl dX0_findCosts_46 rfl ?_
      refine v_get C0 hK (C := RX0) (T := TX0) (N := 15) (pc' := 50) 0 3 rfl rfl rfl (by decide) in_X0_findCosts fl_X0_findCosts_19 rfl dX0_findCosts_47 rfl ?_
      refine v_callVv0 C0 (av := [.ref (ad 7), .ref (ad 4)]) (rest := []) (ws' := wX cI ad U T F C B RU (s_X0_leastSums F RC_1 C) WU ST RP RN WT SM CC TR) (pc' := 53) hK hA (k_X0_leastSums l D cI (ad 0) (ad 3) (ad 7) (ad 4) _ F RC_1 C  rfl) (cwV 2 C0.2.2.2.2 gX0_findCosts_X0_leastSums rfl rfl rfl (by decide +kernel) ⟨Nat.le_of_ble_eq_true rfl, Nat.le_of_ble_eq_true rfl⟩) ⟨0, 0, _, _, _, rfl, rfl⟩ (PLs.of (isC := [0, 3, 7, 4]) (isR := [1, 2, 5, 6, 8, 9, 10, 11, 12]) (isP := [9, 0, 1, 10, 12, 2, 3, 11, 4, 5, 6, 7, 8]) (wr := [(ad 1, .inl (cI, 36, .inl U)), (ad 2, .inl (cI, 36, .inl T)), (ad 5, .inl (cI, 36, .inl B)), (ad 6, .inl (cI, 6, .inl RU)), (ad 8, .inl (cI, 6, .inl WU)), (ad 9, .inl (cI, 96, .inl ST)), (ad 10, .inl (cI, 96, .inl RP)), (ad 11, .inl (cI, 36, .inl WT)), (ad 12, .inl (cI, 6, .inl SM))]) ⟨rfl, by decide, rfl, by decide, by decide, rfl, by decide⟩) rfl rfl (Nat.le_of_ble_eq_true rfl) ⟨Nat.zero_le _, Nat.zero_le _⟩ dX0_findCosts_50 rfl ?_
      refine v_world (ws' := wX cI ad U T F C B RU (s_X0_findCosts_RC F C RU RC) WU ST RP RN WT SM CC TR) (by simp only [s_X0_findCosts_RC, if_pos h1, ← hs1]) ?_
      exact v_vret C0 hr hlk hK dX0_findCosts_53
    · exact absurd (by decide +kernel) h1
  | succ j1 ih1 =>
    intro i1 x1 RC_1 hi1 hx1 hs1
    subst hx1
    refine v_iload_n C0 (pc' := 3) 0 rfl rfl dX0_findCosts_2 rfl ?_
    refine v_bipush C0 (pc' := 5) 6 (by decide) dX0_findCosts_3 rfl ?_
    refine v_icmp_ge C0 41 (pc' := 8) dX0_findCosts_5 (by decide) rfl (fun h2 => ?_) (fun h2 => ?_)
    · exact absurd h2 (nI_ge (a := i1) (b := 6) (by omega) (by decide))
    · refine v_aload_n C0 (pc' := 9) 1 rfl rfl dX0_findCosts_8 rfl ?_
      refine v_get C0 hK (C := RX0) (T := TX0) (N := 15) (pc' := 12) 0 6 rfl rfl rfl (by decide) in_X0_findCosts fl_X0_findCosts_28 rfl dX0_findCosts_9 rfl ?_
      refine v_iload_n C0 (pc' := 13) 0 rfl rfl dX0_findCosts_12 rfl ?_
      refine v_aload_n C0 (pc' := 14) 1 rfl rfl dX0_findCosts_13 rfl ?_
      refine v_get C0 hK (C := RX0) (T := TX0) (N := 15) (pc' := 17) 0 5 rfl rfl rfl (by decide) in_X0_findCosts fl_X0_findCosts_25 rfl dX0_findCosts_14 rfl ?_
      refine v_iload_n C0 (pc' := 18) 0 rfl rfl dX0_findCosts_17 rfl ?_
      refine v_callSi0 C0 (av := [.ref (ad 6), .int (nI i1)]) (rest := [.int (nI i1), .ref (ad 7)]) (ws' := wX cI ad U T F C B RU RC_1 WU ST RP RN WT SM CC TR) (pc' := 21) hK hA (k_X0_at l D cI (ad 6) 6 RU (nI i1) (by decide)) (va_cwS 2 C0.2.2.2.2 gX0_findCosts_X0_at rfl rfl rfl (by decide +kernel) ⟨Nat.le_of_ble_eq_true rfl, Nat.le_of_ble_eq_true rfl⟩) (PLs.one0 6 rfl) rfl rfl (Nat.le_of_ble_eq_true rfl) ⟨Nat.zero_le _, Nat.zero_le _⟩ dX0_findCosts_18 rfl ?_
      refine v_iload_n C0 (pc' := 22) 0 rfl rfl dX0_findCosts_21 rfl ?_
      refine v_icmp_ne C0 29 (pc' := 25) dX0_findCosts_22 (by decide) rfl (fun h3 => ?_) (fun h3 => ?_)
      · refine v_sipush C0 (pc' := 32) 1000 (by decide) dX0_findCosts_29 rfl ?_
        refine v_callSv0 C0 (av := [.ref (ad 7), .int (nI i1), .int 1000]) (rest := []) (ws' := wX cI ad U T F C B RU (xPut 6 RC_1 (nI i1) 1000) WU ST RP RN WT SM CC TR) (pc' := 35) hK hA (k_X0_put l D cI (ad 7) 6 RC_1 (nI i1) 1000 (by decide)) (va_cwS 3 C0.2.2.2.2 gX0_findCosts_X0_put rfl rfl rfl (by decide +kernel) ⟨Nat.le_of_ble_eq_true rfl, Nat.le_of_ble_eq_true rfl⟩) (PLs.one 7 rfl) rfl rfl (Nat.le_of_ble_eq_true rfl) ⟨Nat.zero_le _, Nat.zero_le _⟩ dX0_findCosts_32 rfl ?_
        refine v_iinc C0 (lv' := [(1, .int ((nI i1) + 1)), (0, .ref (ad 0))]) (pc' := 38) 0 rfl ((nI i1) + 1) rfl (by decide) rfl dX0_findCosts_35 rfl ?_
        refine v_goto C0 2 dX0_findCosts_38 (by decide) ?_
        exact v_sub (lv' := [(1, .int ((nI i1) + 1)), (0, .ref (ad 0))]) [0, 1] rfl (ih1 (i1 + 1) ((nI i1) + 1) (xPut 6 RC_1 (nI i1) 1000) (by omega) (by rw [nI_1]) (by show _ = s_X0_findCosts_L1 RU i1 (lp (s_X0_findCosts_L1 RU) i1 RC); rw [← hs1]; simp only [s_X0_findCosts_L1, if_neg h2, if_neg h3]))
      · refine v_iconst C0 (pc' := 26) 0 (by decide) dX0_findCosts_25 rfl ?_
        refine v_goto C0 32 dX0_findCosts_26 (by decide) ?_
        refine v_callSv0 C0 (av := [.ref (ad 7), .int (nI i1), .int 0]) (rest := []) (ws' := wX cI ad U T F C B RU (xPut 6 RC_1 (nI i1) 0) WU ST RP RN WT SM CC TR) (pc' := 35) hK hA (k_X0_put l D cI (ad 7) 6 RC_1 (nI i1) 0 (by decide)) (va_cwS 3 C0.2.2.2.2 gX0_findCosts_X0_put rfl rfl rfl (by decide +kernel) ⟨Nat.le_of_ble_eq_true rfl, Nat.le_of_ble_eq_true rfl⟩) (PLs.one 7 rfl) rfl rfl (Nat.le_of_ble_eq_true rfl) ⟨Nat.zero_le _, Nat.zero_le _⟩ dX0_findCosts_32 rfl ?_
        refine v_iinc C0 (lv' := [(1, .int ((nI i1) + 1)), (0, .ref (ad 0))]) (pc' := 38) 0 rfl ((nI i1) + 1) rfl (by decide) rfl dX0_findCosts_35 rfl ?_
        refine v_goto C0 2 dX0_findCosts_38 (by decide) ?_
        exact v_sub (lv' := [(1, .int ((nI i1) + 1)), (0, .ref (ad 0))]) [0, 1] rfl (ih1 (i1 + 1) ((nI i1) + 1) (xPut 6 RC_1 (nI i1) 0) (by omega) (by rw [nI_1]) (by show _ = s_X0_findCosts_L1 RU i1 (lp (s_X0_findCosts_L1 RU) i1 RC); rw [← hs1]; simp only [s_X0_findCosts_L1, if_neg h2, if_pos h3]))
def s_X0_growTree_L1 (F : Nat → Int32) (C : Nat → Int32) (RU : Nat → Int32) (RC : Nat → Int32) (WT : Nat → Int32) (i1 : Nat) (WU_1 : Nat → Int32) : Nat → Int32 := (xPut 6 WU_1 (nI i1) (s_X0_bestWayUp F C (s_X0_findCosts_RC F C (s_X0_findRoots_RU F RU WT) RC) (nI i1)))
def s_X0_growTree_RU (F : Nat → Int32) (RU : Nat → Int32) (WT : Nat → Int32) : Nat → Int32 := (s_X0_findRoots_RU F RU WT)
def s_X0_growTree_RC (F : Nat → Int32) (C : Nat → Int32) (RU : Nat → Int32) (RC : Nat → Int32) (WT : Nat → Int32) : Nat → Int32 := (s_X0_findCosts_RC F C (s_X0_findRoots_RU F RU WT) RC)
def s_X0_growTree_WU (F : Nat → Int32) (C : Nat → Int32) (RU : Nat → Int32) (RC : Nat → Int32) (WU : Nat → Int32) (WT : Nat → Int32) : Nat → Int32 := (lp (s_X0_growTree_L1 F C RU RC WT) 6 WU)
def s_X0_growTree_WT (WT : Nat → Int32) : Nat → Int32 := (s_X0_findRoots_WT WT)
set_option maxHeartbeats 4000000 in
set_option maxRecDepth 100000 in
theorem k_X0_growTree (l : Launch) (D : va_G) (cI : ClassId) (ad : Nat → Nat) (U : Nat → Int32) (T : Nat → Int32) (F : Nat → Int32) (C : Nat → Int32) (B : Nat → Int32) (RU : Nat → Int32) (RC : Nat → Int32) (WU : Nat → Int32) (ST : Nat → Int32) (RP : Nat → Int32) (RN : Int32) (WT : Nat → Int32) (SM : Nat → Int32) (CC : Int32) (TR : Int32)  : Kv l yX0_growTree wsX0_growTree 4 93 0 0 D (TI cI) [.ref (ad 0)] (wX cI ad U T F C B RU RC WU ST RP RN WT SM CC TR) (wX cI ad U T F C B (s_X0_growTree_RU F RU WT) (s_X0_growTree_RC F C RU RC WT) (s_X0_growTree_WU F C RU RC WU WT) ST RP RN (s_X0_growTree_WT WT) SM CC TR) := by
  refine Kv.of (cc := cX0_growTree) (maxL := 2) (lv0 := [(0, .ref (ad 0))]) (by decide +kernel) rfl (Nat.le_of_ble_eq_true rfl) rfl ?_
  intro p e s m args below meth c A C0 hr hlk hK hA
  refine v_aload_n C0 (pc' := 1) 0 rfl rfl dX0_growTree_0 rfl ?_
  refine v_callVv0 C0 (av := []) (rest := []) (ws' := wX cI ad U T F C B (s_X0_findRoots_RU F RU WT) RC WU ST RP RN (s_X0_findRoots_WT WT) SM CC TR) (pc' := 4) hK hA (k_X0_findRoots l D cI ad U T F C B RU RC WU ST RP RN WT SM CC TR ) (cwV 0 C0.2.2.2.2 gX0_growTree_X0_findRoots rfl rfl rfl (by decide +kernel) ⟨Nat.le_of_ble_eq_true rfl, Nat.le_of_ble_eq_true rfl⟩) ⟨0, 0, _, _, _, rfl, rfl⟩ PLs.all rfl rfl (Nat.le_of_ble_eq_true rfl) ⟨Nat.zero_le _, Nat.zero_le _⟩ dX0_growTree_1 rfl ?_
  refine v_aload_n C0 (pc' := 5) 0 rfl rfl dX0_growTree_4 rfl ?_
  refine v_callVv0 C0 (av := []) (rest := []) (ws' := wX cI ad U T F C B (s_X0_findRoots_RU F RU WT) (s_X0_findCosts_RC F C (s_X0_findRoots_RU F RU WT) RC) WU ST RP RN (s_X0_findRoots_WT WT) SM CC TR) (pc' := 8) hK hA (k_X0_findCosts l D cI ad U T F C B (s_X0_findRoots_RU F RU WT) RC WU ST RP RN (s_X0_findRoots_WT WT) SM CC TR ) (cwV 0 C0.2.2.2.2 gX0_growTree_X0_findCosts rfl rfl rfl (by decide +kernel) ⟨Nat.le_of_ble_eq_true rfl, Nat.le_of_ble_eq_true rfl⟩) ⟨0, 0, _, _, _, rfl, rfl⟩ PLs.all rfl rfl (Nat.le_of_ble_eq_true rfl) ⟨Nat.zero_le _, Nat.zero_le _⟩ dX0_growTree_5 rfl ?_
  refine v_iconst C0 (pc' := 9) 0 (by decide) dX0_growTree_8 rfl ?_
  refine v_istore_n C0 (lv' := [(1, .int 0), (0, .ref (ad 0))]) (pc' := 10) rfl (by decide) rfl dX0_growTree_9 rfl ?_
  suffices LP1 : ∀ (j1 i1 : Nat) (x1 : Int32) (WU_1 : Nat → Int32), i1 + j1 = 6 → x1 = nI i1 → WU_1 = lp (s_X0_growTree_L1 F C RU RC WT) i1 WU → V p l e { frames := 4, cells := 0, slots := 0, locals := 93 } s m args below meth c D A 2 0 0 (MQ below (QV D (TI cI) (wX cI ad U T F C B (s_X0_growTree_RU F RU WT) (s_X0_growTree_RC F C RU RC WT) (s_X0_growTree_WU F C RU RC WU WT) ST RP RN (s_X0_growTree_WT WT) SM CC TR) A) args s 0 0 A) (wX cI ad U T F C B (s_X0_findRoots_RU F RU WT) (s_X0_findCosts_RC F C (s_X0_findRoots_RU F RU WT) RC) WU_1 ST RP RN (s_X0_findRoots_WT WT) SM CC TR) [(1, .int x1), (0, .ref (ad 0))] 10 [] by
    exact v_sub (lv' := [(1, .int 0), (0, .ref (ad 0))]) [0, 1] rfl (LP1 6 0 0 WU rfl nI_0.symm rfl)
  intro j1
  induction j1 with
  | zero =>
    intro i1 x1 WU_1 hi1 hx1 hs1
    have hi1 : i1 = 6 := by omega
    subst hi1
    subst hx1
    refine v_iload_n C0 (pc' := 11) 0 rfl rfl dX0_growTree_10 rfl ?_
    refine v_bipush C0 (pc' := 13) 6 (by decide) dX0_growTree_11 rfl ?_
    refine v_icmp_ge C0 35 (pc' := 16) dX0_growTree_13 (by decide) rfl (fun h1 => ?_) (fun h1 => ?_)
    · refine v_world (ws' := wX cI ad U T F C B (s_X0_growTree_RU F RU WT) (s_X0_growTree_RC F C RU RC WT) (s_X0_growTree_WU F C RU RC WU WT) ST RP RN (s_X0_growTree_WT WT) SM CC TR) (by simp only [s_X0_growTree_RU, s_X0_growTree_RC, s_X0_growTree_WU, s_X0_growTree_WT, if_pos h1, ← hs1]) ?_
      exact v_vret C0 hr hlk hK dX0_growTree_35
    · exact absurd (by decide +kernel) h1
  | succ j1 ih1 =>
    intro i1 x1 WU_1 hi1 hx1 hs1
    subst hx1
    refine v_iload_n C0 (pc' := 11) 0 rfl rfl dX0_growTree_10 rfl ?_
    refine v_bipush C0 (pc' := 13) 6 (by decide) dX0_growTree_11 rfl ?_
    refine v_icmp_ge C0 35 (pc' := 16) dX0_growTree_13 (by decide) rfl (fun h2 => ?_) (fun h2 => ?_)
    · exact absurd h2 (nI_ge (a := i1) (b := 6) (by omega) (by decide))
    · refine v_aload_n C0 (pc' := 17) 1 rfl rfl dX0_growTree_16 rfl ?_
      refine v_get C0 hK (C := RX0) (T := TX0) (N := 15) (pc' := 20) 0 7 rfl rfl rfl (by decide) in_X0_growTree fl_X0_growTree_31 rfl dX0_growTree_17 rfl ?_
      refine v_iload_n C0 (pc' := 21) 0 rfl rfl dX0_growTree_20 rfl ?_
      refine v_aload_n C0 (pc' := 22) 1 rfl rfl dX0_growTree_21 rfl ?_
      refine v_iload_n C0 (pc' := 23) 0 rfl rfl dX0_growTree_22 rfl ?_
      refine v_callVi0 C0 (av := [.int (nI i1)]) (rest := [.int (nI i1), .ref (ad 8)]) (ws' := wX cI ad U T F C B (s_X0_findRoots_RU F RU WT) (s_X0_findCosts_RC F C (s_X0_findRoots_RU F RU WT) RC) WU_1 ST RP RN (s_X0_findRoots_WT WT) SM CC TR) (pc' := 26) hK hA (k_X0_bestWayUp l D cI ad U T F C B (s_X0_findRoots_RU F RU WT) (s_X0_findCosts_RC F C (s_X0_findRoots_RU F RU WT) RC) WU_1 ST RP RN (s_X0_findRoots_WT WT) SM CC TR (nI i1)) (cwV 1 C0.2.2.2.2 gX0_growTree_X0_bestWayUp rfl rfl rfl (by decide +kernel) ⟨Nat.le_of_ble_eq_true rfl, Nat.le_of_ble_eq_true rfl⟩) ⟨0, 0, _, _, _, rfl, rfl⟩ PLs.all rfl rfl (Nat.le_of_ble_eq_true rfl) ⟨Nat.zero_le _, Nat.zero_le _⟩ dX0_growTree_23 rfl ?_
      refine v_callSv0 C0 (av := [.ref (ad 8), .int (nI i1), .int (s_X0_bestWayUp F C (s_X0_findCosts_RC F C (s_X0_findRoots_RU F RU WT) RC) (nI i1))]) (rest := []) (ws' := wX cI ad U T F C B (s_X0_findRoots_RU F RU WT) (s_X0_findCosts_RC F C (s_X0_findRoots_RU F RU WT) RC) (xPut 6 WU_1 (nI i1) (s_X0_bestWayUp F C (s_X0_findCosts_RC F C (s_X0_findRoots_RU F RU WT) RC) (nI i1))) ST RP RN (s_X0_findRoots_WT WT) SM CC TR) (pc' := 29) hK hA (k_X0_put l D cI (ad 8) 6 WU_1 (nI i1) (s_X0_bestWayUp F C (s_X0_findCosts_RC F C (s_X0_findRoots_RU F RU WT) RC) (nI i1)) (by decide)) (va_cwS 3 C0.2.2.2.2 gX0_growTree_X0_put rfl rfl rfl (by decide +kernel) ⟨Nat.le_of_ble_eq_true rfl, Nat.le_of_ble_eq_true rfl⟩) (PLs.one 8 rfl) rfl rfl (Nat.le_of_ble_eq_true rfl) ⟨Nat.zero_le _, Nat.zero_le _⟩ dX0_growTree_26 rfl ?_
      refine v_iinc C0 (lv' := [(1, .int ((nI i1) + 1)), (0, .ref (ad 0))]) (pc' := 32) 0 rfl ((nI i1) + 1) rfl (by decide) rfl dX0_growTree_29 rfl ?_
      refine v_goto C0 10 dX0_growTree_32 (by decide) ?_
      exact v_sub (lv' := [(1, .int ((nI i1) + 1)), (0, .ref (ad 0))]) [0, 1] rfl (ih1 (i1 + 1) ((nI i1) + 1) (xPut 6 WU_1 (nI i1) (s_X0_bestWayUp F C (s_X0_findCosts_RC F C (s_X0_findRoots_RU F RU WT) RC) (nI i1))) (by omega) (by rw [nI_1]) (by show _ = s_X0_growTree_L1 F C RU RC WT i1 (lp (s_X0_growTree_L1 F C RU RC WT) i1 WU); rw [← hs1]; simp only [s_X0_growTree_L1, if_neg h2]))
/-- the walk's loop: place by place of the queue, from x on; fuel above every Int32 distance -/
def s_walk (U T F WU : Nat → Int32) (TR : Int32) : Nat → Int32 → (Nat → Int32) × (Nat → Int32) × Int32 → (Nat → Int32) × (Nat → Int32) × Int32
  | 0, _, z => z
  | n + 1, x, (ST, RP, RN) => if RN ≤ x then (ST, RP, RN) else if 96 ≤ x then (ST, RP, RN) else s_walk U T F WU TR n (x + 1) (s_X0_reachNeighbours_ST U T F WU ST RP RN TR (xAt 96 RP x), s_X0_reachNeighbours_RP U T F WU ST RP RN TR (xAt 96 RP x), s_X0_reachNeighbours_RN U T F WU ST RP RN TR (xAt 96 RP x))
def s_FU : Nat := 4294967296
theorem s_walk_room (x : Int32) : 97 ≤ (s_FU : Int) + x.toInt := by
  have h := Int32.le_toInt x
  unfold s_FU
  omega
theorem s_walk_step {x : Int32} {n : Nat} (h : 97 ≤ ((n + 1 : Nat) : Int) + x.toInt) (h2 : ¬ 96 ≤ x) : 97 ≤ (n : Int) + (x + 1).toInt := by
  have h3 : x.toInt < 96 := by
    have h4 : ¬ (96 : Int32).toInt ≤ x.toInt := fun q => h2 (Int32.le_iff_toInt_le.mpr q)
    have h5 : (96 : Int32).toInt = 96 := by decide +kernel
    rw [h5] at h4
    omega
  have h6 := Int32.le_toInt x
  have h7 : (x + 1).toInt = x.toInt + 1 := by
    rw [Int32.toInt_add]
    have h8 : (1 : Int32).toInt = 1 := by decide +kernel
    rw [h8]
    exact Int.bmod_eq_of_le (by omega) (by omega)
  rw [h7]
  omega
theorem s_walk_end {x : Int32} (h : 97 ≤ ((0 : Nat) : Int) + x.toInt) : 96 ≤ x := by
  rw [Int32.le_iff_toInt_le]
  have h5 : (96 : Int32).toInt = 96 := by decide +kernel
  omega
def s_X0_walkFrom_ST (U : Nat → Int32) (T : Nat → Int32) (F : Nat → Int32) (WU : Nat → Int32) (ST : Nat → Int32) (RP : Nat → Int32) (RN : Int32) (TR : Int32) (start : Int32) : Nat → Int32 := ((s_walk U T F WU TR s_FU RN (s_X0_reach_ST ST start 0, s_X0_reach_RP RP RN start, s_X0_reach_RN RN)).1)
def s_X0_walkFrom_RP (U : Nat → Int32) (T : Nat → Int32) (F : Nat → Int32) (WU : Nat → Int32) (ST : Nat → Int32) (RP : Nat → Int32) (RN : Int32) (TR : Int32) (start : Int32) : Nat → Int32 := ((s_walk U T F WU TR s_FU RN (s_X0_reach_ST ST start 0, s_X0_reach_RP RP RN start, s_X0_reach_RN RN)).2.1)
def s_X0_walkFrom_RN (U : Nat → Int32) (T : Nat → Int32) (F : Nat → Int32) (WU : Nat → Int32) (ST : Nat → Int32) (RP : Nat → Int32) (RN : Int32) (TR : Int32) (start : Int32) : Int32 := ((s_walk U T F WU TR s_FU RN (s_X0_reach_ST ST start 0, s_X0_reach_RP RP RN start, s_X0_reach_RN RN)).2.2)
set_option maxHeartbeats 4000000 in
set_option maxRecDepth 100000 in
theorem k_X0_walkFrom (l : Launch) (D : va_G) (cI : ClassId) (ad : Nat → Nat) (U : Nat → Int32) (T : Nat → Int32) (F : Nat → Int32) (C : Nat → Int32) (B : Nat → Int32) (RU : Nat → Int32) (RC : Nat → Int32) (WU : Nat → Int32) (ST : Nat → Int32) (RP : Nat → Int32) (RN : Int32) (WT : Nat → Int32) (SM : Nat → Int32) (CC : Int32) (TR : Int32) (start : Int32) (hb_TR : TR = 0 ∨ TR = 1) : Kv l yX0_walkFrom wsX0_walkFrom 5 114 0 0 D (TI cI) [.ref (ad 0), .int start] (wX cI ad U T F C B RU RC WU ST RP RN WT SM CC TR) (wX cI ad U T F C B RU RC WU (s_X0_walkFrom_ST U T F WU ST RP RN TR start) (s_X0_walkFrom_RP U T F WU ST RP RN TR start) (s_X0_walkFrom_RN U T F WU ST RP RN TR start) WT SM CC TR) := by
  refine Kv.of (cc := cX0_walkFrom) (maxL := 4) (lv0 := [(0, .ref (ad 0)), (1, .int start)]) (by decide +kernel) rfl (Nat.le_of_ble_eq_true rfl) rfl ?_
  intro p e s m args below meth c A C0 hr hlk hK hA
  refine v_aload_n C0 (pc' := 1) 0 rfl rfl dX0_walkFrom_0 rfl ?_
  refine v_get C0 hK (C := RX0) (T := TX0) (N := 15) (pc' := 4) 0 10 rfl rfl rfl (by decide) in_X0_walkFrom fl_X0_walkFrom_143 rfl dX0_walkFrom_1 rfl ?_
  refine v_istore_n C0 (lv' := [(2, .int RN), (0, .ref (ad 0)), (1, .int start)]) (pc' := 5) rfl (by decide) rfl dX0_walkFrom_4 rfl ?_
  refine v_aload_n C0 (pc' := 6) 1 rfl rfl dX0_walkFrom_5 rfl ?_
  refine v_iload_n C0 (pc' := 7) 2 rfl rfl dX0_walkFrom_6 rfl ?_
  refine v_iconst C0 (pc' := 8) 0 (by decide) dX0_walkFrom_7 rfl ?_
  refine v_callVv0 C0 (av := [.int start, .int 0]) (rest := []) (ws' := wX cI ad U T F C B RU RC WU (s_X0_reach_ST ST start 0) (s_X0_reach_RP RP RN start) (s_X0_reach_RN RN) WT SM CC TR) (pc' := 11) hK hA (k_X0_reach l D cI ad U T F C B RU RC WU ST RP RN WT SM CC TR start 0) (cwV 2 C0.2.2.2.2 gX0_walkFrom_X0_reach rfl rfl rfl (by decide +kernel) ⟨Nat.le_of_ble_eq_true rfl, Nat.le_of_ble_eq_true rfl⟩) ⟨0, 0, _, _, _, rfl, rfl⟩ PLs.all rfl rfl (Nat.le_of_ble_eq_true rfl) ⟨Nat.zero_le _, Nat.zero_le _⟩ dX0_walkFrom_8 rfl ?_
  refine v_iload_n C0 (pc' := 12) 0 rfl rfl dX0_walkFrom_11 rfl ?_
  refine v_istore_n C0 (lv' := [(3, .int RN), (2, .int RN), (0, .ref (ad 0)), (1, .int start)]) (pc' := 13) rfl (by decide) rfl dX0_walkFrom_12 rfl ?_
  suffices LP : ∀ (n : Nat) (x : Int32) (ST_1 RP_1 : Nat → Int32) (RN_1 : Int32), 97 ≤ (n : Int) + x.toInt → s_walk U T F WU TR n x (ST_1, RP_1, RN_1) = s_walk U T F WU TR s_FU RN (s_X0_reach_ST ST start 0, s_X0_reach_RP RP RN start, s_X0_reach_RN RN) → V p l e { frames := 5, cells := 0, slots := 0, locals := 114 } s m args below meth c D A 4 0 0 (MQ below (QV D (TI cI) (wX cI ad U T F C B RU RC WU (s_X0_walkFrom_ST U T F WU ST RP RN TR start) (s_X0_walkFrom_RP U T F WU ST RP RN TR start) (s_X0_walkFrom_RN U T F WU ST RP RN TR start) WT SM CC TR) A) args s 0 0 A) (wX cI ad U T F C B RU RC WU ST_1 RP_1 RN_1 WT SM CC TR) [(3, .int x), (0, .ref (ad 0)), (1, .int start), (2, .int RN)] 13 [] by
    exact v_sub (lv' := [(3, .int RN), (0, .ref (ad 0)), (1, .int start), (2, .int RN)]) [0, 2, 3, 1] rfl (LP s_FU RN (s_X0_reach_ST ST start 0) (s_X0_reach_RP RP RN start) (s_X0_reach_RN RN) (s_walk_room _) rfl)
  intro n
  induction n with
  | zero =>
    intro x ST_1 RP_1 RN_1 hf hs
    refine v_iload_n C0 (pc' := 14) 0 rfl rfl dX0_walkFrom_13 rfl ?_
    refine v_aload_n C0 (pc' := 15) 1 rfl rfl dX0_walkFrom_14 rfl ?_
    refine v_get C0 hK (C := RX0) (T := TX0) (N := 15) (pc' := 18) 0 10 rfl rfl rfl (by decide) in_X0_walkFrom fl_X0_walkFrom_143 rfl dX0_walkFrom_15 rfl ?_
    refine v_icmp_ge C0 45 (pc' := 21) dX0_walkFrom_18 (by decide) rfl (fun h2 => ?_) (fun h2 => ?_)
    · refine v_world (ws' := wX cI ad U T F C B RU RC WU (s_X0_walkFrom_ST U T F WU ST RP RN TR start) (s_X0_walkFrom_RP U T F WU ST RP RN TR start) (s_X0_walkFrom_RN U T F WU ST RP RN TR start) WT SM CC TR) (by simp only [s_X0_walkFrom_ST, s_X0_walkFrom_RP, s_X0_walkFrom_RN, ← hs, s_walk]) ?_
      exact v_vret C0 hr hlk hK dX0_walkFrom_45
    · refine v_iload_n C0 (pc' := 22) 0 rfl rfl dX0_walkFrom_21 rfl ?_
      refine v_bipush C0 (pc' := 24) 96 (by decide) dX0_walkFrom_22 rfl ?_
      refine v_icmp_ge C0 45 (pc' := 27) dX0_walkFrom_24 (by decide) rfl (fun h3 => ?_) (fun h3 => ?_)
      · refine v_world (ws' := wX cI ad U T F C B RU RC WU (s_X0_walkFrom_ST U T F WU ST RP RN TR start) (s_X0_walkFrom_RP U T F WU ST RP RN TR start) (s_X0_walkFrom_RN U T F WU ST RP RN TR start) WT SM CC TR) (by simp only [s_X0_walkFrom_ST, s_X0_walkFrom_RP, s_X0_walkFrom_RN, ← hs, s_walk]) ?_
        exact v_vret C0 hr hlk hK dX0_walkFrom_45
      · exact absurd (s_walk_end hf) h3
  | succ n ih =>
    intro x ST_1 RP_1 RN_1 hf hs
    refine v_iload_n C0 (pc' := 14) 0 rfl rfl dX0_walkFrom_13 rfl ?_
    refine v_aload_n C0 (pc' := 15) 1 rfl rfl dX0_walkFrom_14 rfl ?_
    refine v_get C0 hK (C := RX0) (T := TX0) (N := 15) (pc' := 18) 0 10 rfl rfl rfl (by decide) in_X0_walkFrom fl_X0_walkFrom_143 rfl dX0_walkFrom_15 rfl ?_
    refine v_icmp_ge C0 45 (pc' := 21) dX0_walkFrom_18 (by decide) rfl (fun h2 => ?_) (fun h2 => ?_)
    · refine v_world (ws' := wX cI ad U T F C B RU RC WU (s_X0_walkFrom_ST U T F WU ST RP RN TR start) (s_X0_walkFrom_RP U T F WU ST RP RN TR start) (s_X0_walkFrom_RN U T F WU ST RP RN TR start) WT SM CC TR) (by simp only [s_X0_walkFrom_ST, s_X0_walkFrom_RP, s_X0_walkFrom_RN, ← hs, s_walk, if_pos h2]) ?_
      exact v_vret C0 hr hlk hK dX0_walkFrom_45
    · refine v_iload_n C0 (pc' := 22) 0 rfl rfl dX0_walkFrom_21 rfl ?_
      refine v_bipush C0 (pc' := 24) 96 (by decide) dX0_walkFrom_22 rfl ?_
      refine v_icmp_ge C0 45 (pc' := 27) dX0_walkFrom_24 (by decide) rfl (fun h3 => ?_) (fun h3 => ?_)
      · refine v_world (ws' := wX cI ad U T F C B RU RC WU (s_X0_walkFrom_ST U T F WU ST RP RN TR start) (s_X0_walkFrom_RP U T F WU ST RP RN TR start) (s_X0_walkFrom_RN U T F WU ST RP RN TR start) WT SM CC TR) (by simp only [s_X0_walkFrom_ST, s_X0_walkFrom_RP, s_X0_walkFrom_RN, ← hs, s_walk, if_neg h2, if_pos h3]) ?_
        exact v_vret C0 hr hlk hK dX0_walkFrom_45
      · refine v_aload_n C0 (pc' := 28) 1 rfl rfl dX0_walkFrom_27 rfl ?_
        refine v_aload_n C0 (pc' := 29) 1 rfl rfl dX0_walkFrom_28 rfl ?_
        refine v_get C0 hK (C := RX0) (T := TX0) (N := 15) (pc' := 32) 0 9 rfl rfl rfl (by decide) in_X0_walkFrom fl_X0_walkFrom_37 rfl dX0_walkFrom_29 rfl ?_
        refine v_iload_n C0 (pc' := 33) 0 rfl rfl dX0_walkFrom_32 rfl ?_
        refine v_callSi0 C0 (av := [.ref (ad 10), .int x]) (rest := [.ref (ad 0)]) (ws' := wX cI ad U T F C B RU RC WU ST_1 RP_1 RN_1 WT SM CC TR) (pc' := 36) hK hA (k_X0_at l D cI (ad 10) 96 RP_1 x (by decide)) (va_cwS 2 C0.2.2.2.2 gX0_walkFrom_X0_at rfl rfl rfl (by decide +kernel) ⟨Nat.le_of_ble_eq_true rfl, Nat.le_of_ble_eq_true rfl⟩) (PLs.one0 10 rfl) rfl rfl (Nat.le_of_ble_eq_true rfl) ⟨Nat.zero_le _, Nat.zero_le _⟩ dX0_walkFrom_33 rfl ?_
        refine v_callVv0 C0 (av := [.int (xAt 96 RP_1 x)]) (rest := []) (ws' := wX cI ad U T F C B RU RC WU (s_X0_reachNeighbours_ST U T F WU ST_1 RP_1 RN_1 TR (xAt 96 RP_1 x)) (s_X0_reachNeighbours_RP U T F WU ST_1 RP_1 RN_1 TR (xAt 96 RP_1 x)) (s_X0_reachNeighbours_RN U T F WU ST_1 RP_1 RN_1 TR (xAt 96 RP_1 x)) WT SM CC TR) (pc' := 39) hK hA (k_X0_reachNeighbours l D cI ad U T F C B RU RC WU ST_1 RP_1 RN_1 WT SM CC TR (xAt 96 RP_1 x) hb_TR) (cwV 1 C0.2.2.2.2 gX0_walkFrom_X0_reachNeighbours rfl rfl rfl (by decide +kernel) ⟨Nat.le_of_ble_eq_true rfl, Nat.le_of_ble_eq_true rfl⟩) ⟨0, 0, _, _, _, rfl, rfl⟩ PLs.all rfl rfl (Nat.le_of_ble_eq_true rfl) ⟨Nat.zero_le _, Nat.zero_le _⟩ dX0_walkFrom_36 rfl ?_
        refine v_iinc C0 (lv' := [(3, .int (x + 1)), (0, .ref (ad 0)), (1, .int start), (2, .int RN)]) (pc' := 42) 0 rfl (x + 1) rfl (by decide) rfl dX0_walkFrom_39 rfl ?_
        refine v_goto C0 13 dX0_walkFrom_42 (by decide) ?_
        exact v_sub (lv' := [(3, .int (x + 1)), (0, .ref (ad 0)), (1, .int start), (2, .int RN)]) [0, 1, 2, 3] rfl (ih ((x + 1)) (s_X0_reachNeighbours_ST U T F WU ST_1 RP_1 RN_1 TR (xAt 96 RP_1 x)) (s_X0_reachNeighbours_RP U T F WU ST_1 RP_1 RN_1 TR (xAt 96 RP_1 x)) (s_X0_reachNeighbours_RN U T F WU ST_1 RP_1 RN_1 TR (xAt 96 RP_1 x)) (s_walk_step hf h3) (by rw [← hs]; simp only [s_walk, if_neg h2, if_neg h3]))
end
section
def s_uS (U T : Nat → Int32) (unit lane : Int32) : Nat → Nat → Int32
  | 0, _ => 0
  | n + 1, i => if (s_X0_isTagged T ((unit * 6) + (nI i)) lane) = 0 then (if (xAt 36 U ((unit * 6) + (nI i))) = lane then 1 else s_uS U T unit lane n (i + 1)) else 1
def s_X0_isUsed (U T : Nat → Int32) (unit lane : Int32) : Int32 := s_uS U T unit lane 6 0
theorem s_uS_b (U T : Nat → Int32) (unit lane : Int32) : ∀ (n i : Nat), s_uS U T unit lane n i = 0 ∨ s_uS U T unit lane n i = 1
  | 0, _ => Or.inl rfl
  | n + 1, i => by
    unfold s_uS
    split
    · split
      · exact Or.inr rfl
      · exact s_uS_b U T unit lane n (i + 1)
    · exact Or.inr rfl
theorem b_X0_isUsed (U T : Nat → Int32) (unit lane : Int32) : s_X0_isUsed U T unit lane = 0 ∨ s_X0_isUsed U T unit lane = 1 := s_uS_b U T unit lane 6 0
set_option maxHeartbeats 4000000 in
set_option maxRecDepth 100000 in
theorem k_X0_isUsed (l : Launch) (D : va_G) (cI : ClassId) (ad : Nat → Nat) (U : Nat → Int32) (T : Nat → Int32) (F : Nat → Int32) (C : Nat → Int32) (B : Nat → Int32) (RU : Nat → Int32) (RC : Nat → Int32) (WU : Nat → Int32) (ST : Nat → Int32) (RP : Nat → Int32) (RN : Int32) (WT : Nat → Int32) (SM : Nat → Int32) (CC : Int32) (TR : Int32) (unit : Int32) (lane : Int32) : Ki l yX0_isUsed wsX0_isUsed 2 43 0 0 D (TI cI) [.ref (ad 0), .int unit, .int lane] (wX cI ad U T F C B RU RC WU ST RP RN WT SM CC TR) (wX cI ad U T F C B RU RC WU ST RP RN WT SM CC TR) (s_X0_isUsed U T unit lane) := by
  refine Ki.of (cc := cX0_isUsed) (maxL := 5) (rt := .boolean) (lv0 := [(0, .ref (ad 0)), (1, .int unit), (2, .int lane)]) (by decide +kernel) rfl (Nat.le_of_ble_eq_true rfl) rfl ?_
  intro p e s m args below meth c A C0 hr hlk hK hA
  refine v_iconst C0 (pc' := 1) 0 (by decide) dX0_isUsed_0 rfl ?_
  refine v_istore_n C0 (lv' := [(3, .int 0), (0, .ref (ad 0)), (1, .int unit), (2, .int lane)]) (pc' := 2) rfl (by decide) rfl dX0_isUsed_1 rfl ?_
  suffices LP : ∀ (j i : Nat) (x : Int32), i + j = 6 → x = nI i → s_uS U T unit lane j i = s_uS U T unit lane 6 0 → V p l e { frames := 2, cells := 0, slots := 0, locals := 43 } s m args below meth c D A 5 0 0 (MQ below (QI D (TI cI) (wX cI ad U T F C B RU RC WU ST RP RN WT SM CC TR) A (s_X0_isUsed U T unit lane)) args s 0 0 A) (wX cI ad U T F C B RU RC WU ST RP RN WT SM CC TR) [(3, .int x), (0, .ref (ad 0)), (1, .int unit), (2, .int lane)] 2 [] by
    exact v_sub (lv' := [(3, .int 0), (0, .ref (ad 0)), (1, .int unit), (2, .int lane)]) [0, 1, 2, 3] rfl (LP 6 0 0 rfl nI_0.symm rfl)
  intro j
  induction j with
  | zero =>
    intro i x hi hx hs
    have hi : i = 6 := by omega
    subst hi
    subst hx
    refine v_iload_n C0 (pc' := 3) 0 rfl rfl dX0_isUsed_2 rfl ?_
    refine v_bipush C0 (pc' := 5) 6 (by decide) dX0_isUsed_3 rfl ?_
    refine v_icmp_ge C0 47 (pc' := 8) dX0_isUsed_5 (by decide) rfl (fun h2 => ?_) (fun h2 => ?_)
    · refine v_iconst C0 (pc' := 48) 0 (by decide) dX0_isUsed_47 rfl ?_
      exact v_zret C0 hr hlk hK (Or.inl rfl : (0 : Int32) = 0 ∨ (0 : Int32) = 1) (by rw [s_X0_isUsed, ← hs]; simp only [s_uS, if_pos h2]) dX0_isUsed_48
    · exact absurd (by decide +kernel) h2
  | succ j ih =>
    intro i x hi hx hs
    subst hx
    refine v_iload_n C0 (pc' := 3) 0 rfl rfl dX0_isUsed_2 rfl ?_
    refine v_bipush C0 (pc' := 5) 6 (by decide) dX0_isUsed_3 rfl ?_
    refine v_icmp_ge C0 47 (pc' := 8) dX0_isUsed_5 (by decide) rfl (fun h2 => ?_) (fun h2 => ?_)
    · exact absurd h2 (nI_ge (a := i) (b := 6) (by omega) (by decide))
    · refine v_iload_n C0 (pc' := 9) 2 rfl rfl dX0_isUsed_8 rfl ?_
      refine v_bipush C0 (pc' := 11) 6 (by decide) dX0_isUsed_9 rfl ?_
      refine v_imul C0 (pc' := 12) dX0_isUsed_11 rfl ?_
      refine v_iload_n C0 (pc' := 13) 0 rfl rfl dX0_isUsed_12 rfl ?_
      refine v_iadd C0 (pc' := 14) dX0_isUsed_13 rfl ?_
      refine v_istore C0 (lv' := [(4, .int ((unit * 6) + (nI i))), (3, .int (nI i)), (0, .ref (ad 0)), (1, .int unit), (2, .int lane)]) (pc' := 16) (by decide) rfl dX0_isUsed_14 rfl ?_
      refine v_aload_n C0 (pc' := 17) 2 rfl rfl dX0_isUsed_16 rfl ?_
      refine v_iload C0 (pc' := 19) 0 rfl dX0_isUsed_17 rfl ?_
      refine v_iload_n C0 (pc' := 20) 4 rfl rfl dX0_isUsed_19 rfl ?_
      refine v_callVi0 C0 (av := [.int ((unit * 6) + (nI i)), .int lane]) (rest := []) (ws' := wX cI ad U T F C B RU RC WU ST RP RN WT SM CC TR) (pc' := 23) hK hA (k_X0_isTagged l D cI ad U T F C B RU RC WU ST RP RN WT SM CC TR ((unit * 6) + (nI i)) lane) (cwV 2 C0.2.2.2.2 gX0_isUsed_X0_isTagged rfl rfl rfl (by decide +kernel) ⟨Nat.le_of_ble_eq_true rfl, Nat.le_of_ble_eq_true rfl⟩) ⟨0, 0, _, _, _, rfl, rfl⟩ PLs.all rfl rfl (Nat.le_of_ble_eq_true rfl) ⟨Nat.zero_le _, Nat.zero_le _⟩ dX0_isUsed_20 rfl ?_
      refine v_if_ne C0 39 (pc' := 26) dX0_isUsed_23 (by decide) rfl (fun h3 => ?_) (fun h3 => ?_)
      · refine v_iconst C0 (pc' := 40) 1 (by decide) dX0_isUsed_39 rfl ?_
        exact v_zret C0 hr hlk hK (Or.inr rfl : (1 : Int32) = 0 ∨ (1 : Int32) = 1) (by rw [s_X0_isUsed, ← hs]; simp only [s_uS, if_neg h2, if_neg h3]) dX0_isUsed_40
      · refine v_aload_n C0 (pc' := 27) 2 rfl rfl dX0_isUsed_26 rfl ?_
        refine v_get C0 hK (C := RX0) (T := TX0) (N := 15) (pc' := 30) 0 0 rfl rfl rfl (by decide) in_X0_isUsed fl_X0_isUsed_9 rfl dX0_isUsed_27 rfl ?_
        refine v_iload C0 (pc' := 32) 0 rfl dX0_isUsed_30 rfl ?_
        refine v_callSi0 C0 (av := [.ref (ad 1), .int ((unit * 6) + (nI i))]) (rest := []) (ws' := wX cI ad U T F C B RU RC WU ST RP RN WT SM CC TR) (pc' := 35) hK hA (k_X0_at l D cI (ad 1) 36 U ((unit * 6) + (nI i)) (by decide)) (va_cwS 2 C0.2.2.2.2 gX0_isUsed_X0_at rfl rfl rfl (by decide +kernel) ⟨Nat.le_of_ble_eq_true rfl, Nat.le_of_ble_eq_true rfl⟩) (PLs.one0 1 rfl) rfl rfl (Nat.le_of_ble_eq_true rfl) ⟨Nat.zero_le _, Nat.zero_le _⟩ dX0_isUsed_32 rfl ?_
        refine v_iload_n C0 (pc' := 36) 4 rfl rfl dX0_isUsed_35 rfl ?_
        refine v_icmp_ne C0 41 (pc' := 39) dX0_isUsed_36 (by decide) rfl (fun h4 => ?_) (fun h4 => ?_)
        · refine v_iinc C0 (lv' := [(3, .int ((nI i) + 1)), (4, .int ((unit * 6) + (nI i))), (0, .ref (ad 0)), (1, .int unit), (2, .int lane)]) (pc' := 44) 1 rfl ((nI i) + 1) rfl (by decide) rfl dX0_isUsed_41 rfl ?_
          refine v_goto C0 2 dX0_isUsed_44 (by decide) ?_
          exact v_sub (lv' := [(3, .int ((nI i) + 1)), (0, .ref (ad 0)), (1, .int unit), (2, .int lane)]) [0, 2, 3, 4] rfl (ih (i + 1) ((nI i) + 1) (by omega) (by rw [nI_1]) (by rw [← hs]; simp only [s_uS, if_neg h2, if_pos h3, if_neg h4]))
        · refine v_iconst C0 (pc' := 40) 1 (by decide) dX0_isUsed_39 rfl ?_
          exact v_zret C0 hr hlk hK (Or.inr rfl : (1 : Int32) = 0 ∨ (1 : Int32) = 1) (by rw [s_X0_isUsed, ← hs]; simp only [s_uS, if_neg h2, if_pos h3, if_pos h4]) dX0_isUsed_40
def s_X0_countUsedPlaces_L2 (U : Nat → Int32) (T : Nat → Int32) (i1 : Nat) (i2 : Nat) (n_2 : Int32) : Int32 := if (s_X0_isUsed U T (nI i1) (nI (i2 + 1))) = 0 then n_2 else (n_2 + 1)
def s_X0_countUsedPlaces_L1 (U : Nat → Int32) (T : Nat → Int32) (i1 : Nat) (n_1 : Int32) : Int32 := (lp (s_X0_countUsedPlaces_L2 U T i1) 15 n_1)
def s_X0_countUsedPlaces (U : Nat → Int32) (T : Nat → Int32) : Int32 := (lp (s_X0_countUsedPlaces_L1 U T) 6 0)
set_option maxHeartbeats 4000000 in
set_option maxRecDepth 100000 in
theorem k_X0_countUsedPlaces (l : Launch) (D : va_G) (cI : ClassId) (ad : Nat → Nat) (U : Nat → Int32) (T : Nat → Int32) (F : Nat → Int32) (C : Nat → Int32) (B : Nat → Int32) (RU : Nat → Int32) (RC : Nat → Int32) (WU : Nat → Int32) (ST : Nat → Int32) (RP : Nat → Int32) (RN : Int32) (WT : Nat → Int32) (SM : Nat → Int32) (CC : Int32) (TR : Int32)  : Ki l yX0_countUsedPlaces wsX0_countUsedPlaces 3 67 0 0 D (TI cI) [.ref (ad 0)] (wX cI ad U T F C B RU RC WU ST RP RN WT SM CC TR) (wX cI ad U T F C B RU RC WU ST RP RN WT SM CC TR) (s_X0_countUsedPlaces U T) := by
  refine Ki.of (cc := cX0_countUsedPlaces) (maxL := 4) (rt := .int) (lv0 := [(0, .ref (ad 0))]) (by decide +kernel) rfl (Nat.le_of_ble_eq_true rfl) rfl ?_
  intro p e s m args below meth c A C0 hr hlk hK hA
  refine v_iconst C0 (pc' := 1) 0 (by decide) dX0_countUsedPlaces_0 rfl ?_
  refine v_istore_n C0 (lv' := [(1, .int 0), (0, .ref (ad 0))]) (pc' := 2) rfl (by decide) rfl dX0_countUsedPlaces_1 rfl ?_
  refine v_iconst C0 (pc' := 3) 0 (by decide) dX0_countUsedPlaces_2 rfl ?_
  refine v_istore_n C0 (lv' := [(2, .int 0), (1, .int 0), (0, .ref (ad 0))]) (pc' := 4) rfl (by decide) rfl dX0_countUsedPlaces_3 rfl ?_
  suffices LP1 : ∀ (j1 i1 : Nat) (x1 : Int32) (n_1 : Int32), i1 + j1 = 6 → x1 = nI i1 → n_1 = lp (s_X0_countUsedPlaces_L1 U T) i1 0 → V p l e { frames := 3, cells := 0, slots := 0, locals := 67 } s m args below meth c D A 4 0 0 (MQ below (QI D (TI cI) (wX cI ad U T F C B RU RC WU ST RP RN WT SM CC TR) A (s_X0_countUsedPlaces U T)) args s 0 0 A) (wX cI ad U T F C B RU RC WU ST RP RN WT SM CC TR) [(2, .int x1), (1, .int n_1), (0, .ref (ad 0))] 4 [] by
    exact v_sub (lv' := [(2, .int 0), (1, .int 0), (0, .ref (ad 0))]) [0, 1, 2] rfl (LP1 6 0 0 0 rfl nI_0.symm rfl)
  intro j1
  induction j1 with
  | zero =>
    intro i1 x1 n_1 hi1 hx1 hs1
    have hi1 : i1 = 6 := by omega
    subst hi1
    subst hx1
    refine v_iload_n C0 (pc' := 5) 0 rfl rfl dX0_countUsedPlaces_4 rfl ?_
    refine v_bipush C0 (pc' := 7) 6 (by decide) dX0_countUsedPlaces_5 rfl ?_
    refine v_icmp_ge C0 42 (pc' := 10) dX0_countUsedPlaces_7 (by decide) rfl (fun h1 => ?_) (fun h1 => ?_)
    · refine v_iload_n C0 (pc' := 43) 1 rfl rfl dX0_countUsedPlaces_42 rfl ?_
      exact v_iret C0 hr hlk hK (by simp only [s_X0_countUsedPlaces, if_pos h1, ← hs1]) dX0_countUsedPlaces_43
    · exact absurd (by decide +kernel) h1
  | succ j1 ih1 =>
    intro i1 x1 n_1 hi1 hx1 hs1
    subst hx1
    refine v_iload_n C0 (pc' := 5) 0 rfl rfl dX0_countUsedPlaces_4 rfl ?_
    refine v_bipush C0 (pc' := 7) 6 (by decide) dX0_countUsedPlaces_5 rfl ?_
    refine v_icmp_ge C0 42 (pc' := 10) dX0_countUsedPlaces_7 (by decide) rfl (fun h2 => ?_) (fun h2 => ?_)
    · exact absurd h2 (nI_ge (a := i1) (b := 6) (by omega) (by decide))
    · refine v_iconst C0 (pc' := 11) 1 (by decide) dX0_countUsedPlaces_10 rfl ?_
      refine v_istore_n C0 (lv' := [(3, .int 1), (2, .int (nI i1)), (1, .int n_1), (0, .ref (ad 0))]) (pc' := 12) rfl (by decide) rfl dX0_countUsedPlaces_11 rfl ?_
      suffices LP2 : ∀ (j2 i2 : Nat) (x2 : Int32) (n_2 : Int32), i2 + j2 = 15 → x2 = nI (i2 + 1) → n_2 = lp (s_X0_countUsedPlaces_L2 U T i1) i2 n_1 → V p l e { frames := 3, cells := 0, slots := 0, locals := 67 } s m args below meth c D A 4 0 0 (MQ below (QI D (TI cI) (wX cI ad U T F C B RU RC WU ST RP RN WT SM CC TR) A (s_X0_countUsedPlaces U T)) args s 0 0 A) (wX cI ad U T F C B RU RC WU ST RP RN WT SM CC TR) [(3, .int x2), (1, .int n_2), (2, .int (nI i1)), (0, .ref (ad 0))] 12 [] by
        exact v_sub (lv' := [(3, .int 1), (1, .int n_1), (2, .int (nI i1)), (0, .ref (ad 0))]) [0, 2, 1, 3] rfl (LP2 15 0 1 n_1 rfl (by decide +kernel) rfl)
      intro j2
      induction j2 with
      | zero =>
        intro i2 x2 n_2 hi2 hx2 hs2
        have hi2 : i2 = 15 := by omega
        subst hi2
        subst hx2
        refine v_iload_n C0 (pc' := 13) 0 rfl rfl dX0_countUsedPlaces_12 rfl ?_
        refine v_bipush C0 (pc' := 15) 15 (by decide) dX0_countUsedPlaces_13 rfl ?_
        refine v_icmp_gt C0 36 (pc' := 18) dX0_countUsedPlaces_15 (by decide) rfl (fun h3 => ?_) (fun h3 => ?_)
        · refine v_iinc C0 (lv' := [(2, .int ((nI i1) + 1)), (3, .int (nI (15 + 1))), (1, .int n_2), (0, .ref (ad 0))]) (pc' := 39) 2 rfl ((nI i1) + 1) rfl (by decide) rfl dX0_countUsedPlaces_36 rfl ?_
          refine v_goto C0 4 dX0_countUsedPlaces_39 (by decide) ?_
          exact v_sub (lv' := [(2, .int ((nI i1) + 1)), (1, .int n_2), (0, .ref (ad 0))]) [0, 2, 3] rfl (ih1 (i1 + 1) ((nI i1) + 1) n_2 (by omega) (by rw [nI_1]) (by show _ = s_X0_countUsedPlaces_L1 U T i1 (lp (s_X0_countUsedPlaces_L1 U T) i1 0); rw [← hs1]; simp only [s_X0_countUsedPlaces_L1, if_neg h2, if_pos h3, ← hs2]))
        · exact absurd (by decide +kernel) h3
      | succ j2 ih2 =>
        intro i2 x2 n_2 hi2 hx2 hs2
        subst hx2
        refine v_iload_n C0 (pc' := 13) 0 rfl rfl dX0_countUsedPlaces_12 rfl ?_
        refine v_bipush C0 (pc' := 15) 15 (by decide) dX0_countUsedPlaces_13 rfl ?_
        refine v_icmp_gt C0 36 (pc' := 18) dX0_countUsedPlaces_15 (by decide) rfl (fun h4 => ?_) (fun h4 => ?_)
        · exact absurd h4 (nI_nlt (a := 15) (b := i2 + 1) (by omega) (by decide))
        · refine v_aload_n C0 (pc' := 19) 3 rfl rfl dX0_countUsedPlaces_18 rfl ?_
          refine v_iload_n C0 (pc' := 20) 2 rfl rfl dX0_countUsedPlaces_19 rfl ?_
          refine v_iload_n C0 (pc' := 21) 0 rfl rfl dX0_countUsedPlaces_20 rfl ?_
          refine v_callVi0 C0 (av := [.int (nI i1), .int (nI (i2 + 1))]) (rest := []) (ws' := wX cI ad U T F C B RU RC WU ST RP RN WT SM CC TR) (pc' := 24) hK hA (k_X0_isUsed l D cI ad U T F C B RU RC WU ST RP RN WT SM CC TR (nI i1) (nI (i2 + 1))) (cwV 2 C0.2.2.2.2 gX0_countUsedPlaces_X0_isUsed rfl rfl rfl (by decide +kernel) ⟨Nat.le_of_ble_eq_true rfl, Nat.le_of_ble_eq_true rfl⟩) ⟨0, 0, _, _, _, rfl, rfl⟩ PLs.all rfl rfl (Nat.le_of_ble_eq_true rfl) ⟨Nat.zero_le _, Nat.zero_le _⟩ dX0_countUsedPlaces_21 rfl ?_
          refine v_if_eq C0 30 (pc' := 27) dX0_countUsedPlaces_24 (by decide) rfl (fun h5 => ?_) (fun h5 => ?_)
          · refine v_iinc C0 (lv' := [(3, .int ((nI (i2 + 1)) + 1)), (1, .int n_2), (2, .int (nI i1)), (0, .ref (ad 0))]) (pc' := 33) 0 rfl ((nI (i2 + 1)) + 1) rfl (by decide) rfl dX0_countUsedPlaces_30 rfl ?_
            refine v_goto C0 12 dX0_countUsedPlaces_33 (by decide) ?_
            exact v_sub (lv' := [(3, .int ((nI (i2 + 1)) + 1)), (1, .int n_2), (2, .int (nI i1)), (0, .ref (ad 0))]) [0, 1, 2, 3] rfl (ih2 (i2 + 1) ((nI (i2 + 1)) + 1) n_2 (by omega) (by rw [nI_1]) (by show _ = s_X0_countUsedPlaces_L2 U T i1 i2 (lp (s_X0_countUsedPlaces_L2 U T i1) i2 n_1); rw [← hs2]; simp only [s_X0_countUsedPlaces_L2, if_neg h2, if_neg h4, if_pos h5]))
          · refine v_iinc C0 (lv' := [(1, .int (n_2 + 1)), (3, .int (nI (i2 + 1))), (2, .int (nI i1)), (0, .ref (ad 0))]) (pc' := 30) 1 rfl (n_2 + 1) rfl (by decide) rfl dX0_countUsedPlaces_27 rfl ?_
            refine v_iinc C0 (lv' := [(3, .int ((nI (i2 + 1)) + 1)), (1, .int (n_2 + 1)), (2, .int (nI i1)), (0, .ref (ad 0))]) (pc' := 33) 1 rfl ((nI (i2 + 1)) + 1) rfl (by decide) rfl dX0_countUsedPlaces_30 rfl ?_
            refine v_goto C0 12 dX0_countUsedPlaces_33 (by decide) ?_
            exact v_sub (lv' := [(3, .int ((nI (i2 + 1)) + 1)), (1, .int (n_2 + 1)), (2, .int (nI i1)), (0, .ref (ad 0))]) [0, 1, 2, 3] rfl (ih2 (i2 + 1) ((nI (i2 + 1)) + 1) (n_2 + 1) (by omega) (by rw [nI_1]) (by show _ = s_X0_countUsedPlaces_L2 U T i1 i2 (lp (s_X0_countUsedPlaces_L2 U T i1) i2 n_1); rw [← hs2]; simp only [s_X0_countUsedPlaces_L2, if_neg h2, if_neg h4, if_neg h5]))
def s_X0_islands_L2 (U : Nat → Int32) (T : Nat → Int32) (F : Nat → Int32) (WU : Nat → Int32) (TR : Int32) (i1 : Nat) (i2 : Nat) (z : Int32 × (Nat → Int32) × (Nat → Int32) × Int32) : Int32 × (Nat → Int32) × (Nat → Int32) × Int32 := match z with
  | (n_2, ST_2, RP_2, RN_2) => if (s_X0_isUsed U T (nI i1) (nI (i2 + 1))) = 0 then (n_2, ST_2, RP_2, RN_2) else (if (xAt 96 ST_2 (((nI i1) * 16) + (nI (i2 + 1)))) = (-1) then (n_2 + 1, s_X0_walkFrom_ST U T F WU ST_2 RP_2 RN_2 TR (((nI i1) * 16) + (nI (i2 + 1))), s_X0_walkFrom_RP U T F WU ST_2 RP_2 RN_2 TR (((nI i1) * 16) + (nI (i2 + 1))), s_X0_walkFrom_RN U T F WU ST_2 RP_2 RN_2 TR (((nI i1) * 16) + (nI (i2 + 1)))) else (n_2, ST_2, RP_2, RN_2))
def s_X0_islands_L1 (U : Nat → Int32) (T : Nat → Int32) (F : Nat → Int32) (WU : Nat → Int32) (TR : Int32) (i1 : Nat) (z : Int32 × (Nat → Int32) × (Nat → Int32) × Int32) : Int32 × (Nat → Int32) × (Nat → Int32) × Int32 := match z with
  | (n_1, ST_1, RP_1, RN_1) => (((lp (s_X0_islands_L2 U T F WU TR i1) 15 (n_1, ST_1, RP_1, RN_1)).1), ((lp (s_X0_islands_L2 U T F WU TR i1) 15 (n_1, ST_1, RP_1, RN_1)).2.1), ((lp (s_X0_islands_L2 U T F WU TR i1) 15 (n_1, ST_1, RP_1, RN_1)).2.2.1), ((lp (s_X0_islands_L2 U T F WU TR i1) 15 (n_1, ST_1, RP_1, RN_1)).2.2.2))
def s_X0_islands (U : Nat → Int32) (T : Nat → Int32) (F : Nat → Int32) (WU : Nat → Int32) (ST : Nat → Int32) (RP : Nat → Int32) (TR : Int32) : Int32 := ((lp (s_X0_islands_L1 U T F WU TR) 6 (0, s_X0_forgetWalks_ST ST, RP, s_X0_forgetWalks_RN )).1)
def s_X0_islands_ST (U : Nat → Int32) (T : Nat → Int32) (F : Nat → Int32) (WU : Nat → Int32) (ST : Nat → Int32) (RP : Nat → Int32) (TR : Int32) : Nat → Int32 := ((lp (s_X0_islands_L1 U T F WU TR) 6 (0, s_X0_forgetWalks_ST ST, RP, s_X0_forgetWalks_RN )).2.1)
def s_X0_islands_RP (U : Nat → Int32) (T : Nat → Int32) (F : Nat → Int32) (WU : Nat → Int32) (ST : Nat → Int32) (RP : Nat → Int32) (TR : Int32) : Nat → Int32 := ((lp (s_X0_islands_L1 U T F WU TR) 6 (0, s_X0_forgetWalks_ST ST, RP, s_X0_forgetWalks_RN )).2.2.1)
def s_X0_islands_RN (U : Nat → Int32) (T : Nat → Int32) (F : Nat → Int32) (WU : Nat → Int32) (ST : Nat → Int32) (RP : Nat → Int32) (TR : Int32) : Int32 := ((lp (s_X0_islands_L1 U T F WU TR) 6 (0, s_X0_forgetWalks_ST ST, RP, s_X0_forgetWalks_RN )).2.2.2)
set_option maxHeartbeats 4000000 in
set_option maxRecDepth 100000 in
theorem k_X0_islands (l : Launch) (D : va_G) (cI : ClassId) (ad : Nat → Nat) (U : Nat → Int32) (T : Nat → Int32) (F : Nat → Int32) (C : Nat → Int32) (B : Nat → Int32) (RU : Nat → Int32) (RC : Nat → Int32) (WU : Nat → Int32) (ST : Nat → Int32) (RP : Nat → Int32) (RN : Int32) (WT : Nat → Int32) (SM : Nat → Int32) (CC : Int32) (TR : Int32)  (hb_TR : TR = 0 ∨ TR = 1) : Ki l yX0_islands wsX0_islands 6 137 0 0 D (TI cI) [.ref (ad 0)] (wX cI ad U T F C B RU RC WU ST RP RN WT SM CC TR) (wX cI ad U T F C B RU RC WU (s_X0_islands_ST U T F WU ST RP TR) (s_X0_islands_RP U T F WU ST RP TR) (s_X0_islands_RN U T F WU ST RP TR) WT SM CC TR) (s_X0_islands U T F WU ST RP TR) := by
  refine Ki.of (cc := cX0_islands) (maxL := 5) (rt := .int) (lv0 := [(0, .ref (ad 0))]) (by decide +kernel) rfl (Nat.le_of_ble_eq_true rfl) rfl ?_
  intro p e s m args below meth c A C0 hr hlk hK hA
  refine v_iconst C0 (pc' := 1) 0 (by decide) dX0_islands_0 rfl ?_
  refine v_istore_n C0 (lv' := [(1, .int 0), (0, .ref (ad 0))]) (pc' := 2) rfl (by decide) rfl dX0_islands_1 rfl ?_
  refine v_aload_n C0 (pc' := 3) 1 rfl rfl dX0_islands_2 rfl ?_
  refine v_callVv0 C0 (av := []) (rest := []) (ws' := wX cI ad U T F C B RU RC WU (s_X0_forgetWalks_ST ST) RP (s_X0_forgetWalks_RN ) WT SM CC TR) (pc' := 6) hK hA (k_X0_forgetWalks l D cI ad U T F C B RU RC WU ST RP RN WT SM CC TR ) (cwV 0 C0.2.2.2.2 gX0_islands_X0_forgetWalks rfl rfl rfl (by decide +kernel) ⟨Nat.le_of_ble_eq_true rfl, Nat.le_of_ble_eq_true rfl⟩) ⟨0, 0, _, _, _, rfl, rfl⟩ PLs.all rfl rfl (Nat.le_of_ble_eq_true rfl) ⟨Nat.zero_le _, Nat.zero_le _⟩ dX0_islands_3 rfl ?_
  refine v_iconst C0 (pc' := 7) 0 (by decide) dX0_islands_6 rfl ?_
  refine v_istore_n C0 (lv' := [(2, .int 0), (1, .int 0), (0, .ref (ad 0))]) (pc' := 8) rfl (by decide) rfl dX0_islands_7 rfl ?_
  suffices LP1 : ∀ (j1 i1 : Nat) (x1 : Int32) (n_1 : Int32) (ST_1 : Nat → Int32) (RP_1 : Nat → Int32) (RN_1 : Int32), i1 + j1 = 6 → x1 = nI i1 → (n_1, ST_1, RP_1, RN_1) = lp (s_X0_islands_L1 U T F WU TR) i1 (0, s_X0_forgetWalks_ST ST, RP, s_X0_forgetWalks_RN ) → V p l e { frames := 6, cells := 0, slots := 0, locals := 137 } s m args below meth c D A 5 0 0 (MQ below (QI D (TI cI) (wX cI ad U T F C B RU RC WU (s_X0_islands_ST U T F WU ST RP TR) (s_X0_islands_RP U T F WU ST RP TR) (s_X0_islands_RN U T F WU ST RP TR) WT SM CC TR) A (s_X0_islands U T F WU ST RP TR)) args s 0 0 A) (wX cI ad U T F C B RU RC WU ST_1 RP_1 RN_1 WT SM CC TR) [(2, .int x1), (1, .int n_1), (0, .ref (ad 0))] 8 [] by
    exact v_sub (lv' := [(2, .int 0), (1, .int 0), (0, .ref (ad 0))]) [0, 1, 2] rfl (LP1 6 0 0 0 (s_X0_forgetWalks_ST ST) RP (s_X0_forgetWalks_RN ) rfl nI_0.symm rfl)
  intro j1
  induction j1 with
  | zero =>
    intro i1 x1 n_1 ST_1 RP_1 RN_1 hi1 hx1 hs1
    have hi1 : i1 = 6 := by omega
    subst hi1
    subst hx1
    refine v_iload_n C0 (pc' := 9) 0 rfl rfl dX0_islands_8 rfl ?_
    refine v_bipush C0 (pc' := 11) 6 (by decide) dX0_islands_9 rfl ?_
    refine v_icmp_ge C0 73 (pc' := 14) dX0_islands_11 (by decide) rfl (fun h1 => ?_) (fun h1 => ?_)
    · refine v_iload_n C0 (pc' := 74) 1 rfl rfl dX0_islands_73 rfl ?_
      refine v_world (ws' := wX cI ad U T F C B RU RC WU (s_X0_islands_ST U T F WU ST RP TR) (s_X0_islands_RP U T F WU ST RP TR) (s_X0_islands_RN U T F WU ST RP TR) WT SM CC TR) (by simp only [s_X0_islands, s_X0_islands_ST, s_X0_islands_RP, s_X0_islands_RN, if_pos h1, ← hs1]) ?_
      exact v_iret C0 hr hlk hK (by simp only [s_X0_islands, s_X0_islands_ST, s_X0_islands_RP, s_X0_islands_RN, if_pos h1, ← hs1]) dX0_islands_74
    · exact absurd (by decide +kernel) h1
  | succ j1 ih1 =>
    intro i1 x1 n_1 ST_1 RP_1 RN_1 hi1 hx1 hs1
    subst hx1
    refine v_iload_n C0 (pc' := 9) 0 rfl rfl dX0_islands_8 rfl ?_
    refine v_bipush C0 (pc' := 11) 6 (by decide) dX0_islands_9 rfl ?_
    refine v_icmp_ge C0 73 (pc' := 14) dX0_islands_11 (by decide) rfl (fun h2 => ?_) (fun h2 => ?_)
    · exact absurd h2 (nI_ge (a := i1) (b := 6) (by omega) (by decide))
    · refine v_iconst C0 (pc' := 15) 1 (by decide) dX0_islands_14 rfl ?_
      refine v_istore_n C0 (lv' := [(3, .int 1), (2, .int (nI i1)), (1, .int n_1), (0, .ref (ad 0))]) (pc' := 16) rfl (by decide) rfl dX0_islands_15 rfl ?_
      suffices LP2 : ∀ (j2 i2 : Nat) (x2 : Int32) (n_2 : Int32) (ST_2 : Nat → Int32) (RP_2 : Nat → Int32) (RN_2 : Int32), i2 + j2 = 15 → x2 = nI (i2 + 1) → (n_2, ST_2, RP_2, RN_2) = lp (s_X0_islands_L2 U T F WU TR i1) i2 (n_1, ST_1, RP_1, RN_1) → V p l e { frames := 6, cells := 0, slots := 0, locals := 137 } s m args below meth c D A 5 0 0 (MQ below (QI D (TI cI) (wX cI ad U T F C B RU RC WU (s_X0_islands_ST U T F WU ST RP TR) (s_X0_islands_RP U T F WU ST RP TR) (s_X0_islands_RN U T F WU ST RP TR) WT SM CC TR) A (s_X0_islands U T F WU ST RP TR)) args s 0 0 A) (wX cI ad U T F C B RU RC WU ST_2 RP_2 RN_2 WT SM CC TR) [(3, .int x2), (1, .int n_2), (2, .int (nI i1)), (0, .ref (ad 0))] 16 [] by
        exact v_sub (lv' := [(3, .int 1), (1, .int n_1), (2, .int (nI i1)), (0, .ref (ad 0))]) [0, 2, 1, 3] rfl (LP2 15 0 1 n_1 ST_1 RP_1 RN_1 rfl (by decide +kernel) rfl)
      intro j2
      induction j2 with
      | zero =>
        intro i2 x2 n_2 ST_2 RP_2 RN_2 hi2 hx2 hs2
        have hi2 : i2 = 15 := by omega
        subst hi2
        subst hx2
        refine v_iload_n C0 (pc' := 17) 0 rfl rfl dX0_islands_16 rfl ?_
        refine v_bipush C0 (pc' := 19) 15 (by decide) dX0_islands_17 rfl ?_
        refine v_icmp_gt C0 67 (pc' := 22) dX0_islands_19 (by decide) rfl (fun h3 => ?_) (fun h3 => ?_)
        · refine v_iinc C0 (lv' := [(2, .int ((nI i1) + 1)), (3, .int (nI (15 + 1))), (1, .int n_2), (0, .ref (ad 0))]) (pc' := 70) 2 rfl ((nI i1) + 1) rfl (by decide) rfl dX0_islands_67 rfl ?_
          refine v_goto C0 8 dX0_islands_70 (by decide) ?_
          exact v_sub (lv' := [(2, .int ((nI i1) + 1)), (1, .int n_2), (0, .ref (ad 0))]) [0, 2, 3] rfl (ih1 (i1 + 1) ((nI i1) + 1) n_2 ST_2 RP_2 RN_2 (by omega) (by rw [nI_1]) (by show _ = s_X0_islands_L1 U T F WU TR i1 (lp (s_X0_islands_L1 U T F WU TR) i1 (0, s_X0_forgetWalks_ST ST, RP, s_X0_forgetWalks_RN )); rw [← hs1]; simp only [s_X0_islands_L1, if_neg h2, if_pos h3, ← hs2]))
        · exact absurd (by decide +kernel) h3
      | succ j2 ih2 =>
        intro i2 x2 n_2 ST_2 RP_2 RN_2 hi2 hx2 hs2
        subst hx2
        refine v_iload_n C0 (pc' := 17) 0 rfl rfl dX0_islands_16 rfl ?_
        refine v_bipush C0 (pc' := 19) 15 (by decide) dX0_islands_17 rfl ?_
        refine v_icmp_gt C0 67 (pc' := 22) dX0_islands_19 (by decide) rfl (fun h4 => ?_) (fun h4 => ?_)
        · exact absurd h4 (nI_nlt (a := 15) (b := i2 + 1) (by omega) (by decide))
        · refine v_iload_n C0 (pc' := 23) 2 rfl rfl dX0_islands_22 rfl ?_
          refine v_bipush C0 (pc' := 25) 16 (by decide) dX0_islands_23 rfl ?_
          refine v_imul C0 (pc' := 26) dX0_islands_25 rfl ?_
          refine v_iload_n C0 (pc' := 27) 0 rfl rfl dX0_islands_26 rfl ?_
          refine v_iadd C0 (pc' := 28) dX0_islands_27 rfl ?_
          refine v_istore C0 (lv' := [(4, .int (((nI i1) * 16) + (nI (i2 + 1)))), (3, .int (nI (i2 + 1))), (1, .int n_2), (2, .int (nI i1)), (0, .ref (ad 0))]) (pc' := 30) (by decide) rfl dX0_islands_28 rfl ?_
          refine v_aload_n C0 (pc' := 31) 4 rfl rfl dX0_islands_30 rfl ?_
          refine v_iload_n C0 (pc' := 32) 3 rfl rfl dX0_islands_31 rfl ?_
          refine v_iload_n C0 (pc' := 33) 1 rfl rfl dX0_islands_32 rfl ?_
          refine v_callVi0 C0 (av := [.int (nI i1), .int (nI (i2 + 1))]) (rest := []) (ws' := wX cI ad U T F C B RU RC WU ST_2 RP_2 RN_2 WT SM CC TR) (pc' := 36) hK hA (k_X0_isUsed l D cI ad U T F C B RU RC WU ST_2 RP_2 RN_2 WT SM CC TR (nI i1) (nI (i2 + 1))) (cwV 2 C0.2.2.2.2 gX0_islands_X0_isUsed rfl rfl rfl (by decide +kernel) ⟨Nat.le_of_ble_eq_true rfl, Nat.le_of_ble_eq_true rfl⟩) ⟨0, 0, _, _, _, rfl, rfl⟩ PLs.all rfl rfl (Nat.le_of_ble_eq_true rfl) ⟨Nat.zero_le _, Nat.zero_le _⟩ dX0_islands_33 rfl ?_
          refine v_if_eq C0 61 (pc' := 39) dX0_islands_36 (by decide) rfl (fun h5 => ?_) (fun h5 => ?_)
          · refine v_iinc C0 (lv' := [(3, .int ((nI (i2 + 1)) + 1)), (4, .int (((nI i1) * 16) + (nI (i2 + 1)))), (1, .int n_2), (2, .int (nI i1)), (0, .ref (ad 0))]) (pc' := 64) 1 rfl ((nI (i2 + 1)) + 1) rfl (by decide) rfl dX0_islands_61 rfl ?_
            refine v_goto C0 16 dX0_islands_64 (by decide) ?_
            exact v_sub (lv' := [(3, .int ((nI (i2 + 1)) + 1)), (1, .int n_2), (2, .int (nI i1)), (0, .ref (ad 0))]) [0, 2, 3, 4] rfl (ih2 (i2 + 1) ((nI (i2 + 1)) + 1) n_2 ST_2 RP_2 RN_2 (by omega) (by rw [nI_1]) (by show _ = s_X0_islands_L2 U T F WU TR i1 i2 (lp (s_X0_islands_L2 U T F WU TR i1) i2 (n_1, ST_1, RP_1, RN_1)); rw [← hs2]; simp only [s_X0_islands_L2, if_neg h2, if_neg h4, if_pos h5]))
          · refine v_aload_n C0 (pc' := 40) 4 rfl rfl dX0_islands_39 rfl ?_
            refine v_get C0 hK (C := RX0) (T := TX0) (N := 15) (pc' := 43) 0 8 rfl rfl rfl (by decide) in_X0_islands fl_X0_islands_34 rfl dX0_islands_40 rfl ?_
            refine v_iload C0 (pc' := 45) 0 rfl dX0_islands_43 rfl ?_
            refine v_callSi0 C0 (av := [.ref (ad 9), .int (((nI i1) * 16) + (nI (i2 + 1)))]) (rest := []) (ws' := wX cI ad U T F C B RU RC WU ST_2 RP_2 RN_2 WT SM CC TR) (pc' := 48) hK hA (k_X0_at l D cI (ad 9) 96 ST_2 (((nI i1) * 16) + (nI (i2 + 1))) (by decide)) (va_cwS 2 C0.2.2.2.2 gX0_islands_X0_at rfl rfl rfl (by decide +kernel) ⟨Nat.le_of_ble_eq_true rfl, Nat.le_of_ble_eq_true rfl⟩) (PLs.one0 9 rfl) rfl rfl (Nat.le_of_ble_eq_true rfl) ⟨Nat.zero_le _, Nat.zero_le _⟩ dX0_islands_45 rfl ?_
            refine v_iconst C0 (pc' := 49) (-1) (by decide) dX0_islands_48 rfl ?_
            refine v_icmp_ne C0 61 (pc' := 52) dX0_islands_49 (by decide) rfl (fun h6 => ?_) (fun h6 => ?_)
            · refine v_iinc C0 (lv' := [(3, .int ((nI (i2 + 1)) + 1)), (4, .int (((nI i1) * 16) + (nI (i2 + 1)))), (1, .int n_2), (2, .int (nI i1)), (0, .ref (ad 0))]) (pc' := 64) 1 rfl ((nI (i2 + 1)) + 1) rfl (by decide) rfl dX0_islands_61 rfl ?_
              refine v_goto C0 16 dX0_islands_64 (by decide) ?_
              exact v_sub (lv' := [(3, .int ((nI (i2 + 1)) + 1)), (1, .int n_2), (2, .int (nI i1)), (0, .ref (ad 0))]) [0, 2, 3, 4] rfl (ih2 (i2 + 1) ((nI (i2 + 1)) + 1) n_2 ST_2 RP_2 RN_2 (by omega) (by rw [nI_1]) (by show _ = s_X0_islands_L2 U T F WU TR i1 i2 (lp (s_X0_islands_L2 U T F WU TR i1) i2 (n_1, ST_1, RP_1, RN_1)); rw [← hs2]; simp only [s_X0_islands_L2, if_neg h2, if_neg h4, if_neg h5, if_neg h6]))
            · refine v_aload_n C0 (pc' := 53) 4 rfl rfl dX0_islands_52 rfl ?_
              refine v_iload C0 (pc' := 55) 0 rfl dX0_islands_53 rfl ?_
              refine v_callVv0 C0 (av := [.int (((nI i1) * 16) + (nI (i2 + 1)))]) (rest := []) (ws' := wX cI ad U T F C B RU RC WU (s_X0_walkFrom_ST U T F WU ST_2 RP_2 RN_2 TR (((nI i1) * 16) + (nI (i2 + 1)))) (s_X0_walkFrom_RP U T F WU ST_2 RP_2 RN_2 TR (((nI i1) * 16) + (nI (i2 + 1)))) (s_X0_walkFrom_RN U T F WU ST_2 RP_2 RN_2 TR (((nI i1) * 16) + (nI (i2 + 1)))) WT SM CC TR) (pc' := 58) hK hA (k_X0_walkFrom l D cI ad U T F C B RU RC WU ST_2 RP_2 RN_2 WT SM CC TR (((nI i1) * 16) + (nI (i2 + 1))) hb_TR) (cwV 1 C0.2.2.2.2 gX0_islands_X0_walkFrom rfl rfl rfl (by decide +kernel) ⟨Nat.le_of_ble_eq_true rfl, Nat.le_of_ble_eq_true rfl⟩) ⟨0, 0, _, _, _, rfl, rfl⟩ PLs.all rfl rfl (Nat.le_of_ble_eq_true rfl) ⟨Nat.zero_le _, Nat.zero_le _⟩ dX0_islands_55 rfl ?_
              refine v_iinc C0 (lv' := [(1, .int (n_2 + 1)), (4, .int (((nI i1) * 16) + (nI (i2 + 1)))), (3, .int (nI (i2 + 1))), (2, .int (nI i1)), (0, .ref (ad 0))]) (pc' := 61) 2 rfl (n_2 + 1) rfl (by decide) rfl dX0_islands_58 rfl ?_
              refine v_iinc C0 (lv' := [(3, .int ((nI (i2 + 1)) + 1)), (1, .int (n_2 + 1)), (4, .int (((nI i1) * 16) + (nI (i2 + 1)))), (2, .int (nI i1)), (0, .ref (ad 0))]) (pc' := 64) 2 rfl ((nI (i2 + 1)) + 1) rfl (by decide) rfl dX0_islands_61 rfl ?_
              refine v_goto C0 16 dX0_islands_64 (by decide) ?_
              exact v_sub (lv' := [(3, .int ((nI (i2 + 1)) + 1)), (1, .int (n_2 + 1)), (2, .int (nI i1)), (0, .ref (ad 0))]) [0, 1, 3, 4] rfl (ih2 (i2 + 1) ((nI (i2 + 1)) + 1) (n_2 + 1) (s_X0_walkFrom_ST U T F WU ST_2 RP_2 RN_2 TR (((nI i1) * 16) + (nI (i2 + 1)))) (s_X0_walkFrom_RP U T F WU ST_2 RP_2 RN_2 TR (((nI i1) * 16) + (nI (i2 + 1)))) (s_X0_walkFrom_RN U T F WU ST_2 RP_2 RN_2 TR (((nI i1) * 16) + (nI (i2 + 1)))) (by omega) (by rw [nI_1]) (by show _ = s_X0_islands_L2 U T F WU TR i1 i2 (lp (s_X0_islands_L2 U T F WU TR i1) i2 (n_1, ST_1, RP_1, RN_1)); rw [← hs2]; simp only [s_X0_islands_L2, if_neg h2, if_neg h4, if_neg h5, if_pos h6]))
def s_X0_loops (U : Nat → Int32) (T : Nat → Int32) (F : Nat → Int32) (WU : Nat → Int32) (ST : Nat → Int32) (RP : Nat → Int32) (TR : Int32) : Int32 := ((s_X0_countWays U T F WU TR) - (s_X0_countUsedPlaces U T)) + (s_X0_islands U T F WU ST RP TR)
def s_X0_loops_ST (U : Nat → Int32) (T : Nat → Int32) (F : Nat → Int32) (WU : Nat → Int32) (ST : Nat → Int32) (RP : Nat → Int32) (TR : Int32) : Nat → Int32 := (s_X0_islands_ST U T F WU ST RP TR)
def s_X0_loops_RP (U : Nat → Int32) (T : Nat → Int32) (F : Nat → Int32) (WU : Nat → Int32) (ST : Nat → Int32) (RP : Nat → Int32) (TR : Int32) : Nat → Int32 := (s_X0_islands_RP U T F WU ST RP TR)
def s_X0_loops_RN (U : Nat → Int32) (T : Nat → Int32) (F : Nat → Int32) (WU : Nat → Int32) (ST : Nat → Int32) (RP : Nat → Int32) (TR : Int32) : Int32 := (s_X0_islands_RN U T F WU ST RP TR)
set_option maxHeartbeats 4000000 in
set_option maxRecDepth 100000 in
theorem k_X0_loops (l : Launch) (D : va_G) (cI : ClassId) (ad : Nat → Nat) (U : Nat → Int32) (T : Nat → Int32) (F : Nat → Int32) (C : Nat → Int32) (B : Nat → Int32) (RU : Nat → Int32) (RC : Nat → Int32) (WU : Nat → Int32) (ST : Nat → Int32) (RP : Nat → Int32) (RN : Int32) (WT : Nat → Int32) (SM : Nat → Int32) (CC : Int32) (TR : Int32)  (hb_TR : TR = 0 ∨ TR = 1) : Ki l yX0_loops wsX0_loops 7 161 0 0 D (TI cI) [.ref (ad 0)] (wX cI ad U T F C B RU RC WU ST RP RN WT SM CC TR) (wX cI ad U T F C B RU RC WU (s_X0_loops_ST U T F WU ST RP TR) (s_X0_loops_RP U T F WU ST RP TR) (s_X0_loops_RN U T F WU ST RP TR) WT SM CC TR) (s_X0_loops U T F WU ST RP TR) := by
  refine Ki.of (cc := cX0_loops) (maxL := 1) (rt := .int) (lv0 := [(0, .ref (ad 0))]) (by decide +kernel) rfl (Nat.le_of_ble_eq_true rfl) rfl ?_
  intro p e s m args below meth c A C0 hr hlk hK hA
  refine v_aload_n C0 (pc' := 1) 0 rfl rfl dX0_loops_0 rfl ?_
  refine v_callVi0 C0 (av := []) (rest := []) (ws' := wX cI ad U T F C B RU RC WU ST RP RN WT SM CC TR) (pc' := 4) hK hA (k_X0_countWays l D cI ad U T F C B RU RC WU ST RP RN WT SM CC TR  hb_TR) (cwV 0 C0.2.2.2.2 gX0_loops_X0_countWays rfl rfl rfl (by decide +kernel) ⟨Nat.le_of_ble_eq_true rfl, Nat.le_of_ble_eq_true rfl⟩) ⟨0, 0, _, _, _, rfl, rfl⟩ PLs.all rfl rfl (Nat.le_of_ble_eq_true rfl) ⟨Nat.zero_le _, Nat.zero_le _⟩ dX0_loops_1 rfl ?_
  refine v_aload_n C0 (pc' := 5) 0 rfl rfl dX0_loops_4 rfl ?_
  refine v_callVi0 C0 (av := []) (rest := [.int (s_X0_countWays U T F WU TR)]) (ws' := wX cI ad U T F C B RU RC WU ST RP RN WT SM CC TR) (pc' := 8) hK hA (k_X0_countUsedPlaces l D cI ad U T F C B RU RC WU ST RP RN WT SM CC TR ) (cwV 0 C0.2.2.2.2 gX0_loops_X0_countUsedPlaces rfl rfl rfl (by decide +kernel) ⟨Nat.le_of_ble_eq_true rfl, Nat.le_of_ble_eq_true rfl⟩) ⟨0, 0, _, _, _, rfl, rfl⟩ PLs.all rfl rfl (Nat.le_of_ble_eq_true rfl) ⟨Nat.zero_le _, Nat.zero_le _⟩ dX0_loops_5 rfl ?_
  refine v_isub C0 (pc' := 9) dX0_loops_8 rfl ?_
  refine v_aload_n C0 (pc' := 10) 0 rfl rfl dX0_loops_9 rfl ?_
  refine v_callVi0 C0 (av := []) (rest := [.int ((s_X0_countWays U T F WU TR) - (s_X0_countUsedPlaces U T))]) (ws' := wX cI ad U T F C B RU RC WU (s_X0_islands_ST U T F WU ST RP TR) (s_X0_islands_RP U T F WU ST RP TR) (s_X0_islands_RN U T F WU ST RP TR) WT SM CC TR) (pc' := 13) hK hA (k_X0_islands l D cI ad U T F C B RU RC WU ST RP RN WT SM CC TR  hb_TR) (cwV 0 C0.2.2.2.2 gX0_loops_X0_islands rfl rfl rfl (by decide +kernel) ⟨Nat.le_of_ble_eq_true rfl, Nat.le_of_ble_eq_true rfl⟩) ⟨0, 0, _, _, _, rfl, rfl⟩ PLs.all rfl rfl (Nat.le_of_ble_eq_true rfl) ⟨Nat.zero_le _, Nat.zero_le _⟩ dX0_loops_10 rfl ?_
  refine v_iadd C0 (pc' := 14) dX0_loops_13 rfl ?_
  refine v_world (ws' := wX cI ad U T F C B RU RC WU (s_X0_loops_ST U T F WU ST RP TR) (s_X0_loops_RP U T F WU ST RP TR) (s_X0_loops_RN U T F WU ST RP TR) WT SM CC TR) rfl ?_
  exact v_iret C0 hr hlk hK rfl dX0_loops_14
end
section
def okU (x : Int32) : Prop := ¬ x < 0 ∧ x < 6
def okL (x : Int32) : Prop := ¬ x < 1 ∧ x ≤ 15
theorem hgood_IAE : ∀ w ∈ Cond.classLink RX0 84 xIAE :: Cond.initialized xIAE :: vx_atS RX0 88 xIAE xNames, vx_ot w = true := by decide +kernel
theorem hgood_ISE : ∀ w ∈ Cond.classLink RX0 67 xISE :: Cond.initialized xISE :: vx_atS RX0 71 xISE xNames, vx_ot w = true := by decide +kernel
theorem hgood_NSE : ∀ w ∈ Cond.classLink RX0 172 xNSE :: Cond.initialized xNSE :: vx_atS RX0 176 xNSE xNames, vx_ot w = true := by decide +kernel
theorem hng_IAE : ∀ w ∈ (vx_atS RX0 88 xIAE xNames).filter (fun w => !goodWord w), w ∈ xB xIAE := by decide +kernel
theorem hng_ISE : ∀ w ∈ (vx_atS RX0 71 xISE xNames).filter (fun w => !goodWord w), w ∈ xB xISE := by decide +kernel
theorem hng_NSE : ∀ w ∈ (vx_atS RX0 176 xNSE xNames).filter (fun w => !goodWord w), w ∈ xB xNSE := by decide +kernel
theorem xk_X0_checkUnit_IAE : Cond.classLink RX0 84 xIAE ∈ wsX0_checkUnit := by decide +kernel
theorem xi_X0_checkUnit_IAE : Cond.initialized xIAE ∈ wsX0_checkUnit := by decide +kernel
theorem xa_X0_checkUnit_IAE : ∀ w ∈ (vx_atS RX0 88 xIAE xNames).filter goodWord, w ∈ wsX0_checkUnit := fun _ h => List.mem_cons_of_mem _ (List.mem_append_right _ h)
theorem xk_X0_checkLane_IAE : Cond.classLink RX0 84 xIAE ∈ wsX0_checkLane := by decide +kernel
theorem xi_X0_checkLane_IAE : Cond.initialized xIAE ∈ wsX0_checkLane := by decide +kernel
theorem xa_X0_checkLane_IAE : ∀ w ∈ (vx_atS RX0 88 xIAE xNames).filter goodWord, w ∈ wsX0_checkLane := fun _ h => List.mem_cons_of_mem _ (List.mem_append_right _ h)
theorem xk_X0_slotOf_IAE : Cond.classLink RX0 84 xIAE ∈ wsX0_slotOf := by decide +kernel
theorem xi_X0_slotOf_IAE : Cond.initialized xIAE ∈ wsX0_slotOf := by decide +kernel
theorem xa_X0_slotOf_IAE : ∀ w ∈ (vx_atS RX0 88 xIAE xNames).filter goodWord, w ∈ wsX0_slotOf := fun _ h => List.mem_cons_of_mem _ (List.mem_append_right _ h)
theorem xk_X0_slotWithCable_NSE : Cond.classLink RX0 172 xNSE ∈ wsX0_slotWithCable := by decide +kernel
theorem xi_X0_slotWithCable_NSE : Cond.initialized xNSE ∈ wsX0_slotWithCable := by decide +kernel
theorem xa_X0_slotWithCable_NSE : ∀ w ∈ (vx_atS RX0 176 xNSE xNames).filter goodWord, w ∈ wsX0_slotWithCable := fun _ h => List.mem_cons_of_mem _ (List.mem_append_left _ (List.mem_append_right _ h))
theorem xk_X0_untag_ISE : Cond.classLink RX0 67 xISE ∈ wsX0_untag := by decide +kernel
theorem xi_X0_untag_ISE : Cond.initialized xISE ∈ wsX0_untag := by decide +kernel
theorem xa_X0_untag_ISE : ∀ w ∈ (vx_atS RX0 71 xISE xNames).filter goodWord, w ∈ wsX0_untag := fun _ h => List.mem_cons_of_mem _ (List.mem_append_left _ (List.mem_append_right _ h))
theorem xk_X0_tag_ISE : Cond.classLink RX0 67 xISE ∈ wsX0_tag := by decide +kernel
theorem xi_X0_tag_ISE : Cond.initialized xISE ∈ wsX0_tag := by decide +kernel
theorem xa_X0_tag_ISE : ∀ w ∈ (vx_atS RX0 71 xISE xNames).filter goodWord, w ∈ wsX0_tag := fun _ h => List.mem_cons_of_mem _ (List.mem_append_left _ (List.mem_append_right _ h))
theorem xk_X0_cable_IAE : Cond.classLink RX0 84 xIAE ∈ wsX0_cable := by decide +kernel
theorem xi_X0_cable_IAE : Cond.initialized xIAE ∈ wsX0_cable := by decide +kernel
theorem xa_X0_cable_IAE : ∀ w ∈ (vx_atS RX0 88 xIAE xNames).filter goodWord, w ∈ wsX0_cable := fun _ h => List.mem_cons_of_mem _ (List.mem_append_left _ (List.mem_append_right _ h))
theorem xk_X0_cable_ISE : Cond.classLink RX0 67 xISE ∈ wsX0_cable := by decide +kernel
theorem xi_X0_cable_ISE : Cond.initialized xISE ∈ wsX0_cable := by decide +kernel
theorem xa_X0_cable_ISE : ∀ w ∈ (vx_atS RX0 71 xISE xNames).filter goodWord, w ∈ wsX0_cable := fun _ h => List.mem_cons_of_mem _ (List.mem_append_right _ h)
set_option maxHeartbeats 4000000 in
set_option maxRecDepth 100000 in
theorem k_X0_checkUnit (l : Launch) (D : va_G) (cI : ClassId)  (unit : Int32) (hu : okU unit) : Kv l yX0_checkUnit wsX0_checkUnit 0 0 0 0 D (TI cI) [.int unit] ([]) ([]) := by
  refine Kv.of (cc := cX0_checkUnit) (maxL := 1) (lv0 := [(0, .int unit)]) (by decide +kernel) rfl (Nat.le_of_ble_eq_true rfl) rfl ?_
  intro p e s m args below meth c A C0 hr hlk hK hA
  refine v_iload_n C0 (pc' := 1) 0 rfl rfl dX0_checkUnit_0 rfl ?_
  refine v_if_lt C0 10 (pc' := 4) dX0_checkUnit_1 (by decide) rfl (fun h1 => ?_) (fun h1 => ?_)
  · exact absurd h1 hu.1
  · refine v_iload_n C0 (pc' := 5) 0 rfl rfl dX0_checkUnit_4 rfl ?_
    refine v_bipush C0 (pc' := 7) 6 (by decide) dX0_checkUnit_5 rfl ?_
    refine v_icmp_lt C0 20 (pc' := 10) dX0_checkUnit_7 (by decide) rfl (fun h2 => ?_) (fun h2 => ?_)
    · exact v_vret C0 hr hlk hK dX0_checkUnit_20
    · exact absurd hu.2 h2
set_option maxHeartbeats 4000000 in
set_option maxRecDepth 100000 in
theorem kx_X0_checkUnit_IAE (l : Launch) (hst : l.stackTraces = false) (D : va_G) (cI : ClassId)  (unit : Int32) (hu : ¬ okU unit) : Kx l yX0_checkUnit wsX0_checkUnit 6 82 D (TI cI) [.int unit] ([]) xIAE := by
  refine Kx.of (cc := cX0_checkUnit) (maxL := 1) (lv0 := [(0, .int unit)]) (by decide +kernel) rfl (Nat.le_of_ble_eq_true rfl) rfl ?_
  intro p e s m args below meth c A C0 hT0 hlk hK hA hEN
  refine v_iload_n C0 (pc' := 1) 0 rfl rfl dX0_checkUnit_0 rfl ?_
  refine v_if_lt C0 10 (pc' := 4) dX0_checkUnit_1 (by decide) rfl (fun h1 => ?_) (fun h1 => ?_)
  · exact v_throw C0 hst hEN hT0 hlk hK rfl (E := xIAE) (text := "a switch is 0 to 5") (by decide +kernel) xk_X0_checkUnit_IAE xi_X0_checkUnit_IAE xa_X0_checkUnit_IAE hng_IAE hgood_IAE (by decide +kernel) (by decide +kernel) dX0_checkUnit_10 dX0_checkUnit_13 dX0_checkUnit_14 dX0_checkUnit_16 dX0_checkUnit_19 (Nat.le_of_ble_eq_true rfl) (Nat.le_of_ble_eq_true rfl) (Nat.le_refl _) (Nat.le_refl _) (Nat.le_refl _) (Nat.le_refl _)
  · refine v_iload_n C0 (pc' := 5) 0 rfl rfl dX0_checkUnit_4 rfl ?_
    refine v_bipush C0 (pc' := 7) 6 (by decide) dX0_checkUnit_5 rfl ?_
    refine v_icmp_lt C0 20 (pc' := 10) dX0_checkUnit_7 (by decide) rfl (fun h2 => ?_) (fun h2 => ?_)
    · exact absurd ⟨h1, h2⟩ hu
    · exact v_throw C0 hst hEN hT0 hlk hK rfl (E := xIAE) (text := "a switch is 0 to 5") (by decide +kernel) xk_X0_checkUnit_IAE xi_X0_checkUnit_IAE xa_X0_checkUnit_IAE hng_IAE hgood_IAE (by decide +kernel) (by decide +kernel) dX0_checkUnit_10 dX0_checkUnit_13 dX0_checkUnit_14 dX0_checkUnit_16 dX0_checkUnit_19 (Nat.le_of_ble_eq_true rfl) (Nat.le_of_ble_eq_true rfl) (Nat.le_refl _) (Nat.le_refl _) (Nat.le_refl _) (Nat.le_refl _)
set_option maxHeartbeats 4000000 in
set_option maxRecDepth 100000 in
theorem k_X0_checkLane (l : Launch) (D : va_G) (cI : ClassId)  (lane : Int32) (hl : okL lane) : Kv l yX0_checkLane wsX0_checkLane 0 0 0 0 D (TI cI) [.int lane] ([]) ([]) := by
  refine Kv.of (cc := cX0_checkLane) (maxL := 1) (lv0 := [(0, .int lane)]) (by decide +kernel) rfl (Nat.le_of_ble_eq_true rfl) rfl ?_
  intro p e s m args below meth c A C0 hr hlk hK hA
  refine v_iload_n C0 (pc' := 1) 0 rfl rfl dX0_checkLane_0 rfl ?_
  refine v_iconst C0 (pc' := 2) 1 (by decide) dX0_checkLane_1 rfl ?_
  refine v_icmp_lt C0 11 (pc' := 5) dX0_checkLane_2 (by decide) rfl (fun h1 => ?_) (fun h1 => ?_)
  · exact absurd h1 hl.1
  · refine v_iload_n C0 (pc' := 6) 0 rfl rfl dX0_checkLane_5 rfl ?_
    refine v_bipush C0 (pc' := 8) 15 (by decide) dX0_checkLane_6 rfl ?_
    refine v_icmp_le C0 21 (pc' := 11) dX0_checkLane_8 (by decide) rfl (fun h2 => ?_) (fun h2 => ?_)
    · exact v_vret C0 hr hlk hK dX0_checkLane_21
    · exact absurd hl.2 h2
set_option maxHeartbeats 4000000 in
set_option maxRecDepth 100000 in
theorem kx_X0_checkLane_IAE (l : Launch) (hst : l.stackTraces = false) (D : va_G) (cI : ClassId)  (lane : Int32) (hl : ¬ okL lane) : Kx l yX0_checkLane wsX0_checkLane 6 82 D (TI cI) [.int lane] ([]) xIAE := by
  refine Kx.of (cc := cX0_checkLane) (maxL := 1) (lv0 := [(0, .int lane)]) (by decide +kernel) rfl (Nat.le_of_ble_eq_true rfl) rfl ?_
  intro p e s m args below meth c A C0 hT0 hlk hK hA hEN
  refine v_iload_n C0 (pc' := 1) 0 rfl rfl dX0_checkLane_0 rfl ?_
  refine v_iconst C0 (pc' := 2) 1 (by decide) dX0_checkLane_1 rfl ?_
  refine v_icmp_lt C0 11 (pc' := 5) dX0_checkLane_2 (by decide) rfl (fun h1 => ?_) (fun h1 => ?_)
  · exact v_throw C0 hst hEN hT0 hlk hK rfl (E := xIAE) (text := "a lane is 1 to 15") (by decide +kernel) xk_X0_checkLane_IAE xi_X0_checkLane_IAE xa_X0_checkLane_IAE hng_IAE hgood_IAE (by decide +kernel) (by decide +kernel) dX0_checkLane_11 dX0_checkLane_14 dX0_checkLane_15 dX0_checkLane_17 dX0_checkLane_20 (Nat.le_of_ble_eq_true rfl) (Nat.le_of_ble_eq_true rfl) (Nat.le_refl _) (Nat.le_refl _) (Nat.le_refl _) (Nat.le_refl _)
  · refine v_iload_n C0 (pc' := 6) 0 rfl rfl dX0_checkLane_5 rfl ?_
    refine v_bipush C0 (pc' := 8) 15 (by decide) dX0_checkLane_6 rfl ?_
    refine v_icmp_le C0 21 (pc' := 11) dX0_checkLane_8 (by decide) rfl (fun h2 => ?_) (fun h2 => ?_)
    · exact absurd ⟨h1, h2⟩ hl
    · exact v_throw C0 hst hEN hT0 hlk hK rfl (E := xIAE) (text := "a lane is 1 to 15") (by decide +kernel) xk_X0_checkLane_IAE xi_X0_checkLane_IAE xa_X0_checkLane_IAE hng_IAE hgood_IAE (by decide +kernel) (by decide +kernel) dX0_checkLane_11 dX0_checkLane_14 dX0_checkLane_15 dX0_checkLane_17 dX0_checkLane_20 (Nat.le_of_ble_eq_true rfl) (Nat.le_of_ble_eq_true rfl) (Nat.le_refl _) (Nat.le_refl _) (Nat.le_refl _) (Nat.le_refl _)
def s_X0_slotOf (unit : Int32) (port : Int32) : Int32 := (unit * 6) + port
set_option maxHeartbeats 4000000 in
set_option maxRecDepth 100000 in
theorem k_X0_slotOf (l : Launch) (D : va_G) (cI : ClassId)  (unit : Int32) (port : Int32) (hu : okU unit) (hp : okU port) : Ki l yX0_slotOf wsX0_slotOf 1 20 0 0 D (TI cI) [.int unit, .int port] ([]) ([]) (s_X0_slotOf unit port) := by
  refine Ki.of (cc := cX0_slotOf) (maxL := 2) (rt := .int) (lv0 := [(0, .int unit), (1, .int port)]) (by decide +kernel) rfl (Nat.le_of_ble_eq_true rfl) rfl ?_
  intro p e s m args below meth c A C0 hr hlk hK hA
  refine v_iload_n C0 (pc' := 1) 0 rfl rfl dX0_slotOf_0 rfl ?_
  refine v_callSv0 C0 (av := [.int unit]) (rest := []) (ws' := []) (pc' := 4) hK hA (k_X0_checkUnit l D cI unit hu) (va_cwS 1 C0.2.2.2.2 gX0_slotOf_X0_checkUnit rfl rfl rfl (by decide +kernel) ⟨Nat.le_of_ble_eq_true rfl, Nat.le_of_ble_eq_true rfl⟩) PLs.nil rfl rfl (Nat.le_of_ble_eq_true rfl) ⟨Nat.zero_le _, Nat.zero_le _⟩ dX0_slotOf_1 rfl ?_
  refine v_iload_n C0 (pc' := 5) 1 rfl rfl dX0_slotOf_4 rfl ?_
  refine v_if_lt C0 14 (pc' := 8) dX0_slotOf_5 (by decide) rfl (fun h1 => ?_) (fun h1 => ?_)
  · exact absurd h1 hp.1
  · refine v_iload_n C0 (pc' := 9) 1 rfl rfl dX0_slotOf_8 rfl ?_
    refine v_bipush C0 (pc' := 11) 6 (by decide) dX0_slotOf_9 rfl ?_
    refine v_icmp_lt C0 24 (pc' := 14) dX0_slotOf_11 (by decide) rfl (fun h2 => ?_) (fun h2 => ?_)
    · refine v_iload_n C0 (pc' := 25) 0 rfl rfl dX0_slotOf_24 rfl ?_
      refine v_bipush C0 (pc' := 27) 6 (by decide) dX0_slotOf_25 rfl ?_
      refine v_imul C0 (pc' := 28) dX0_slotOf_27 rfl ?_
      refine v_iload_n C0 (pc' := 29) 1 rfl rfl dX0_slotOf_28 rfl ?_
      refine v_iadd C0 (pc' := 30) dX0_slotOf_29 rfl ?_
      exact v_iret C0 hr hlk hK (by simp only [s_X0_slotOf, if_neg h1, if_pos h2]) dX0_slotOf_30
    · exact absurd hp.2 h2
set_option maxHeartbeats 4000000 in
set_option maxRecDepth 100000 in
theorem kx_X0_slotOf_IAE (l : Launch) (hst : l.stackTraces = false) (D : va_G) (cI : ClassId)  (unit : Int32) (port : Int32) (hb : ¬ (okU unit ∧ okU port)) : Kx l yX0_slotOf wsX0_slotOf 7 102 D (TI cI) [.int unit, .int port] ([]) xIAE := by
  refine Kx.of (cc := cX0_slotOf) (maxL := 2) (lv0 := [(0, .int unit), (1, .int port)]) (by decide +kernel) rfl (Nat.le_of_ble_eq_true rfl) rfl ?_
  intro p e s m args below meth c A C0 hT0 hlk hK hA hEN
  refine v_iload_n C0 (pc' := 1) 0 rfl rfl dX0_slotOf_0 rfl ?_
  by_cases hu : okU unit
  · refine v_callSv0 C0 (av := [.int unit]) (rest := []) (ws' := []) (pc' := 4) hK hA (k_X0_checkUnit l D cI unit hu) (va_cwS 1 C0.2.2.2.2 gX0_slotOf_X0_checkUnit rfl rfl rfl (by decide +kernel) ⟨Nat.le_of_ble_eq_true rfl, Nat.le_of_ble_eq_true rfl⟩) PLs.nil rfl rfl (Nat.le_of_ble_eq_true rfl) ⟨Nat.zero_le _, Nat.zero_le _⟩ dX0_slotOf_1 rfl ?_
    refine v_iload_n C0 (pc' := 5) 1 rfl rfl dX0_slotOf_4 rfl ?_
    refine v_if_lt C0 14 (pc' := 8) dX0_slotOf_5 (by decide) rfl (fun h1 => ?_) (fun h1 => ?_)
    · exact v_throw C0 hst hEN hT0 hlk hK rfl (E := xIAE) (text := "a port is 0 to 5") (by decide +kernel) xk_X0_slotOf_IAE xi_X0_slotOf_IAE xa_X0_slotOf_IAE hng_IAE hgood_IAE (by decide +kernel) (by decide +kernel) dX0_slotOf_14 dX0_slotOf_17 dX0_slotOf_18 dX0_slotOf_20 dX0_slotOf_23 (Nat.le_of_ble_eq_true rfl) (Nat.le_of_ble_eq_true rfl) (Nat.le_refl _) (Nat.le_refl _) (Nat.le_refl _) (Nat.le_refl _)
    · refine v_iload_n C0 (pc' := 9) 1 rfl rfl dX0_slotOf_8 rfl ?_
      refine v_bipush C0 (pc' := 11) 6 (by decide) dX0_slotOf_9 rfl ?_
      refine v_icmp_lt C0 24 (pc' := 14) dX0_slotOf_11 (by decide) rfl (fun h2 => ?_) (fun h2 => ?_)
      · exact absurd ⟨hu, h1, h2⟩ hb
      · exact v_throw C0 hst hEN hT0 hlk hK rfl (E := xIAE) (text := "a port is 0 to 5") (by decide +kernel) xk_X0_slotOf_IAE xi_X0_slotOf_IAE xa_X0_slotOf_IAE hng_IAE hgood_IAE (by decide +kernel) (by decide +kernel) dX0_slotOf_14 dX0_slotOf_17 dX0_slotOf_18 dX0_slotOf_20 dX0_slotOf_23 (Nat.le_of_ble_eq_true rfl) (Nat.le_of_ble_eq_true rfl) (Nat.le_refl _) (Nat.le_refl _) (Nat.le_refl _) (Nat.le_refl _)
  · exact v_callSx_out C0 (av := [.int unit]) (rest := []) hK hA hEN (kx_X0_checkUnit_IAE l hst D cI unit hu) (va_cwS 1 C0.2.2.2.2 gX0_slotOf_X0_checkUnit rfl rfl rfl (by decide +kernel) ⟨Nat.le_of_ble_eq_true rfl, Nat.le_of_ble_eq_true rfl⟩) PLs.nil rfl rfl (Nat.le_of_ble_eq_true rfl) ⟨Nat.le_refl _, Nat.le_refl _⟩ dX0_slotOf_1 hT0 hlk (Nat.le_refl _) (Nat.le_refl _)
def s_X0_placeOf (unit : Int32) (lane : Int32) : Int32 := (unit * 16) + lane
set_option maxHeartbeats 4000000 in
set_option maxRecDepth 100000 in
theorem k_X0_placeOf (l : Launch) (D : va_G) (cI : ClassId)  (unit : Int32) (lane : Int32) (hu : okU unit) (hl : okL lane) : Ki l yX0_placeOf wsX0_placeOf 1 20 0 0 D (TI cI) [.int unit, .int lane] ([]) ([]) (s_X0_placeOf unit lane) := by
  refine Ki.of (cc := cX0_placeOf) (maxL := 2) (rt := .int) (lv0 := [(0, .int unit), (1, .int lane)]) (by decide +kernel) rfl (Nat.le_of_ble_eq_true rfl) rfl ?_
  intro p e s m args below meth c A C0 hr hlk hK hA
  refine v_iload_n C0 (pc' := 1) 0 rfl rfl dX0_placeOf_0 rfl ?_
  refine v_callSv0 C0 (av := [.int unit]) (rest := []) (ws' := []) (pc' := 4) hK hA (k_X0_checkUnit l D cI unit hu) (va_cwS 1 C0.2.2.2.2 gX0_placeOf_X0_checkUnit rfl rfl rfl (by decide +kernel) ⟨Nat.le_of_ble_eq_true rfl, Nat.le_of_ble_eq_true rfl⟩) PLs.nil rfl rfl (Nat.le_of_ble_eq_true rfl) ⟨Nat.zero_le _, Nat.zero_le _⟩ dX0_placeOf_1 rfl ?_
  refine v_iload_n C0 (pc' := 5) 1 rfl rfl dX0_placeOf_4 rfl ?_
  refine v_callSv0 C0 (av := [.int lane]) (rest := []) (ws' := []) (pc' := 8) hK hA (k_X0_checkLane l D cI lane hl) (va_cwS 1 C0.2.2.2.2 gX0_placeOf_X0_checkLane rfl rfl rfl (by decide +kernel) ⟨Nat.le_of_ble_eq_true rfl, Nat.le_of_ble_eq_true rfl⟩) PLs.nil rfl rfl (Nat.le_of_ble_eq_true rfl) ⟨Nat.zero_le _, Nat.zero_le _⟩ dX0_placeOf_5 rfl ?_
  refine v_iload_n C0 (pc' := 9) 0 rfl rfl dX0_placeOf_8 rfl ?_
  refine v_bipush C0 (pc' := 11) 16 (by decide) dX0_placeOf_9 rfl ?_
  refine v_imul C0 (pc' := 12) dX0_placeOf_11 rfl ?_
  refine v_iload_n C0 (pc' := 13) 1 rfl rfl dX0_placeOf_12 rfl ?_
  refine v_iadd C0 (pc' := 14) dX0_placeOf_13 rfl ?_
  exact v_iret C0 hr hlk hK rfl dX0_placeOf_14
set_option maxHeartbeats 4000000 in
set_option maxRecDepth 100000 in
theorem kx_X0_placeOf_IAE (l : Launch) (hst : l.stackTraces = false) (D : va_G) (cI : ClassId)  (unit : Int32) (lane : Int32) (hb : ¬ (okU unit ∧ okL lane)) : Kx l yX0_placeOf wsX0_placeOf 7 102 D (TI cI) [.int unit, .int lane] ([]) xIAE := by
  refine Kx.of (cc := cX0_placeOf) (maxL := 2) (lv0 := [(0, .int unit), (1, .int lane)]) (by decide +kernel) rfl (Nat.le_of_ble_eq_true rfl) rfl ?_
  intro p e s m args below meth c A C0 hT0 hlk hK hA hEN
  refine v_iload_n C0 (pc' := 1) 0 rfl rfl dX0_placeOf_0 rfl ?_
  by_cases hu : okU unit
  · refine v_callSv0 C0 (av := [.int unit]) (rest := []) (ws' := []) (pc' := 4) hK hA (k_X0_checkUnit l D cI unit hu) (va_cwS 1 C0.2.2.2.2 gX0_placeOf_X0_checkUnit rfl rfl rfl (by decide +kernel) ⟨Nat.le_of_ble_eq_true rfl, Nat.le_of_ble_eq_true rfl⟩) PLs.nil rfl rfl (Nat.le_of_ble_eq_true rfl) ⟨Nat.zero_le _, Nat.zero_le _⟩ dX0_placeOf_1 rfl ?_
    refine v_iload_n C0 (pc' := 5) 1 rfl rfl dX0_placeOf_4 rfl ?_
    exact v_callSx_out C0 (av := [.int lane]) (rest := []) hK hA hEN (kx_X0_checkLane_IAE l hst D cI lane (fun q => hb ⟨hu, q⟩)) (va_cwS 1 C0.2.2.2.2 gX0_placeOf_X0_checkLane rfl rfl rfl (by decide +kernel) ⟨Nat.le_of_ble_eq_true rfl, Nat.le_of_ble_eq_true rfl⟩) PLs.nil rfl rfl (Nat.le_of_ble_eq_true rfl) ⟨Nat.le_refl _, Nat.le_refl _⟩ dX0_placeOf_5 hT0 hlk (Nat.le_refl _) (Nat.le_refl _)
  · exact v_callSx_out C0 (av := [.int unit]) (rest := []) hK hA hEN (kx_X0_checkUnit_IAE l hst D cI unit hu) (va_cwS 1 C0.2.2.2.2 gX0_placeOf_X0_checkUnit rfl rfl rfl (by decide +kernel) ⟨Nat.le_of_ble_eq_true rfl, Nat.le_of_ble_eq_true rfl⟩) PLs.nil rfl rfl (Nat.le_of_ble_eq_true rfl) ⟨Nat.le_refl _, Nat.le_refl _⟩ dX0_placeOf_1 hT0 hlk (Nat.le_refl _) (Nat.le_refl _)
def s_X0_slotWithCable (unit : Int32) (port : Int32) : Int32 := s_X0_slotOf unit port
set_option maxHeartbeats 4000000 in
set_option maxRecDepth 100000 in
theorem k_X0_slotWithCable (l : Launch) (D : va_G) (cI : ClassId) (ad : Nat → Nat) (U : Nat → Int32) (T : Nat → Int32) (F : Nat → Int32) (C : Nat → Int32) (B : Nat → Int32) (RU : Nat → Int32) (RC : Nat → Int32) (WU : Nat → Int32) (ST : Nat → Int32) (RP : Nat → Int32) (RN : Int32) (WT : Nat → Int32) (SM : Nat → Int32) (CC : Int32) (TR : Int32) (unit : Int32) (port : Int32) (hu : okU unit) (hp : okU port) (hc : ¬ s_X0_hasCable F (s_X0_slotOf unit port) = 0) : Ki l yX0_slotWithCable wsX0_slotWithCable 2 42 0 0 D (TI cI) [.ref (ad 0), .int unit, .int port] (wX cI ad U T F C B RU RC WU ST RP RN WT SM CC TR) (wX cI ad U T F C B RU RC WU ST RP RN WT SM CC TR) (s_X0_slotWithCable unit port) := by
  refine Ki.of (cc := cX0_slotWithCable) (maxL := 4) (rt := .int) (lv0 := [(0, .ref (ad 0)), (1, .int unit), (2, .int port)]) (by decide +kernel) rfl (Nat.le_of_ble_eq_true rfl) rfl ?_
  intro p e s m args below meth c A C0 hr hlk hK hA
  refine v_iload_n C0 (pc' := 1) 1 rfl rfl dX0_slotWithCable_0 rfl ?_
  refine v_iload_n C0 (pc' := 2) 2 rfl rfl dX0_slotWithCable_1 rfl ?_
  refine v_callSi0 C0 (av := [.int unit, .int port]) (rest := []) (ws' := wX cI ad U T F C B RU RC WU ST RP RN WT SM CC TR) (pc' := 5) hK hA (k_X0_slotOf l D cI unit port hu hp) (va_cwS 2 C0.2.2.2.2 gX0_slotWithCable_X0_slotOf rfl rfl rfl (by decide +kernel) ⟨Nat.le_of_ble_eq_true rfl, Nat.le_of_ble_eq_true rfl⟩) PLs.nil rfl rfl (Nat.le_of_ble_eq_true rfl) ⟨Nat.zero_le _, Nat.zero_le _⟩ dX0_slotWithCable_2 rfl ?_
  refine v_istore_n C0 (lv' := [(3, .int (s_X0_slotOf unit port)), (0, .ref (ad 0)), (1, .int unit), (2, .int port)]) (pc' := 6) rfl (by decide) rfl dX0_slotWithCable_5 rfl ?_
  refine v_aload_n C0 (pc' := 7) 1 rfl rfl dX0_slotWithCable_6 rfl ?_
  refine v_iload_n C0 (pc' := 8) 0 rfl rfl dX0_slotWithCable_7 rfl ?_
  refine v_callVi0 C0 (av := [.int (s_X0_slotOf unit port)]) (rest := []) (ws' := wX cI ad U T F C B RU RC WU ST RP RN WT SM CC TR) (pc' := 11) hK hA (k_X0_hasCable l D cI ad U T F C B RU RC WU ST RP RN WT SM CC TR (s_X0_slotOf unit port)) (cwV 1 C0.2.2.2.2 gX0_slotWithCable_X0_hasCable rfl rfl rfl (by decide +kernel) ⟨Nat.le_of_ble_eq_true rfl, Nat.le_of_ble_eq_true rfl⟩) ⟨0, 0, _, _, _, rfl, rfl⟩ PLs.all rfl rfl (Nat.le_of_ble_eq_true rfl) ⟨Nat.zero_le _, Nat.zero_le _⟩ dX0_slotWithCable_8 rfl ?_
  refine v_if_ne C0 24 (pc' := 14) dX0_slotWithCable_11 (by decide) rfl (fun h1 => ?_) (fun h1 => ?_)
  · refine v_iload_n C0 (pc' := 25) 0 rfl rfl dX0_slotWithCable_24 rfl ?_
    exact v_iret C0 hr hlk hK (by simp only [s_X0_slotWithCable, if_neg h1]) dX0_slotWithCable_25
  · exact absurd h1 hc
set_option maxHeartbeats 4000000 in
set_option maxRecDepth 100000 in
theorem kx_X0_slotWithCable_IAE (l : Launch) (hst : l.stackTraces = false) (D : va_G) (cI : ClassId) (ad : Nat → Nat) (U : Nat → Int32) (T : Nat → Int32) (F : Nat → Int32) (C : Nat → Int32) (B : Nat → Int32) (RU : Nat → Int32) (RC : Nat → Int32) (WU : Nat → Int32) (ST : Nat → Int32) (RP : Nat → Int32) (RN : Int32) (WT : Nat → Int32) (SM : Nat → Int32) (CC : Int32) (TR : Int32) (unit : Int32) (port : Int32) (hb : ¬ (okU unit ∧ okU port)) : Kx l yX0_slotWithCable wsX0_slotWithCable 8 123 D (TI cI) [.ref (ad 0), .int unit, .int port] (wX cI ad U T F C B RU RC WU ST RP RN WT SM CC TR) xIAE := by
  refine Kx.of (cc := cX0_slotWithCable) (maxL := 4) (lv0 := [(0, .ref (ad 0)), (1, .int unit), (2, .int port)]) (by decide +kernel) rfl (Nat.le_of_ble_eq_true rfl) rfl ?_
  intro p e s m args below meth c A C0 hT0 hlk hK hA hEN
  refine v_iload_n C0 (pc' := 1) 1 rfl rfl dX0_slotWithCable_0 rfl ?_
  refine v_iload_n C0 (pc' := 2) 2 rfl rfl dX0_slotWithCable_1 rfl ?_
  exact v_callSx_out C0 (av := [.int unit, .int port]) (rest := []) hK hA hEN (kx_X0_slotOf_IAE l hst D cI unit port hb) (va_cwS 2 C0.2.2.2.2 gX0_slotWithCable_X0_slotOf rfl rfl rfl (by decide +kernel) ⟨Nat.le_of_ble_eq_true rfl, Nat.le_of_ble_eq_true rfl⟩) PLs.nil rfl rfl (Nat.le_of_ble_eq_true rfl) ⟨Nat.le_refl _, Nat.le_refl _⟩ dX0_slotWithCable_2 hT0 hlk (Nat.le_refl _) (Nat.le_refl _)
set_option maxHeartbeats 4000000 in
set_option maxRecDepth 100000 in
theorem kx_X0_slotWithCable_NSE (l : Launch) (hst : l.stackTraces = false) (D : va_G) (cI : ClassId) (ad : Nat → Nat) (U : Nat → Int32) (T : Nat → Int32) (F : Nat → Int32) (C : Nat → Int32) (B : Nat → Int32) (RU : Nat → Int32) (RC : Nat → Int32) (WU : Nat → Int32) (ST : Nat → Int32) (RP : Nat → Int32) (RN : Int32) (WT : Nat → Int32) (SM : Nat → Int32) (CC : Int32) (TR : Int32) (unit : Int32) (port : Int32) (hu : okU unit) (hp : okU port) (hc : s_X0_hasCable F (s_X0_slotOf unit port) = 0) : Kx l yX0_slotWithCable wsX0_slotWithCable 6 82 D (TI cI) [.ref (ad 0), .int unit, .int port] (wX cI ad U T F C B RU RC WU ST RP RN WT SM CC TR) xNSE := by
  refine Kx.of (cc := cX0_slotWithCable) (maxL := 4) (lv0 := [(0, .ref (ad 0)), (1, .int unit), (2, .int port)]) (by decide +kernel) rfl (Nat.le_of_ble_eq_true rfl) rfl ?_
  intro p e s m args below meth c A C0 hT0 hlk hK hA hEN
  refine v_iload_n C0 (pc' := 1) 1 rfl rfl dX0_slotWithCable_0 rfl ?_
  refine v_iload_n C0 (pc' := 2) 2 rfl rfl dX0_slotWithCable_1 rfl ?_
  refine v_callSi0 C0 (av := [.int unit, .int port]) (rest := []) (ws' := wX cI ad U T F C B RU RC WU ST RP RN WT SM CC TR) (pc' := 5) hK hA (k_X0_slotOf l D cI unit port hu hp) (va_cwS 2 C0.2.2.2.2 gX0_slotWithCable_X0_slotOf rfl rfl rfl (by decide +kernel) ⟨Nat.le_of_ble_eq_true rfl, Nat.le_of_ble_eq_true rfl⟩) PLs.nil rfl rfl (Nat.le_of_ble_eq_true rfl) ⟨Nat.zero_le _, Nat.zero_le _⟩ dX0_slotWithCable_2 rfl ?_
  refine v_istore_n C0 (lv' := [(3, .int (s_X0_slotOf unit port)), (0, .ref (ad 0)), (1, .int unit), (2, .int port)]) (pc' := 6) rfl (by decide) rfl dX0_slotWithCable_5 rfl ?_
  refine v_aload_n C0 (pc' := 7) 1 rfl rfl dX0_slotWithCable_6 rfl ?_
  refine v_iload_n C0 (pc' := 8) 0 rfl rfl dX0_slotWithCable_7 rfl ?_
  refine v_callVi0 C0 (av := [.int (s_X0_slotOf unit port)]) (rest := []) (ws' := wX cI ad U T F C B RU RC WU ST RP RN WT SM CC TR) (pc' := 11) hK hA (k_X0_hasCable l D cI ad U T F C B RU RC WU ST RP RN WT SM CC TR (s_X0_slotOf unit port)) (cwV 1 C0.2.2.2.2 gX0_slotWithCable_X0_hasCable rfl rfl rfl (by decide +kernel) ⟨Nat.le_of_ble_eq_true rfl, Nat.le_of_ble_eq_true rfl⟩) ⟨0, 0, _, _, _, rfl, rfl⟩ PLs.all rfl rfl (Nat.le_of_ble_eq_true rfl) ⟨Nat.zero_le _, Nat.zero_le _⟩ dX0_slotWithCable_8 rfl ?_
  refine v_if_ne C0 24 (pc' := 14) dX0_slotWithCable_11 (by decide) rfl (fun h1 => ?_) (fun h1 => ?_)
  · exact absurd hc h1
  · exact v_throw C0 hst hEN hT0 hlk hK rfl (E := xNSE) (text := "there is no cable at the port") (by decide +kernel) xk_X0_slotWithCable_NSE xi_X0_slotWithCable_NSE xa_X0_slotWithCable_NSE hng_NSE hgood_NSE (by decide +kernel) (by decide +kernel) dX0_slotWithCable_14 dX0_slotWithCable_17 dX0_slotWithCable_18 dX0_slotWithCable_20 dX0_slotWithCable_23 (Nat.le_of_ble_eq_true rfl) (Nat.le_of_ble_eq_true rfl) (Nat.le_refl _) (Nat.le_refl _) (Nat.le_refl _) (Nat.le_refl _)
end
