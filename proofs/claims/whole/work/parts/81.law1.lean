/-! the law's cases, 1 -/
set_option maxHeartbeats 2000000 in
set_option maxRecDepth 100000 in
theorem law_note {p : Program} {l : Launch} {e : Env} {s : State} {m : MethodId} {args : Array Value} {below : List Frame} {meth : Method} {c : Code} {D : va_G} {A : Nat → Prop} {k n : Nat} {Q : State → Prop} {cI cJ : ClassId} {ad bd : Nat → Nat} {b L o i : Nat} {xs : Nat → Int32} {wx wy : va_W} {t0 : Int32} {g : Nat → Int64} (h0 : LH p l m c s args D A cI cJ b L xs) (h : WP cI ad bd wx wy t0) (hi : i + 5 < L) (hk : k + 1 ≤ 1059) (hn : n + 6 ≤ 9105) (kk : ∀ (wx' wy' : va_W) (t' : Int32) (g' : Nat → Int64), WP cI ad bd wx' wy' t' → V p l e room_1 s m args below meth c D A 7 (k + 1) (n + 6) Q (oC cJ o g' :: (wx' ++ wy')) [(4, .int (nI i)), (3, .ref o), (2, .ref (bd 0)), (1, .ref (ad 0)), (0, .ref b)] 1492 []) : V p l e room_1 s m args below meth c D A 7 k n Q (oC cJ o g :: (wx ++ wy)) [(4, .int (nI i)), (3, .ref o), (2, .ref (bd 0)), (1, .ref (ad 0)), (0, .ref b)] 544 [] := by
  obtain ⟨C0, hst, hK, hA, hEN, hX, hbl, hbA, hL⟩ := h0
  have hK1 : va_K D vwCl (TI cI) s := hK.sub [0] rfl
  obtain ⟨fy, hy0⟩ := h.y0
  obtain ⟨wx', wy', r, TH, g', hw, hy, hE, hg⟩ := u_note (cJ := cJ) l hst D h o g (xs (i + 1)) (xs (i + 2)) (xs (i + 3)) (xs (i + 4))
  obtain ⟨fy1, hy1⟩ := hw.y0
  refine v_aload_n C0 (pc' := 545) 3 rfl rfl dL_law_544 rfl ?_
  refine v_scr C0 hX hbl hbA (i := i) (a := 1) (pc' := 551) (by omega) hL (by decide) 4 0 rfl rfl dL_law_545 dL_law_546 dL_law_548 dL_law_549 dL_law_550 rfl ?_
  refine v_scr C0 hX hbl hbA (i := i) (a := 2) (pc' := 557) (by omega) hL (by decide) 4 0 rfl rfl dL_law_551 dL_law_552 dL_law_554 dL_law_555 dL_law_556 rfl ?_
  refine v_scr C0 hX hbl hbA (i := i) (a := 3) (pc' := 563) (by omega) hL (by decide) 4 0 rfl rfl dL_law_557 dL_law_558 dL_law_560 dL_law_561 dL_law_562 rfl ?_
  refine v_scr C0 hX hbl hbA (i := i) (a := 4) (pc' := 569) (by omega) hL (by decide) 4 0 rfl rfl dL_law_563 dL_law_564 dL_law_566 dL_law_567 dL_law_568 rfl ?_
  refine v_aload_n C0 (pc' := 570) 1 rfl rfl dL_law_569 rfl ?_
  refine v_callSE C0 (av := [.ref (ad 0), .int (xs (i + 1)), .int (xs (i + 2)), .int (xs (i + 3)), .int (xs (i + 4)), .ref o]) (rest := []) (ws' := oC cJ o g' :: (wx' ++ wy)) (pc' := 573) hK hA hEN hE (vx_cwSW 6 C0.2.2.2.2 gL_law_L_note rfl rfl rfl (by decide +kernel) ⟨Nat.le_of_ble_eq_true rfl, Nat.le_of_ble_eq_true rfl⟩) (PLs.lf (W0 := oC cJ o g :: wx) (W1 := oC cJ o g' :: wx') (R := wy)) rfl rfl (Nat.le_of_ble_eq_true rfl) ⟨hk, hn⟩ dL_law_570 rfl ?_
  refine v_istore C0 (lv' := [(5, .int TH), (4, .int (nI i)), (3, .ref o), (2, .ref (bd 0)), (1, .ref (ad 0)), (0, .ref b)]) (pc' := 575) (by decide) rfl dL_law_573 rfl ?_
  refine v_aload_n C0 (pc' := 576) 3 rfl rfl dL_law_575 rfl ?_
  refine v_scr C0 hX hbl hbA (i := i) (a := 1) (pc' := 582) (by omega) hL (by decide) 5 1 rfl rfl dL_law_576 dL_law_577 dL_law_579 dL_law_580 dL_law_581 rfl ?_
  refine v_scr C0 hX hbl hbA (i := i) (a := 2) (pc' := 588) (by omega) hL (by decide) 5 1 rfl rfl dL_law_582 dL_law_583 dL_law_585 dL_law_586 dL_law_587 rfl ?_
  refine v_scr C0 hX hbl hbA (i := i) (a := 3) (pc' := 594) (by omega) hL (by decide) 5 1 rfl rfl dL_law_588 dL_law_589 dL_law_591 dL_law_592 dL_law_593 rfl ?_
  refine v_scr C0 hX hbl hbA (i := i) (a := 4) (pc' := 600) (by omega) hL (by decide) 5 1 rfl rfl dL_law_594 dL_law_595 dL_law_597 dL_law_598 dL_law_599 rfl ?_
  refine v_callVi0 C0 (av := [.int (xs (i + 1)), .int (xs (i + 2)), .int (xs (i + 3)), .int (xs (i + 4))]) (rest := []) (ws' := oC cJ o g' :: (wx' ++ wy')) (pc' := 603) hK1 hA hy (cwV 4 C0.2.2.2.2 gL_law_X1_note rfl rfl rfl (by decide +kernel) ⟨Nat.le_of_ble_eq_true rfl, Nat.le_of_ble_eq_true rfl⟩) ⟨_, 1, _, _, _, rfl, ap_r (A := oC cJ o g' :: wx') hy0⟩ (PLs.rt (P := oC cJ o g' :: wx')) rfl rfl (Nat.le_of_ble_eq_true rfl) ⟨hk, hn⟩ dL_law_600 rfl ?_
  refine v_istore C0 (lv' := [(6, .int r), (5, .int TH), (4, .int (nI i)), (3, .ref o), (2, .ref (bd 0)), (1, .ref (ad 0)), (0, .ref b)]) (pc' := 605) (by decide) rfl dL_law_603 rfl ?_
  refine v_aload_n C0 (pc' := 606) 4 rfl rfl dL_law_605 rfl ?_
  refine v_callVi0 C0 (av := []) (rest := []) (ws' := oC cJ o g' :: (wx' ++ wy')) (pc' := 609) hK1 hA (hw.th l D) (cwV 0 C0.2.2.2.2 gL_law_X1_thrown rfl rfl rfl (by decide +kernel) ⟨Nat.le_of_ble_eq_true rfl, Nat.le_of_ble_eq_true rfl⟩) ⟨_, 1, _, _, _, rfl, ap_r (A := oC cJ o g' :: wx') hy1⟩ (PLs.rt (P := oC cJ o g' :: wx')) rfl rfl (Nat.le_of_ble_eq_true rfl) ⟨hk, hn⟩ dL_law_606 rfl ?_
  refine v_iload C0 (pc' := 611) 1 rfl dL_law_609 rfl ?_
  refine v_icmp_eq C0 616 (pc' := 614) dL_law_611 (by decide) rfl (fun _ => ?_) (fun z => absurd rfl z)
  refine v_iload C0 (pc' := 618) 1 rfl dL_law_616 rfl ?_
  refine v_if_ne C0 640 (pc' := 621) dL_law_618 (by decide) rfl (fun z => ?_) (fun z => ?_)
  · refine v_goto C0 1492 dL_law_640 (by decide) ?_
    exact v_sub (lv' := [(4, .int (nI i)), (3, .ref o), (2, .ref (bd 0)), (1, .ref (ad 0)), (0, .ref b)]) [2, 3, 4, 5, 6] rfl (kk wx' wy' TH g' hw)
  · have eg := hg z
    refine v_aload_n C0 (pc' := 622) 3 rfl rfl dL_law_621 rfl ?_
    refine v_iconst C0 (pc' := 623) 0 (by decide) dL_law_622 rfl ?_
    refine v_lald C0 hK (pc' := 624) 0 1 rfl rfl vin01 dL_law_623 rfl ?_
    refine v_iload C0 (pc' := 626) 0 rfl dL_law_624 rfl ?_
    refine v_lz C0 633 634 dL_law_626 (by decide) dL_law_629 dL_law_630 (by decide) dL_law_633 rfl ?_
    refine v_lcmp C0 (pc' := 635) dL_law_634 rfl ?_
    refine v_if_eq C0 640 (pc' := 638) dL_law_635 (by decide) rfl (fun _ => ?_) (fun z2 => absurd (by rw [eg]; exact lg_self _) z2)
    refine v_goto C0 1492 dL_law_640 (by decide) ?_
    exact v_sub (lv' := [(4, .int (nI i)), (3, .ref o), (2, .ref (bd 0)), (1, .ref (ad 0)), (0, .ref b)]) [2, 3, 4, 5, 6] rfl (kk wx' wy' TH g' hw)
set_option maxHeartbeats 2000000 in
set_option maxRecDepth 100000 in
theorem law_far {p : Program} {l : Launch} {e : Env} {s : State} {m : MethodId} {args : Array Value} {below : List Frame} {meth : Method} {c : Code} {D : va_G} {A : Nat → Prop} {k n : Nat} {Q : State → Prop} {cI cJ : ClassId} {ad bd : Nat → Nat} {b L o i : Nat} {xs : Nat → Int32} {wx wy : va_W} {t0 : Int32} {g : Nat → Int64} (h0 : LH p l m c s args D A cI cJ b L xs) (h : WP cI ad bd wx wy t0) (hi : i + 5 < L) (hk : k + 1 ≤ 1059) (hn : n + 6 ≤ 9105) (kk : ∀ (wx' wy' : va_W) (t' : Int32) (g' : Nat → Int64), WP cI ad bd wx' wy' t' → V p l e room_1 s m args below meth c D A 7 (k + 1) (n + 6) Q (oC cJ o g' :: (wx' ++ wy')) [(4, .int (nI i)), (3, .ref o), (2, .ref (bd 0)), (1, .ref (ad 0)), (0, .ref b)] 1492 []) : V p l e room_1 s m args below meth c D A 7 k n Q (oC cJ o g :: (wx ++ wy)) [(4, .int (nI i)), (3, .ref o), (2, .ref (bd 0)), (1, .ref (ad 0)), (0, .ref b)] 643 [] := by
  obtain ⟨C0, hst, hK, hA, hEN, hX, hbl, hbA, hL⟩ := h0
  have hK1 : va_K D vwCl (TI cI) s := hK.sub [0] rfl
  obtain ⟨fy, hy0⟩ := h.y0
  obtain ⟨wx', wy', r, TH, g', hw, hy, hE, hg⟩ := u_far (cJ := cJ) l hst D h o g (xs (i + 1)) (xs (i + 2))
  obtain ⟨fy1, hy1⟩ := hw.y0
  refine v_aload_n C0 (pc' := 644) 3 rfl rfl dL_law_643 rfl ?_
  refine v_scr C0 hX hbl hbA (i := i) (a := 1) (pc' := 650) (by omega) hL (by decide) 4 0 rfl rfl dL_law_644 dL_law_645 dL_law_647 dL_law_648 dL_law_649 rfl ?_
  refine v_scr C0 hX hbl hbA (i := i) (a := 2) (pc' := 656) (by omega) hL (by decide) 4 0 rfl rfl dL_law_650 dL_law_651 dL_law_653 dL_law_654 dL_law_655 rfl ?_
  refine v_aload_n C0 (pc' := 657) 1 rfl rfl dL_law_656 rfl ?_
  refine v_callSE C0 (av := [.ref (ad 0), .int (xs (i + 1)), .int (xs (i + 2)), .ref o]) (rest := []) (ws' := oC cJ o g' :: (wx' ++ wy)) (pc' := 660) hK hA hEN hE (vx_cwSW 4 C0.2.2.2.2 gL_law_L_far rfl rfl rfl (by decide +kernel) ⟨Nat.le_of_ble_eq_true rfl, Nat.le_of_ble_eq_true rfl⟩) (PLs.lf (W0 := oC cJ o g :: wx) (W1 := oC cJ o g' :: wx') (R := wy)) rfl rfl (Nat.le_of_ble_eq_true rfl) ⟨hk, hn⟩ dL_law_657 rfl ?_
  refine v_istore C0 (lv' := [(5, .int TH), (4, .int (nI i)), (3, .ref o), (2, .ref (bd 0)), (1, .ref (ad 0)), (0, .ref b)]) (pc' := 662) (by decide) rfl dL_law_660 rfl ?_
  refine v_aload_n C0 (pc' := 663) 3 rfl rfl dL_law_662 rfl ?_
  refine v_scr C0 hX hbl hbA (i := i) (a := 1) (pc' := 669) (by omega) hL (by decide) 5 1 rfl rfl dL_law_663 dL_law_664 dL_law_666 dL_law_667 dL_law_668 rfl ?_
  refine v_scr C0 hX hbl hbA (i := i) (a := 2) (pc' := 675) (by omega) hL (by decide) 5 1 rfl rfl dL_law_669 dL_law_670 dL_law_672 dL_law_673 dL_law_674 rfl ?_
  refine v_callVi0 C0 (av := [.int (xs (i + 1)), .int (xs (i + 2))]) (rest := []) (ws' := oC cJ o g' :: (wx' ++ wy')) (pc' := 678) hK1 hA hy (cwV 2 C0.2.2.2.2 gL_law_X1_far rfl rfl rfl (by decide +kernel) ⟨Nat.le_of_ble_eq_true rfl, Nat.le_of_ble_eq_true rfl⟩) ⟨_, 1, _, _, _, rfl, ap_r (A := oC cJ o g' :: wx') hy0⟩ (PLs.rt (P := oC cJ o g' :: wx')) rfl rfl (Nat.le_of_ble_eq_true rfl) ⟨hk, hn⟩ dL_law_675 rfl ?_
  refine v_istore C0 (lv' := [(6, .int r), (5, .int TH), (4, .int (nI i)), (3, .ref o), (2, .ref (bd 0)), (1, .ref (ad 0)), (0, .ref b)]) (pc' := 680) (by decide) rfl dL_law_678 rfl ?_
  refine v_aload_n C0 (pc' := 681) 4 rfl rfl dL_law_680 rfl ?_
  refine v_callVi0 C0 (av := []) (rest := []) (ws' := oC cJ o g' :: (wx' ++ wy')) (pc' := 684) hK1 hA (hw.th l D) (cwV 0 C0.2.2.2.2 gL_law_X1_thrown rfl rfl rfl (by decide +kernel) ⟨Nat.le_of_ble_eq_true rfl, Nat.le_of_ble_eq_true rfl⟩) ⟨_, 1, _, _, _, rfl, ap_r (A := oC cJ o g' :: wx') hy1⟩ (PLs.rt (P := oC cJ o g' :: wx')) rfl rfl (Nat.le_of_ble_eq_true rfl) ⟨hk, hn⟩ dL_law_681 rfl ?_
  refine v_iload C0 (pc' := 686) 1 rfl dL_law_684 rfl ?_
  refine v_icmp_eq C0 691 (pc' := 689) dL_law_686 (by decide) rfl (fun _ => ?_) (fun z => absurd rfl z)
  refine v_iload C0 (pc' := 693) 1 rfl dL_law_691 rfl ?_
  refine v_if_ne C0 708 (pc' := 696) dL_law_693 (by decide) rfl (fun z => ?_) (fun z => ?_)
  · refine v_goto C0 1492 dL_law_708 (by decide) ?_
    exact v_sub (lv' := [(4, .int (nI i)), (3, .ref o), (2, .ref (bd 0)), (1, .ref (ad 0)), (0, .ref b)]) [2, 3, 4, 5, 6] rfl (kk wx' wy' TH g' hw)
  · have eg := hg z
    refine v_aload_n C0 (pc' := 697) 3 rfl rfl dL_law_696 rfl ?_
    refine v_iconst C0 (pc' := 698) 0 (by decide) dL_law_697 rfl ?_
    refine v_lald C0 hK (pc' := 699) 0 1 rfl rfl vin01 dL_law_698 rfl ?_
    refine v_iload C0 (pc' := 701) 0 rfl dL_law_699 rfl ?_
    refine v_i2l C0 (pc' := 702) dL_law_701 rfl ?_
    refine v_lcmp C0 (pc' := 703) dL_law_702 rfl ?_
    refine v_if_eq C0 708 (pc' := 706) dL_law_703 (by decide) rfl (fun _ => ?_) (fun z2 => absurd (by rw [eg]; exact lg_self _) z2)
    refine v_goto C0 1492 dL_law_708 (by decide) ?_
    exact v_sub (lv' := [(4, .int (nI i)), (3, .ref o), (2, .ref (bd 0)), (1, .ref (ad 0)), (0, .ref b)]) [2, 3, 4, 5, 6] rfl (kk wx' wy' TH g' hw)
set_option maxHeartbeats 2000000 in
set_option maxRecDepth 100000 in
theorem law_isOn {p : Program} {l : Launch} {e : Env} {s : State} {m : MethodId} {args : Array Value} {below : List Frame} {meth : Method} {c : Code} {D : va_G} {A : Nat → Prop} {k n : Nat} {Q : State → Prop} {cI cJ : ClassId} {ad bd : Nat → Nat} {b L o i : Nat} {xs : Nat → Int32} {wx wy : va_W} {t0 : Int32} {g : Nat → Int64} (h0 : LH p l m c s args D A cI cJ b L xs) (h : WP cI ad bd wx wy t0) (hi : i + 5 < L) (hk : k + 1 ≤ 1059) (hn : n + 6 ≤ 9105) (kk : ∀ (wx' wy' : va_W) (t' : Int32) (g' : Nat → Int64), WP cI ad bd wx' wy' t' → V p l e room_1 s m args below meth c D A 7 (k + 1) (n + 6) Q (oC cJ o g' :: (wx' ++ wy')) [(4, .int (nI i)), (3, .ref o), (2, .ref (bd 0)), (1, .ref (ad 0)), (0, .ref b)] 1492 []) : V p l e room_1 s m args below meth c D A 7 k n Q (oC cJ o g :: (wx ++ wy)) [(4, .int (nI i)), (3, .ref o), (2, .ref (bd 0)), (1, .ref (ad 0)), (0, .ref b)] 711 [] := by
  obtain ⟨C0, hst, hK, hA, hEN, hX, hbl, hbA, hL⟩ := h0
  have hK1 : va_K D vwCl (TI cI) s := hK.sub [0] rfl
  obtain ⟨fy, hy0⟩ := h.y0
  obtain ⟨wx', wy', r, TH, g', hw, hy, hE, hg⟩ := u_isOn (cJ := cJ) l hst D h o g (xs (i + 1)) (xs (i + 2))
  obtain ⟨fy1, hy1⟩ := hw.y0
  refine v_aload_n C0 (pc' := 712) 3 rfl rfl dL_law_711 rfl ?_
  refine v_scr C0 hX hbl hbA (i := i) (a := 1) (pc' := 718) (by omega) hL (by decide) 4 0 rfl rfl dL_law_712 dL_law_713 dL_law_715 dL_law_716 dL_law_717 rfl ?_
  refine v_scr C0 hX hbl hbA (i := i) (a := 2) (pc' := 724) (by omega) hL (by decide) 4 0 rfl rfl dL_law_718 dL_law_719 dL_law_721 dL_law_722 dL_law_723 rfl ?_
  refine v_aload_n C0 (pc' := 725) 1 rfl rfl dL_law_724 rfl ?_
  refine v_callSE C0 (av := [.ref (ad 0), .int (xs (i + 1)), .int (xs (i + 2)), .ref o]) (rest := []) (ws' := oC cJ o g' :: (wx' ++ wy)) (pc' := 728) hK hA hEN hE (vx_cwSW 4 C0.2.2.2.2 gL_law_L_isOn rfl rfl rfl (by decide +kernel) ⟨Nat.le_of_ble_eq_true rfl, Nat.le_of_ble_eq_true rfl⟩) (PLs.lf (W0 := oC cJ o g :: wx) (W1 := oC cJ o g' :: wx') (R := wy)) rfl rfl (Nat.le_of_ble_eq_true rfl) ⟨hk, hn⟩ dL_law_725 rfl ?_
  refine v_istore C0 (lv' := [(5, .int TH), (4, .int (nI i)), (3, .ref o), (2, .ref (bd 0)), (1, .ref (ad 0)), (0, .ref b)]) (pc' := 730) (by decide) rfl dL_law_728 rfl ?_
  refine v_aload_n C0 (pc' := 731) 3 rfl rfl dL_law_730 rfl ?_
  refine v_scr C0 hX hbl hbA (i := i) (a := 1) (pc' := 737) (by omega) hL (by decide) 5 1 rfl rfl dL_law_731 dL_law_732 dL_law_734 dL_law_735 dL_law_736 rfl ?_
  refine v_scr C0 hX hbl hbA (i := i) (a := 2) (pc' := 743) (by omega) hL (by decide) 5 1 rfl rfl dL_law_737 dL_law_738 dL_law_740 dL_law_741 dL_law_742 rfl ?_
  refine v_callVi0 C0 (av := [.int (xs (i + 1)), .int (xs (i + 2))]) (rest := []) (ws' := oC cJ o g' :: (wx' ++ wy')) (pc' := 746) hK1 hA hy (cwV 2 C0.2.2.2.2 gL_law_X1_isOn rfl rfl rfl (by decide +kernel) ⟨Nat.le_of_ble_eq_true rfl, Nat.le_of_ble_eq_true rfl⟩) ⟨_, 1, _, _, _, rfl, ap_r (A := oC cJ o g' :: wx') hy0⟩ (PLs.rt (P := oC cJ o g' :: wx')) rfl rfl (Nat.le_of_ble_eq_true rfl) ⟨hk, hn⟩ dL_law_743 rfl ?_
  refine v_istore C0 (lv' := [(6, .int r), (5, .int TH), (4, .int (nI i)), (3, .ref o), (2, .ref (bd 0)), (1, .ref (ad 0)), (0, .ref b)]) (pc' := 748) (by decide) rfl dL_law_746 rfl ?_
  refine v_aload_n C0 (pc' := 749) 4 rfl rfl dL_law_748 rfl ?_
  refine v_callVi0 C0 (av := []) (rest := []) (ws' := oC cJ o g' :: (wx' ++ wy')) (pc' := 752) hK1 hA (hw.th l D) (cwV 0 C0.2.2.2.2 gL_law_X1_thrown rfl rfl rfl (by decide +kernel) ⟨Nat.le_of_ble_eq_true rfl, Nat.le_of_ble_eq_true rfl⟩) ⟨_, 1, _, _, _, rfl, ap_r (A := oC cJ o g' :: wx') hy1⟩ (PLs.rt (P := oC cJ o g' :: wx')) rfl rfl (Nat.le_of_ble_eq_true rfl) ⟨hk, hn⟩ dL_law_749 rfl ?_
  refine v_iload C0 (pc' := 754) 1 rfl dL_law_752 rfl ?_
  refine v_icmp_eq C0 759 (pc' := 757) dL_law_754 (by decide) rfl (fun _ => ?_) (fun z => absurd rfl z)
  refine v_iload C0 (pc' := 761) 1 rfl dL_law_759 rfl ?_
  refine v_if_ne C0 783 (pc' := 764) dL_law_761 (by decide) rfl (fun z => ?_) (fun z => ?_)
  · refine v_goto C0 1492 dL_law_783 (by decide) ?_
    exact v_sub (lv' := [(4, .int (nI i)), (3, .ref o), (2, .ref (bd 0)), (1, .ref (ad 0)), (0, .ref b)]) [2, 3, 4, 5, 6] rfl (kk wx' wy' TH g' hw)
  · have eg := hg z
    refine v_aload_n C0 (pc' := 765) 3 rfl rfl dL_law_764 rfl ?_
    refine v_iconst C0 (pc' := 766) 0 (by decide) dL_law_765 rfl ?_
    refine v_lald C0 hK (pc' := 767) 0 1 rfl rfl vin01 dL_law_766 rfl ?_
    refine v_iload C0 (pc' := 769) 0 rfl dL_law_767 rfl ?_
    refine v_lz C0 776 777 dL_law_769 (by decide) dL_law_772 dL_law_773 (by decide) dL_law_776 rfl ?_
    refine v_lcmp C0 (pc' := 778) dL_law_777 rfl ?_
    refine v_if_eq C0 783 (pc' := 781) dL_law_778 (by decide) rfl (fun _ => ?_) (fun z2 => absurd (by rw [eg]; exact lg_self _) z2)
    refine v_goto C0 1492 dL_law_783 (by decide) ?_
    exact v_sub (lv' := [(4, .int (nI i)), (3, .ref o), (2, .ref (bd 0)), (1, .ref (ad 0)), (0, .ref b)]) [2, 3, 4, 5, 6] rfl (kk wx' wy' TH g' hw)
set_option maxHeartbeats 2000000 in
set_option maxRecDepth 100000 in
theorem law_comesAs {p : Program} {l : Launch} {e : Env} {s : State} {m : MethodId} {args : Array Value} {below : List Frame} {meth : Method} {c : Code} {D : va_G} {A : Nat → Prop} {k n : Nat} {Q : State → Prop} {cI cJ : ClassId} {ad bd : Nat → Nat} {b L o i : Nat} {xs : Nat → Int32} {wx wy : va_W} {t0 : Int32} {g : Nat → Int64} (h0 : LH p l m c s args D A cI cJ b L xs) (h : WP cI ad bd wx wy t0) (hi : i + 5 < L) (hk : k + 1 ≤ 1059) (hn : n + 6 ≤ 9105) (kk : ∀ (wx' wy' : va_W) (t' : Int32) (g' : Nat → Int64), WP cI ad bd wx' wy' t' → V p l e room_1 s m args below meth c D A 7 (k + 1) (n + 6) Q (oC cJ o g' :: (wx' ++ wy')) [(4, .int (nI i)), (3, .ref o), (2, .ref (bd 0)), (1, .ref (ad 0)), (0, .ref b)] 1492 []) : V p l e room_1 s m args below meth c D A 7 k n Q (oC cJ o g :: (wx ++ wy)) [(4, .int (nI i)), (3, .ref o), (2, .ref (bd 0)), (1, .ref (ad 0)), (0, .ref b)] 786 [] := by
  obtain ⟨C0, hst, hK, hA, hEN, hX, hbl, hbA, hL⟩ := h0
  have hK1 : va_K D vwCl (TI cI) s := hK.sub [0] rfl
  obtain ⟨fy, hy0⟩ := h.y0
  obtain ⟨wx', wy', r, TH, g', hw, hy, hE, hg⟩ := u_comesAs (cJ := cJ) l hst D h o g (xs (i + 1)) (xs (i + 2)) (xs (i + 3))
  obtain ⟨fy1, hy1⟩ := hw.y0
  refine v_aload_n C0 (pc' := 787) 3 rfl rfl dL_law_786 rfl ?_
  refine v_scr C0 hX hbl hbA (i := i) (a := 1) (pc' := 793) (by omega) hL (by decide) 4 0 rfl rfl dL_law_787 dL_law_788 dL_law_790 dL_law_791 dL_law_792 rfl ?_
  refine v_scr C0 hX hbl hbA (i := i) (a := 2) (pc' := 799) (by omega) hL (by decide) 4 0 rfl rfl dL_law_793 dL_law_794 dL_law_796 dL_law_797 dL_law_798 rfl ?_
  refine v_scr C0 hX hbl hbA (i := i) (a := 3) (pc' := 805) (by omega) hL (by decide) 4 0 rfl rfl dL_law_799 dL_law_800 dL_law_802 dL_law_803 dL_law_804 rfl ?_
  refine v_aload_n C0 (pc' := 806) 1 rfl rfl dL_law_805 rfl ?_
  refine v_callSE C0 (av := [.ref (ad 0), .int (xs (i + 1)), .int (xs (i + 2)), .int (xs (i + 3)), .ref o]) (rest := []) (ws' := oC cJ o g' :: (wx' ++ wy)) (pc' := 809) hK hA hEN hE (vx_cwSW 5 C0.2.2.2.2 gL_law_L_comesAs rfl rfl rfl (by decide +kernel) ⟨Nat.le_of_ble_eq_true rfl, Nat.le_of_ble_eq_true rfl⟩) (PLs.lf (W0 := oC cJ o g :: wx) (W1 := oC cJ o g' :: wx') (R := wy)) rfl rfl (Nat.le_of_ble_eq_true rfl) ⟨hk, hn⟩ dL_law_806 rfl ?_
  refine v_istore C0 (lv' := [(5, .int TH), (4, .int (nI i)), (3, .ref o), (2, .ref (bd 0)), (1, .ref (ad 0)), (0, .ref b)]) (pc' := 811) (by decide) rfl dL_law_809 rfl ?_
  refine v_aload_n C0 (pc' := 812) 3 rfl rfl dL_law_811 rfl ?_
  refine v_scr C0 hX hbl hbA (i := i) (a := 1) (pc' := 818) (by omega) hL (by decide) 5 1 rfl rfl dL_law_812 dL_law_813 dL_law_815 dL_law_816 dL_law_817 rfl ?_
  refine v_scr C0 hX hbl hbA (i := i) (a := 2) (pc' := 824) (by omega) hL (by decide) 5 1 rfl rfl dL_law_818 dL_law_819 dL_law_821 dL_law_822 dL_law_823 rfl ?_
  refine v_scr C0 hX hbl hbA (i := i) (a := 3) (pc' := 830) (by omega) hL (by decide) 5 1 rfl rfl dL_law_824 dL_law_825 dL_law_827 dL_law_828 dL_law_829 rfl ?_
  refine v_callVi0 C0 (av := [.int (xs (i + 1)), .int (xs (i + 2)), .int (xs (i + 3))]) (rest := []) (ws' := oC cJ o g' :: (wx' ++ wy')) (pc' := 833) hK1 hA hy (cwV 3 C0.2.2.2.2 gL_law_X1_comesAs rfl rfl rfl (by decide +kernel) ⟨Nat.le_of_ble_eq_true rfl, Nat.le_of_ble_eq_true rfl⟩) ⟨_, 1, _, _, _, rfl, ap_r (A := oC cJ o g' :: wx') hy0⟩ (PLs.rt (P := oC cJ o g' :: wx')) rfl rfl (Nat.le_of_ble_eq_true rfl) ⟨hk, hn⟩ dL_law_830 rfl ?_
  refine v_istore C0 (lv' := [(6, .int r), (5, .int TH), (4, .int (nI i)), (3, .ref o), (2, .ref (bd 0)), (1, .ref (ad 0)), (0, .ref b)]) (pc' := 835) (by decide) rfl dL_law_833 rfl ?_
  refine v_aload_n C0 (pc' := 836) 4 rfl rfl dL_law_835 rfl ?_
  refine v_callVi0 C0 (av := []) (rest := []) (ws' := oC cJ o g' :: (wx' ++ wy')) (pc' := 839) hK1 hA (hw.th l D) (cwV 0 C0.2.2.2.2 gL_law_X1_thrown rfl rfl rfl (by decide +kernel) ⟨Nat.le_of_ble_eq_true rfl, Nat.le_of_ble_eq_true rfl⟩) ⟨_, 1, _, _, _, rfl, ap_r (A := oC cJ o g' :: wx') hy1⟩ (PLs.rt (P := oC cJ o g' :: wx')) rfl rfl (Nat.le_of_ble_eq_true rfl) ⟨hk, hn⟩ dL_law_836 rfl ?_
  refine v_iload C0 (pc' := 841) 1 rfl dL_law_839 rfl ?_
  refine v_icmp_eq C0 846 (pc' := 844) dL_law_841 (by decide) rfl (fun _ => ?_) (fun z => absurd rfl z)
  refine v_iload C0 (pc' := 848) 1 rfl dL_law_846 rfl ?_
  refine v_if_ne C0 863 (pc' := 851) dL_law_848 (by decide) rfl (fun z => ?_) (fun z => ?_)
  · refine v_goto C0 1492 dL_law_863 (by decide) ?_
    exact v_sub (lv' := [(4, .int (nI i)), (3, .ref o), (2, .ref (bd 0)), (1, .ref (ad 0)), (0, .ref b)]) [2, 3, 4, 5, 6] rfl (kk wx' wy' TH g' hw)
  · have eg := hg z
    refine v_aload_n C0 (pc' := 852) 3 rfl rfl dL_law_851 rfl ?_
    refine v_iconst C0 (pc' := 853) 0 (by decide) dL_law_852 rfl ?_
    refine v_lald C0 hK (pc' := 854) 0 1 rfl rfl vin01 dL_law_853 rfl ?_
    refine v_iload C0 (pc' := 856) 0 rfl dL_law_854 rfl ?_
    refine v_i2l C0 (pc' := 857) dL_law_856 rfl ?_
    refine v_lcmp C0 (pc' := 858) dL_law_857 rfl ?_
    refine v_if_eq C0 863 (pc' := 861) dL_law_858 (by decide) rfl (fun _ => ?_) (fun z2 => absurd (by rw [eg]; exact lg_self _) z2)
    refine v_goto C0 1492 dL_law_863 (by decide) ?_
    exact v_sub (lv' := [(4, .int (nI i)), (3, .ref o), (2, .ref (bd 0)), (1, .ref (ad 0)), (0, .ref b)]) [2, 3, 4, 5, 6] rfl (kk wx' wy' TH g' hw)
set_option maxHeartbeats 2000000 in
set_option maxRecDepth 100000 in
theorem law_oneSided {p : Program} {l : Launch} {e : Env} {s : State} {m : MethodId} {args : Array Value} {below : List Frame} {meth : Method} {c : Code} {D : va_G} {A : Nat → Prop} {k n : Nat} {Q : State → Prop} {cI cJ : ClassId} {ad bd : Nat → Nat} {b L o i : Nat} {xs : Nat → Int32} {wx wy : va_W} {t0 : Int32} {g : Nat → Int64} (h0 : LH p l m c s args D A cI cJ b L xs) (h : WP cI ad bd wx wy t0) (hi : i + 5 < L) (hk : k + 1 ≤ 1059) (hn : n + 6 ≤ 9105) (kk : ∀ (wx' wy' : va_W) (t' : Int32) (g' : Nat → Int64), WP cI ad bd wx' wy' t' → V p l e room_1 s m args below meth c D A 7 (k + 1) (n + 6) Q (oC cJ o g' :: (wx' ++ wy')) [(4, .int (nI i)), (3, .ref o), (2, .ref (bd 0)), (1, .ref (ad 0)), (0, .ref b)] 1492 []) : V p l e room_1 s m args below meth c D A 7 k n Q (oC cJ o g :: (wx ++ wy)) [(4, .int (nI i)), (3, .ref o), (2, .ref (bd 0)), (1, .ref (ad 0)), (0, .ref b)] 866 [] := by
  obtain ⟨C0, hst, hK, hA, hEN, hX, hbl, hbA, hL⟩ := h0
  have hK1 : va_K D vwCl (TI cI) s := hK.sub [0] rfl
  obtain ⟨fy, hy0⟩ := h.y0
  obtain ⟨wx', wy', r, TH, g', hw, hy, hE, hg⟩ := u_oneSided (cJ := cJ) l hst D h o g (xs (i + 1)) (xs (i + 2))
  obtain ⟨fy1, hy1⟩ := hw.y0
  refine v_aload_n C0 (pc' := 867) 3 rfl rfl dL_law_866 rfl ?_
  refine v_scr C0 hX hbl hbA (i := i) (a := 1) (pc' := 873) (by omega) hL (by decide) 4 0 rfl rfl dL_law_867 dL_law_868 dL_law_870 dL_law_871 dL_law_872 rfl ?_
  refine v_scr C0 hX hbl hbA (i := i) (a := 2) (pc' := 879) (by omega) hL (by decide) 4 0 rfl rfl dL_law_873 dL_law_874 dL_law_876 dL_law_877 dL_law_878 rfl ?_
  refine v_aload_n C0 (pc' := 880) 1 rfl rfl dL_law_879 rfl ?_
  refine v_callSE C0 (av := [.ref (ad 0), .int (xs (i + 1)), .int (xs (i + 2)), .ref o]) (rest := []) (ws' := oC cJ o g' :: (wx' ++ wy)) (pc' := 883) hK hA hEN hE (vx_cwSW 4 C0.2.2.2.2 gL_law_L_oneSided rfl rfl rfl (by decide +kernel) ⟨Nat.le_of_ble_eq_true rfl, Nat.le_of_ble_eq_true rfl⟩) (PLs.lf (W0 := oC cJ o g :: wx) (W1 := oC cJ o g' :: wx') (R := wy)) rfl rfl (Nat.le_of_ble_eq_true rfl) ⟨hk, hn⟩ dL_law_880 rfl ?_
  refine v_istore C0 (lv' := [(5, .int TH), (4, .int (nI i)), (3, .ref o), (2, .ref (bd 0)), (1, .ref (ad 0)), (0, .ref b)]) (pc' := 885) (by decide) rfl dL_law_883 rfl ?_
  refine v_aload_n C0 (pc' := 886) 3 rfl rfl dL_law_885 rfl ?_
  refine v_scr C0 hX hbl hbA (i := i) (a := 1) (pc' := 892) (by omega) hL (by decide) 5 1 rfl rfl dL_law_886 dL_law_887 dL_law_889 dL_law_890 dL_law_891 rfl ?_
  refine v_scr C0 hX hbl hbA (i := i) (a := 2) (pc' := 898) (by omega) hL (by decide) 5 1 rfl rfl dL_law_892 dL_law_893 dL_law_895 dL_law_896 dL_law_897 rfl ?_
  refine v_callVi0 C0 (av := [.int (xs (i + 1)), .int (xs (i + 2))]) (rest := []) (ws' := oC cJ o g' :: (wx' ++ wy')) (pc' := 901) hK1 hA hy (cwV 2 C0.2.2.2.2 gL_law_X1_oneSided rfl rfl rfl (by decide +kernel) ⟨Nat.le_of_ble_eq_true rfl, Nat.le_of_ble_eq_true rfl⟩) ⟨_, 1, _, _, _, rfl, ap_r (A := oC cJ o g' :: wx') hy0⟩ (PLs.rt (P := oC cJ o g' :: wx')) rfl rfl (Nat.le_of_ble_eq_true rfl) ⟨hk, hn⟩ dL_law_898 rfl ?_
  refine v_istore C0 (lv' := [(6, .int r), (5, .int TH), (4, .int (nI i)), (3, .ref o), (2, .ref (bd 0)), (1, .ref (ad 0)), (0, .ref b)]) (pc' := 903) (by decide) rfl dL_law_901 rfl ?_
  refine v_aload_n C0 (pc' := 904) 4 rfl rfl dL_law_903 rfl ?_
  refine v_callVi0 C0 (av := []) (rest := []) (ws' := oC cJ o g' :: (wx' ++ wy')) (pc' := 907) hK1 hA (hw.th l D) (cwV 0 C0.2.2.2.2 gL_law_X1_thrown rfl rfl rfl (by decide +kernel) ⟨Nat.le_of_ble_eq_true rfl, Nat.le_of_ble_eq_true rfl⟩) ⟨_, 1, _, _, _, rfl, ap_r (A := oC cJ o g' :: wx') hy1⟩ (PLs.rt (P := oC cJ o g' :: wx')) rfl rfl (Nat.le_of_ble_eq_true rfl) ⟨hk, hn⟩ dL_law_904 rfl ?_
  refine v_iload C0 (pc' := 909) 1 rfl dL_law_907 rfl ?_
  refine v_icmp_eq C0 914 (pc' := 912) dL_law_909 (by decide) rfl (fun _ => ?_) (fun z => absurd rfl z)
  refine v_iload C0 (pc' := 916) 1 rfl dL_law_914 rfl ?_
  refine v_if_ne C0 931 (pc' := 919) dL_law_916 (by decide) rfl (fun z => ?_) (fun z => ?_)
  · refine v_goto C0 1492 dL_law_931 (by decide) ?_
    exact v_sub (lv' := [(4, .int (nI i)), (3, .ref o), (2, .ref (bd 0)), (1, .ref (ad 0)), (0, .ref b)]) [2, 3, 4, 5, 6] rfl (kk wx' wy' TH g' hw)
  · have eg := hg z
    refine v_aload_n C0 (pc' := 920) 3 rfl rfl dL_law_919 rfl ?_
    refine v_iconst C0 (pc' := 921) 0 (by decide) dL_law_920 rfl ?_
    refine v_lald C0 hK (pc' := 922) 0 1 rfl rfl vin01 dL_law_921 rfl ?_
    refine v_iload C0 (pc' := 924) 0 rfl dL_law_922 rfl ?_
    refine v_i2l C0 (pc' := 925) dL_law_924 rfl ?_
    refine v_lcmp C0 (pc' := 926) dL_law_925 rfl ?_
    refine v_if_eq C0 931 (pc' := 929) dL_law_926 (by decide) rfl (fun _ => ?_) (fun z2 => absurd (by rw [eg]; exact lg_self _) z2)
    refine v_goto C0 1492 dL_law_931 (by decide) ?_
    exact v_sub (lv' := [(4, .int (nI i)), (3, .ref o), (2, .ref (bd 0)), (1, .ref (ad 0)), (0, .ref b)]) [2, 3, 4, 5, 6] rfl (kk wx' wy' TH g' hw)
