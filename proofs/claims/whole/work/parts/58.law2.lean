/-! the law's cases, further -/
section LAWC
variable {p : Program} {l : Launch} {e : Env} {s : State} {m : MethodId} {below : List Frame} {meth : Method} {c : Code} {H : Heap} {locs : List Loc} {ls : Array Slot} {rest : List Value} {g : GE} {w : Nat → va_E} {xs : Nat → Int32} {b n i hk tn : Nat} {L K T ln sz : Nat → Nat} {Z : Nat → Int64}
set_option maxHeartbeats 4000000 in
set_option maxRecDepth 100000 in
theorem law_16 (C : CallFix p m c code 4 s #[Value.ref b] wsL_law RL) (hK : WK g s) (hN : gN g = 130) (hX : va_X b n xs s s.heap) (hbl : b < s.heap.size) (hn : n ≤ 448) (hi : i + 7 ≤ n) (hS : OkS (L, K, hk, tn, T, ln, sz, Z)) (hXA : XAll g (L, K, hk, tn, T, ln, sz, Z) w) (hMA : MAll g (L, K, hk, tn, T, ln, sz, Z) w) (hW : XW g w (lwA s) s.heap H locs) (hl : lv_has ls 4 [(3, .int (nI i)), (2, .ref (gad g 119)), (1, .ref (gad g 0)), (0, .ref b)]) (kk : ∀ (S' : GS) (w' : Nat → va_E) (H1 : Heap) (locs1 : List Loc), OkS S' → XAll g S' w' → MAll g S' w' → XW g w' (lwA s) s.heap H1 locs1 → LW p l e s m below meth c b H1 locs1 (F0 m 1296 ls [])) : LW p l e s m below meth c b H locs (F0 m 625 ls []) := by
  have hbA : ¬ lwA s b := Nat.not_le.mpr hbl
  refine lv_aload_n C.1 C.2.1 dL_law_625 rfl (lv_at hl 2 rfl) ?_
  refine lv_aload_n C.1 C.2.1 dL_law_626 rfl (lv_at hl 3 rfl) ?_
  refine lv_iload_n C.1 C.2.1 dL_law_627 rfl (lv_at hl 0 rfl) ?_
  refine lv_iconst (v := nI 1) C.1 C.2.1 dL_law_628 (by decide) ?_
  refine xadd C dL_law_629 ?_
  refine xsld C hX hbl hbA hW (by omega) hn dL_law_630 ?_
  refine lv_aload_n C.1 C.2.1 dL_law_631 rfl (lv_at hl 3 rfl) ?_
  refine lv_iload_n C.1 C.2.1 dL_law_632 rfl (lv_at hl 0 rfl) ?_
  refine lv_iconst (v := nI 2) C.1 C.2.1 dL_law_633 (by decide) ?_
  refine xadd C dL_law_634 ?_
  refine xsld C hX hbl hbA hW (by omega) hn dL_law_635 ?_
  refine lv_aload_n C.1 C.2.1 dL_law_636 rfl (lv_at hl 3 rfl) ?_
  refine lv_iload_n C.1 C.2.1 dL_law_637 rfl (lv_at hl 0 rfl) ?_
  refine lv_iconst (v := nI 3) C.1 C.2.1 dL_law_638 (by decide) ?_
  refine xadd C dL_law_639 ?_
  refine xsld C hX hbl hbA hW (by omega) hn dL_law_640 ?_
  refine xcV_i (n := 3) (As := [.int (xs (i + 1)), .int (xs (i + 2)), .int (xs (i + 3))]) C hK hW (c_X6_right l g w L K T ln sz hk tn Z (xs (i + 1)) (xs (i + 2)) (xs (i + 3)) hW.2.2.1 hN hS hXA) gL_law_X6_right rfl ⟨rfl, rfl⟩ (by decide +kernel) ⟨(Nat.le_of_ble_eq_true rfl), (Nat.le_of_ble_eq_true rfl)⟩ ⟨Nat.le_refl _, Nat.le_refl _⟩ rfl (by omega) hXA.1 rfl hl rfl (Nat.le_of_ble_eq_true rfl) dL_law_641 (fun r1 w1 H locs q1 hW => ?_)
  obtain ⟨hA1, f1, e1⟩ := q1
  have hB1 := hMA.fr (fun j hj => f1 j (by omega))
  refine lv_aload_n C.1 C.2.1 dL_law_644 rfl (lv_at hl 1 rfl) ?_
  refine lv_aload_n C.1 C.2.1 dL_law_645 rfl (lv_at hl 3 rfl) ?_
  refine lv_iload_n C.1 C.2.1 dL_law_646 rfl (lv_at hl 0 rfl) ?_
  refine lv_iconst (v := nI 1) C.1 C.2.1 dL_law_647 (by decide) ?_
  refine xadd C dL_law_648 ?_
  refine xsld C hX hbl hbA hW (by omega) hn dL_law_649 ?_
  refine lv_aload_n C.1 C.2.1 dL_law_650 rfl (lv_at hl 3 rfl) ?_
  refine lv_iload_n C.1 C.2.1 dL_law_651 rfl (lv_at hl 0 rfl) ?_
  refine lv_iconst (v := nI 2) C.1 C.2.1 dL_law_652 (by decide) ?_
  refine xadd C dL_law_653 ?_
  refine xsld C hX hbl hbA hW (by omega) hn dL_law_654 ?_
  refine lv_aload_n C.1 C.2.1 dL_law_655 rfl (lv_at hl 3 rfl) ?_
  refine lv_iload_n C.1 C.2.1 dL_law_656 rfl (lv_at hl 0 rfl) ?_
  refine lv_iconst (v := nI 3) C.1 C.2.1 dL_law_657 (by decide) ?_
  refine xadd C dL_law_658 ?_
  refine xsld C hX hbl hbA hW (by omega) hn dL_law_659 ?_
  obtain ⟨_, _, _, _, _, _, _, _, _, _, _, _, hm0, _⟩ := id hB1
  refine xcV_i (n := 3) (As := [.int (xs (i + 1)), .int (xs (i + 2)), .int (xs (i + 3))]) C hK hW (c_X7_right l g w1 L K T ln sz hk tn Z (xs (i + 1)) (xs (i + 2)) (xs (i + 3)) hW.2.2.1 hN hS hB1) gL_law_X7_right rfl ⟨rfl, rfl⟩ (by decide +kernel) ⟨(Nat.le_of_ble_eq_true rfl), (Nat.le_of_ble_eq_true rfl)⟩ ⟨Nat.le_refl _, Nat.le_refl _⟩ rfl (by omega) hm0 rfl hl rfl (Nat.le_of_ble_eq_true rfl) dL_law_660 (fun r2 w2 H locs q2 hW => ?_)
  obtain ⟨hA2, f2, e2⟩ := q2
  have hB2 := hA1.fr (fun j hj => f2 j (by omega))
  exact lv_icmp_eq (tgt := 1296) C.1 C.2.1 dL_law_663 (by decide) (fun _ => kk _ w2 _ _ (hS) hB2 hA2 hW) (fun h => absurd (e1.trans e2.symm) h)

set_option maxHeartbeats 4000000 in
set_option maxRecDepth 100000 in
theorem law_17 (C : CallFix p m c code 4 s #[Value.ref b] wsL_law RL) (hK : WK g s) (hN : gN g = 130) (hX : va_X b n xs s s.heap) (hbl : b < s.heap.size) (hn : n ≤ 448) (hi : i + 7 ≤ n) (hS : OkS (L, K, hk, tn, T, ln, sz, Z)) (hXA : XAll g (L, K, hk, tn, T, ln, sz, Z) w) (hMA : MAll g (L, K, hk, tn, T, ln, sz, Z) w) (hW : XW g w (lwA s) s.heap H locs) (hl : lv_has ls 4 [(3, .int (nI i)), (2, .ref (gad g 119)), (1, .ref (gad g 0)), (0, .ref b)]) (kk : ∀ (S' : GS) (w' : Nat → va_E) (H1 : Heap) (locs1 : List Loc), OkS S' → XAll g S' w' → MAll g S' w' → XW g w' (lwA s) s.heap H1 locs1 → LW p l e s m below meth c b H1 locs1 (F0 m 1296 ls [])) : LW p l e s m below meth c b H locs (F0 m 668 ls []) := by
  have hbA : ¬ lwA s b := Nat.not_le.mpr hbl
  refine lv_aload_n C.1 C.2.1 dL_law_668 rfl (lv_at hl 2 rfl) ?_
  refine lv_aload_n C.1 C.2.1 dL_law_669 rfl (lv_at hl 3 rfl) ?_
  refine lv_iload_n C.1 C.2.1 dL_law_670 rfl (lv_at hl 0 rfl) ?_
  refine lv_iconst (v := nI 1) C.1 C.2.1 dL_law_671 (by decide) ?_
  refine xadd C dL_law_672 ?_
  refine xsld C hX hbl hbA hW (by omega) hn dL_law_673 ?_
  refine xcV_i (n := 1) (As := [.int (xs (i + 1))]) C hK hW (c_X6_sure l g w L K T ln sz hk tn Z (xs (i + 1)) hW.2.2.1 hN hS hXA) gL_law_X6_sure rfl ⟨rfl, rfl⟩ (by decide +kernel) ⟨(Nat.le_of_ble_eq_true rfl), (Nat.le_of_ble_eq_true rfl)⟩ ⟨Nat.le_refl _, Nat.le_refl _⟩ rfl (by omega) hXA.1 rfl hl rfl (Nat.le_of_ble_eq_true rfl) dL_law_674 (fun r1 w1 H locs q1 hW => ?_)
  obtain ⟨hA1, f1, e1⟩ := q1
  have hB1 := hMA.fr (fun j hj => f1 j (by omega))
  refine lv_aload_n C.1 C.2.1 dL_law_677 rfl (lv_at hl 1 rfl) ?_
  refine lv_aload_n C.1 C.2.1 dL_law_678 rfl (lv_at hl 3 rfl) ?_
  refine lv_iload_n C.1 C.2.1 dL_law_679 rfl (lv_at hl 0 rfl) ?_
  refine lv_iconst (v := nI 1) C.1 C.2.1 dL_law_680 (by decide) ?_
  refine xadd C dL_law_681 ?_
  refine xsld C hX hbl hbA hW (by omega) hn dL_law_682 ?_
  obtain ⟨_, _, _, _, _, _, _, _, _, _, _, _, hm0, _⟩ := id hB1
  refine xcV_i (n := 1) (As := [.int (xs (i + 1))]) C hK hW (c_X7_sure l g w1 L K T ln sz hk tn Z (xs (i + 1)) hW.2.2.1 hN hS hB1) gL_law_X7_sure rfl ⟨rfl, rfl⟩ (by decide +kernel) ⟨(Nat.le_of_ble_eq_true rfl), (Nat.le_of_ble_eq_true rfl)⟩ ⟨Nat.le_refl _, Nat.le_refl _⟩ rfl (by omega) hm0 rfl hl rfl (Nat.le_of_ble_eq_true rfl) dL_law_683 (fun r2 w2 H locs q2 hW => ?_)
  obtain ⟨hA2, f2, e2⟩ := q2
  have hB2 := hA1.fr (fun j hj => f2 j (by omega))
  exact lv_icmp_eq (tgt := 1296) C.1 C.2.1 dL_law_686 (by decide) (fun _ => kk _ w2 _ _ (hS) hB2 hA2 hW) (fun h => absurd (e1.trans e2.symm) h)

set_option maxHeartbeats 4000000 in
set_option maxRecDepth 100000 in
theorem law_18 (C : CallFix p m c code 4 s #[Value.ref b] wsL_law RL) (hK : WK g s) (hN : gN g = 130) (hX : va_X b n xs s s.heap) (hbl : b < s.heap.size) (hn : n ≤ 448) (hi : i + 7 ≤ n) (hS : OkS (L, K, hk, tn, T, ln, sz, Z)) (hXA : XAll g (L, K, hk, tn, T, ln, sz, Z) w) (hMA : MAll g (L, K, hk, tn, T, ln, sz, Z) w) (hW : XW g w (lwA s) s.heap H locs) (hl : lv_has ls 4 [(3, .int (nI i)), (2, .ref (gad g 119)), (1, .ref (gad g 0)), (0, .ref b)]) (kk : ∀ (S' : GS) (w' : Nat → va_E) (H1 : Heap) (locs1 : List Loc), OkS S' → XAll g S' w' → MAll g S' w' → XW g w' (lwA s) s.heap H1 locs1 → LW p l e s m below meth c b H1 locs1 (F0 m 1296 ls [])) : LW p l e s m below meth c b H locs (F0 m 691 ls []) := by
  have hbA : ¬ lwA s b := Nat.not_le.mpr hbl
  refine lv_aload_n C.1 C.2.1 dL_law_691 rfl (lv_at hl 2 rfl) ?_
  refine lv_aload_n C.1 C.2.1 dL_law_692 rfl (lv_at hl 3 rfl) ?_
  refine lv_iload_n C.1 C.2.1 dL_law_693 rfl (lv_at hl 0 rfl) ?_
  refine lv_iconst (v := nI 1) C.1 C.2.1 dL_law_694 (by decide) ?_
  refine xadd C dL_law_695 ?_
  refine xsld C hX hbl hbA hW (by omega) hn dL_law_696 ?_
  refine lv_aload_n C.1 C.2.1 dL_law_697 rfl (lv_at hl 3 rfl) ?_
  refine lv_iload_n C.1 C.2.1 dL_law_698 rfl (lv_at hl 0 rfl) ?_
  refine lv_iconst (v := nI 2) C.1 C.2.1 dL_law_699 (by decide) ?_
  refine xadd C dL_law_700 ?_
  refine xsld C hX hbl hbA hW (by omega) hn dL_law_701 ?_
  refine xcV_l (n := 2) (As := [.int (xs (i + 1)), .int (xs (i + 2))]) C hK hW (c_X6_down l g w L K T ln sz hk tn Z (xs (i + 1)) (xs (i + 2)) hW.2.2.1 hN hS hXA) gL_law_X6_down rfl ⟨rfl, rfl⟩ (by decide +kernel) ⟨(Nat.le_of_ble_eq_true rfl), (Nat.le_of_ble_eq_true rfl)⟩ ⟨Nat.le_refl _, Nat.le_refl _⟩ rfl (by omega) hXA.1 rfl hl rfl (Nat.le_of_ble_eq_true rfl) dL_law_702 (fun r1 w1 H locs q1 hW => ?_)
  obtain ⟨hA1, f1, e1⟩ := q1
  have hB1 := hMA.fr (fun j hj => f1 j (by omega))
  refine lv_aload_n C.1 C.2.1 dL_law_705 rfl (lv_at hl 1 rfl) ?_
  refine lv_aload_n C.1 C.2.1 dL_law_706 rfl (lv_at hl 3 rfl) ?_
  refine lv_iload_n C.1 C.2.1 dL_law_707 rfl (lv_at hl 0 rfl) ?_
  refine lv_iconst (v := nI 1) C.1 C.2.1 dL_law_708 (by decide) ?_
  refine xadd C dL_law_709 ?_
  refine xsld C hX hbl hbA hW (by omega) hn dL_law_710 ?_
  refine lv_aload_n C.1 C.2.1 dL_law_711 rfl (lv_at hl 3 rfl) ?_
  refine lv_iload_n C.1 C.2.1 dL_law_712 rfl (lv_at hl 0 rfl) ?_
  refine lv_iconst (v := nI 2) C.1 C.2.1 dL_law_713 (by decide) ?_
  refine xadd C dL_law_714 ?_
  refine xsld C hX hbl hbA hW (by omega) hn dL_law_715 ?_
  obtain ⟨_, _, _, _, _, _, _, _, _, _, _, _, hm0, _⟩ := id hB1
  refine xcV_l (n := 2) (As := [.int (xs (i + 1)), .int (xs (i + 2))]) C hK hW (c_X7_down l g w1 L K T ln sz hk tn Z (xs (i + 1)) (xs (i + 2)) hW.2.2.1 hN hS hB1) gL_law_X7_down rfl ⟨rfl, rfl⟩ (by decide +kernel) ⟨(Nat.le_of_ble_eq_true rfl), (Nat.le_of_ble_eq_true rfl)⟩ ⟨Nat.le_refl _, Nat.le_refl _⟩ rfl (by omega) hm0 rfl hl rfl (Nat.le_of_ble_eq_true rfl) dL_law_716 (fun r2 w2 H locs q2 hW => ?_)
  obtain ⟨hA2, f2, e2⟩ := q2
  have hB2 := hA1.fr (fun j hj => f2 j (by omega))
  exact xReq (tgt := 1296) C dL_law_719 dL_law_720 (by decide) (fun _ => kk _ w2 _ _ (hS) hB2 hA2 hW) (fun h => absurd (e1.trans e2.symm) h)

set_option maxHeartbeats 4000000 in
set_option maxRecDepth 100000 in
theorem law_19 (C : CallFix p m c code 4 s #[Value.ref b] wsL_law RL) (hK : WK g s) (hN : gN g = 130) (hX : va_X b n xs s s.heap) (hbl : b < s.heap.size) (hn : n ≤ 448) (hi : i + 7 ≤ n) (hS : OkS (L, K, hk, tn, T, ln, sz, Z)) (hXA : XAll g (L, K, hk, tn, T, ln, sz, Z) w) (hMA : MAll g (L, K, hk, tn, T, ln, sz, Z) w) (hW : XW g w (lwA s) s.heap H locs) (hl : lv_has ls 4 [(3, .int (nI i)), (2, .ref (gad g 119)), (1, .ref (gad g 0)), (0, .ref b)]) (kk : ∀ (S' : GS) (w' : Nat → va_E) (H1 : Heap) (locs1 : List Loc), OkS S' → XAll g S' w' → MAll g S' w' → XW g w' (lwA s) s.heap H1 locs1 → LW p l e s m below meth c b H1 locs1 (F0 m 1296 ls [])) : LW p l e s m below meth c b H locs (F0 m 725 ls []) := by
  have hbA : ¬ lwA s b := Nat.not_le.mpr hbl
  refine lv_aload_n C.1 C.2.1 dL_law_725 rfl (lv_at hl 2 rfl) ?_
  refine lv_aload_n C.1 C.2.1 dL_law_726 rfl (lv_at hl 3 rfl) ?_
  refine lv_iload_n C.1 C.2.1 dL_law_727 rfl (lv_at hl 0 rfl) ?_
  refine lv_iconst (v := nI 1) C.1 C.2.1 dL_law_728 (by decide) ?_
  refine xadd C dL_law_729 ?_
  refine xsld C hX hbl hbA hW (by omega) hn dL_law_730 ?_
  refine lv_aload_n C.1 C.2.1 dL_law_731 rfl (lv_at hl 3 rfl) ?_
  refine lv_iload_n C.1 C.2.1 dL_law_732 rfl (lv_at hl 0 rfl) ?_
  refine lv_iconst (v := nI 2) C.1 C.2.1 dL_law_733 (by decide) ?_
  refine xadd C dL_law_734 ?_
  refine xsld C hX hbl hbA hW (by omega) hn dL_law_735 ?_
  refine xcV_i (n := 2) (As := [.int (xs (i + 1)), .int (xs (i + 2))]) C hK hW (c_X6_keep l g w L K T ln sz hk tn Z (xs (i + 1)) (xs (i + 2)) hW.2.2.1 hN hS hXA) gL_law_X6_keep rfl ⟨rfl, rfl⟩ (by decide +kernel) ⟨(Nat.le_of_ble_eq_true rfl), (Nat.le_of_ble_eq_true rfl)⟩ ⟨Nat.le_refl _, Nat.le_refl _⟩ rfl (by omega) hXA.1 rfl hl rfl (Nat.le_of_ble_eq_true rfl) dL_law_736 (fun r1 w1 H locs q1 hW => ?_)
  obtain ⟨hA1, f1, e1⟩ := q1
  have hB1 := hMA.fr (fun j hj => f1 j (by omega))
  refine lv_aload_n C.1 C.2.1 dL_law_739 rfl (lv_at hl 1 rfl) ?_
  refine lv_aload_n C.1 C.2.1 dL_law_740 rfl (lv_at hl 3 rfl) ?_
  refine lv_iload_n C.1 C.2.1 dL_law_741 rfl (lv_at hl 0 rfl) ?_
  refine lv_iconst (v := nI 1) C.1 C.2.1 dL_law_742 (by decide) ?_
  refine xadd C dL_law_743 ?_
  refine xsld C hX hbl hbA hW (by omega) hn dL_law_744 ?_
  refine lv_aload_n C.1 C.2.1 dL_law_745 rfl (lv_at hl 3 rfl) ?_
  refine lv_iload_n C.1 C.2.1 dL_law_746 rfl (lv_at hl 0 rfl) ?_
  refine lv_iconst (v := nI 2) C.1 C.2.1 dL_law_747 (by decide) ?_
  refine xadd C dL_law_748 ?_
  refine xsld C hX hbl hbA hW (by omega) hn dL_law_749 ?_
  obtain ⟨_, _, _, _, _, _, _, _, _, _, _, _, hm0, _⟩ := id hB1
  refine xcV_i (n := 2) (As := [.int (xs (i + 1)), .int (xs (i + 2))]) C hK hW (c_X7_keep l g w1 L K T ln sz hk tn Z (xs (i + 1)) (xs (i + 2)) hW.2.2.1 hN hS hB1) gL_law_X7_keep rfl ⟨rfl, rfl⟩ (by decide +kernel) ⟨(Nat.le_of_ble_eq_true rfl), (Nat.le_of_ble_eq_true rfl)⟩ ⟨Nat.le_refl _, Nat.le_refl _⟩ rfl (by omega) hm0 rfl hl rfl (Nat.le_of_ble_eq_true rfl) dL_law_750 (fun r2 w2 H locs q2 hW => ?_)
  obtain ⟨hA2, f2, e2⟩ := q2
  have hB2 := hA1.fr (fun j hj => f2 j (by omega))
  exact lv_icmp_eq (tgt := 1296) C.1 C.2.1 dL_law_753 (by decide) (fun _ => kk _ w2 _ _ (hS) hB2 hA2 hW) (fun h => absurd (e1.trans e2.symm) h)

set_option maxHeartbeats 4000000 in
set_option maxRecDepth 100000 in
theorem law_20 (C : CallFix p m c code 4 s #[Value.ref b] wsL_law RL) (hK : WK g s) (hN : gN g = 130) (hX : va_X b n xs s s.heap) (hbl : b < s.heap.size) (hn : n ≤ 448) (hi : i + 7 ≤ n) (hS : OkS (L, K, hk, tn, T, ln, sz, Z)) (hXA : XAll g (L, K, hk, tn, T, ln, sz, Z) w) (hMA : MAll g (L, K, hk, tn, T, ln, sz, Z) w) (hW : XW g w (lwA s) s.heap H locs) (hl : lv_has ls 4 [(3, .int (nI i)), (2, .ref (gad g 119)), (1, .ref (gad g 0)), (0, .ref b)]) (kk : ∀ (S' : GS) (w' : Nat → va_E) (H1 : Heap) (locs1 : List Loc), OkS S' → XAll g S' w' → MAll g S' w' → XW g w' (lwA s) s.heap H1 locs1 → LW p l e s m below meth c b H1 locs1 (F0 m 1296 ls [])) : LW p l e s m below meth c b H locs (F0 m 758 ls []) := by
  have hbA : ¬ lwA s b := Nat.not_le.mpr hbl
  refine lv_aload_n C.1 C.2.1 dL_law_758 rfl (lv_at hl 2 rfl) ?_
  refine lv_aload_n C.1 C.2.1 dL_law_759 rfl (lv_at hl 3 rfl) ?_
  refine lv_iload_n C.1 C.2.1 dL_law_760 rfl (lv_at hl 0 rfl) ?_
  refine lv_iconst (v := nI 1) C.1 C.2.1 dL_law_761 (by decide) ?_
  refine xadd C dL_law_762 ?_
  refine xsld C hX hbl hbA hW (by omega) hn dL_law_763 ?_
  refine lv_aload_n C.1 C.2.1 dL_law_764 rfl (lv_at hl 3 rfl) ?_
  refine lv_iload_n C.1 C.2.1 dL_law_765 rfl (lv_at hl 0 rfl) ?_
  refine lv_iconst (v := nI 2) C.1 C.2.1 dL_law_766 (by decide) ?_
  refine xadd C dL_law_767 ?_
  refine xsld C hX hbl hbA hW (by omega) hn dL_law_768 ?_
  refine xcV_i (n := 2) (As := [.int (xs (i + 1)), .int (xs (i + 2))]) C hK hW (c_X6_early l g w L K T ln sz hk tn Z (xs (i + 1)) (xs (i + 2)) hW.2.2.1 hN hS hXA) gL_law_X6_early rfl ⟨rfl, rfl⟩ (by decide +kernel) ⟨(Nat.le_of_ble_eq_true rfl), (Nat.le_of_ble_eq_true rfl)⟩ ⟨Nat.le_refl _, Nat.le_refl _⟩ rfl (by omega) hXA.1 rfl hl rfl (Nat.le_of_ble_eq_true rfl) dL_law_769 (fun r1 w1 H locs q1 hW => ?_)
  obtain ⟨hA1, f1, e1⟩ := q1
  have hB1 := hMA.fr (fun j hj => f1 j (by omega))
  refine lv_aload_n C.1 C.2.1 dL_law_772 rfl (lv_at hl 1 rfl) ?_
  refine lv_aload_n C.1 C.2.1 dL_law_773 rfl (lv_at hl 3 rfl) ?_
  refine lv_iload_n C.1 C.2.1 dL_law_774 rfl (lv_at hl 0 rfl) ?_
  refine lv_iconst (v := nI 1) C.1 C.2.1 dL_law_775 (by decide) ?_
  refine xadd C dL_law_776 ?_
  refine xsld C hX hbl hbA hW (by omega) hn dL_law_777 ?_
  refine lv_aload_n C.1 C.2.1 dL_law_778 rfl (lv_at hl 3 rfl) ?_
  refine lv_iload_n C.1 C.2.1 dL_law_779 rfl (lv_at hl 0 rfl) ?_
  refine lv_iconst (v := nI 2) C.1 C.2.1 dL_law_780 (by decide) ?_
  refine xadd C dL_law_781 ?_
  refine xsld C hX hbl hbA hW (by omega) hn dL_law_782 ?_
  obtain ⟨_, _, _, _, _, _, _, _, _, _, _, _, hm0, _⟩ := id hB1
  refine xcV_i (n := 2) (As := [.int (xs (i + 1)), .int (xs (i + 2))]) C hK hW (c_X7_early l g w1 L K T ln sz hk tn Z (xs (i + 1)) (xs (i + 2)) hW.2.2.1 hN hS hB1) gL_law_X7_early rfl ⟨rfl, rfl⟩ (by decide +kernel) ⟨(Nat.le_of_ble_eq_true rfl), (Nat.le_of_ble_eq_true rfl)⟩ ⟨Nat.le_refl _, Nat.le_refl _⟩ rfl (by omega) hm0 rfl hl rfl (Nat.le_of_ble_eq_true rfl) dL_law_783 (fun r2 w2 H locs q2 hW => ?_)
  obtain ⟨hA2, f2, e2⟩ := q2
  have hB2 := hA1.fr (fun j hj => f2 j (by omega))
  exact lv_icmp_eq (tgt := 1296) C.1 C.2.1 dL_law_786 (by decide) (fun _ => kk _ w2 _ _ (hS) hB2 hA2 hW) (fun h => absurd (e1.trans e2.symm) h)

set_option maxHeartbeats 4000000 in
set_option maxRecDepth 100000 in
theorem law_21 (C : CallFix p m c code 4 s #[Value.ref b] wsL_law RL) (hK : WK g s) (hN : gN g = 130) (hX : va_X b n xs s s.heap) (hbl : b < s.heap.size) (hn : n ≤ 448) (hi : i + 7 ≤ n) (hS : OkS (L, K, hk, tn, T, ln, sz, Z)) (hXA : XAll g (L, K, hk, tn, T, ln, sz, Z) w) (hMA : MAll g (L, K, hk, tn, T, ln, sz, Z) w) (hW : XW g w (lwA s) s.heap H locs) (hl : lv_has ls 4 [(3, .int (nI i)), (2, .ref (gad g 119)), (1, .ref (gad g 0)), (0, .ref b)]) (kk : ∀ (S' : GS) (w' : Nat → va_E) (H1 : Heap) (locs1 : List Loc), OkS S' → XAll g S' w' → MAll g S' w' → XW g w' (lwA s) s.heap H1 locs1 → LW p l e s m below meth c b H1 locs1 (F0 m 1296 ls [])) : LW p l e s m below meth c b H locs (F0 m 791 ls []) := by
  have hbA : ¬ lwA s b := Nat.not_le.mpr hbl
  refine lv_aload_n C.1 C.2.1 dL_law_791 rfl (lv_at hl 2 rfl) ?_
  refine lv_aload_n C.1 C.2.1 dL_law_792 rfl (lv_at hl 3 rfl) ?_
  refine lv_iload_n C.1 C.2.1 dL_law_793 rfl (lv_at hl 0 rfl) ?_
  refine lv_iconst (v := nI 1) C.1 C.2.1 dL_law_794 (by decide) ?_
  refine xadd C dL_law_795 ?_
  refine xsld C hX hbl hbA hW (by omega) hn dL_law_796 ?_
  refine xcV_i (n := 1) (As := [.int (xs (i + 1))]) C hK hW (c_X6_next l g w L K T ln sz hk tn Z (xs (i + 1)) hW.2.2.1 hN hS hXA) gL_law_X6_next rfl ⟨rfl, rfl⟩ (by decide +kernel) ⟨(Nat.le_of_ble_eq_true rfl), (Nat.le_of_ble_eq_true rfl)⟩ ⟨Nat.le_refl _, Nat.le_refl _⟩ rfl (by omega) hXA.1 rfl hl rfl (Nat.le_of_ble_eq_true rfl) dL_law_797 (fun r1 w1 H locs q1 hW => ?_)
  obtain ⟨hA1, f1, e1⟩ := q1
  have hB1 := hMA.fr (fun j hj => f1 j (by omega))
  refine lv_aload_n C.1 C.2.1 dL_law_800 rfl (lv_at hl 1 rfl) ?_
  refine lv_aload_n C.1 C.2.1 dL_law_801 rfl (lv_at hl 3 rfl) ?_
  refine lv_iload_n C.1 C.2.1 dL_law_802 rfl (lv_at hl 0 rfl) ?_
  refine lv_iconst (v := nI 1) C.1 C.2.1 dL_law_803 (by decide) ?_
  refine xadd C dL_law_804 ?_
  refine xsld C hX hbl hbA hW (by omega) hn dL_law_805 ?_
  obtain ⟨_, _, _, _, _, _, _, _, _, _, _, _, hm0, _⟩ := id hB1
  refine xcV_i (n := 1) (As := [.int (xs (i + 1))]) C hK hW (c_X7_next l g w1 L K T ln sz hk tn Z (xs (i + 1)) hW.2.2.1 hN hS hB1) gL_law_X7_next rfl ⟨rfl, rfl⟩ (by decide +kernel) ⟨(Nat.le_of_ble_eq_true rfl), (Nat.le_of_ble_eq_true rfl)⟩ ⟨Nat.le_refl _, Nat.le_refl _⟩ rfl (by omega) hm0 rfl hl rfl (Nat.le_of_ble_eq_true rfl) dL_law_806 (fun r2 w2 H locs q2 hW => ?_)
  obtain ⟨hA2, f2, e2⟩ := q2
  have hB2 := hA1.fr (fun j hj => f2 j (by omega))
  exact lv_icmp_eq (tgt := 1296) C.1 C.2.1 dL_law_809 (by decide) (fun _ => kk _ w2 _ _ (hS) hB2 hA2 hW) (fun h => absurd (e1.trans e2.symm) h)

set_option maxHeartbeats 4000000 in
set_option maxRecDepth 100000 in
theorem law_22 (C : CallFix p m c code 4 s #[Value.ref b] wsL_law RL) (hK : WK g s) (hN : gN g = 130) (hX : va_X b n xs s s.heap) (hbl : b < s.heap.size) (hn : n ≤ 448) (hi : i + 7 ≤ n) (hS : OkS (L, K, hk, tn, T, ln, sz, Z)) (hXA : XAll g (L, K, hk, tn, T, ln, sz, Z) w) (hMA : MAll g (L, K, hk, tn, T, ln, sz, Z) w) (hW : XW g w (lwA s) s.heap H locs) (hl : lv_has ls 4 [(3, .int (nI i)), (2, .ref (gad g 119)), (1, .ref (gad g 0)), (0, .ref b)]) (kk : ∀ (S' : GS) (w' : Nat → va_E) (H1 : Heap) (locs1 : List Loc), OkS S' → XAll g S' w' → MAll g S' w' → XW g w' (lwA s) s.heap H1 locs1 → LW p l e s m below meth c b H1 locs1 (F0 m 1296 ls [])) : LW p l e s m below meth c b H locs (F0 m 814 ls []) := by
  have hbA : ¬ lwA s b := Nat.not_le.mpr hbl
  refine lv_aload_n C.1 C.2.1 dL_law_814 rfl (lv_at hl 2 rfl) ?_
  refine lv_aload_n C.1 C.2.1 dL_law_815 rfl (lv_at hl 3 rfl) ?_
  refine lv_iload_n C.1 C.2.1 dL_law_816 rfl (lv_at hl 0 rfl) ?_
  refine lv_iconst (v := nI 1) C.1 C.2.1 dL_law_817 (by decide) ?_
  refine xadd C dL_law_818 ?_
  refine xsld C hX hbl hbA hW (by omega) hn dL_law_819 ?_
  refine lv_aload_n C.1 C.2.1 dL_law_820 rfl (lv_at hl 3 rfl) ?_
  refine lv_iload_n C.1 C.2.1 dL_law_821 rfl (lv_at hl 0 rfl) ?_
  refine lv_iconst (v := nI 2) C.1 C.2.1 dL_law_822 (by decide) ?_
  refine xadd C dL_law_823 ?_
  refine xsld C hX hbl hbA hW (by omega) hn dL_law_824 ?_
  refine lv_aload_n C.1 C.2.1 dL_law_825 rfl (lv_at hl 3 rfl) ?_
  refine lv_iload_n C.1 C.2.1 dL_law_826 rfl (lv_at hl 0 rfl) ?_
  refine lv_iconst (v := nI 3) C.1 C.2.1 dL_law_827 (by decide) ?_
  refine xadd C dL_law_828 ?_
  refine xsld C hX hbl hbA hW (by omega) hn dL_law_829 ?_
  refine lv_aload_n C.1 C.2.1 dL_law_830 rfl (lv_at hl 3 rfl) ?_
  refine lv_iload_n C.1 C.2.1 dL_law_831 rfl (lv_at hl 0 rfl) ?_
  refine lv_iconst (v := nI 4) C.1 C.2.1 dL_law_832 (by decide) ?_
  refine xadd C dL_law_833 ?_
  refine xsld C hX hbl hbA hW (by omega) hn dL_law_834 ?_
  refine xcV_i (n := 4) (As := [.int (xs (i + 1)), .int (xs (i + 2)), .int (xs (i + 3)), .int (xs (i + 4))]) C hK hW (c_X6_winter l g w L K T ln sz hk tn Z (xs (i + 1)) (xs (i + 2)) (xs (i + 3)) (xs (i + 4)) hW.2.2.1 hN hS hXA) gL_law_X6_winter rfl ⟨rfl, rfl⟩ (by decide +kernel) ⟨(Nat.le_of_ble_eq_true rfl), (Nat.le_of_ble_eq_true rfl)⟩ ⟨Nat.le_refl _, Nat.le_refl _⟩ rfl (by omega) hXA.1 rfl hl rfl (Nat.le_of_ble_eq_true rfl) dL_law_835 (fun r1 w1 H locs q1 hW => ?_)
  obtain ⟨hA1, f1, e1⟩ := q1
  have hB1 := hMA.fr (fun j hj => f1 j (by omega))
  refine lv_aload_n C.1 C.2.1 dL_law_838 rfl (lv_at hl 1 rfl) ?_
  refine lv_aload_n C.1 C.2.1 dL_law_839 rfl (lv_at hl 3 rfl) ?_
  refine lv_iload_n C.1 C.2.1 dL_law_840 rfl (lv_at hl 0 rfl) ?_
  refine lv_iconst (v := nI 1) C.1 C.2.1 dL_law_841 (by decide) ?_
  refine xadd C dL_law_842 ?_
  refine xsld C hX hbl hbA hW (by omega) hn dL_law_843 ?_
  refine lv_aload_n C.1 C.2.1 dL_law_844 rfl (lv_at hl 3 rfl) ?_
  refine lv_iload_n C.1 C.2.1 dL_law_845 rfl (lv_at hl 0 rfl) ?_
  refine lv_iconst (v := nI 2) C.1 C.2.1 dL_law_846 (by decide) ?_
  refine xadd C dL_law_847 ?_
  refine xsld C hX hbl hbA hW (by omega) hn dL_law_848 ?_
  refine lv_aload_n C.1 C.2.1 dL_law_849 rfl (lv_at hl 3 rfl) ?_
  refine lv_iload_n C.1 C.2.1 dL_law_850 rfl (lv_at hl 0 rfl) ?_
  refine lv_iconst (v := nI 3) C.1 C.2.1 dL_law_851 (by decide) ?_
  refine xadd C dL_law_852 ?_
  refine xsld C hX hbl hbA hW (by omega) hn dL_law_853 ?_
  refine lv_aload_n C.1 C.2.1 dL_law_854 rfl (lv_at hl 3 rfl) ?_
  refine lv_iload_n C.1 C.2.1 dL_law_855 rfl (lv_at hl 0 rfl) ?_
  refine lv_iconst (v := nI 4) C.1 C.2.1 dL_law_856 (by decide) ?_
  refine xadd C dL_law_857 ?_
  refine xsld C hX hbl hbA hW (by omega) hn dL_law_858 ?_
  obtain ⟨_, _, _, _, _, _, _, _, _, _, _, _, hm0, _⟩ := id hB1
  refine xcV_i (n := 4) (As := [.int (xs (i + 1)), .int (xs (i + 2)), .int (xs (i + 3)), .int (xs (i + 4))]) C hK hW (c_X7_winter l g w1 L K T ln sz hk tn Z (xs (i + 1)) (xs (i + 2)) (xs (i + 3)) (xs (i + 4)) hW.2.2.1 hN hS hB1) gL_law_X7_winter rfl ⟨rfl, rfl⟩ (by decide +kernel) ⟨(Nat.le_of_ble_eq_true rfl), (Nat.le_of_ble_eq_true rfl)⟩ ⟨Nat.le_refl _, Nat.le_refl _⟩ rfl (by omega) hm0 rfl hl rfl (Nat.le_of_ble_eq_true rfl) dL_law_859 (fun r2 w2 H locs q2 hW => ?_)
  obtain ⟨hA2, f2, e2⟩ := q2
  have hB2 := hA1.fr (fun j hj => f2 j (by omega))
  exact lv_icmp_eq (tgt := 1296) C.1 C.2.1 dL_law_862 (by decide) (fun _ => kk _ w2 _ _ (hS) hB2 hA2 hW) (fun h => absurd (e1.trans e2.symm) h)

set_option maxHeartbeats 4000000 in
set_option maxRecDepth 100000 in
theorem law_23 (C : CallFix p m c code 4 s #[Value.ref b] wsL_law RL) (hK : WK g s) (hN : gN g = 130) (hX : va_X b n xs s s.heap) (hbl : b < s.heap.size) (hn : n ≤ 448) (hi : i + 7 ≤ n) (hS : OkS (L, K, hk, tn, T, ln, sz, Z)) (hXA : XAll g (L, K, hk, tn, T, ln, sz, Z) w) (hMA : MAll g (L, K, hk, tn, T, ln, sz, Z) w) (hW : XW g w (lwA s) s.heap H locs) (hl : lv_has ls 4 [(3, .int (nI i)), (2, .ref (gad g 119)), (1, .ref (gad g 0)), (0, .ref b)]) (kk : ∀ (S' : GS) (w' : Nat → va_E) (H1 : Heap) (locs1 : List Loc), OkS S' → XAll g S' w' → MAll g S' w' → XW g w' (lwA s) s.heap H1 locs1 → LW p l e s m below meth c b H1 locs1 (F0 m 1296 ls [])) : LW p l e s m below meth c b H locs (F0 m 867 ls []) := by
  have hbA : ¬ lwA s b := Nat.not_le.mpr hbl
  refine lv_aload_n C.1 C.2.1 dL_law_867 rfl (lv_at hl 2 rfl) ?_
  refine xcV_i (n := 0) (As := []) C hK hW (c_X6_image l g w L K T ln sz hk tn Z  hW.2.2.1 hN hS hXA) gL_law_X6_image rfl ⟨rfl, rfl⟩ (by decide +kernel) ⟨(Nat.le_of_ble_eq_true rfl), (Nat.le_of_ble_eq_true rfl)⟩ ⟨Nat.le_refl _, Nat.le_refl _⟩ rfl (by omega) hXA.1 rfl hl rfl (Nat.le_of_ble_eq_true rfl) dL_law_868 (fun r1 w1 H locs q1 hW => ?_)
  obtain ⟨hA1, f1, e1⟩ := q1
  have hB1 := hMA.fr (fun j hj => f1 j (by omega))
  refine lv_aload_n C.1 C.2.1 dL_law_871 rfl (lv_at hl 1 rfl) ?_
  obtain ⟨_, _, _, _, _, _, _, _, _, _, _, _, hm0, _⟩ := id hB1
  refine xcV_i (n := 0) (As := []) C hK hW (c_X7_image l g w1 L K T ln sz hk tn Z  hW.2.2.1 hN hS hB1) gL_law_X7_image rfl ⟨rfl, rfl⟩ (by decide +kernel) ⟨(Nat.le_of_ble_eq_true rfl), (Nat.le_of_ble_eq_true rfl)⟩ ⟨Nat.le_refl _, Nat.le_refl _⟩ rfl (by omega) hm0 rfl hl rfl (Nat.le_of_ble_eq_true rfl) dL_law_872 (fun r2 w2 H locs q2 hW => ?_)
  obtain ⟨hA2, f2, e2⟩ := q2
  have hB2 := hA1.fr (fun j hj => f2 j (by omega))
  exact lv_icmp_eq (tgt := 1296) C.1 C.2.1 dL_law_875 (by decide) (fun _ => kk _ w2 _ _ (ok_image hS) hB2 hA2 hW) (fun h => absurd (e1.trans e2.symm) h)

end LAWC
