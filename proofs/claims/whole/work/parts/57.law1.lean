/-! the law's cases, further -/
section LAWC
variable {p : Program} {l : Launch} {e : Env} {s : State} {m : MethodId} {below : List Frame} {meth : Method} {c : Code} {H : Heap} {locs : List Loc} {ls : Array Slot} {rest : List Value} {g : GE} {w : Nat → va_E} {xs : Nat → Int32} {b n i hk tn : Nat} {L K T ln sz : Nat → Nat} {Z : Nat → Int64}
set_option maxHeartbeats 4000000 in
set_option maxRecDepth 100000 in
theorem law_8 (C : CallFix p m c code 4 s #[Value.ref b] wsL_law RL) (hK : WK g s) (hN : gN g = 130) (hX : va_X b n xs s s.heap) (hbl : b < s.heap.size) (hn : n ≤ 448) (hi : i + 7 ≤ n) (hS : OkS (L, K, hk, tn, T, ln, sz, Z)) (hXA : XAll g (L, K, hk, tn, T, ln, sz, Z) w) (hMA : MAll g (L, K, hk, tn, T, ln, sz, Z) w) (hW : XW g w (lwA s) s.heap H locs) (hl : lv_has ls 4 [(3, .int (nI i)), (2, .ref (gad g 119)), (1, .ref (gad g 0)), (0, .ref b)]) (kk : ∀ (S' : GS) (w' : Nat → va_E) (H1 : Heap) (locs1 : List Loc), OkS S' → XAll g S' w' → MAll g S' w' → XW g w' (lwA s) s.heap H1 locs1 → LW p l e s m below meth c b H1 locs1 (F0 m 1296 ls [])) : LW p l e s m below meth c b H locs (F0 m 400 ls []) := by
  have hbA : ¬ lwA s b := Nat.not_le.mpr hbl
  refine lv_aload_n C.1 C.2.1 dL_law_400 rfl (lv_at hl 2 rfl) ?_
  refine lv_aload_n C.1 C.2.1 dL_law_401 rfl (lv_at hl 3 rfl) ?_
  refine lv_iload_n C.1 C.2.1 dL_law_402 rfl (lv_at hl 0 rfl) ?_
  refine lv_iconst (v := nI 1) C.1 C.2.1 dL_law_403 (by decide) ?_
  refine xadd C dL_law_404 ?_
  refine xsld C hX hbl hbA hW (by omega) hn dL_law_405 ?_
  refine xcV_i (n := 1) (As := [.int (xs (i + 1))]) C hK hW (c_X6_carry l g w L K T ln sz hk tn Z (xs (i + 1)) hW.2.2.1 hN hS hXA) gL_law_X6_carry rfl ⟨rfl, rfl⟩ (by decide +kernel) ⟨(Nat.le_of_ble_eq_true rfl), (Nat.le_of_ble_eq_true rfl)⟩ ⟨Nat.le_refl _, Nat.le_refl _⟩ rfl (by omega) hXA.1 rfl hl rfl (Nat.le_of_ble_eq_true rfl) dL_law_406 (fun r1 w1 H locs q1 hW => ?_)
  obtain ⟨hA1, f1, e1⟩ := q1
  have hB1 := hMA.fr (fun j hj => f1 j (by omega))
  refine lv_aload_n C.1 C.2.1 dL_law_409 rfl (lv_at hl 1 rfl) ?_
  refine lv_aload_n C.1 C.2.1 dL_law_410 rfl (lv_at hl 3 rfl) ?_
  refine lv_iload_n C.1 C.2.1 dL_law_411 rfl (lv_at hl 0 rfl) ?_
  refine lv_iconst (v := nI 1) C.1 C.2.1 dL_law_412 (by decide) ?_
  refine xadd C dL_law_413 ?_
  refine xsld C hX hbl hbA hW (by omega) hn dL_law_414 ?_
  obtain ⟨_, _, _, _, _, _, _, _, _, _, _, _, hm0, _⟩ := id hB1
  refine xcV_i (n := 1) (As := [.int (xs (i + 1))]) C hK hW (c_X7_carry l g w1 L K T ln sz hk tn Z (xs (i + 1)) hW.2.2.1 hN hS hB1) gL_law_X7_carry rfl ⟨rfl, rfl⟩ (by decide +kernel) ⟨(Nat.le_of_ble_eq_true rfl), (Nat.le_of_ble_eq_true rfl)⟩ ⟨Nat.le_refl _, Nat.le_refl _⟩ rfl (by omega) hm0 rfl hl rfl (Nat.le_of_ble_eq_true rfl) dL_law_415 (fun r2 w2 H locs q2 hW => ?_)
  obtain ⟨hA2, f2, e2⟩ := q2
  have hB2 := hA1.fr (fun j hj => f2 j (by omega))
  exact lv_icmp_eq (tgt := 1296) C.1 C.2.1 dL_law_418 (by decide) (fun _ => kk _ w2 _ _ (ok_L hS (OkL.carry hS.1)) hB2 hA2 hW) (fun h => absurd (e1.trans e2.symm) h)

set_option maxHeartbeats 4000000 in
set_option maxRecDepth 100000 in
theorem law_9 (C : CallFix p m c code 4 s #[Value.ref b] wsL_law RL) (hK : WK g s) (hN : gN g = 130) (hX : va_X b n xs s s.heap) (hbl : b < s.heap.size) (hn : n ≤ 448) (hi : i + 7 ≤ n) (hS : OkS (L, K, hk, tn, T, ln, sz, Z)) (hXA : XAll g (L, K, hk, tn, T, ln, sz, Z) w) (hMA : MAll g (L, K, hk, tn, T, ln, sz, Z) w) (hW : XW g w (lwA s) s.heap H locs) (hl : lv_has ls 4 [(3, .int (nI i)), (2, .ref (gad g 119)), (1, .ref (gad g 0)), (0, .ref b)]) (kk : ∀ (S' : GS) (w' : Nat → va_E) (H1 : Heap) (locs1 : List Loc), OkS S' → XAll g S' w' → MAll g S' w' → XW g w' (lwA s) s.heap H1 locs1 → LW p l e s m below meth c b H1 locs1 (F0 m 1296 ls [])) : LW p l e s m below meth c b H locs (F0 m 423 ls []) := by
  have hbA : ¬ lwA s b := Nat.not_le.mpr hbl
  refine lv_aload_n C.1 C.2.1 dL_law_423 rfl (lv_at hl 2 rfl) ?_
  refine lv_aload_n C.1 C.2.1 dL_law_424 rfl (lv_at hl 3 rfl) ?_
  refine lv_iload_n C.1 C.2.1 dL_law_425 rfl (lv_at hl 0 rfl) ?_
  refine lv_iconst (v := nI 1) C.1 C.2.1 dL_law_426 (by decide) ?_
  refine xadd C dL_law_427 ?_
  refine xsld C hX hbl hbA hW (by omega) hn dL_law_428 ?_
  refine lv_aload_n C.1 C.2.1 dL_law_429 rfl (lv_at hl 3 rfl) ?_
  refine lv_iload_n C.1 C.2.1 dL_law_430 rfl (lv_at hl 0 rfl) ?_
  refine lv_iconst (v := nI 2) C.1 C.2.1 dL_law_431 (by decide) ?_
  refine xadd C dL_law_432 ?_
  refine xsld C hX hbl hbA hW (by omega) hn dL_law_433 ?_
  refine xcV_i (n := 2) (As := [.int (xs (i + 1)), .int (xs (i + 2))]) C hK hW (c_X6_lettuce l g w L K T ln sz hk tn Z (xs (i + 1)) (xs (i + 2)) hW.2.2.1 hN hS hXA) gL_law_X6_lettuce rfl ⟨rfl, rfl⟩ (by decide +kernel) ⟨(Nat.le_of_ble_eq_true rfl), (Nat.le_of_ble_eq_true rfl)⟩ ⟨Nat.le_refl _, Nat.le_refl _⟩ rfl (by omega) hXA.1 rfl hl rfl (Nat.le_of_ble_eq_true rfl) dL_law_434 (fun r1 w1 H locs q1 hW => ?_)
  obtain ⟨hA1, f1, e1⟩ := q1
  have hB1 := hMA.fr (fun j hj => f1 j (by omega))
  refine lv_aload_n C.1 C.2.1 dL_law_437 rfl (lv_at hl 1 rfl) ?_
  refine lv_aload_n C.1 C.2.1 dL_law_438 rfl (lv_at hl 3 rfl) ?_
  refine lv_iload_n C.1 C.2.1 dL_law_439 rfl (lv_at hl 0 rfl) ?_
  refine lv_iconst (v := nI 1) C.1 C.2.1 dL_law_440 (by decide) ?_
  refine xadd C dL_law_441 ?_
  refine xsld C hX hbl hbA hW (by omega) hn dL_law_442 ?_
  refine lv_aload_n C.1 C.2.1 dL_law_443 rfl (lv_at hl 3 rfl) ?_
  refine lv_iload_n C.1 C.2.1 dL_law_444 rfl (lv_at hl 0 rfl) ?_
  refine lv_iconst (v := nI 2) C.1 C.2.1 dL_law_445 (by decide) ?_
  refine xadd C dL_law_446 ?_
  refine xsld C hX hbl hbA hW (by omega) hn dL_law_447 ?_
  obtain ⟨_, _, _, _, _, _, _, _, _, _, _, _, hm0, _⟩ := id hB1
  refine xcV_i (n := 2) (As := [.int (xs (i + 1)), .int (xs (i + 2))]) C hK hW (c_X7_lettuce l g w1 L K T ln sz hk tn Z (xs (i + 1)) (xs (i + 2)) hW.2.2.1 hN hS hB1) gL_law_X7_lettuce rfl ⟨rfl, rfl⟩ (by decide +kernel) ⟨(Nat.le_of_ble_eq_true rfl), (Nat.le_of_ble_eq_true rfl)⟩ ⟨Nat.le_refl _, Nat.le_refl _⟩ rfl (by omega) hm0 rfl hl rfl (Nat.le_of_ble_eq_true rfl) dL_law_448 (fun r2 w2 H locs q2 hW => ?_)
  obtain ⟨hA2, f2, e2⟩ := q2
  have hB2 := hA1.fr (fun j hj => f2 j (by omega))
  exact lv_icmp_eq (tgt := 1296) C.1 C.2.1 dL_law_451 (by decide) (fun _ => kk _ w2 _ _ (ok_L hS (OkL.lett hS.1)) hB2 hA2 hW) (fun h => absurd (e1.trans e2.symm) h)

set_option maxHeartbeats 4000000 in
set_option maxRecDepth 100000 in
theorem law_10 (C : CallFix p m c code 4 s #[Value.ref b] wsL_law RL) (hK : WK g s) (hN : gN g = 130) (hX : va_X b n xs s s.heap) (hbl : b < s.heap.size) (hn : n ≤ 448) (hi : i + 7 ≤ n) (hS : OkS (L, K, hk, tn, T, ln, sz, Z)) (hXA : XAll g (L, K, hk, tn, T, ln, sz, Z) w) (hMA : MAll g (L, K, hk, tn, T, ln, sz, Z) w) (hW : XW g w (lwA s) s.heap H locs) (hl : lv_has ls 4 [(3, .int (nI i)), (2, .ref (gad g 119)), (1, .ref (gad g 0)), (0, .ref b)]) (kk : ∀ (S' : GS) (w' : Nat → va_E) (H1 : Heap) (locs1 : List Loc), OkS S' → XAll g S' w' → MAll g S' w' → XW g w' (lwA s) s.heap H1 locs1 → LW p l e s m below meth c b H1 locs1 (F0 m 1296 ls [])) : LW p l e s m below meth c b H locs (F0 m 456 ls []) := by
  have hbA : ¬ lwA s b := Nat.not_le.mpr hbl
  refine lv_aload_n C.1 C.2.1 dL_law_456 rfl (lv_at hl 2 rfl) ?_
  refine lv_aload_n C.1 C.2.1 dL_law_457 rfl (lv_at hl 3 rfl) ?_
  refine lv_iload_n C.1 C.2.1 dL_law_458 rfl (lv_at hl 0 rfl) ?_
  refine lv_iconst (v := nI 1) C.1 C.2.1 dL_law_459 (by decide) ?_
  refine xadd C dL_law_460 ?_
  refine xsld C hX hbl hbA hW (by omega) hn dL_law_461 ?_
  refine lv_aload_n C.1 C.2.1 dL_law_462 rfl (lv_at hl 3 rfl) ?_
  refine lv_iload_n C.1 C.2.1 dL_law_463 rfl (lv_at hl 0 rfl) ?_
  refine lv_iconst (v := nI 2) C.1 C.2.1 dL_law_464 (by decide) ?_
  refine xadd C dL_law_465 ?_
  refine xsld C hX hbl hbA hW (by omega) hn dL_law_466 ?_
  refine xcV_i (n := 2) (As := [.int (xs (i + 1)), .int (xs (i + 2))]) C hK hW (c_X6_lay l g w L K T ln sz hk tn Z (xs (i + 1)) (xs (i + 2)) hW.2.2.1 hN hS hXA) gL_law_X6_lay rfl ⟨rfl, rfl⟩ (by decide +kernel) ⟨(Nat.le_of_ble_eq_true rfl), (Nat.le_of_ble_eq_true rfl)⟩ ⟨Nat.le_refl _, Nat.le_refl _⟩ rfl (by omega) hXA.1 rfl hl rfl (Nat.le_of_ble_eq_true rfl) dL_law_467 (fun r1 w1 H locs q1 hW => ?_)
  obtain ⟨hA1, f1, e1⟩ := q1
  have hB1 := hMA.fr (fun j hj => f1 j (by omega))
  refine lv_aload_n C.1 C.2.1 dL_law_470 rfl (lv_at hl 1 rfl) ?_
  refine lv_aload_n C.1 C.2.1 dL_law_471 rfl (lv_at hl 3 rfl) ?_
  refine lv_iload_n C.1 C.2.1 dL_law_472 rfl (lv_at hl 0 rfl) ?_
  refine lv_iconst (v := nI 1) C.1 C.2.1 dL_law_473 (by decide) ?_
  refine xadd C dL_law_474 ?_
  refine xsld C hX hbl hbA hW (by omega) hn dL_law_475 ?_
  refine lv_aload_n C.1 C.2.1 dL_law_476 rfl (lv_at hl 3 rfl) ?_
  refine lv_iload_n C.1 C.2.1 dL_law_477 rfl (lv_at hl 0 rfl) ?_
  refine lv_iconst (v := nI 2) C.1 C.2.1 dL_law_478 (by decide) ?_
  refine xadd C dL_law_479 ?_
  refine xsld C hX hbl hbA hW (by omega) hn dL_law_480 ?_
  obtain ⟨_, _, _, _, _, _, _, _, _, _, _, _, hm0, _⟩ := id hB1
  refine xcV_i (n := 2) (As := [.int (xs (i + 1)), .int (xs (i + 2))]) C hK hW (c_X7_lay l g w1 L K T ln sz hk tn Z (xs (i + 1)) (xs (i + 2)) hW.2.2.1 hN hS hB1) gL_law_X7_lay rfl ⟨rfl, rfl⟩ (by decide +kernel) ⟨(Nat.le_of_ble_eq_true rfl), (Nat.le_of_ble_eq_true rfl)⟩ ⟨Nat.le_refl _, Nat.le_refl _⟩ rfl (by omega) hm0 rfl hl rfl (Nat.le_of_ble_eq_true rfl) dL_law_481 (fun r2 w2 H locs q2 hW => ?_)
  obtain ⟨hA2, f2, e2⟩ := q2
  have hB2 := hA1.fr (fun j hj => f2 j (by omega))
  exact lv_icmp_eq (tgt := 1296) C.1 C.2.1 dL_law_484 (by decide) (fun _ => kk _ w2 _ _ (ok_L hS (OkL.lay hS.1)) hB2 hA2 hW) (fun h => absurd (e1.trans e2.symm) h)

set_option maxHeartbeats 4000000 in
set_option maxRecDepth 100000 in
theorem law_11 (C : CallFix p m c code 4 s #[Value.ref b] wsL_law RL) (hK : WK g s) (hN : gN g = 130) (hX : va_X b n xs s s.heap) (hbl : b < s.heap.size) (hn : n ≤ 448) (hi : i + 7 ≤ n) (hS : OkS (L, K, hk, tn, T, ln, sz, Z)) (hXA : XAll g (L, K, hk, tn, T, ln, sz, Z) w) (hMA : MAll g (L, K, hk, tn, T, ln, sz, Z) w) (hW : XW g w (lwA s) s.heap H locs) (hl : lv_has ls 4 [(3, .int (nI i)), (2, .ref (gad g 119)), (1, .ref (gad g 0)), (0, .ref b)]) (kk : ∀ (S' : GS) (w' : Nat → va_E) (H1 : Heap) (locs1 : List Loc), OkS S' → XAll g S' w' → MAll g S' w' → XW g w' (lwA s) s.heap H1 locs1 → LW p l e s m below meth c b H1 locs1 (F0 m 1296 ls [])) : LW p l e s m below meth c b H locs (F0 m 489 ls []) := by
  have hbA : ¬ lwA s b := Nat.not_le.mpr hbl
  refine lv_aload_n C.1 C.2.1 dL_law_489 rfl (lv_at hl 2 rfl) ?_
  refine xcV_i (n := 0) (As := []) C hK hW (c_X6_undo l g w L K T ln sz hk tn Z  hW.2.2.1 hN hS hXA) gL_law_X6_undo rfl ⟨rfl, rfl⟩ (by decide +kernel) ⟨(Nat.le_of_ble_eq_true rfl), (Nat.le_of_ble_eq_true rfl)⟩ ⟨Nat.le_refl _, Nat.le_refl _⟩ rfl (by omega) hXA.1 rfl hl rfl (Nat.le_of_ble_eq_true rfl) dL_law_490 (fun r1 w1 H locs q1 hW => ?_)
  obtain ⟨hA1, f1, e1⟩ := q1
  have hB1 := hMA.fr (fun j hj => f1 j (by omega))
  refine lv_aload_n C.1 C.2.1 dL_law_493 rfl (lv_at hl 1 rfl) ?_
  obtain ⟨_, _, _, _, _, _, _, _, _, _, _, _, hm0, _⟩ := id hB1
  refine xcV_i (n := 0) (As := []) C hK hW (c_X7_undo l g w1 L K T ln sz hk tn Z  hW.2.2.1 hN hS hB1) gL_law_X7_undo rfl ⟨rfl, rfl⟩ (by decide +kernel) ⟨(Nat.le_of_ble_eq_true rfl), (Nat.le_of_ble_eq_true rfl)⟩ ⟨Nat.le_refl _, Nat.le_refl _⟩ rfl (by omega) hm0 rfl hl rfl (Nat.le_of_ble_eq_true rfl) dL_law_494 (fun r2 w2 H locs q2 hW => ?_)
  obtain ⟨hA2, f2, e2⟩ := q2
  have hB2 := hA1.fr (fun j hj => f2 j (by omega))
  exact lv_icmp_eq (tgt := 1296) C.1 C.2.1 dL_law_497 (by decide) (fun _ => kk _ w2 _ _ (ok_L hS (OkL.un hS.1)) hB2 hA2 hW) (fun h => absurd (e1.trans e2.symm) h)

set_option maxHeartbeats 4000000 in
set_option maxRecDepth 100000 in
theorem law_12 (C : CallFix p m c code 4 s #[Value.ref b] wsL_law RL) (hK : WK g s) (hN : gN g = 130) (hX : va_X b n xs s s.heap) (hbl : b < s.heap.size) (hn : n ≤ 448) (hi : i + 7 ≤ n) (hS : OkS (L, K, hk, tn, T, ln, sz, Z)) (hXA : XAll g (L, K, hk, tn, T, ln, sz, Z) w) (hMA : MAll g (L, K, hk, tn, T, ln, sz, Z) w) (hW : XW g w (lwA s) s.heap H locs) (hl : lv_has ls 4 [(3, .int (nI i)), (2, .ref (gad g 119)), (1, .ref (gad g 0)), (0, .ref b)]) (kk : ∀ (S' : GS) (w' : Nat → va_E) (H1 : Heap) (locs1 : List Loc), OkS S' → XAll g S' w' → MAll g S' w' → XW g w' (lwA s) s.heap H1 locs1 → LW p l e s m below meth c b H1 locs1 (F0 m 1296 ls [])) : LW p l e s m below meth c b H locs (F0 m 502 ls []) := by
  have hbA : ¬ lwA s b := Nat.not_le.mpr hbl
  refine lv_aload_n C.1 C.2.1 dL_law_502 rfl (lv_at hl 2 rfl) ?_
  refine lv_aload_n C.1 C.2.1 dL_law_503 rfl (lv_at hl 3 rfl) ?_
  refine lv_iload_n C.1 C.2.1 dL_law_504 rfl (lv_at hl 0 rfl) ?_
  refine lv_iconst (v := nI 1) C.1 C.2.1 dL_law_505 (by decide) ?_
  refine xadd C dL_law_506 ?_
  refine xsld C hX hbl hbA hW (by omega) hn dL_law_507 ?_
  refine xcV_i (n := 1) (As := [.int (xs (i + 1))]) C hK hW (c_X6_seed l g w L K T ln sz hk tn Z (xs (i + 1)) hW.2.2.1 hN hS hXA) gL_law_X6_seed rfl ⟨rfl, rfl⟩ (by decide +kernel) ⟨(Nat.le_of_ble_eq_true rfl), (Nat.le_of_ble_eq_true rfl)⟩ ⟨Nat.le_refl _, Nat.le_refl _⟩ rfl (by omega) hXA.1 rfl hl rfl (Nat.le_of_ble_eq_true rfl) dL_law_508 (fun r1 w1 H locs q1 hW => ?_)
  obtain ⟨hA1, f1, e1⟩ := q1
  have hB1 := hMA.fr (fun j hj => f1 j (by omega))
  refine lv_aload_n C.1 C.2.1 dL_law_511 rfl (lv_at hl 1 rfl) ?_
  refine lv_aload_n C.1 C.2.1 dL_law_512 rfl (lv_at hl 3 rfl) ?_
  refine lv_iload_n C.1 C.2.1 dL_law_513 rfl (lv_at hl 0 rfl) ?_
  refine lv_iconst (v := nI 1) C.1 C.2.1 dL_law_514 (by decide) ?_
  refine xadd C dL_law_515 ?_
  refine xsld C hX hbl hbA hW (by omega) hn dL_law_516 ?_
  obtain ⟨_, _, _, _, _, _, _, _, _, _, _, _, hm0, _⟩ := id hB1
  refine xcV_i (n := 1) (As := [.int (xs (i + 1))]) C hK hW (c_X7_seed l g w1 L K T ln sz hk tn Z (xs (i + 1)) hW.2.2.1 hN hS hB1) gL_law_X7_seed rfl ⟨rfl, rfl⟩ (by decide +kernel) ⟨(Nat.le_of_ble_eq_true rfl), (Nat.le_of_ble_eq_true rfl)⟩ ⟨Nat.le_refl _, Nat.le_refl _⟩ rfl (by omega) hm0 rfl hl rfl (Nat.le_of_ble_eq_true rfl) dL_law_517 (fun r2 w2 H locs q2 hW => ?_)
  obtain ⟨hA2, f2, e2⟩ := q2
  have hB2 := hA1.fr (fun j hj => f2 j (by omega))
  exact lv_icmp_eq (tgt := 1296) C.1 C.2.1 dL_law_520 (by decide) (fun _ => kk _ w2 _ _ (ok_L hS (OkL.seed hS.1)) hB2 hA2 hW) (fun h => absurd (e1.trans e2.symm) h)

set_option maxHeartbeats 4000000 in
set_option maxRecDepth 100000 in
theorem law_13 (C : CallFix p m c code 4 s #[Value.ref b] wsL_law RL) (hK : WK g s) (hN : gN g = 130) (hX : va_X b n xs s s.heap) (hbl : b < s.heap.size) (hn : n ≤ 448) (hi : i + 7 ≤ n) (hS : OkS (L, K, hk, tn, T, ln, sz, Z)) (hXA : XAll g (L, K, hk, tn, T, ln, sz, Z) w) (hMA : MAll g (L, K, hk, tn, T, ln, sz, Z) w) (hW : XW g w (lwA s) s.heap H locs) (hl : lv_has ls 4 [(3, .int (nI i)), (2, .ref (gad g 119)), (1, .ref (gad g 0)), (0, .ref b)]) (kk : ∀ (S' : GS) (w' : Nat → va_E) (H1 : Heap) (locs1 : List Loc), OkS S' → XAll g S' w' → MAll g S' w' → XW g w' (lwA s) s.heap H1 locs1 → LW p l e s m below meth c b H1 locs1 (F0 m 1296 ls [])) : LW p l e s m below meth c b H locs (F0 m 525 ls []) := by
  have hbA : ¬ lwA s b := Nat.not_le.mpr hbl
  refine lv_aload_n C.1 C.2.1 dL_law_525 rfl (lv_at hl 2 rfl) ?_
  refine lv_aload_n C.1 C.2.1 dL_law_526 rfl (lv_at hl 3 rfl) ?_
  refine lv_iload_n C.1 C.2.1 dL_law_527 rfl (lv_at hl 0 rfl) ?_
  refine lv_iconst (v := nI 1) C.1 C.2.1 dL_law_528 (by decide) ?_
  refine xadd C dL_law_529 ?_
  refine xsld C hX hbl hbA hW (by omega) hn dL_law_530 ?_
  refine lv_aload_n C.1 C.2.1 dL_law_531 rfl (lv_at hl 3 rfl) ?_
  refine lv_iload_n C.1 C.2.1 dL_law_532 rfl (lv_at hl 0 rfl) ?_
  refine lv_iconst (v := nI 2) C.1 C.2.1 dL_law_533 (by decide) ?_
  refine xadd C dL_law_534 ?_
  refine xsld C hX hbl hbA hW (by omega) hn dL_law_535 ?_
  refine lv_aload_n C.1 C.2.1 dL_law_536 rfl (lv_at hl 3 rfl) ?_
  refine lv_iload_n C.1 C.2.1 dL_law_537 rfl (lv_at hl 0 rfl) ?_
  refine lv_iconst (v := nI 3) C.1 C.2.1 dL_law_538 (by decide) ?_
  refine xadd C dL_law_539 ?_
  refine xsld C hX hbl hbA hW (by omega) hn dL_law_540 ?_
  refine xcV_i (n := 3) (As := [.int (xs (i + 1)), .int (xs (i + 2)), .int (xs (i + 3))]) C hK hW (c_X6_chance l g w L K T ln sz hk tn Z (xs (i + 1)) (xs (i + 2)) (xs (i + 3)) hW.2.2.1 hN hS hXA) gL_law_X6_chance rfl ⟨rfl, rfl⟩ (by decide +kernel) ⟨(Nat.le_of_ble_eq_true rfl), (Nat.le_of_ble_eq_true rfl)⟩ ⟨Nat.le_refl _, Nat.le_refl _⟩ rfl (by omega) hXA.1 rfl hl rfl (Nat.le_of_ble_eq_true rfl) dL_law_541 (fun r1 w1 H locs q1 hW => ?_)
  obtain ⟨hA1, f1, e1⟩ := q1
  have hB1 := hMA.fr (fun j hj => f1 j (by omega))
  refine lv_aload_n C.1 C.2.1 dL_law_544 rfl (lv_at hl 1 rfl) ?_
  refine lv_aload_n C.1 C.2.1 dL_law_545 rfl (lv_at hl 3 rfl) ?_
  refine lv_iload_n C.1 C.2.1 dL_law_546 rfl (lv_at hl 0 rfl) ?_
  refine lv_iconst (v := nI 1) C.1 C.2.1 dL_law_547 (by decide) ?_
  refine xadd C dL_law_548 ?_
  refine xsld C hX hbl hbA hW (by omega) hn dL_law_549 ?_
  refine lv_aload_n C.1 C.2.1 dL_law_550 rfl (lv_at hl 3 rfl) ?_
  refine lv_iload_n C.1 C.2.1 dL_law_551 rfl (lv_at hl 0 rfl) ?_
  refine lv_iconst (v := nI 2) C.1 C.2.1 dL_law_552 (by decide) ?_
  refine xadd C dL_law_553 ?_
  refine xsld C hX hbl hbA hW (by omega) hn dL_law_554 ?_
  refine lv_aload_n C.1 C.2.1 dL_law_555 rfl (lv_at hl 3 rfl) ?_
  refine lv_iload_n C.1 C.2.1 dL_law_556 rfl (lv_at hl 0 rfl) ?_
  refine lv_iconst (v := nI 3) C.1 C.2.1 dL_law_557 (by decide) ?_
  refine xadd C dL_law_558 ?_
  refine xsld C hX hbl hbA hW (by omega) hn dL_law_559 ?_
  obtain ⟨_, _, _, _, _, _, _, _, _, _, _, _, hm0, _⟩ := id hB1
  refine xcV_i (n := 3) (As := [.int (xs (i + 1)), .int (xs (i + 2)), .int (xs (i + 3))]) C hK hW (c_X7_chance l g w1 L K T ln sz hk tn Z (xs (i + 1)) (xs (i + 2)) (xs (i + 3)) hW.2.2.1 hN hS hB1) gL_law_X7_chance rfl ⟨rfl, rfl⟩ (by decide +kernel) ⟨(Nat.le_of_ble_eq_true rfl), (Nat.le_of_ble_eq_true rfl)⟩ ⟨Nat.le_refl _, Nat.le_refl _⟩ rfl (by omega) hm0 rfl hl rfl (Nat.le_of_ble_eq_true rfl) dL_law_560 (fun r2 w2 H locs q2 hW => ?_)
  obtain ⟨hA2, f2, e2⟩ := q2
  have hB2 := hA1.fr (fun j hj => f2 j (by omega))
  exact lv_icmp_eq (tgt := 1296) C.1 C.2.1 dL_law_563 (by decide) (fun _ => kk _ w2 _ _ (hS) hB2 hA2 hW) (fun h => absurd (e1.trans e2.symm) h)

set_option maxHeartbeats 4000000 in
set_option maxRecDepth 100000 in
theorem law_14 (C : CallFix p m c code 4 s #[Value.ref b] wsL_law RL) (hK : WK g s) (hN : gN g = 130) (hX : va_X b n xs s s.heap) (hbl : b < s.heap.size) (hn : n ≤ 448) (hi : i + 7 ≤ n) (hS : OkS (L, K, hk, tn, T, ln, sz, Z)) (hXA : XAll g (L, K, hk, tn, T, ln, sz, Z) w) (hMA : MAll g (L, K, hk, tn, T, ln, sz, Z) w) (hW : XW g w (lwA s) s.heap H locs) (hl : lv_has ls 4 [(3, .int (nI i)), (2, .ref (gad g 119)), (1, .ref (gad g 0)), (0, .ref b)]) (kk : ∀ (S' : GS) (w' : Nat → va_E) (H1 : Heap) (locs1 : List Loc), OkS S' → XAll g S' w' → MAll g S' w' → XW g w' (lwA s) s.heap H1 locs1 → LW p l e s m below meth c b H1 locs1 (F0 m 1296 ls [])) : LW p l e s m below meth c b H locs (F0 m 568 ls []) := by
  have hbA : ¬ lwA s b := Nat.not_le.mpr hbl
  refine lv_aload_n C.1 C.2.1 dL_law_568 rfl (lv_at hl 2 rfl) ?_
  refine lv_aload_n C.1 C.2.1 dL_law_569 rfl (lv_at hl 3 rfl) ?_
  refine lv_iload_n C.1 C.2.1 dL_law_570 rfl (lv_at hl 0 rfl) ?_
  refine lv_iconst (v := nI 1) C.1 C.2.1 dL_law_571 (by decide) ?_
  refine xadd C dL_law_572 ?_
  refine xsld C hX hbl hbA hW (by omega) hn dL_law_573 ?_
  refine xcV_i (n := 1) (As := [.int (xs (i + 1))]) C hK hW (c_X6_likely l g w L K T ln sz hk tn Z (xs (i + 1)) hW.2.2.1 hN hS hXA) gL_law_X6_likely rfl ⟨rfl, rfl⟩ (by decide +kernel) ⟨(Nat.le_of_ble_eq_true rfl), (Nat.le_of_ble_eq_true rfl)⟩ ⟨Nat.le_refl _, Nat.le_refl _⟩ rfl (by omega) hXA.1 rfl hl rfl (Nat.le_of_ble_eq_true rfl) dL_law_574 (fun r1 w1 H locs q1 hW => ?_)
  obtain ⟨hA1, f1, e1⟩ := q1
  have hB1 := hMA.fr (fun j hj => f1 j (by omega))
  refine lv_aload_n C.1 C.2.1 dL_law_577 rfl (lv_at hl 1 rfl) ?_
  refine lv_aload_n C.1 C.2.1 dL_law_578 rfl (lv_at hl 3 rfl) ?_
  refine lv_iload_n C.1 C.2.1 dL_law_579 rfl (lv_at hl 0 rfl) ?_
  refine lv_iconst (v := nI 1) C.1 C.2.1 dL_law_580 (by decide) ?_
  refine xadd C dL_law_581 ?_
  refine xsld C hX hbl hbA hW (by omega) hn dL_law_582 ?_
  obtain ⟨_, _, _, _, _, _, _, _, _, _, _, _, hm0, _⟩ := id hB1
  refine xcV_i (n := 1) (As := [.int (xs (i + 1))]) C hK hW (c_X7_likely l g w1 L K T ln sz hk tn Z (xs (i + 1)) hW.2.2.1 hN hS hB1) gL_law_X7_likely rfl ⟨rfl, rfl⟩ (by decide +kernel) ⟨(Nat.le_of_ble_eq_true rfl), (Nat.le_of_ble_eq_true rfl)⟩ ⟨Nat.le_refl _, Nat.le_refl _⟩ rfl (by omega) hm0 rfl hl rfl (Nat.le_of_ble_eq_true rfl) dL_law_583 (fun r2 w2 H locs q2 hW => ?_)
  obtain ⟨hA2, f2, e2⟩ := q2
  have hB2 := hA1.fr (fun j hj => f2 j (by omega))
  exact lv_icmp_eq (tgt := 1296) C.1 C.2.1 dL_law_586 (by decide) (fun _ => kk _ w2 _ _ (hS) hB2 hA2 hW) (fun h => absurd (e1.trans e2.symm) h)

set_option maxHeartbeats 4000000 in
set_option maxRecDepth 100000 in
theorem law_15 (C : CallFix p m c code 4 s #[Value.ref b] wsL_law RL) (hK : WK g s) (hN : gN g = 130) (hX : va_X b n xs s s.heap) (hbl : b < s.heap.size) (hn : n ≤ 448) (hi : i + 7 ≤ n) (hS : OkS (L, K, hk, tn, T, ln, sz, Z)) (hXA : XAll g (L, K, hk, tn, T, ln, sz, Z) w) (hMA : MAll g (L, K, hk, tn, T, ln, sz, Z) w) (hW : XW g w (lwA s) s.heap H locs) (hl : lv_has ls 4 [(3, .int (nI i)), (2, .ref (gad g 119)), (1, .ref (gad g 0)), (0, .ref b)]) (kk : ∀ (S' : GS) (w' : Nat → va_E) (H1 : Heap) (locs1 : List Loc), OkS S' → XAll g S' w' → MAll g S' w' → XW g w' (lwA s) s.heap H1 locs1 → LW p l e s m below meth c b H1 locs1 (F0 m 1296 ls [])) : LW p l e s m below meth c b H locs (F0 m 591 ls []) := by
  have hbA : ¬ lwA s b := Nat.not_le.mpr hbl
  refine lv_aload_n C.1 C.2.1 dL_law_591 rfl (lv_at hl 2 rfl) ?_
  refine lv_aload_n C.1 C.2.1 dL_law_592 rfl (lv_at hl 3 rfl) ?_
  refine lv_iload_n C.1 C.2.1 dL_law_593 rfl (lv_at hl 0 rfl) ?_
  refine lv_iconst (v := nI 1) C.1 C.2.1 dL_law_594 (by decide) ?_
  refine xadd C dL_law_595 ?_
  refine xsld C hX hbl hbA hW (by omega) hn dL_law_596 ?_
  refine lv_aload_n C.1 C.2.1 dL_law_597 rfl (lv_at hl 3 rfl) ?_
  refine lv_iload_n C.1 C.2.1 dL_law_598 rfl (lv_at hl 0 rfl) ?_
  refine lv_iconst (v := nI 2) C.1 C.2.1 dL_law_599 (by decide) ?_
  refine xadd C dL_law_600 ?_
  refine xsld C hX hbl hbA hW (by omega) hn dL_law_601 ?_
  refine xcV_l (n := 2) (As := [.int (xs (i + 1)), .int (xs (i + 2))]) C hK hW (c_X6_mean l g w L K T ln sz hk tn Z (xs (i + 1)) (xs (i + 2)) hW.2.2.1 hN hS hXA) gL_law_X6_mean rfl ⟨rfl, rfl⟩ (by decide +kernel) ⟨(Nat.le_of_ble_eq_true rfl), (Nat.le_of_ble_eq_true rfl)⟩ ⟨Nat.le_refl _, Nat.le_refl _⟩ rfl (by omega) hXA.1 rfl hl rfl (Nat.le_of_ble_eq_true rfl) dL_law_602 (fun r1 w1 H locs q1 hW => ?_)
  obtain ⟨hA1, f1, e1⟩ := q1
  have hB1 := hMA.fr (fun j hj => f1 j (by omega))
  refine lv_aload_n C.1 C.2.1 dL_law_605 rfl (lv_at hl 1 rfl) ?_
  refine lv_aload_n C.1 C.2.1 dL_law_606 rfl (lv_at hl 3 rfl) ?_
  refine lv_iload_n C.1 C.2.1 dL_law_607 rfl (lv_at hl 0 rfl) ?_
  refine lv_iconst (v := nI 1) C.1 C.2.1 dL_law_608 (by decide) ?_
  refine xadd C dL_law_609 ?_
  refine xsld C hX hbl hbA hW (by omega) hn dL_law_610 ?_
  refine lv_aload_n C.1 C.2.1 dL_law_611 rfl (lv_at hl 3 rfl) ?_
  refine lv_iload_n C.1 C.2.1 dL_law_612 rfl (lv_at hl 0 rfl) ?_
  refine lv_iconst (v := nI 2) C.1 C.2.1 dL_law_613 (by decide) ?_
  refine xadd C dL_law_614 ?_
  refine xsld C hX hbl hbA hW (by omega) hn dL_law_615 ?_
  obtain ⟨_, _, _, _, _, _, _, _, _, _, _, _, hm0, _⟩ := id hB1
  refine xcV_l (n := 2) (As := [.int (xs (i + 1)), .int (xs (i + 2))]) C hK hW (c_X7_mean l g w1 L K T ln sz hk tn Z (xs (i + 1)) (xs (i + 2)) hW.2.2.1 hN hS hB1) gL_law_X7_mean rfl ⟨rfl, rfl⟩ (by decide +kernel) ⟨(Nat.le_of_ble_eq_true rfl), (Nat.le_of_ble_eq_true rfl)⟩ ⟨Nat.le_refl _, Nat.le_refl _⟩ rfl (by omega) hm0 rfl hl rfl (Nat.le_of_ble_eq_true rfl) dL_law_616 (fun r2 w2 H locs q2 hW => ?_)
  obtain ⟨hA2, f2, e2⟩ := q2
  have hB2 := hA1.fr (fun j hj => f2 j (by omega))
  exact xReq (tgt := 1296) C dL_law_619 dL_law_620 (by decide) (fun _ => kk _ w2 _ _ (hS) hB2 hA2 hW) (fun h => absurd (e1.trans e2.symm) h)

end LAWC
