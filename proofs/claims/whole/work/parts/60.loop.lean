/-! the law's loop -/
section LAWL
variable {p : Program} {l : Launch} {e : Env} {s : State} {m : MethodId} {below : List Frame} {meth : Method} {c : Code} {g : GE} {xs : Nat → Int32} {b n : Nat}
theorem law_in {n i : Nat} (hn : n ≤ 448) (hi : i < 1000) (h : ¬ nI n - nI 7 < nI i) : i + 7 ≤ n := by
  rw [Int32.lt_iff_toInt_lt, pk_sub_toInt (by omega) (by decide), nI_toInt (by omega)] at h
  omega
set_option maxHeartbeats 4000000 in
set_option maxRecDepth 100000 in
theorem law_head (C : CallFix p m c code 4 s #[Value.ref b] wsL_law RL) (hr : meth.sig.returnType = ret) (hlk : meth.locks = false) (hK : WK g s) (hN : gN g = 130) (hX : va_X b n xs s s.heap) (hbl : b < s.heap.size) (hn : n ≤ 448) {i : Nat} (hi : i < 1000) {S : GS} {w : Nat → va_E} {H : Heap} {locs : List Loc} {ls : Array Slot} (hS : OkS S) (hXA : XAll g S w) (hMA : MAll g S w) (hW : XW g w (lwA s) s.heap H locs) (hl : lv_has ls 4 [(3, .int (nI i)), (2, .ref (gad g 119)), (1, .ref (gad g 0)), (0, .ref b)])
    (nx : i + 7 ≤ n → ∀ (S' : GS) (w' : Nat → va_E) (H1 : Heap) (locs1 : List Loc) (ls1 : Array Slot), OkS S' → XAll g S' w' → MAll g S' w' → XW g w' (lwA s) s.heap H1 locs1 → lv_has ls1 4 [(3, .int (nI (i + 7))), (2, .ref (gad g 119)), (1, .ref (gad g 0)), (0, .ref b)] → LW p l e s m below meth c b H1 locs1 (F0 m 18 ls1 [])) : LW p l e s m below meth c b H locs (F0 m 18 ls []) := by
  have hbA : ¬ lwA s b := Nat.not_le.mpr hbl
  obtain ⟨L, K, hk, tn, T, ln, sz, Z⟩ := S
  refine lv_iload_n C.1 C.2.1 dL_law_18 rfl (lv_at hl 0 rfl) ?_
  refine lv_aload_n C.1 C.2.1 dL_law_19 rfl (lv_at hl 3 rfl) ?_
  refine va_slen C.1 C.2.1 hX hbl hbA hW.2.1 dL_law_20 ?_
  refine lv_bipush (v := nI 7) C.1 C.2.1 dL_law_21 (by decide) ?_
  refine lv_isub C.1 C.2.1 dL_law_23 ?_
  refine lv_icmp_gt (tgt := 1302) C.1 C.2.1 dL_law_24 (by decide) (fun c24 => ?_) (fun c24 => ?_)
  · refine lv_iconst (v := 1) C.1 C.2.1 dL_law_1302 (by decide) ?_
    exact va_forget hW.2.1.2.2 (lw_ret C.1 C.2.1 hr hlk dL_law_1303)
  · have hin : i + 7 ≤ n := law_in hn hi c24
    have nx2 : ∀ (S' : GS) (w' : Nat → va_E) (H1 : Heap) (locs1 : List Loc), OkS S' → XAll g S' w' → MAll g S' w' → XW g w' (lwA s) s.heap H1 locs1 → LW p l e s m below meth c b H1 locs1 (F0 m 1296 ls []) := by
      intro S' w' H1 locs1 h1 h2 h3 h4
      refine lv_iinc (v := nI (i + 7)) (lv' := [(3, .int (nI (i + 7))), (2, .ref (gad g 119)), (1, .ref (gad g 0)), (0, .ref b)]) C.1 C.2.1 dL_law_1296 hl (k := 0) rfl (nI_add _ 7) (by decide) rfl (fun ls1 hl1 => ?_)
      refine lv_goto (tgt := 18) C.1 C.2.1 dL_law_1299 (by decide) ?_
      exact nx hin S' w' H1 locs1 ls1 h1 h2 h3 h4 hl1
    refine lv_aload_n C.1 C.2.1 dL_law_27 rfl (lv_at hl 3 rfl) ?_
    refine lv_iload_n C.1 C.2.1 dL_law_28 rfl (lv_at hl 0 rfl) ?_
    refine xsld C hX hbl hbA hW (by omega) hn dL_law_29 ?_
    refine lv_bipush (v := nI 31) C.1 C.2.1 dL_law_30 (by decide) ?_
    refine lv_iand C.1 C.2.1 dL_law_32 ?_
    obtain ⟨j, hj, ej⟩ := pk_andE (xs i) (m := nI 31) 5 (by decide)
    rw [ej]
    rcases (show j = 0 ∨ j = 1 ∨ j = 2 ∨ j = 3 ∨ j = 4 ∨ j = 5 ∨ j = 6 ∨ j = 7 ∨ j = 8 ∨ j = 9 ∨ j = 10 ∨ j = 11 ∨ j = 12 ∨ j = 13 ∨ j = 14 ∨ j = 15 ∨ j = 16 ∨ j = 17 ∨ j = 18 ∨ j = 19 ∨ j = 20 ∨ j = 21 ∨ j = 22 ∨ j = 23 ∨ j = 24 ∨ j = 25 ∨ j = 26 ∨ j = 27 ∨ j = 28 ∨ j = 29 ∨ j = 30 ∨ j = 31 by omega) with rfl | rfl | rfl | rfl | rfl | rfl | rfl | rfl | rfl | rfl | rfl | rfl | rfl | rfl | rfl | rfl | rfl | rfl | rfl | rfl | rfl | rfl | rfl | rfl | rfl | rfl | rfl | rfl | rfl | rfl | rfl | rfl
    · refine lv_tableIn (off := 143) (tgt := 176) C.1 C.2.1 dL_law_33 (by decide) (by decide) (by decide) (by decide) ?_
      exact law_0 C hK hN hX hbl hn hin hS hXA hMA hW hl nx2
    · refine lv_tableIn (off := 176) (tgt := 209) C.1 C.2.1 dL_law_33 (by decide) (by decide) (by decide) (by decide) ?_
      exact law_1 C hK hN hX hbl hn hin hS hXA hMA hW hl nx2
    · refine lv_tableIn (off := 219) (tgt := 252) C.1 C.2.1 dL_law_33 (by decide) (by decide) (by decide) (by decide) ?_
      exact law_2 C hK hN hX hbl hn hin hS hXA hMA hW hl nx2
    · refine lv_tableIn (off := 252) (tgt := 285) C.1 C.2.1 dL_law_33 (by decide) (by decide) (by decide) (by decide) ?_
      exact law_3 C hK hN hX hbl hn hin hS hXA hMA hW hl nx2
    · refine lv_tableIn (off := 285) (tgt := 318) C.1 C.2.1 dL_law_33 (by decide) (by decide) (by decide) (by decide) ?_
      exact law_4 C hK hN hX hbl hn hin hS hXA hMA hW hl nx2
    · refine lv_tableIn (off := 308) (tgt := 341) C.1 C.2.1 dL_law_33 (by decide) (by decide) (by decide) (by decide) ?_
      exact law_5 C hK hN hX hbl hn hin hS hXA hMA hW hl nx2
    · refine lv_tableIn (off := 321) (tgt := 354) C.1 C.2.1 dL_law_33 (by decide) (by decide) (by decide) (by decide) ?_
      exact law_6 C hK hN hX hbl hn hin hS hXA hMA hW hl nx2
    · refine lv_tableIn (off := 344) (tgt := 377) C.1 C.2.1 dL_law_33 (by decide) (by decide) (by decide) (by decide) ?_
      exact law_7 C hK hN hX hbl hn hin hS hXA hMA hW hl nx2
    · refine lv_tableIn (off := 367) (tgt := 400) C.1 C.2.1 dL_law_33 (by decide) (by decide) (by decide) (by decide) ?_
      exact law_8 C hK hN hX hbl hn hin hS hXA hMA hW hl nx2
    · refine lv_tableIn (off := 390) (tgt := 423) C.1 C.2.1 dL_law_33 (by decide) (by decide) (by decide) (by decide) ?_
      exact law_9 C hK hN hX hbl hn hin hS hXA hMA hW hl nx2
    · refine lv_tableIn (off := 423) (tgt := 456) C.1 C.2.1 dL_law_33 (by decide) (by decide) (by decide) (by decide) ?_
      exact law_10 C hK hN hX hbl hn hin hS hXA hMA hW hl nx2
    · refine lv_tableIn (off := 456) (tgt := 489) C.1 C.2.1 dL_law_33 (by decide) (by decide) (by decide) (by decide) ?_
      exact law_11 C hK hN hX hbl hn hin hS hXA hMA hW hl nx2
    · refine lv_tableIn (off := 469) (tgt := 502) C.1 C.2.1 dL_law_33 (by decide) (by decide) (by decide) (by decide) ?_
      exact law_12 C hK hN hX hbl hn hin hS hXA hMA hW hl nx2
    · refine lv_tableIn (off := 492) (tgt := 525) C.1 C.2.1 dL_law_33 (by decide) (by decide) (by decide) (by decide) ?_
      exact law_13 C hK hN hX hbl hn hin hS hXA hMA hW hl nx2
    · refine lv_tableIn (off := 535) (tgt := 568) C.1 C.2.1 dL_law_33 (by decide) (by decide) (by decide) (by decide) ?_
      exact law_14 C hK hN hX hbl hn hin hS hXA hMA hW hl nx2
    · refine lv_tableIn (off := 558) (tgt := 591) C.1 C.2.1 dL_law_33 (by decide) (by decide) (by decide) (by decide) ?_
      exact law_15 C hK hN hX hbl hn hin hS hXA hMA hW hl nx2
    · refine lv_tableIn (off := 592) (tgt := 625) C.1 C.2.1 dL_law_33 (by decide) (by decide) (by decide) (by decide) ?_
      exact law_16 C hK hN hX hbl hn hin hS hXA hMA hW hl nx2
    · refine lv_tableIn (off := 635) (tgt := 668) C.1 C.2.1 dL_law_33 (by decide) (by decide) (by decide) (by decide) ?_
      exact law_17 C hK hN hX hbl hn hin hS hXA hMA hW hl nx2
    · refine lv_tableIn (off := 658) (tgt := 691) C.1 C.2.1 dL_law_33 (by decide) (by decide) (by decide) (by decide) ?_
      exact law_18 C hK hN hX hbl hn hin hS hXA hMA hW hl nx2
    · refine lv_tableIn (off := 692) (tgt := 725) C.1 C.2.1 dL_law_33 (by decide) (by decide) (by decide) (by decide) ?_
      exact law_19 C hK hN hX hbl hn hin hS hXA hMA hW hl nx2
    · refine lv_tableIn (off := 725) (tgt := 758) C.1 C.2.1 dL_law_33 (by decide) (by decide) (by decide) (by decide) ?_
      exact law_20 C hK hN hX hbl hn hin hS hXA hMA hW hl nx2
    · refine lv_tableIn (off := 758) (tgt := 791) C.1 C.2.1 dL_law_33 (by decide) (by decide) (by decide) (by decide) ?_
      exact law_21 C hK hN hX hbl hn hin hS hXA hMA hW hl nx2
    · refine lv_tableIn (off := 781) (tgt := 814) C.1 C.2.1 dL_law_33 (by decide) (by decide) (by decide) (by decide) ?_
      exact law_22 C hK hN hX hbl hn hin hS hXA hMA hW hl nx2
    · refine lv_tableIn (off := 834) (tgt := 867) C.1 C.2.1 dL_law_33 (by decide) (by decide) (by decide) (by decide) ?_
      exact law_23 C hK hN hX hbl hn hin hS hXA hMA hW hl nx2
    · refine lv_tableIn (off := 847) (tgt := 880) C.1 C.2.1 dL_law_33 (by decide) (by decide) (by decide) (by decide) ?_
      exact law_24 C hK hN hX hbl hn hin hS hXA hMA hW hl nx2
    · refine lv_tableIn (off := 860) (tgt := 893) C.1 C.2.1 dL_law_33 (by decide) (by decide) (by decide) (by decide) ?_
      exact law_25 C hK hN hX hbl hn hin hS hXA hMA hW hl nx2
    · refine lv_tableIn (off := 923) (tgt := 956) C.1 C.2.1 dL_law_33 (by decide) (by decide) (by decide) (by decide) ?_
      exact law_26 C hK hN hX hbl hn hin hS hXA hMA hW hl nx2
    · refine lv_tableIn (off := 998) (tgt := 1031) C.1 C.2.1 dL_law_33 (by decide) (by decide) (by decide) (by decide) ?_
      exact law_27 C hK hN hX hbl hn hin hS hXA hMA hW hl nx2
    · refine lv_tableIn (off := 1051) (tgt := 1084) C.1 C.2.1 dL_law_33 (by decide) (by decide) (by decide) (by decide) ?_
      exact law_28 C hK hN hX hbl hn hin hS hXA hMA hW hl nx2
    · refine lv_tableIn (off := 1094) (tgt := 1127) C.1 C.2.1 dL_law_33 (by decide) (by decide) (by decide) (by decide) ?_
      exact law_29 C hK hN hX hbl hn hin hS hXA hMA hW hl nx2
    · refine lv_tableIn (off := 1117) (tgt := 1150) C.1 C.2.1 dL_law_33 (by decide) (by decide) (by decide) (by decide) ?_
      exact law_30 C hK hN hX hbl hn hin hS hXA hMA hW hl nx2
    · refine lv_tableIn (off := 1200) (tgt := 1233) C.1 C.2.1 dL_law_33 (by decide) (by decide) (by decide) (by decide) ?_
      exact law_31 C hK hN hX hbl hn hin hS hXA hMA hW hl nx2
theorem law_loop (C : CallFix p m c code 4 s #[Value.ref b] wsL_law RL) (hr : meth.sig.returnType = ret) (hlk : meth.locks = false) (hK : WK g s) (hN : gN g = 130) (hX : va_X b n xs s s.heap) (hbl : b < s.heap.size) (hn : n ≤ 448) : ∀ (k i : Nat) (S : GS) (w : Nat → va_E) (H : Heap) (locs : List Loc) (ls : Array Slot), n < i + k → i < 1000 → OkS S → XAll g S w → MAll g S w → XW g w (lwA s) s.heap H locs → lv_has ls 4 [(3, .int (nI i)), (2, .ref (gad g 119)), (1, .ref (gad g 0)), (0, .ref b)] → LW p l e s m below meth c b H locs (F0 m 18 ls [])
  | 0, i, S, w, H, locs, ls, hk, hi, hS, hXA, hMA, hW, hl => law_head C hr hlk hK hN hX hbl hn hi hS hXA hMA hW hl (fun h => absurd h (by omega))
  | k + 1, i, S, w, H, locs, ls, hk, hi, hS, hXA, hMA, hW, hl => law_head C hr hlk hK hN hX hbl hn hi hS hXA hMA hW hl (fun h S' w' H1 locs1 ls1 h1 h2 h3 h4 h5 => law_loop C hr hlk hK hN hX hbl hn k (i + 7) S' w' H1 locs1 ls1 (by omega) (by omega) h1 h2 h3 h4 h5)
end LAWL
