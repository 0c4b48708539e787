set_option maxHeartbeats 4000000 in
set_option maxRecDepth 100000 in
theorem c_X3_readWorth (l : Launch) (g : GE) (w : Nat → va_E) (n p : Nat) (T : Nat → Nat) (hI : AdInj g) (hN : gN g = 130) (hn : n ≤ 80) (hp : p ≤ n) (hT : OkT T n) (pr0 : w 108 = .inr (3, [.ref (gad g 109), .int (nI n), .int (nI p)])) (pr1 : w 109 = .inl (gI g, 80, .inl (cK 80 0 T))) : Met l yX3_readWorth wsX3_readWorth ({ frames := 2, cells := 0, slots := 0, locals := 45 } : Room) (XPc g w [.ref (gad g 108)]) (XQi g (fun r w' => w' 108 = .inr (3, [.ref (gad g 109), .int (nI n), .int (nI (wP T n p))]) ∧ (∀ j : Nat, ¬ (108 ≤ j ∧ j < 109) → w' j = w j) ∧ r = (wX T n p))) 0 0 (gA g) := by
  refine xmet (cc := cX3_readWorth) (maxL := 3) (ret := (some .int)) (by decide) rfl hI (Nat.le_of_ble_eq_true rfl) ?_
  intro pG eG sG mG belowG methG cG ls C hr hlk hK hW hl
  have hl : lv_has ls 3 [(0, .ref (gad g 108))] := hl
  have hinX3 : ∀ x ∈ u_ws RX3 TX3 3, x ∈ wsX3_readWorth := by decide +kernel
  refine lv_aload_n C.1 C.2.1 dX3_readWorth_0 rfl (lv_at hl 0 rfl) ?_
  refine lv_iconst (v := (nI 0)) C.1 C.2.1 dX3_readWorth_1 (by decide) ?_
  refine lv_bipush (v := (nI 9)) C.1 C.2.1 dX3_readWorth_2 (by decide) ?_
  refine xcV_i (n := 2) (As := [.int (nI 0), .int (nI 9)]) C hK hW (c_X3_readDigit l g w n p 0 9 T hI hN (by omega) (by omega) hT (by omega) (by omega) pr0 pr1) gX3_readWorth_X3_readDigit rfl ⟨rfl, rfl⟩ (by decide +kernel) ⟨Nat.le_of_ble_eq_true rfl, Nat.le_of_ble_eq_true rfl⟩ ⟨Nat.zero_le _, Nat.zero_le _⟩ rfl (by omega) pr0 rfl hl rfl (Nat.le_of_ble_eq_true rfl) dX3_readWorth_4 (fun r3 w1 H locs q2 hW => ?_)
  obtain ⟨h4, f5, rfl⟩ := q2
  by_cases hd : dOk T n p 0 9
  · have hv := dV_in hd
    have hs0 := hd.1
    refine xtopI (b := nI (dV T n p)) (if_pos hd) ?_
    have h6 : w1 108 = .inr (3, [.ref (gad g 109), .int (nI n), .int (nI (skp T n p + 1))]) := h4.trans (by rw [dP, if_pos hd])
    refine lv_istore_n (lv' := [(1, .int (nI (dV T n p))), (0, .ref (gad g 108))]) C.1 C.2.1 dX3_readWorth_7 rfl hl (by decide) rfl (fun ls hl => ?_)
    refine lv_iload_n C.1 C.2.1 dX3_readWorth_8 rfl (lv_at hl 0 rfl) ?_
    refine x0ge C (by omega) (tgt := 14) dX3_readWorth_9 (by decide) ?_
    refine lv_aload_n C.1 C.2.1 dX3_readWorth_14 rfl (lv_at hl 1 rfl) ?_
    refine xget C hK hW hinX3 rfl (by omega) h6 2 (by decide) (List.mem_of_getElem? (i := 1) rfl) rfl dX3_readWorth_15 ?_
    refine lv_iconst (v := (nI 1)) C.1 C.2.1 dX3_readWorth_18 (by decide) ?_
    refine xsub C (by omega) dX3_readWorth_19 ?_
    refine xtopN (b := skp T n p) (Nat.add_sub_cancel _ _) ?_
    refine lv_istore_n (lv' := [(2, .int (nI (skp T n p))), (1, .int (nI (dV T n p))), (0, .ref (gad g 108))]) C.1 C.2.1 dX3_readWorth_20 rfl hl (by decide) rfl (fun ls hl => ?_)
    refine lv_aload_n C.1 C.2.1 dX3_readWorth_21 rfl (lv_at hl 2 rfl) ?_
    refine xget C hK hW hinX3 rfl (by omega) h6 2 (by decide) (List.mem_of_getElem? (i := 1) rfl) rfl dX3_readWorth_22 ?_
    refine lv_aload_n C.1 C.2.1 dX3_readWorth_25 rfl (lv_at hl 2 rfl) ?_
    refine xget C hK hW hinX3 rfl (by omega) h6 1 (by decide) (List.mem_of_getElem? (i := 2) rfl) rfl dX3_readWorth_26 ?_
    refine xge (tgt := 79) C (by omega) (by omega) dX3_readWorth_29 (by decide) (fun c29 => ?_) (fun c29 => ?_)
    · have hw := wW_le hd
      have hn2 : ¬ dg T n (skp T n p + 1) := fun z => by have := z.1; omega
      have hl : lv_has ls 3 [(2, .int (nI (skp T n p))), (1, .int (nI (wW T n (skp T n p)))), (0, .ref (gad g 108))] := by rw [show wW T n (skp T n p) = dV T n p from (by rw [wW, if_neg hn2]; rfl)]; exact hl
      have h7 : w1 108 = .inr (3, [.ref (gad g 109), .int (nI n), .int (nI (wE T n (skp T n p)))]) := h6.trans (by rw [wE, if_neg hn2])
      refine lv_iload_n C.1 C.2.1 dX3_readWorth_79 rfl (lv_at hl 1 rfl) ?_
      refine lv_iconst (v := (nI 1)) C.1 C.2.1 dX3_readWorth_80 (by decide) ?_
      refine xge (tgt := 91) C (by omega) (by omega) dX3_readWorth_81 (by decide) (fun c81 => ?_) (fun c81 => ?_)
      · refine lv_iload_n C.1 C.2.1 dX3_readWorth_91 rfl (lv_at hl 1 rfl) ?_
        exact xret_i C hr hlk hW ⟨(by rw [wP, if_pos ⟨hd, by omega⟩]; exact h7), (fun j z0 => (f5 j (by omega))), (wX_ok ⟨hd, by omega⟩).symm⟩ dX3_readWorth_92
      · refine lv_aload_n C.1 C.2.1 dX3_readWorth_84 rfl (lv_at hl 2 rfl) ?_
        refine lv_iload_n C.1 C.2.1 dX3_readWorth_85 rfl (lv_at hl 0 rfl) ?_
        refine xput (v := .int (nI (skp T n p))) C hK hW hinX3 tyX3_ok nmX3 rfl (by omega) h7 2 (by decide) (List.mem_of_getElem? (i := 1) rfl) rfl rfl rfl (Nat.le_of_ble_eq_true rfl) dX3_readWorth_86 (fun w8 H locs e9 f10 hW => ?_)
        refine lv_iconst (v := (-1 : Int32)) C.1 C.2.1 dX3_readWorth_89 (by decide) ?_
        exact xret_i C hr hlk hW ⟨(by rw [wP, if_neg (fun z => by have := z.2; omega)]; exact e9), (fun j z0 => ((f10 j (by omega)).trans (f5 j (by omega)))), (wX_no (fun z => by have := z.2; omega)).symm⟩ dX3_readWorth_90
    · have ht := hT (skp T n p + 1) (by omega)
      refine lv_aload_n C.1 C.2.1 dX3_readWorth_32 rfl (lv_at hl 2 rfl) ?_
      refine xget C hK hW hinX3 rfl (by omega) h6 0 (by decide) (List.mem_of_getElem? (i := 3) rfl) rfl dX3_readWorth_33 ?_
      refine lv_aload_n C.1 C.2.1 dX3_readWorth_36 rfl (lv_at hl 2 rfl) ?_
      refine xget C hK hW hinX3 rfl (by omega) h6 2 (by decide) (List.mem_of_getElem? (i := 1) rfl) rfl dX3_readWorth_37 ?_
      have h11 : w1 109 = .inl (gI g, 80, .inl (cK 80 0 T)) := ((f5 109 (by omega)).trans pr1)
      refine xildK0 C hK hW (by omega) h11 (by omega) (by decide) dX3_readWorth_40 ?_
      refine lv_bipush (v := (nI 48)) C.1 C.2.1 dX3_readWorth_41 (by decide) ?_
      refine lv_bipush (v := (nI 57)) C.1 C.2.1 dX3_readWorth_43 (by decide) ?_
      refine xcN_i (n := 3) (As := [.int (nI (T (skp T n p + 1))), .int (nI 48), .int (nI 57)]) C hK hW (c_X6_isWithin l g w1 (nI (T (skp T n p + 1))) (nI 48) (nI 57) hI hN) gX3_readWorth_X6_isWithin_n84 rfl ⟨rfl, rfl⟩ hK.2.2.1 (List.mem_of_getElem? (i := 14) rfl) (List.mem_of_getElem? (i := 13) rfl) (by decide +kernel) ⟨Nat.le_of_ble_eq_true rfl, Nat.le_of_ble_eq_true rfl⟩ ⟨Nat.zero_le _, Nat.zero_le _⟩ rfl hl rfl (Nat.le_of_ble_eq_true rfl) dX3_readWorth_45 (fun r14 w12 H locs q13 hW => ?_)
      obtain ⟨qw15, rfl⟩ := q13
      rw [qw15] at hW
      refine xBeq (tgt := 79) C dX3_readWorth_48 (by decide) (fun c48 => ?_) (fun c48 => ?_)
      · have hw := wW_le hd
        have hn2 : ¬ dg T n (skp T n p + 1) := fun z => c48 ((inR_nn (by omega) (by omega) (by omega)).mpr z.2)
        have hl : lv_has ls 3 [(2, .int (nI (skp T n p))), (1, .int (nI (wW T n (skp T n p)))), (0, .ref (gad g 108))] := by rw [show wW T n (skp T n p) = dV T n p from (by rw [wW, if_neg hn2]; rfl)]; exact hl
        have h16 : w1 108 = .inr (3, [.ref (gad g 109), .int (nI n), .int (nI (wE T n (skp T n p)))]) := h6.trans (by rw [wE, if_neg hn2])
        refine lv_iload_n C.1 C.2.1 dX3_readWorth_79 rfl (lv_at hl 1 rfl) ?_
        refine lv_iconst (v := (nI 1)) C.1 C.2.1 dX3_readWorth_80 (by decide) ?_
        refine xge (tgt := 91) C (by omega) (by omega) dX3_readWorth_81 (by decide) (fun c81 => ?_) (fun c81 => ?_)
        · refine lv_iload_n C.1 C.2.1 dX3_readWorth_91 rfl (lv_at hl 1 rfl) ?_
          exact xret_i C hr hlk hW ⟨(by rw [wP, if_pos ⟨hd, by omega⟩]; exact h16), (fun j z0 => (f5 j (by omega))), (wX_ok ⟨hd, by omega⟩).symm⟩ dX3_readWorth_92
        · refine lv_aload_n C.1 C.2.1 dX3_readWorth_84 rfl (lv_at hl 2 rfl) ?_
          refine lv_iload_n C.1 C.2.1 dX3_readWorth_85 rfl (lv_at hl 0 rfl) ?_
          refine xput (v := .int (nI (skp T n p))) C hK hW hinX3 tyX3_ok nmX3 rfl (by omega) h16 2 (by decide) (List.mem_of_getElem? (i := 1) rfl) rfl rfl rfl (Nat.le_of_ble_eq_true rfl) dX3_readWorth_86 (fun w17 H locs e18 f19 hW => ?_)
          refine lv_iconst (v := (-1 : Int32)) C.1 C.2.1 dX3_readWorth_89 (by decide) ?_
          exact xret_i C hr hlk hW ⟨(by rw [wP, if_neg (fun z => by have := z.2; omega)]; exact e18), (fun j z0 => ((f19 j (by omega)).trans (f5 j (by omega)))), (wX_no (fun z => by have := z.2; omega)).symm⟩ dX3_readWorth_90
      · have h48 := (inR_nn (by omega) (by omega) (by omega)).mp c48
        refine lv_iload_n C.1 C.2.1 dX3_readWorth_51 rfl (lv_at hl 1 rfl) ?_
        refine lv_bipush (v := (nI 10)) C.1 C.2.1 dX3_readWorth_52 (by decide) ?_
        refine xmul C dX3_readWorth_54 ?_
        refine lv_aload_n C.1 C.2.1 dX3_readWorth_55 rfl (lv_at hl 2 rfl) ?_
        refine xget C hK hW hinX3 rfl (by omega) h6 0 (by decide) (List.mem_of_getElem? (i := 3) rfl) rfl dX3_readWorth_56 ?_
        refine lv_aload_n C.1 C.2.1 dX3_readWorth_59 rfl (lv_at hl 2 rfl) ?_
        refine xget C hK hW hinX3 rfl (by omega) h6 2 (by decide) (List.mem_of_getElem? (i := 1) rfl) rfl dX3_readWorth_60 ?_
        refine xildK0 C hK hW (by omega) h11 (by omega) (by decide) dX3_readWorth_63 ?_
        refine xadd C dX3_readWorth_64 ?_
        refine lv_bipush (v := (nI 48)) C.1 C.2.1 dX3_readWorth_65 (by decide) ?_
        refine xsub C (by omega) dX3_readWorth_67 ?_
        refine xtopN (b := wW T n (skp T n p)) (by rw [wW, if_pos (c := dg T n (skp T n p + 1)) ⟨by omega, h48⟩]; rfl) ?_
        refine lv_istore_n (lv' := [(1, .int (nI (wW T n (skp T n p)))), (2, .int (nI (skp T n p))), (0, .ref (gad g 108))]) C.1 C.2.1 dX3_readWorth_68 rfl hl (by decide) rfl (fun ls hl => ?_)
        refine lv_aload_n C.1 C.2.1 dX3_readWorth_69 rfl (lv_at hl 2 rfl) ?_
        refine lv_dup C.1 C.2.1 dX3_readWorth_70 rfl ?_
        refine xget C hK hW hinX3 rfl (by omega) h6 2 (by decide) (List.mem_of_getElem? (i := 1) rfl) rfl dX3_readWorth_71 ?_
        refine lv_iconst (v := (nI 1)) C.1 C.2.1 dX3_readWorth_74 (by decide) ?_
        refine xadd C dX3_readWorth_75 ?_
        refine xput (v := .int (nI ((skp T n p + 1) + 1))) C hK hW hinX3 tyX3_ok nmX3 rfl (by omega) h6 2 (by decide) (List.mem_of_getElem? (i := 1) rfl) rfl rfl rfl (Nat.le_of_ble_eq_true rfl) dX3_readWorth_76 (fun w20 H locs e21 f22 hW => ?_)
        have h23 : w20 108 = .inr (3, [.ref (gad g 109), .int (nI n), .int (nI (wE T n (skp T n p)))]) := e21.trans (by rw [wE, if_pos (c := dg T n (skp T n p + 1)) ⟨by omega, h48⟩]; rfl)
        have hw := wW_le hd
        refine lv_iload_n C.1 C.2.1 dX3_readWorth_79 rfl (lv_at hl 0 rfl) ?_
        refine lv_iconst (v := (nI 1)) C.1 C.2.1 dX3_readWorth_80 (by decide) ?_
        refine xge (tgt := 91) C (by omega) (by omega) dX3_readWorth_81 (by decide) (fun c81 => ?_) (fun c81 => ?_)
        · refine lv_iload_n C.1 C.2.1 dX3_readWorth_91 rfl (lv_at hl 0 rfl) ?_
          exact xret_i C hr hlk hW ⟨(by rw [wP, if_pos ⟨hd, by omega⟩]; exact h23), (fun j z0 => ((f22 j (by omega)).trans (f5 j (by omega)))), (wX_ok ⟨hd, by omega⟩).symm⟩ dX3_readWorth_92
        · refine lv_aload_n C.1 C.2.1 dX3_readWorth_84 rfl (lv_at hl 2 rfl) ?_
          refine lv_iload_n C.1 C.2.1 dX3_readWorth_85 rfl (lv_at hl 1 rfl) ?_
          refine xput (v := .int (nI (skp T n p))) C hK hW hinX3 tyX3_ok nmX3 rfl (by omega) h23 2 (by decide) (List.mem_of_getElem? (i := 1) rfl) rfl rfl rfl (Nat.le_of_ble_eq_true rfl) dX3_readWorth_86 (fun w24 H locs e25 f26 hW => ?_)
          refine lv_iconst (v := (-1 : Int32)) C.1 C.2.1 dX3_readWorth_89 (by decide) ?_
          exact xret_i C hr hlk hW ⟨(by rw [wP, if_neg (fun z => by have := z.2; omega)]; exact e25), (fun j z0 => ((f26 j (by omega)).trans ((f22 j (by omega)).trans (f5 j (by omega))))), (wX_no (fun z => by have := z.2; omega)).symm⟩ dX3_readWorth_90
  · refine xtopI (b := (-1 : Int32)) (if_neg hd) ?_
    have h27 : w1 108 = .inr (3, [.ref (gad g 109), .int (nI n), .int (nI (skp T n p))]) := h4.trans (by rw [dP, if_neg hd])
    refine lv_istore_n (lv' := [(1, .int (-1 : Int32)), (0, .ref (gad g 108))]) C.1 C.2.1 dX3_readWorth_7 rfl hl (by decide) rfl (fun ls hl => ?_)
    refine lv_iload_n C.1 C.2.1 dX3_readWorth_8 rfl (lv_at hl 0 rfl) ?_
    refine lv_if_ge (tgt := 14) C.1 C.2.1 dX3_readWorth_9 (by decide) (fun c9 => absurd c9 (by decide)) (fun c9 => ?_)
    refine lv_iconst (v := (-1 : Int32)) C.1 C.2.1 dX3_readWorth_12 (by decide) ?_
    exact xret_i C hr hlk hW ⟨(by rw [wP, if_neg (fun z => hd z.1)]; exact h27), (fun j z0 => (f5 j (by omega))), (wX_no (fun z => hd z.1)).symm⟩ dX3_readWorth_13

set_option maxHeartbeats 4000000 in
set_option maxRecDepth 100000 in
theorem c_X3_readClaim (l : Launch) (g : GE) (w : Nat → va_E) (n p m : Nat) (x : Int32) (T L K : Nat → Nat) (hI : AdInj g) (hN : gN g = 130) (hn : n ≤ 80) (hp : p ≤ n) (hT : OkT T n) (hm : m < 5) (pr0 : w 108 = .inr (3, [.ref (gad g 109), .int (nI n), .int (nI p)])) (pr1 : w 109 = .inl (gI g, 80, .inl (cK 80 0 T))) (pr2 : GAt g 67 x (nI m) L w) (pr3 : CAt g 67 K w) : Met l yX3_readClaim wsX3_readClaim ({ frames := 3, cells := 0, slots := 0, locals := 67 } : Room) (XPc g w [.ref (gad g 108), .ref (gad g 67)]) (XQi g (fun r w' => w' 108 = .inr (3, [.ref (gad g 109), .int (nI n), .int (nI (cA T n p))]) ∧ GAt g 67 x (nI (if cOk T n p then m + 1 else m)) L w' ∧ CAt g 67 (if cOk T n p then addC m (dV T n p) (cT T n p) (cZ T n p) K else K) w' ∧ (∀ j : Nat, ¬ (67 ≤ j ∧ j < 68) → ¬ (73 ≤ j ∧ j < 76) → ¬ (108 ≤ j ∧ j < 109) → w' j = w j) ∧ r = (bI (cOk T n p)))) 0 0 (gA g) := by
  refine xmet (cc := cX3_readClaim) (maxL := 5) (ret := (some .boolean)) (by decide) rfl hI (Nat.le_of_ble_eq_true rfl) ?_
  intro pG eG sG mG belowG methG cG ls C hr hlk hK hW hl
  have hl : lv_has ls 5 [(0, .ref (gad g 108)), (1, .ref (gad g 67))] := hl
  refine lv_aload_n C.1 C.2.1 dX3_readClaim_0 rfl (lv_at hl 0 rfl) ?_
  refine lv_iconst (v := (nI 0)) C.1 C.2.1 dX3_readClaim_1 (by decide) ?_
  refine lv_bipush (v := (nI 6)) C.1 C.2.1 dX3_readClaim_2 (by decide) ?_
  refine xcV_i (n := 2) (As := [.int (nI 0), .int (nI 6)]) C hK hW (c_X3_readDigit l g w n p 0 6 T hI hN (by omega) (by omega) hT (by omega) (by omega) pr0 pr1) gX3_readClaim_X3_readDigit rfl ⟨rfl, rfl⟩ (by decide +kernel) ⟨Nat.le_of_ble_eq_true rfl, Nat.le_of_ble_eq_true rfl⟩ ⟨Nat.zero_le _, Nat.zero_le _⟩ rfl (by omega) pr0 rfl hl rfl (Nat.le_of_ble_eq_true rfl) dX3_readClaim_4 (fun r3 w1 H locs q2 hW => ?_)
  obtain ⟨h4, f5, rfl⟩ := q2
  have h6 : w1 108 = .inr (3, [.ref (gad g 109), .int (nI n), .int (nI (c1 T n p))]) := h4
  by_cases h1 : k1 T n p
  · have hv1 := dV_in h1
    refine xtopI (b := nI (dV T n p)) (if_pos h1) ?_
    refine lv_istore_n (lv' := [(2, .int (nI (dV T n p))), (0, .ref (gad g 108)), (1, .ref (gad g 67))]) C.1 C.2.1 dX3_readClaim_7 rfl hl (by decide) rfl (fun ls hl => ?_)
    refine lv_iload_n C.1 C.2.1 dX3_readClaim_8 rfl (lv_at hl 0 rfl) ?_
    refine x0lt C (by omega) (tgt := 21) dX3_readClaim_9 (by decide) ?_
    refine lv_aload_n C.1 C.2.1 dX3_readClaim_12 rfl (lv_at hl 1 rfl) ?_
    refine lv_bipush (v := (nI 45)) C.1 C.2.1 dX3_readClaim_13 (by decide) ?_
    have h7 : w1 109 = .inl (gI g, 80, .inl (cK 80 0 T)) := ((f5 109 (by omega)).trans pr1)
    refine xcV_i (n := 1) (As := [.int (nI 45)]) C hK hW (c_X3_accepts l g w1 n (c1 T n p) 45 T hI hN (by omega) (c1_le hp) hT (by omega) h6 h7) gX3_readClaim_X3_accepts rfl ⟨rfl, rfl⟩ (by decide +kernel) ⟨Nat.le_of_ble_eq_true rfl, Nat.le_of_ble_eq_true rfl⟩ ⟨Nat.zero_le _, Nat.zero_le _⟩ rfl (by omega) h6 rfl hl rfl (Nat.le_of_ble_eq_true rfl) dX3_readClaim_15 (fun r10 w8 H locs q9 hW => ?_)
    obtain ⟨h11, f12, rfl⟩ := q9
    have h13 : w8 108 = .inr (3, [.ref (gad g 109), .int (nI n), .int (nI (c2 T n p))]) := h11
    refine xBne (tgt := 23) C dX3_readClaim_18 (by decide) (fun c18 => ?_) (fun c18 => ?_)
    · refine lv_aload_n C.1 C.2.1 dX3_readClaim_23 rfl (lv_at hl 1 rfl) ?_
      refine lv_iload_n C.1 C.2.1 dX3_readClaim_24 rfl (lv_at hl 0 rfl) ?_
      refine lv_bipush (v := (nI 6)) C.1 C.2.1 dX3_readClaim_25 (by decide) ?_
      have h14 : w8 109 = .inl (gI g, 80, .inl (cK 80 0 T)) := ((f12 109 (by omega)).trans h7)
      refine xcV_i (n := 2) (As := [.int (nI (dV T n p)), .int (nI 6)]) C hK hW (c_X3_readDigit l g w8 n (c2 T n p) (dV T n p) 6 T hI hN (by omega) (c2_le hp) hT (by omega) (by omega) h13 h14) gX3_readClaim_X3_readDigit rfl ⟨rfl, rfl⟩ (by decide +kernel) ⟨Nat.le_of_ble_eq_true rfl, Nat.le_of_ble_eq_true rfl⟩ ⟨Nat.zero_le _, Nat.zero_le _⟩ rfl (by omega) h13 rfl hl rfl (Nat.le_of_ble_eq_true rfl) dX3_readClaim_27 (fun r17 w15 H locs q16 hW => ?_)
      obtain ⟨h18, f19, rfl⟩ := q16
      have h20 : w15 108 = .inr (3, [.ref (gad g 109), .int (nI n), .int (nI (c3 T n p))]) := h18
      by_cases h3 : k3 T n p
      · have hv3 : dV T n p ≤ cT T n p ∧ cT T n p ≤ 6 := dV_in h3
        refine xtopI (b := nI (cT T n p)) (if_pos h3) ?_
        refine lv_istore_n (lv' := [(3, .int (nI (cT T n p))), (2, .int (nI (dV T n p))), (0, .ref (gad g 108)), (1, .ref (gad g 67))]) C.1 C.2.1 dX3_readClaim_30 rfl hl (by decide) rfl (fun ls hl => ?_)
        refine lv_iload_n C.1 C.2.1 dX3_readClaim_31 rfl (lv_at hl 0 rfl) ?_
        refine x0lt C (by omega) (tgt := 44) dX3_readClaim_32 (by decide) ?_
        refine lv_aload_n C.1 C.2.1 dX3_readClaim_35 rfl (lv_at hl 2 rfl) ?_
        refine lv_bipush (v := (nI 61)) C.1 C.2.1 dX3_readClaim_36 (by decide) ?_
        have h21 : w15 109 = .inl (gI g, 80, .inl (cK 80 0 T)) := ((f19 109 (by omega)).trans h14)
        refine xcV_i (n := 1) (As := [.int (nI 61)]) C hK hW (c_X3_accepts l g w15 n (c3 T n p) 61 T hI hN (by omega) (c3_le hp) hT (by omega) h20 h21) gX3_readClaim_X3_accepts rfl ⟨rfl, rfl⟩ (by decide +kernel) ⟨Nat.le_of_ble_eq_true rfl, Nat.le_of_ble_eq_true rfl⟩ ⟨Nat.zero_le _, Nat.zero_le _⟩ rfl (by omega) h20 rfl hl rfl (Nat.le_of_ble_eq_true rfl) dX3_readClaim_38 (fun r24 w22 H locs q23 hW => ?_)
        obtain ⟨h25, f26, rfl⟩ := q23
        have h27 : w22 108 = .inr (3, [.ref (gad g 109), .int (nI n), .int (nI (c4 T n p))]) := h25
        refine xBne (tgt := 46) C dX3_readClaim_41 (by decide) (fun c41 => ?_) (fun c41 => ?_)
        · refine lv_aload_n C.1 C.2.1 dX3_readClaim_46 rfl (lv_at hl 2 rfl) ?_
          have h28 : w22 109 = .inl (gI g, 80, .inl (cK 80 0 T)) := ((f26 109 (by omega)).trans h21)
          refine xcV_i (n := 0) (As := []) C hK hW (c_X3_readWorth l g w22 n (c4 T n p) T hI hN (by omega) (c4_le hp) hT h27 h28) gX3_readClaim_X3_readWorth rfl ⟨rfl, rfl⟩ (by decide +kernel) ⟨Nat.le_of_ble_eq_true rfl, Nat.le_of_ble_eq_true rfl⟩ ⟨Nat.zero_le _, Nat.zero_le _⟩ rfl (by omega) h27 rfl hl rfl (Nat.le_of_ble_eq_true rfl) dX3_readClaim_47 (fun r31 w29 H locs q30 hW => ?_)
          obtain ⟨h32, f33, rfl⟩ := q30
          by_cases h5 : k5 T n p
          · have hv5 : cZ T n p ≤ 99 := wW_le h5.1
            have hv6 : 0 < cZ T n p := h5.2
            refine xtopI (b := nI (cZ T n p)) (wX_ok h5) ?_
            refine lv_istore (lv' := [(4, .int (nI (cZ T n p))), (3, .int (nI (cT T n p))), (2, .int (nI (dV T n p))), (0, .ref (gad g 108)), (1, .ref (gad g 67))]) C.1 C.2.1 dX3_readClaim_50 hl (by decide) rfl (fun ls hl => ?_)
            refine lv_iload C.1 C.2.1 dX3_readClaim_52 (lv_at hl 0 rfl) ?_
            refine x0le (tgt := 72) C (by omega) dX3_readClaim_54 (by decide) (fun c54 => absurd c54 (by omega)) (fun c54 => ?_)
            refine lv_aload_n C.1 C.2.1 dX3_readClaim_57 rfl (lv_at hl 4 rfl) ?_
            refine lv_iload_n C.1 C.2.1 dX3_readClaim_58 rfl (lv_at hl 2 rfl) ?_
            refine lv_iload_n C.1 C.2.1 dX3_readClaim_59 rfl (lv_at hl 1 rfl) ?_
            refine lv_iload C.1 C.2.1 dX3_readClaim_60 (lv_at hl 0 rfl) ?_
            have h34 : GAt g 67 x (nI m) L w29 := (GAt.fr (GAt.fr (GAt.fr (GAt.fr (GAt.fr pr2 (fun j h1 h2 => f5 j (by omega))) (fun j h1 h2 => f12 j (by omega))) (fun j h1 h2 => f19 j (by omega))) (fun j h1 h2 => f26 j (by omega))) (fun j h1 h2 => f33 j (by omega)))
            have h35 : CAt g 67 K w29 := (CAt.fr (CAt.fr (CAt.fr (CAt.fr (CAt.fr pr3 (fun j h1 h2 => f5 j (by omega))) (fun j h1 h2 => f12 j (by omega))) (fun j h1 h2 => f19 j (by omega))) (fun j h1 h2 => f26 j (by omega))) (fun j h1 h2 => f33 j (by omega)))
            refine xcV_i (n := 3) (As := [.int (nI (dV T n p)), .int (nI (cT T n p)), .int (nI (cZ T n p))]) C hK hW (c_X1_addClaim l g w29 67 m (dV T n p) (cT T n p) (cZ T n p) x L K hI hN (by omega) (by omega) h34 h35) gX3_readClaim_X1_addClaim rfl ⟨rfl, rfl⟩ (by decide +kernel) ⟨Nat.le_of_ble_eq_true rfl, Nat.le_of_ble_eq_true rfl⟩ ⟨Nat.zero_le _, Nat.zero_le _⟩ rfl (by omega) h34.1 rfl hl rfl (Nat.le_of_ble_eq_true rfl) dX3_readClaim_62 (fun r38 w36 H locs q37 hW => ?_)
            obtain ⟨h39, h40, f41, rfl⟩ := q37
            refine xBeq (tgt := 72) C dX3_readClaim_65 (by decide) (fun c65 => absurd c65 (by exact fun z => z hm)) (fun c65 => ?_)
            have h42 : GAt g 67 x (nI (m + 1)) L w36 := (by have hh := h39; rw [if_pos hm] at hh; exact hh)
            have h43 : CAt g 67 (addC m (dV T n p) (cT T n p) (cZ T n p) K) w36 := (by have hh := h40; rw [if_pos hm] at hh; exact hh)
            refine lv_iconst (v := (nI 1)) C.1 C.2.1 dX3_readClaim_68 (by decide) ?_
            refine lv_goto (tgt := 73) C.1 C.2.1 dX3_readClaim_69 (by decide) ?_
            have h44 : w36 108 = .inr (3, [.ref (gad g 109), .int (nI n), .int (nI (wP T n (c4 T n p)))]) := ((f41 108 (by omega) (by omega)).trans h32)
            exact xret_z C hr hlk hW rfl ⟨(by rw [cA, if_pos h1, if_pos c18, if_pos h3, if_pos c41]; exact h44), (by rw [if_pos (c := cOk T n p) ⟨h1, c18, h3, c41, h5⟩]; exact h42), (by rw [if_pos (c := cOk T n p) ⟨h1, c18, h3, c41, h5⟩]; exact h43), (fun j z0 z1 z2 => ((f41 j (by omega) (by omega)).trans ((f33 j (by omega)).trans ((f26 j (by omega)).trans ((f19 j (by omega)).trans ((f12 j (by omega)).trans (f5 j (by omega)))))))), (bI_t (P := cOk T n p) ⟨h1, c18, h3, c41, h5⟩).symm⟩ dX3_readClaim_73
          · refine xtopI (b := (-1 : Int32)) (wX_no h5) ?_
            refine lv_istore (lv' := [(4, .int (-1 : Int32)), (3, .int (nI (cT T n p))), (2, .int (nI (dV T n p))), (0, .ref (gad g 108)), (1, .ref (gad g 67))]) C.1 C.2.1 dX3_readClaim_50 hl (by decide) rfl (fun ls hl => ?_)
            refine lv_iload C.1 C.2.1 dX3_readClaim_52 (lv_at hl 0 rfl) ?_
            refine lv_if_le (tgt := 72) C.1 C.2.1 dX3_readClaim_54 (by decide) (fun c54 => ?_) (fun c54 => absurd c54 (by decide))
            refine lv_iconst (v := (nI 0)) C.1 C.2.1 dX3_readClaim_72 (by decide) ?_
            have h45 : GAt g 67 x (nI m) L w29 := (GAt.fr (GAt.fr (GAt.fr (GAt.fr (GAt.fr pr2 (fun j h1 h2 => f5 j (by omega))) (fun j h1 h2 => f12 j (by omega))) (fun j h1 h2 => f19 j (by omega))) (fun j h1 h2 => f26 j (by omega))) (fun j h1 h2 => f33 j (by omega)))
            have h46 : CAt g 67 K w29 := (CAt.fr (CAt.fr (CAt.fr (CAt.fr (CAt.fr pr3 (fun j h1 h2 => f5 j (by omega))) (fun j h1 h2 => f12 j (by omega))) (fun j h1 h2 => f19 j (by omega))) (fun j h1 h2 => f26 j (by omega))) (fun j h1 h2 => f33 j (by omega)))
            exact xret_z C hr hlk hW rfl ⟨(by rw [cA, if_pos h1, if_pos c18, if_pos h3, if_pos c41]; exact h32), (by rw [if_neg (c := cOk T n p) (fun z => h5 z.2.2.2.2)]; exact h45), (by rw [if_neg (c := cOk T n p) (fun z => h5 z.2.2.2.2)]; exact h46), (fun j z0 z1 z2 => ((f33 j (by omega)).trans ((f26 j (by omega)).trans ((f19 j (by omega)).trans ((f12 j (by omega)).trans (f5 j (by omega))))))), (bI_f (P := cOk T n p) (fun z => h5 z.2.2.2.2)).symm⟩ dX3_readClaim_73
        · refine lv_iconst (v := (nI 0)) C.1 C.2.1 dX3_readClaim_44 (by decide) ?_
          have h47 : GAt g 67 x (nI m) L w22 := (GAt.fr (GAt.fr (GAt.fr (GAt.fr pr2 (fun j h1 h2 => f5 j (by omega))) (fun j h1 h2 => f12 j (by omega))) (fun j h1 h2 => f19 j (by omega))) (fun j h1 h2 => f26 j (by omega)))
          have h48 : CAt g 67 K w22 := (CAt.fr (CAt.fr (CAt.fr (CAt.fr pr3 (fun j h1 h2 => f5 j (by omega))) (fun j h1 h2 => f12 j (by omega))) (fun j h1 h2 => f19 j (by omega))) (fun j h1 h2 => f26 j (by omega)))
          exact xret_z C hr hlk hW rfl ⟨(by rw [cA, if_pos h1, if_pos c18, if_pos h3, if_neg c41]; exact h27), (by rw [if_neg (c := cOk T n p) (fun z => c41 z.2.2.2.1)]; exact h47), (by rw [if_neg (c := cOk T n p) (fun z => c41 z.2.2.2.1)]; exact h48), (fun j z0 z1 z2 => ((f26 j (by omega)).trans ((f19 j (by omega)).trans ((f12 j (by omega)).trans (f5 j (by omega)))))), (bI_f (P := cOk T n p) (fun z => c41 z.2.2.2.1)).symm⟩ dX3_readClaim_45
      · refine xtopI (b := (-1 : Int32)) (if_neg h3) ?_
        refine lv_istore_n (lv' := [(3, .int (-1 : Int32)), (2, .int (nI (dV T n p))), (0, .ref (gad g 108)), (1, .ref (gad g 67))]) C.1 C.2.1 dX3_readClaim_30 rfl hl (by decide) rfl (fun ls hl => ?_)
        refine lv_iload_n C.1 C.2.1 dX3_readClaim_31 rfl (lv_at hl 0 rfl) ?_
        refine lv_if_lt (tgt := 44) C.1 C.2.1 dX3_readClaim_32 (by decide) (fun c32 => ?_) (fun c32 => absurd c32 (by decide))
        refine lv_iconst (v := (nI 0)) C.1 C.2.1 dX3_readClaim_44 (by decide) ?_
        have h49 : GAt g 67 x (nI m) L w15 := (GAt.fr (GAt.fr (GAt.fr pr2 (fun j h1 h2 => f5 j (by omega))) (fun j h1 h2 => f12 j (by omega))) (fun j h1 h2 => f19 j (by omega)))
        have h50 : CAt g 67 K w15 := (CAt.fr (CAt.fr (CAt.fr pr3 (fun j h1 h2 => f5 j (by omega))) (fun j h1 h2 => f12 j (by omega))) (fun j h1 h2 => f19 j (by omega)))
        exact xret_z C hr hlk hW rfl ⟨(by rw [cA, if_pos h1, if_pos c18, if_neg h3]; exact h20), (by rw [if_neg (c := cOk T n p) (fun z => h3 z.2.2.1)]; exact h49), (by rw [if_neg (c := cOk T n p) (fun z => h3 z.2.2.1)]; exact h50), (fun j z0 z1 z2 => ((f19 j (by omega)).trans ((f12 j (by omega)).trans (f5 j (by omega))))), (bI_f (P := cOk T n p) (fun z => h3 z.2.2.1)).symm⟩ dX3_readClaim_45
    · refine lv_iconst (v := (nI 0)) C.1 C.2.1 dX3_readClaim_21 (by decide) ?_
      have h51 : GAt g 67 x (nI m) L w8 := (GAt.fr (GAt.fr pr2 (fun j h1 h2 => f5 j (by omega))) (fun j h1 h2 => f12 j (by omega)))
      have h52 : CAt g 67 K w8 := (CAt.fr (CAt.fr pr3 (fun j h1 h2 => f5 j (by omega))) (fun j h1 h2 => f12 j (by omega)))
      exact xret_z C hr hlk hW rfl ⟨(by rw [cA, if_pos h1, if_neg c18]; exact h13), (by rw [if_neg (c := cOk T n p) (fun z => c18 z.2.1)]; exact h51), (by rw [if_neg (c := cOk T n p) (fun z => c18 z.2.1)]; exact h52), (fun j z0 z1 z2 => ((f12 j (by omega)).trans (f5 j (by omega)))), (bI_f (P := cOk T n p) (fun z => c18 z.2.1)).symm⟩ dX3_readClaim_22
  · refine xtopI (b := (-1 : Int32)) (if_neg h1) ?_
    refine lv_istore_n (lv' := [(2, .int (-1 : Int32)), (0, .ref (gad g 108)), (1, .ref (gad g 67))]) C.1 C.2.1 dX3_readClaim_7 rfl hl (by decide) rfl (fun ls hl => ?_)
    refine lv_iload_n C.1 C.2.1 dX3_readClaim_8 rfl (lv_at hl 0 rfl) ?_
    refine lv_if_lt (tgt := 21) C.1 C.2.1 dX3_readClaim_9 (by decide) (fun c9 => ?_) (fun c9 => absurd c9 (by decide))
    refine lv_iconst (v := (nI 0)) C.1 C.2.1 dX3_readClaim_21 (by decide) ?_
    have h53 : GAt g 67 x (nI m) L w1 := (GAt.fr pr2 (fun j h1 h2 => f5 j (by omega)))
    have h54 : CAt g 67 K w1 := (CAt.fr pr3 (fun j h1 h2 => f5 j (by omega)))
    exact xret_z C hr hlk hW rfl ⟨(by rw [cA, if_neg h1]; exact h6), (by rw [if_neg (c := cOk T n p) (fun z => h1 z.1)]; exact h53), (by rw [if_neg (c := cOk T n p) (fun z => h1 z.1)]; exact h54), (fun j z0 z1 z2 => (f5 j (by omega))), (bI_f (P := cOk T n p) (fun z => h1 z.1)).symm⟩ dX3_readClaim_22

set_option maxHeartbeats 4000000 in
set_option maxRecDepth 100000 in
theorem c_X3_readClaims (l : Launch) (g : GE) (w : Nat → va_E) (n p : Nat) (x : Int32) (T L K : Nat → Nat) (hI : AdInj g) (hN : gN g = 130) (hn : n ≤ 80) (hp : p ≤ n) (hT : OkT T n) (pr0 : w 108 = .inr (3, [.ref (gad g 109), .int (nI n), .int (nI p)])) (pr1 : w 109 = .inl (gI g, 80, .inl (cK 80 0 T))) (pr2 : GAt g 67 x (nI 0) L w) (pr3 : CAt g 67 K w) : Met l yX3_readClaims wsX3_readClaims ({ frames := 4, cells := 0, slots := 0, locals := 91 } : Room) (XPc g w [.ref (gad g 108), .ref (gad g 67)]) (XQi g (fun r w' => ∃ (m1 : Nat) (K1 : Nat → Nat), w' 108 = .inr (3, [.ref (gad g 109), .int (nI n), .int (nI ((clR T n 5 p 0 K).2.1))]) ∧ GAt g 67 x (nI m1) L w' ∧ CAt g 67 K1 w' ∧ (∀ j : Nat, ¬ (67 ≤ j ∧ j < 68) → ¬ (73 ≤ j ∧ j < 76) → ¬ (108 ≤ j ∧ j < 109) → w' j = w j) ∧ (((clR T n 5 p 0 K).1 = true ∧ r = nI 1 ∧ m1 = (clR T n 5 p 0 K).2.2.1 ∧ K1 = (clR T n 5 p 0 K).2.2.2) ∨ ((clR T n 5 p 0 K).1 = false ∧ (r = nI 0 ∨ (r = nI 1 ∧ dg T n (clR T n 5 p 0 K).2.1)))))) 0 0 (gA g) := by
  refine xmet (cc := cX3_readClaims) (maxL := 3) (ret := (some .boolean)) (by decide) rfl hI (Nat.le_of_ble_eq_true rfl) ?_
  intro pG eG sG mG belowG methG cG ls C hr hlk hK hW hl
  have hl : lv_has ls 3 [(0, .ref (gad g 108)), (1, .ref (gad g 67))] := hl
  refine lv_iconst (v := (nI 0)) C.1 C.2.1 dX3_readClaims_0 (by decide) ?_
  refine lv_istore_n (lv' := [(2, .int (nI 0)), (0, .ref (gad g 108)), (1, .ref (gad g 67))]) C.1 C.2.1 dX3_readClaims_1 rfl hl (by decide) rfl (fun ls hl => ?_)
  have loop2 : ∀ (kG : Nat) (c q : Nat) (K2 : Nat → Nat) (v2 : Nat → va_E) (H : Heap) (locs : List Loc) (ls : Array Slot), kG = 5 - c → (v2 108 = .inr (3, [.ref (gad g 109), .int (nI n), .int (nI q)])) → (v2 109 = .inl (gI g, 80, .inl (cK 80 0 T))) → (GAt g 67 x (nI c) L v2) → (CAt g 67 K2 v2) → (∀ j : Nat, ¬ (67 ≤ j ∧ j < 68) → ¬ (73 ≤ j ∧ j < 76) → ¬ (108 ≤ j ∧ j < 109) → v2 j = w j) → (c ≤ 5) → (q ≤ n) → ((clH T n c q K2 = clR T n 5 p 0 K) ∨ (0 < c ∧ dg T n q ∧ (clR T n 5 p 0 K).1 = false ∧ (clR T n 5 p 0 K).2.1 = q)) → XW g v2 (gA g) sG.heap H locs → lv_has ls 3 [(2, .int (nI c)), (0, .ref (gad g 108)), (1, .ref (gad g 67))] → W pG l eG ({ frames := 4, cells := 0, slots := 0, locals := 91 } : Room) sG mG ([.ref (gad g 108), .ref (gad g 67)] : List Value).toArray belowG methG cG H locs 0 0 (MQ belowG (XQi g (fun r w' => ∃ (m1 : Nat) (K1 : Nat → Nat), w' 108 = .inr (3, [.ref (gad g 109), .int (nI n), .int (nI ((clR T n 5 p 0 K).2.1))]) ∧ GAt g 67 x (nI m1) L w' ∧ CAt g 67 K1 w' ∧ (∀ j : Nat, ¬ (67 ≤ j ∧ j < 68) → ¬ (73 ≤ j ∧ j < 76) → ¬ (108 ≤ j ∧ j < 109) → w' j = w j) ∧ (((clR T n 5 p 0 K).1 = true ∧ r = nI 1 ∧ m1 = (clR T n 5 p 0 K).2.2.1 ∧ K1 = (clR T n 5 p 0 K).2.2.2) ∨ ((clR T n 5 p 0 K).1 = false ∧ (r = nI 0 ∨ (r = nI 1 ∧ dg T n (clR T n 5 p 0 K).2.1)))))) ([.ref (gad g 108), .ref (gad g 67)] : List Value).toArray sG 0 0 (gA g)) (F0 mG 2 ls []) := by
    intro k2
    induction k2 using Nat.strongRecOn with
    | _ k2 ih2 =>
    intro c q K2 v2 H locs ls hk2 fa2_0 fa2_1 fa2_2 fa2_3 hfr2 hc hq hInv hW hl
    refine lv_iload_n C.1 C.2.1 dX3_readClaims_2 rfl (lv_at hl 0 rfl) ?_
    refine lv_iconst (v := (nI 5)) C.1 C.2.1 dX3_readClaims_3 (by decide) ?_
    refine xge (tgt := 38) C (by omega) (by omega) dX3_readClaims_4 (by decide) (fun c4 => ?_) (fun c4 => ?_)
    · rcases hInv with hInv | hInv
      · refine lv_iconst (v := (nI 1)) C.1 C.2.1 dX3_readClaims_38 (by decide) ?_
        exact xret_z C hr hlk hW rfl ⟨_, _, (by rw [← hInv, clH_5 (by omega)]; exact fa2_0), fa2_2, fa2_3, (fun j z0 z1 z2 => (hfr2 j z0 z1 z2)), Or.inl (by rw [← hInv, clH_5 (by omega)]; exact ⟨rfl, rfl, rfl, rfl⟩)⟩ dX3_readClaims_39
      · refine lv_iconst (v := (nI 1)) C.1 C.2.1 dX3_readClaims_38 (by decide) ?_
        exact xret_z C hr hlk hW rfl ⟨_, _, (by rw [hInv.2.2.2]; exact fa2_0), fa2_2, fa2_3, (fun j z0 z1 z2 => (hfr2 j z0 z1 z2)), Or.inr ⟨hInv.2.2.1, Or.inr ⟨rfl, (by rw [hInv.2.2.2]; exact hInv.2.1)⟩⟩⟩ dX3_readClaims_39
    · refine lv_iload_n C.1 C.2.1 dX3_readClaims_7 rfl (lv_at hl 0 rfl) ?_
      refine x0le (tgt := 22) C (by omega) dX3_readClaims_8 (by decide) (fun c8 => ?_) (fun c8 => ?_)
      · have hR : clR T n (5 - c) q c K2 = clR T n 5 p 0 K := hInv.elim (fun h => (clH_0 (by omega)).symm.trans h) (fun h => absurd h.1 (by omega))
        have hpp := hq
        refine lv_aload_n C.1 C.2.1 dX3_readClaims_22 rfl (lv_at hl 1 rfl) ?_
        refine lv_aload_n C.1 C.2.1 dX3_readClaims_23 rfl (lv_at hl 2 rfl) ?_
        refine xcV_i (n := 1) (As := [.ref (gad g 67)]) C hK hW (c_X3_readClaim l g v2 n q c x T L K2 hI hN (by omega) hpp hT (by omega) fa2_0 fa2_1 fa2_2 fa2_3) gX3_readClaims_X3_readClaim rfl ⟨rfl, rfl⟩ (by decide +kernel) ⟨Nat.le_of_ble_eq_true rfl, Nat.le_of_ble_eq_true rfl⟩ ⟨Nat.zero_le _, Nat.zero_le _⟩ rfl (by omega) fa2_0 rfl hl rfl (Nat.le_of_ble_eq_true rfl) dX3_readClaims_24 (fun r3 w1 H locs q2 hW => ?_)
        obtain ⟨h4, h5, h6, f7, rfl⟩ := q2
        refine xBne (tgt := 32) C dX3_readClaims_27 (by decide) (fun c27 => ?_) (fun c27 => ?_)
        · have hca := cA_le (T := T) hpp
          have h8 : GAt g 67 x (nI (c + 1)) L w1 := (by have hh := h5; rw [if_pos c27] at hh; exact hh)
          have h9 : CAt g 67 (addC c (dV T n q) (cT T n q) (cZ T n q) K2) w1 := (by have hh := h6; rw [if_pos c27] at hh; exact hh)
          refine lv_iinc (v := nI (c + 1)) (lv' := [(2, .int (nI (c + 1))), (0, .ref (gad g 108)), (1, .ref (gad g 67))]) C.1 C.2.1 dX3_readClaims_32 hl (k := 0) rfl (nI_add _ 1) (by decide) rfl (fun ls hl => ?_)
          refine lv_goto (tgt := 2) C.1 C.2.1 dX3_readClaims_35 (by decide) ?_
          have h10 : w1 109 = .inl (gI g, 80, .inl (cK 80 0 T)) := ((f7 109 (by omega) (by omega) (by omega)).trans fa2_1)
          exact ih2 (5 - (c + 1)) (by omega) (c + 1) (cA T n q) (addC c (dV T n q) (cT T n q) (cZ T n q) K2) w1 _ _ _ rfl h4 h10 h8 h9 (fun j z0 z1 z2 => ((f7 j (by omega) (by omega) (by omega)).trans (hfr2 j z0 z1 z2))) (by omega) (by omega) (cl_step (by omega) hR c27) hW hl
        · refine lv_iconst (v := (nI 0)) C.1 C.2.1 dX3_readClaims_30 (by decide) ?_
          exact xret_z C hr hlk hW rfl ⟨_, _, (by rw [← hR, clR_bad (by omega) c27]; exact h4), h5, h6, (fun j z0 z1 z2 => ((f7 j (by omega) (by omega) (by omega)).trans (hfr2 j z0 z1 z2))), Or.inr (by rw [← hR, clR_bad (by omega) c27]; exact ⟨rfl, Or.inl rfl⟩)⟩ dX3_readClaims_31
      · refine lv_aload_n C.1 C.2.1 dX3_readClaims_11 rfl (lv_at hl 1 rfl) ?_
        refine lv_bipush (v := (nI 44)) C.1 C.2.1 dX3_readClaims_12 (by decide) ?_
        refine xcV_i (n := 1) (As := [.int (nI 44)]) C hK hW (c_X3_accepts l g v2 n q 44 T hI hN (by omega) hq hT (by omega) fa2_0 fa2_1) gX3_readClaims_X3_accepts rfl ⟨rfl, rfl⟩ (by decide +kernel) ⟨Nat.le_of_ble_eq_true rfl, Nat.le_of_ble_eq_true rfl⟩ ⟨Nat.zero_le _, Nat.zero_le _⟩ rfl (by omega) fa2_0 rfl hl rfl (Nat.le_of_ble_eq_true rfl) dX3_readClaims_14 (fun r13 w11 H locs q12 hW => ?_)
        obtain ⟨h14, f15, rfl⟩ := q12
        refine xBne (tgt := 22) C dX3_readClaims_17 (by decide) (fun c17 => ?_) (fun c17 => ?_)
        · have hR : clR T n (5 - c) (aP T n q 44) c K2 = clR T n 5 p 0 K := hInv.elim (fun h => (clH_go (by omega) (by omega) c17).symm.trans h) (fun h => absurd c17 (dg_no h.2.1 (by decide)))
          have hpp : aP T n q 44 ≤ n := aP_le hq
          refine lv_aload_n C.1 C.2.1 dX3_readClaims_22 rfl (lv_at hl 1 rfl) ?_
          refine lv_aload_n C.1 C.2.1 dX3_readClaims_23 rfl (lv_at hl 2 rfl) ?_
          have h16 : w11 109 = .inl (gI g, 80, .inl (cK 80 0 T)) := ((f15 109 (by omega)).trans fa2_1)
          have h17 : GAt g 67 x (nI c) L w11 := (GAt.fr fa2_2 (fun j h1 h2 => f15 j (by omega)))
          have h18 : CAt g 67 K2 w11 := (CAt.fr fa2_3 (fun j h1 h2 => f15 j (by omega)))
          refine xcV_i (n := 1) (As := [.ref (gad g 67)]) C hK hW (c_X3_readClaim l g w11 n (aP T n q 44) c x T L K2 hI hN (by omega) hpp hT (by omega) h14 h16 h17 h18) gX3_readClaims_X3_readClaim rfl ⟨rfl, rfl⟩ (by decide +kernel) ⟨Nat.le_of_ble_eq_true rfl, Nat.le_of_ble_eq_true rfl⟩ ⟨Nat.zero_le _, Nat.zero_le _⟩ rfl (by omega) h14 rfl hl rfl (Nat.le_of_ble_eq_true rfl) dX3_readClaims_24 (fun r21 w19 H locs q20 hW => ?_)
          obtain ⟨h22, h23, h24, f25, rfl⟩ := q20
          refine xBne (tgt := 32) C dX3_readClaims_27 (by decide) (fun c27 => ?_) (fun c27 => ?_)
          · have hca := cA_le (T := T) hpp
            have h26 : GAt g 67 x (nI (c + 1)) L w19 := (by have hh := h23; rw [if_pos c27] at hh; exact hh)
            have h27 : CAt g 67 (addC c (dV T n (aP T n q 44)) (cT T n (aP T n q 44)) (cZ T n (aP T n q 44)) K2) w19 := (by have hh := h24; rw [if_pos c27] at hh; exact hh)
            refine lv_iinc (v := nI (c + 1)) (lv' := [(2, .int (nI (c + 1))), (0, .ref (gad g 108)), (1, .ref (gad g 67))]) C.1 C.2.1 dX3_readClaims_32 hl (k := 0) rfl (nI_add _ 1) (by decide) rfl (fun ls hl => ?_)
            refine lv_goto (tgt := 2) C.1 C.2.1 dX3_readClaims_35 (by decide) ?_
            have h28 : w19 109 = .inl (gI g, 80, .inl (cK 80 0 T)) := ((f25 109 (by omega) (by omega) (by omega)).trans h16)
            exact ih2 (5 - (c + 1)) (by omega) (c + 1) (cA T n (aP T n q 44)) (addC c (dV T n (aP T n q 44)) (cT T n (aP T n q 44)) (cZ T n (aP T n q 44)) K2) w19 _ _ _ rfl h22 h28 h26 h27 (fun j z0 z1 z2 => ((f25 j (by omega) (by omega) (by omega)).trans ((f15 j (by omega)).trans (hfr2 j z0 z1 z2)))) (by omega) (by omega) (cl_step (by omega) hR c27) hW hl
          · refine lv_iconst (v := (nI 0)) C.1 C.2.1 dX3_readClaims_30 (by decide) ?_
            exact xret_z C hr hlk hW rfl ⟨_, _, (by rw [← hR, clR_bad (by omega) c27]; exact h22), h23, h24, (fun j z0 z1 z2 => ((f25 j (by omega) (by omega) (by omega)).trans ((f15 j (by omega)).trans (hfr2 j z0 z1 z2)))), Or.inr (by rw [← hR, clR_bad (by omega) c27]; exact ⟨rfl, Or.inl rfl⟩)⟩ dX3_readClaims_31
        · rcases hInv with hInv | hInv
          · refine lv_iconst (v := (nI 1)) C.1 C.2.1 dX3_readClaims_20 (by decide) ?_
            have h29 : GAt g 67 x (nI c) L w11 := (GAt.fr fa2_2 (fun j h1 h2 => f15 j (by omega)))
            have h30 : CAt g 67 K2 w11 := (CAt.fr fa2_3 (fun j h1 h2 => f15 j (by omega)))
            exact xret_z C hr hlk hW rfl ⟨_, _, (by rw [← hInv, clH_no (by omega) (by omega) c17]; exact h14), h29, h30, (fun j z0 z1 z2 => ((f15 j (by omega)).trans (hfr2 j z0 z1 z2))), Or.inl (by rw [← hInv, clH_no (by omega) (by omega) c17]; exact ⟨rfl, rfl, rfl, rfl⟩)⟩ dX3_readClaims_21
          · refine lv_iconst (v := (nI 1)) C.1 C.2.1 dX3_readClaims_20 (by decide) ?_
            have h31 : GAt g 67 x (nI c) L w11 := (GAt.fr fa2_2 (fun j h1 h2 => f15 j (by omega)))
            have h32 : CAt g 67 K2 w11 := (CAt.fr fa2_3 (fun j h1 h2 => f15 j (by omega)))
            exact xret_z C hr hlk hW rfl ⟨_, _, (by rw [hInv.2.2.2, ← dg_aP (c := 44) hInv.2.1 (by decide)]; exact h14), h31, h32, (fun j z0 z1 z2 => ((f15 j (by omega)).trans (hfr2 j z0 z1 z2))), Or.inr ⟨hInv.2.2.1, Or.inr ⟨rfl, (by rw [hInv.2.2.2]; exact hInv.2.1)⟩⟩⟩ dX3_readClaims_21
  exact loop2 _ 0 p K w _ _ _ rfl pr0 pr1 pr2 pr3 (fun j z0 z1 z2 => rfl) (by omega) (by omega) (Or.inl rfl) hW hl

set_option maxHeartbeats 4000000 in
set_option maxRecDepth 100000 in
theorem c_X3_readValley (l : Launch) (g : GE) (w : Nat → va_E) (n p0 : Nat) (x y : Int32) (T L K : Nat → Nat) (hI : AdInj g) (hN : gN g = 130) (hn : n ≤ 80) (hT : OkT T n) (pr0 : w 108 = .inr (3, [.ref (gad g 109), .int (nI n), .int (nI p0)])) (pr1 : w 109 = .inl (gI g, 80, .inl (cK 80 0 T))) (pr2 : GAt g 67 x y L w) (pr3 : CAt g 67 K w) : Met l yX3_readValley wsX3_readValley ({ frames := 5, cells := 0, slots := 0, locals := 113 } : Room) (XPc g w [.ref (gad g 108), .ref (gad g 67)]) (XQi g (fun r w' => ∃ (m1 : Nat) (L1 K1 : Nat → Nat), w' 108 = .inr (3, [.ref (gad g 109), .int (nI n), .int (nI (vP T n K))]) ∧ GAt g 67 x (nI m1) L1 w' ∧ CAt g 67 K1 w' ∧ (∀ j : Nat, ¬ (67 ≤ j ∧ j < 72) → ¬ (73 ≤ j ∧ j < 76) → ¬ (108 ≤ j ∧ j < 109) → w' j = w j) ∧ (vOk T n K → m1 = (vC T n K).2.2.1 ∧ K1 = (vC T n K).2.2.2 ∧ L1 = vW T n L) ∧ r = (bI (vOk T n K)))) 0 0 (gA g) := by
  refine xmet (cc := cX3_readValley) (maxL := 4) (ret := (some .boolean)) (by decide) rfl hI (Nat.le_of_ble_eq_true rfl) ?_
  intro pG eG sG mG belowG methG cG ls C hr hlk hK hW hl
  have hl : lv_has ls 4 [(0, .ref (gad g 108)), (1, .ref (gad g 67))] := hl
  have hinX1 : ∀ x ∈ u_ws RX1 TX1 8, x ∈ wsX3_readValley := by decide +kernel
  have hinX2 : ∀ x ∈ u_ws RX2 TX2 5, x ∈ wsX3_readValley := by decide +kernel
  have hinX3 : ∀ x ∈ u_ws RX3 TX3 3, x ∈ wsX3_readValley := by decide +kernel
  refine lv_aload_n C.1 C.2.1 dX3_readValley_0 rfl (lv_at hl 0 rfl) ?_
  refine lv_iconst (v := (nI 0)) C.1 C.2.1 dX3_readValley_1 (by decide) ?_
  refine xput (v := .int (nI 0)) C hK hW hinX3 tyX3_ok nmX3 rfl (by omega) pr0 2 (by decide) (List.mem_of_getElem? (i := 1) rfl) rfl rfl rfl (Nat.le_of_ble_eq_true rfl) dX3_readValley_2 (fun w1 H locs e2 f3 hW => ?_)
  refine lv_aload_n C.1 C.2.1 dX3_readValley_5 rfl (lv_at hl 1 rfl) ?_
  refine lv_iconst (v := (nI 0)) C.1 C.2.1 dX3_readValley_6 (by decide) ?_
  have h4 : GAt g 67 x y L w1 := (GAt.fr pr2 (fun j h1 h2 => f3 j (by omega)))
  refine xput (v := .int (nI 0)) C hK hW hinX1 tyX1_ok nmX1 rfl (by omega) h4.1 7 (by decide) (List.mem_of_getElem? (i := 2) rfl) rfl rfl rfl (Nat.le_of_ble_eq_true rfl) dX3_readValley_7 (fun w5 H locs e6 f7 hW => ?_)
  have h8 : GAt g 67 x (nI 0) L w5 := GAt_o h4 e6 f7
  refine lv_aload_n C.1 C.2.1 dX3_readValley_10 rfl (lv_at hl 0 rfl) ?_
  refine lv_iconst (v := (nI 0)) C.1 C.2.1 dX3_readValley_11 (by decide) ?_
  refine lv_bipush (v := (nI 6)) C.1 C.2.1 dX3_readValley_12 (by decide) ?_
  have h9 : w5 108 = .inr (3, [.ref (gad g 109), .int (nI n), .int (nI 0)]) := ((f7 108 (by omega)).trans e2)
  have h10 : w5 109 = .inl (gI g, 80, .inl (cK 80 0 T)) := ((f7 109 (by omega)).trans ((f3 109 (by omega)).trans pr1))
  refine xcV_i (n := 2) (As := [.int (nI 0), .int (nI 6)]) C hK hW (c_X3_readDigit l g w5 n 0 0 6 T hI hN (by omega) (Nat.zero_le _) hT (by omega) (by omega) h9 h10) gX3_readValley_X3_readDigit rfl ⟨rfl, rfl⟩ (by decide +kernel) ⟨Nat.le_of_ble_eq_true rfl, Nat.le_of_ble_eq_true rfl⟩ ⟨Nat.zero_le _, Nat.zero_le _⟩ rfl (by omega) h9 rfl hl rfl (Nat.le_of_ble_eq_true rfl) dX3_readValley_14 (fun r13 w11 H locs q12 hW => ?_)
  obtain ⟨h14, f15, rfl⟩ := q12
  have h16 : w11 108 = .inr (3, [.ref (gad g 109), .int (nI n), .int (nI (v0 T n))]) := h14
  by_cases h0 : dOk T n 0 0 6
  · have hv0 := dV_in h0
    refine xtopI (b := nI (dV T n 0)) (if_pos h0) ?_
    refine lv_istore_n (lv' := [(2, .int (nI (dV T n 0))), (0, .ref (gad g 108)), (1, .ref (gad g 67))]) C.1 C.2.1 dX3_readValley_17 rfl hl (by decide) rfl (fun ls hl => ?_)
    refine lv_iload_n C.1 C.2.1 dX3_readValley_18 rfl (lv_at hl 0 rfl) ?_
    refine x0lt C (by omega) (tgt := 31) dX3_readValley_19 (by decide) ?_
    refine lv_aload_n C.1 C.2.1 dX3_readValley_22 rfl (lv_at hl 1 rfl) ?_
    refine lv_bipush (v := (nI 58)) C.1 C.2.1 dX3_readValley_23 (by decide) ?_
    have h17 : w11 109 = .inl (gI g, 80, .inl (cK 80 0 T)) := ((f15 109 (by omega)).trans h10)
    refine xcV_i (n := 1) (As := [.int (nI 58)]) C hK hW (c_X3_accepts l g w11 n (v0 T n) 58 T hI hN (by omega) v0_le hT (by omega) h16 h17) gX3_readValley_X3_accepts rfl ⟨rfl, rfl⟩ (by decide +kernel) ⟨Nat.le_of_ble_eq_true rfl, Nat.le_of_ble_eq_true rfl⟩ ⟨Nat.zero_le _, Nat.zero_le _⟩ rfl (by omega) h16 rfl hl rfl (Nat.le_of_ble_eq_true rfl) dX3_readValley_25 (fun r20 w18 H locs q19 hW => ?_)
    obtain ⟨h21, f22, rfl⟩ := q19
    have h23 : w18 108 = .inr (3, [.ref (gad g 109), .int (nI n), .int (nI (v1 T n))]) := h21
    refine xBne (tgt := 33) C dX3_readValley_28 (by decide) (fun c28 => ?_) (fun c28 => ?_)
    · refine lv_aload_n C.1 C.2.1 dX3_readValley_33 rfl (lv_at hl 2 rfl) ?_
      have h24 : GAt g 67 x (nI 0) L w18 := (GAt.fr (GAt.fr h8 (fun j h1 h2 => f15 j (by omega))) (fun j h1 h2 => f22 j (by omega)))
      refine xget C hK hW hinX1 rfl (by omega) h24.1 1 (by decide) (List.mem_of_getElem? (i := 3) rfl) rfl dX3_readValley_34 ?_
      refine lv_iload_n C.1 C.2.1 dX3_readValley_37 rfl (lv_at hl 0 rfl) ?_
      refine xput (v := .int (nI (dV T n 0))) C hK hW hinX2 tyX2_ok nmX2 rfl (by omega) h24.2.2.1 0 (by decide) (List.mem_of_getElem? (i := 4) rfl) rfl rfl rfl (Nat.le_of_ble_eq_true rfl) dX3_readValley_38 (fun w25 H locs e26 f27 hW => ?_)
      have h28 : GAt g 67 x (nI 0) (va_up L 2 (dV T n 0)) w25 := GAt_spot h24 e26 f27
      refine lv_iconst (v := (nI 0)) C.1 C.2.1 dX3_readValley_41 (by decide) ?_
      refine lv_istore_n (lv' := [(3, .int (nI 0)), (2, .int (nI (dV T n 0))), (0, .ref (gad g 108)), (1, .ref (gad g 67))]) C.1 C.2.1 dX3_readValley_42 rfl hl (by decide) rfl (fun ls hl => ?_)
      have loop43 : ∀ (kG : Nat) (f : Nat) (v43 : Nat → va_E) (H : Heap) (locs : List Loc) (ls : Array Slot), kG = 7 - f → (v43 108 = .inr (3, [.ref (gad g 109), .int (nI n), .int (nI (pF T n (v1 T n) f))])) → (v43 109 = .inl (gI g, 80, .inl (cK 80 0 T))) → (GAt g 67 x (nI 0) (gW T n (v1 T n) (va_up L 2 (dV T n 0)) f) v43) → (CAt g 67 K v43) → (∀ j : Nat, ¬ (67 ≤ j ∧ j < 72) → ¬ (73 ≤ j ∧ j < 76) → ¬ (108 ≤ j ∧ j < 109) → v43 j = w j) → (f ≤ 7) → (flR T n (7 - f) (pF T n (v1 T n) f) = vL T n) → XW g v43 (gA g) sG.heap H locs → lv_has ls 4 [(3, .int (nI f)), (2, .int (nI (dV T n 0))), (0, .ref (gad g 108)), (1, .ref (gad g 67))] → W pG l eG ({ frames := 5, cells := 0, slots := 0, locals := 113 } : Room) sG mG ([.ref (gad g 108), .ref (gad g 67)] : List Value).toArray belowG methG cG H locs 0 0 (MQ belowG (XQi g (fun r w' => ∃ (m1 : Nat) (L1 K1 : Nat → Nat), w' 108 = .inr (3, [.ref (gad g 109), .int (nI n), .int (nI (vP T n K))]) ∧ GAt g 67 x (nI m1) L1 w' ∧ CAt g 67 K1 w' ∧ (∀ j : Nat, ¬ (67 ≤ j ∧ j < 72) → ¬ (73 ≤ j ∧ j < 76) → ¬ (108 ≤ j ∧ j < 109) → w' j = w j) ∧ (vOk T n K → m1 = (vC T n K).2.2.1 ∧ K1 = (vC T n K).2.2.2 ∧ L1 = vW T n L) ∧ r = (bI (vOk T n K)))) ([.ref (gad g 108), .ref (gad g 67)] : List Value).toArray sG 0 0 (gA g)) (F0 mG 43 ls []) := by
        intro k43
        induction k43 using Nat.strongRecOn with
        | _ k43 ih43 =>
        intro f v43 H locs ls hk43 fa43_0 fa43_1 fa43_2 fa43_3 hfr43 hf hFl hW hl
        refine lv_iload_n C.1 C.2.1 dX3_readValley_43 rfl (lv_at hl 0 rfl) ?_
        refine lv_bipush (v := (nI 7)) C.1 C.2.1 dX3_readValley_44 (by decide) ?_
        refine xge (tgt := 66) C (by omega) (by omega) dX3_readValley_46 (by decide) (fun c46 => ?_) (fun c46 => ?_)
        · have hgd := fl_end (by omega) hFl
          have hb1 : (vL T n).1 = true := by rw [hgd]
          have hb2 : (vL T n).2 = pF T n (v1 T n) f := by rw [hgd]
          have h29 : v43 108 = .inr (3, [.ref (gad g 109), .int (nI n), .int (nI ((vL T n).2))]) := fa43_0.trans (by rw [hb2])
          refine lv_aload_n C.1 C.2.1 dX3_readValley_66 rfl (lv_at hl 2 rfl) ?_
          refine lv_bipush (v := (nI 59)) C.1 C.2.1 dX3_readValley_67 (by decide) ?_
          refine xcV_i (n := 1) (As := [.int (nI 59)]) C hK hW (c_X3_accepts l g v43 n ((vL T n).2) 59 T hI hN (by omega) vL_le hT (by omega) h29 fa43_1) gX3_readValley_X3_accepts rfl ⟨rfl, rfl⟩ (by decide +kernel) ⟨Nat.le_of_ble_eq_true rfl, Nat.le_of_ble_eq_true rfl⟩ ⟨Nat.zero_le _, Nat.zero_le _⟩ rfl (by omega) h29 rfl hl rfl (Nat.le_of_ble_eq_true rfl) dX3_readValley_69 (fun r32 w30 H locs q31 hW => ?_)
          obtain ⟨h33, f34, rfl⟩ := q31
          have h35 : w30 108 = .inr (3, [.ref (gad g 109), .int (nI n), .int (nI (v9 T n))]) := h33
          refine xBeq (tgt := 85) C dX3_readValley_72 (by decide) (fun c72 => ?_) (fun c72 => ?_)
          · have hvC : vC T n K = (true, v9 T n, 0, K) := if_neg c72
            have hvb : (vC T n K).1 = true := by rw [hvC]
            have h36 : w30 108 = .inr (3, [.ref (gad g 109), .int (nI n), .int (nI ((vC T n K).2.1))]) := h35.trans (by rw [hvC])
            refine lv_aload_n C.1 C.2.1 dX3_readValley_85 rfl (lv_at hl 2 rfl) ?_
            have h37 : w30 109 = .inl (gI g, 80, .inl (cK 80 0 T)) := ((f34 109 (by omega)).trans fa43_1)
            refine xcV_i (n := 0) (As := []) C hK hW (c_X3_look l g w30 n ((vC T n K).2.1) T hI hN (by omega) vC_le hT h36 h37) gX3_readValley_X3_look rfl ⟨rfl, rfl⟩ (by decide +kernel) ⟨Nat.le_of_ble_eq_true rfl, Nat.le_of_ble_eq_true rfl⟩ ⟨Nat.zero_le _, Nat.zero_le _⟩ rfl (by omega) h36 rfl hl rfl (Nat.le_of_ble_eq_true rfl) dX3_readValley_86 (fun r40 w38 H locs q39 hW => ?_)
            obtain ⟨h41, f42, rfl⟩ := q39
            refine lv_iconst (v := (-1 : Int32)) C.1 C.2.1 dX3_readValley_89 (by decide) ?_
            refine lv_icmp_ne (tgt := 97) C.1 C.2.1 dX3_readValley_90 (by decide) (fun c90 => ?_) (fun c90 => ?_)
            · refine lv_iconst (v := (nI 0)) C.1 C.2.1 dX3_readValley_97 (by decide) ?_
              have h43 : GAt g 67 x (nI 0) (gW T n (v1 T n) (va_up L 2 (dV T n 0)) f) w38 := (GAt.fr (GAt.fr fa43_2 (fun j h1 h2 => f34 j (by omega))) (fun j h1 h2 => f42 j (by omega)))
              have h44 : CAt g 67 K w38 := (CAt.fr (CAt.fr fa43_3 (fun j h1 h2 => f34 j (by omega))) (fun j h1 h2 => f42 j (by omega)))
              exact xret_z C hr hlk hW rfl ⟨_, _, _, (by rw [vP, if_pos h0, if_pos c28, if_pos (c := (vL T n).1 = true) hb1, if_pos (c := (vC T n K).1 = true) hvb]; exact h41), h43, h44, (fun j z0 z1 z2 => ((f42 j (by omega)).trans ((f34 j (by omega)).trans (hfr43 j z0 z1 z2)))), (fun z => absurd z (fun z => c90 ((chX_end hT).mpr z.2.2.2))), (bI_f (P := vOk T n K) (fun z => c90 ((chX_end hT).mpr z.2.2.2))).symm⟩ dX3_readValley_98
            · refine lv_iconst (v := (nI 1)) C.1 C.2.1 dX3_readValley_93 (by decide) ?_
              refine lv_goto (tgt := 98) C.1 C.2.1 dX3_readValley_94 (by decide) ?_
              have h45 : GAt g 67 x (nI 0) (gW T n (v1 T n) (va_up L 2 (dV T n 0)) f) w38 := (GAt.fr (GAt.fr fa43_2 (fun j h1 h2 => f34 j (by omega))) (fun j h1 h2 => f42 j (by omega)))
              have h46 : CAt g 67 K w38 := (CAt.fr (CAt.fr fa43_3 (fun j h1 h2 => f34 j (by omega))) (fun j h1 h2 => f42 j (by omega)))
              exact xret_z C hr hlk hW rfl ⟨_, _, _, (by rw [vP, if_pos h0, if_pos c28, if_pos (c := (vL T n).1 = true) hb1, if_pos (c := (vC T n K).1 = true) hvb]; exact h41), h45, h46, (fun j z0 z1 z2 => ((f42 j (by omega)).trans ((f34 j (by omega)).trans (hfr43 j z0 z1 z2)))), (fun _ => ⟨by rw [hvC], by rw [hvC], (by rw [vW, show f = 7 by omega])⟩), (bI_t (P := vOk T n K) ⟨⟨h0, c28⟩, hb1, hvb, (chX_end hT).mp c90⟩).symm⟩ dX3_readValley_98
          · refine lv_aload_n C.1 C.2.1 dX3_readValley_75 rfl (lv_at hl 2 rfl) ?_
            refine lv_aload_n C.1 C.2.1 dX3_readValley_76 rfl (lv_at hl 3 rfl) ?_
            have h47 : w30 109 = .inl (gI g, 80, .inl (cK 80 0 T)) := ((f34 109 (by omega)).trans fa43_1)
            have h48 : GAt g 67 x (nI 0) (gW T n (v1 T n) (va_up L 2 (dV T n 0)) f) w30 := (GAt.fr fa43_2 (fun j h1 h2 => f34 j (by omega)))
            have h49 : CAt g 67 K w30 := (CAt.fr fa43_3 (fun j h1 h2 => f34 j (by omega)))
            refine xcV_i (n := 1) (As := [.ref (gad g 67)]) C hK hW (c_X3_readClaims l g w30 n (v9 T n) x T (gW T n (v1 T n) (va_up L 2 (dV T n 0)) f) K hI hN (by omega) v9_le hT h35 h47 h48 h49) gX3_readValley_X3_readClaims rfl ⟨rfl, rfl⟩ (by decide +kernel) ⟨Nat.le_of_ble_eq_true rfl, Nat.le_of_ble_eq_true rfl⟩ ⟨Nat.zero_le _, Nat.zero_le _⟩ rfl (by omega) h35 rfl hl rfl (Nat.le_of_ble_eq_true rfl) dX3_readValley_77 (fun r52 w50 H locs q51 hW => ?_)
            obtain ⟨m1_58, K1_59, h53, h54, h55, f56, x57⟩ := q51
            have hvC : vC T n K = clR T n 5 (v9 T n) 0 K := if_pos c72
            have h60 : w50 108 = .inr (3, [.ref (gad g 109), .int (nI n), .int (nI ((vC T n K).2.1))]) := h53.trans (by rw [hvC])
            have hx := x57
            rcases hx with ⟨hb, hrq, hm, hKq⟩ | ⟨hb, hrq | ⟨hrq, hdg⟩⟩
            · refine xtopI (b := nI 1) hrq ?_
              have hvb : (vC T n K).1 = true := by rw [hvC]; exact hb
              refine x0ne (tgt := 85) C (by omega) dX3_readValley_80 (by decide) (fun c80 => ?_) (fun c80 => absurd c80 (by omega))
              refine lv_aload_n C.1 C.2.1 dX3_readValley_85 rfl (lv_at hl 2 rfl) ?_
              have h61 : w50 109 = .inl (gI g, 80, .inl (cK 80 0 T)) := ((f56 109 (by omega) (by omega) (by omega)).trans h47)
              refine xcV_i (n := 0) (As := []) C hK hW (c_X3_look l g w50 n ((vC T n K).2.1) T hI hN (by omega) vC_le hT h60 h61) gX3_readValley_X3_look rfl ⟨rfl, rfl⟩ (by decide +kernel) ⟨Nat.le_of_ble_eq_true rfl, Nat.le_of_ble_eq_true rfl⟩ ⟨Nat.zero_le _, Nat.zero_le _⟩ rfl (by omega) h60 rfl hl rfl (Nat.le_of_ble_eq_true rfl) dX3_readValley_86 (fun r64 w62 H locs q63 hW => ?_)
              obtain ⟨h65, f66, rfl⟩ := q63
              refine lv_iconst (v := (-1 : Int32)) C.1 C.2.1 dX3_readValley_89 (by decide) ?_
              refine lv_icmp_ne (tgt := 97) C.1 C.2.1 dX3_readValley_90 (by decide) (fun c90 => ?_) (fun c90 => ?_)
              · refine lv_iconst (v := (nI 0)) C.1 C.2.1 dX3_readValley_97 (by decide) ?_
                have h67 : GAt g 67 x (nI m1_58) (gW T n (v1 T n) (va_up L 2 (dV T n 0)) f) w62 := (GAt.fr h54 (fun j h1 h2 => f66 j (by omega)))
                have h68 : CAt g 67 K1_59 w62 := (CAt.fr h55 (fun j h1 h2 => f66 j (by omega)))
                exact xret_z C hr hlk hW rfl ⟨_, _, _, (by rw [vP, if_pos h0, if_pos c28, if_pos (c := (vL T n).1 = true) hb1, if_pos (c := (vC T n K).1 = true) hvb]; exact h65), h67, h68, (fun j z0 z1 z2 => ((f66 j (by omega)).trans ((f56 j (by omega) (by omega) (by omega)).trans ((f34 j (by omega)).trans (hfr43 j z0 z1 z2))))), (fun z => absurd z (fun z => c90 ((chX_end hT).mpr z.2.2.2))), (bI_f (P := vOk T n K) (fun z => c90 ((chX_end hT).mpr z.2.2.2))).symm⟩ dX3_readValley_98
              · refine lv_iconst (v := (nI 1)) C.1 C.2.1 dX3_readValley_93 (by decide) ?_
                refine lv_goto (tgt := 98) C.1 C.2.1 dX3_readValley_94 (by decide) ?_
                have h69 : GAt g 67 x (nI m1_58) (gW T n (v1 T n) (va_up L 2 (dV T n 0)) f) w62 := (GAt.fr h54 (fun j h1 h2 => f66 j (by omega)))
                have h70 : CAt g 67 K1_59 w62 := (CAt.fr h55 (fun j h1 h2 => f66 j (by omega)))
                exact xret_z C hr hlk hW rfl ⟨_, _, _, (by rw [vP, if_pos h0, if_pos c28, if_pos (c := (vL T n).1 = true) hb1, if_pos (c := (vC T n K).1 = true) hvb]; exact h65), h69, h70, (fun j z0 z1 z2 => ((f66 j (by omega)).trans ((f56 j (by omega) (by omega) (by omega)).trans ((f34 j (by omega)).trans (hfr43 j z0 z1 z2))))), (fun _ => ⟨by rw [hvC]; exact hm, by rw [hvC]; exact hKq, (by rw [vW, show f = 7 by omega])⟩), (bI_t (P := vOk T n K) ⟨⟨h0, c28⟩, hb1, hvb, (chX_end hT).mp c90⟩).symm⟩ dX3_readValley_98
            · refine xtopI (b := nI 0) hrq ?_
              have hvb : (vC T n K).1 = false := by rw [hvC]; exact hb
              refine x0ne (tgt := 85) C (by omega) dX3_readValley_80 (by decide) (fun c80 => absurd c80 (by omega)) (fun c80 => ?_)
              refine lv_iconst (v := (nI 0)) C.1 C.2.1 dX3_readValley_83 (by decide) ?_
              exact xret_z C hr hlk hW rfl ⟨_, _, _, (by rw [vP, if_pos h0, if_pos c28, if_pos (c := (vL T n).1 = true) hb1, if_neg (c := (vC T n K).1 = true) (by rw [hvb]; exact Bool.false_ne_true)]; exact h60), h54, h55, (fun j z0 z1 z2 => ((f56 j (by omega) (by omega) (by omega)).trans ((f34 j (by omega)).trans (hfr43 j z0 z1 z2)))), (fun z => absurd z (fun z => absurd z.2.2.1 (by rw [hvb]; exact Bool.false_ne_true))), (bI_f (P := vOk T n K) (fun z => absurd z.2.2.1 (by rw [hvb]; exact Bool.false_ne_true))).symm⟩ dX3_readValley_84
            · refine xtopI (b := nI 1) hrq ?_
              have hvb : (vC T n K).1 = false := by rw [hvC]; exact hb
              have hdg2 : dg T n (vC T n K).2.1 := by rw [hvC]; exact hdg
              refine x0ne (tgt := 85) C (by omega) dX3_readValley_80 (by decide) (fun c80 => ?_) (fun c80 => absurd c80 (by omega))
              refine lv_aload_n C.1 C.2.1 dX3_readValley_85 rfl (lv_at hl 2 rfl) ?_
              have h71 : w50 109 = .inl (gI g, 80, .inl (cK 80 0 T)) := ((f56 109 (by omega) (by omega) (by omega)).trans h47)
              refine xcV_i (n := 0) (As := []) C hK hW (c_X3_look l g w50 n ((vC T n K).2.1) T hI hN (by omega) vC_le hT h60 h71) gX3_readValley_X3_look rfl ⟨rfl, rfl⟩ (by decide +kernel) ⟨Nat.le_of_ble_eq_true rfl, Nat.le_of_ble_eq_true rfl⟩ ⟨Nat.zero_le _, Nat.zero_le _⟩ rfl (by omega) h60 rfl hl rfl (Nat.le_of_ble_eq_true rfl) dX3_readValley_86 (fun r74 w72 H locs q73 hW => ?_)
              obtain ⟨h75, f76, rfl⟩ := q73
              refine lv_iconst (v := (-1 : Int32)) C.1 C.2.1 dX3_readValley_89 (by decide) ?_
              refine lv_icmp_ne (tgt := 97) C.1 C.2.1 dX3_readValley_90 (by decide) (fun c90 => ?_) (fun c90 => absurd c90 (by exact fun z => absurd ((chX_end hT).mp z) (by rw [dg_skp hdg2]; exact Nat.not_le.mpr hdg2.1)))
              refine lv_iconst (v := (nI 0)) C.1 C.2.1 dX3_readValley_97 (by decide) ?_
              have h77 : GAt g 67 x (nI m1_58) (gW T n (v1 T n) (va_up L 2 (dV T n 0)) f) w72 := (GAt.fr h54 (fun j h1 h2 => f76 j (by omega)))
              have h78 : CAt g 67 K1_59 w72 := (CAt.fr h55 (fun j h1 h2 => f76 j (by omega)))
              exact xret_z C hr hlk hW rfl ⟨_, _, _, (by rw [vP, if_pos h0, if_pos c28, if_pos (c := (vL T n).1 = true) hb1, if_neg (c := (vC T n K).1 = true) (by rw [hvb]; exact Bool.false_ne_true), ← dg_skp hdg2]; exact h75), h77, h78, (fun j z0 z1 z2 => ((f76 j (by omega)).trans ((f56 j (by omega) (by omega) (by omega)).trans ((f34 j (by omega)).trans (hfr43 j z0 z1 z2))))), (fun z => absurd z (fun z => absurd z.2.2.1 (by rw [hvb]; exact Bool.false_ne_true))), (bI_f (P := vOk T n K) (fun z => absurd z.2.2.1 (by rw [hvb]; exact Bool.false_ne_true))).symm⟩ dX3_readValley_98
        · refine lv_aload_n C.1 C.2.1 dX3_readValley_49 rfl (lv_at hl 2 rfl) ?_
          refine lv_aload_n C.1 C.2.1 dX3_readValley_50 rfl (lv_at hl 3 rfl) ?_
          refine lv_iload_n C.1 C.2.1 dX3_readValley_51 rfl (lv_at hl 0 rfl) ?_
          refine xcV_i (n := 2) (As := [.ref (gad g 67), .int (nI f)]) C hK hW (c_X3_readField l g v43 n (pF T n (v1 T n) f) f x (nI 0) T (gW T n (v1 T n) (va_up L 2 (dV T n 0)) f) hI hN (by omega) (pF_le v1_le f) hT (by omega) fa43_0 fa43_1 fa43_2) gX3_readValley_X3_readField rfl ⟨rfl, rfl⟩ (by decide +kernel) ⟨Nat.le_of_ble_eq_true rfl, Nat.le_of_ble_eq_true rfl⟩ ⟨Nat.zero_le _, Nat.zero_le _⟩ rfl (by omega) fa43_0 rfl hl rfl (Nat.le_of_ble_eq_true rfl) dX3_readValley_52 (fun r81 w79 H locs q80 hW => ?_)
          obtain ⟨L1_86, h82, h83, f84, x85, rfl⟩ := q80
          refine xBne (tgt := 60) C dX3_readValley_55 (by decide) (fun c55 => ?_) (fun c55 => ?_)
          · have h87 : GAt g 67 x (nI 0) (gW T n (v1 T n) (va_up L 2 (dV T n 0)) (f + 1)) w79 := (by have hh := h83; rw [x85 c55] at hh; exact hh)
            have h88 : w79 108 = .inr (3, [.ref (gad g 109), .int (nI n), .int (nI (pF T n (v1 T n) (f + 1)))]) := h82
            refine lv_iinc (v := nI (f + 1)) (lv' := [(3, .int (nI (f + 1))), (2, .int (nI (dV T n 0))), (0, .ref (gad g 108)), (1, .ref (gad g 67))]) C.1 C.2.1 dX3_readValley_60 hl (k := 0) rfl (nI_add _ 1) (by decide) rfl (fun ls hl => ?_)
            refine lv_goto (tgt := 43) C.1 C.2.1 dX3_readValley_63 (by decide) ?_
            have h89 : w79 109 = .inl (gI g, 80, .inl (cK 80 0 T)) := ((f84 109 (by omega) (by omega)).trans fa43_1)
            have h90 : CAt g 67 K w79 := (CAt.fr fa43_3 (fun j h1 h2 => f84 j (by omega) (by omega)))
            exact ih43 (7 - (f + 1)) (by omega) (f + 1) w79 _ _ _ rfl h88 h89 h87 h90 (fun j z0 z1 z2 => ((f84 j (by omega) (by omega)).trans (hfr43 j z0 z1 z2))) (by omega) (fl_step (by omega) hFl c55) hW hl
          · have hbd := fl_bad (by omega) hFl c55
            have hb1 : (vL T n).1 = false := by rw [hbd]
            have hb2 : (vL T n).2 = fP T n (pF T n (v1 T n) f) := by rw [hbd]
            refine lv_iconst (v := (nI 0)) C.1 C.2.1 dX3_readValley_58 (by decide) ?_
            have h91 : CAt g 67 K w79 := (CAt.fr fa43_3 (fun j h1 h2 => f84 j (by omega) (by omega)))
            exact xret_z C hr hlk hW rfl ⟨_, _, _, (by rw [vP, if_pos h0, if_pos c28, if_neg (c := (vL T n).1 = true) (by rw [hb1]; exact Bool.false_ne_true), hb2]; exact h82), h83, h91, (fun j z0 z1 z2 => ((f84 j (by omega) (by omega)).trans (hfr43 j z0 z1 z2))), (fun z => absurd z (fun z => absurd z.2.1 (by rw [hb1]; exact Bool.false_ne_true))), (bI_f (P := vOk T n K) (fun z => absurd z.2.1 (by rw [hb1]; exact Bool.false_ne_true))).symm⟩ dX3_readValley_59
      have h92 : w25 108 = .inr (3, [.ref (gad g 109), .int (nI n), .int (nI (v1 T n))]) := ((f27 108 (by omega)).trans h23)
      have h93 : w25 109 = .inl (gI g, 80, .inl (cK 80 0 T)) := ((f27 109 (by omega)).trans ((f22 109 (by omega)).trans h17))
      have h94 : CAt g 67 K w25 := (CAt.fr (CAt.fr (CAt.fr (CAt.fr (CAt.fr pr3 (fun j h1 h2 => f3 j (by omega))) (fun j h1 h2 => f7 j (by omega))) (fun j h1 h2 => f15 j (by omega))) (fun j h1 h2 => f22 j (by omega))) (fun j h1 h2 => f27 j (by omega)))
      exact loop43 _ 0 w25 _ _ _ rfl h92 h93 h28 h94 (fun j z0 z1 z2 => ((f27 j (by omega)).trans ((f22 j (by omega)).trans ((f15 j (by omega)).trans ((f7 j (by omega)).trans (f3 j (by omega))))))) (by omega) (rfl) hW hl
    · refine lv_iconst (v := (nI 0)) C.1 C.2.1 dX3_readValley_31 (by decide) ?_
      have h95 : GAt g 67 x (nI 0) L w18 := (GAt.fr (GAt.fr h8 (fun j h1 h2 => f15 j (by omega))) (fun j h1 h2 => f22 j (by omega)))
      have h96 : CAt g 67 K w18 := (CAt.fr (CAt.fr (CAt.fr (CAt.fr pr3 (fun j h1 h2 => f3 j (by omega))) (fun j h1 h2 => f7 j (by omega))) (fun j h1 h2 => f15 j (by omega))) (fun j h1 h2 => f22 j (by omega)))
      exact xret_z C hr hlk hW rfl ⟨_, _, _, (by rw [vP, if_pos h0, if_neg c28]; exact h23), h95, h96, (fun j z0 z1 z2 => ((f22 j (by omega)).trans ((f15 j (by omega)).trans ((f7 j (by omega)).trans (f3 j (by omega)))))), (fun z => absurd z (fun z => c28 z.1.2)), (bI_f (P := vOk T n K) (fun z => c28 z.1.2)).symm⟩ dX3_readValley_32
  · refine xtopI (b := (-1 : Int32)) (if_neg h0) ?_
    refine lv_istore_n (lv' := [(2, .int (-1 : Int32)), (0, .ref (gad g 108)), (1, .ref (gad g 67))]) C.1 C.2.1 dX3_readValley_17 rfl hl (by decide) rfl (fun ls hl => ?_)
    refine lv_iload_n C.1 C.2.1 dX3_readValley_18 rfl (lv_at hl 0 rfl) ?_
    refine lv_if_lt (tgt := 31) C.1 C.2.1 dX3_readValley_19 (by decide) (fun c19 => ?_) (fun c19 => absurd c19 (by decide))
    refine lv_iconst (v := (nI 0)) C.1 C.2.1 dX3_readValley_31 (by decide) ?_
    have h97 : GAt g 67 x (nI 0) L w11 := (GAt.fr h8 (fun j h1 h2 => f15 j (by omega)))
    have h98 : CAt g 67 K w11 := (CAt.fr (CAt.fr (CAt.fr pr3 (fun j h1 h2 => f3 j (by omega))) (fun j h1 h2 => f7 j (by omega))) (fun j h1 h2 => f15 j (by omega)))
    exact xret_z C hr hlk hW rfl ⟨_, _, _, (by rw [vP, if_neg h0]; exact h16), h97, h98, (fun j z0 z1 z2 => ((f15 j (by omega)).trans ((f7 j (by omega)).trans (f3 j (by omega))))), (fun z => absurd z (fun z => h0 z.1.1)), (bI_f (P := vOk T n K) (fun z => h0 z.1.1)).symm⟩ dX3_readValley_32
