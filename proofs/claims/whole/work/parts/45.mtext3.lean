/-! a claim's worth, read by the reference -/
set_option maxHeartbeats 4000000 in
set_option maxRecDepth 100000 in
theorem c_X7_isNumber (l : Launch) (g : GE) (w : Nat → va_E) (n p hk : Nat) (nu : Int32) (ao mu md bu bd : Nat) (T : Nat → Nat) (hI : AdInj g) (hN : gN g = 130) (hn : n ≤ 80) (hp : p ≤ n) (hT : OkT T n) (pr0 : w 119 = .inr (7, [.ref (gad g 120), .ref (gad g 121), .ref (gad g 122), .int (nI n), .ref (gad g 123), .int (nI p), .int nu, .ref (gad g 124), .ref (gad g 125), .ref (gad g 126), .ref (gad g 127), .int (nI hk), .ref (gad g 128), .ref (gad g 129), .long (lN ao), .long (lN mu), .long (lN md), .long (lN bu), .long (lN bd)])) (pr1 : w 123 = .inl (gI g, 80, .inl (cK 80 0 T))) : Met l yX7_isNumber wsX7_isNumber ({ frames := 2, cells := 0, slots := 0, locals := 44 } : Room) (XPc g w [.ref (gad g 119), .int (nI 1), .int (nI 99)]) (XQi g (fun r w' => ∃ (nu1 : Int32), w' 119 = .inr (7, [.ref (gad g 120), .ref (gad g 121), .ref (gad g 122), .int (nI n), .ref (gad g 123), .int (nI (wP T n p)), .int nu1, .ref (gad g 124), .ref (gad g 125), .ref (gad g 126), .ref (gad g 127), .int (nI hk), .ref (gad g 128), .ref (gad g 129), .long (lN ao), .long (lN mu), .long (lN md), .long (lN bu), .long (lN bd)]) ∧ (∀ j : Nat, ¬ (119 ≤ j ∧ j < 120) → w' j = w j) ∧ ((wOk T n p ∧ ¬ dg T n (wP T n p)) → nu1 = nI (wW T n (skp T n p))) ∧ r = (bI ((wOk T n p ∧ ¬ dg T n (wP T n p)))))) 0 0 (gA g) := by
  refine xmet (cc := cX7_isNumber) (maxL := 5) (ret := (some .boolean)) (by decide) rfl hI (Nat.le_of_ble_eq_true rfl) ?_
  intro pG eG sG mG belowG methG cG ls C hr hlk hK hW hl
  have hl : lv_has ls 5 [(0, .ref (gad g 119)), (1, .int (nI 1)), (2, .int (nI 99))] := hl
  have hinX7 : ∀ x ∈ u_ws RX7 TX7 19, x ∈ wsX7_isNumber := by decide +kernel
  refine lv_aload_n C.1 C.2.1 dX7_isNumber_0 rfl (lv_at hl 0 rfl) ?_
  refine lv_iconst (v := (nI 0)) C.1 C.2.1 dX7_isNumber_1 (by decide) ?_
  refine lv_bipush (v := (nI 9)) C.1 C.2.1 dX7_isNumber_2 (by decide) ?_
  refine xcV_i (n := 2) (As := [.int (nI 0), .int (nI 9)]) C hK hW (c_X7_isDigit l g w n p hk nu ao mu md bu bd 0 9 T hI hN (by omega) (by omega) hT (by omega) (by omega) pr0 pr1) gX7_isNumber_X7_isDigit rfl ⟨rfl, rfl⟩ (by decide +kernel) ⟨Nat.le_of_ble_eq_true rfl, Nat.le_of_ble_eq_true rfl⟩ ⟨Nat.zero_le _, Nat.zero_le _⟩ rfl (by omega) pr0 rfl hl rfl (Nat.le_of_ble_eq_true rfl) dX7_isNumber_4 (fun r3 w1 H locs q2 hW => ?_)
  obtain ⟨h4, f5, rfl⟩ := q2
  refine xBne (tgt := 12) C dX7_isNumber_7 (by decide) (fun c7 => ?_) (fun c7 => ?_)
  · have h6 : w1 119 = .inr (7, [.ref (gad g 120), .ref (gad g 121), .ref (gad g 122), .int (nI n), .ref (gad g 123), .int (nI (skp T n p + 1)), .int (nI (chM T n (skp T n p)) - nI 48), .ref (gad g 124), .ref (gad g 125), .ref (gad g 126), .ref (gad g 127), .int (nI hk), .ref (gad g 128), .ref (gad g 129), .long (lN ao), .long (lN mu), .long (lN md), .long (lN bu), .long (lN bd)]) := h4.trans (by rw [dP, if_pos c7])
    have h7 : w1 119 = .inr (7, [.ref (gad g 120), .ref (gad g 121), .ref (gad g 122), .int (nI n), .ref (gad g 123), .int (nI (skp T n p + 1)), .int (nI (dV T n p)), .ref (gad g 124), .ref (gad g 125), .ref (gad g 126), .ref (gad g 127), .int (nI hk), .ref (gad g 128), .ref (gad g 129), .long (lN ao), .long (lN mu), .long (lN md), .long (lN bu), .long (lN bd)]) := h6.trans (by rw [chM_v c7])
    have hv := dV_in c7
    have hs0 := c7.1
    refine lv_aload_n C.1 C.2.1 dX7_isNumber_12 rfl (lv_at hl 0 rfl) ?_
    refine xget C hK hW hinX7 rfl (by omega) h7 5 (by decide) (List.mem_of_getElem? (i := 1) rfl) rfl dX7_isNumber_13 ?_
    refine lv_iconst (v := (nI 1)) C.1 C.2.1 dX7_isNumber_16 (by decide) ?_
    refine xsub C (by omega) dX7_isNumber_17 ?_
    refine xtopN (b := skp T n p) (Nat.add_sub_cancel _ _) ?_
    refine lv_istore_n (lv' := [(3, .int (nI (skp T n p))), (0, .ref (gad g 119)), (1, .int (nI 1)), (2, .int (nI 99))]) C.1 C.2.1 dX7_isNumber_18 rfl hl (by decide) rfl (fun ls hl => ?_)
    refine lv_aload_n C.1 C.2.1 dX7_isNumber_19 rfl (lv_at hl 1 rfl) ?_
    refine xget C hK hW hinX7 rfl (by omega) h7 6 (by decide) (List.mem_of_getElem? (i := 2) rfl) rfl dX7_isNumber_20 ?_
    refine lv_istore (lv' := [(4, .int (nI (dV T n p))), (3, .int (nI (skp T n p))), (0, .ref (gad g 119)), (1, .int (nI 1)), (2, .int (nI 99))]) C.1 C.2.1 dX7_isNumber_23 hl (by decide) rfl (fun ls hl => ?_)
    refine lv_aload_n C.1 C.2.1 dX7_isNumber_25 rfl (lv_at hl 2 rfl) ?_
    refine xget C hK hW hinX7 rfl (by omega) h7 5 (by decide) (List.mem_of_getElem? (i := 1) rfl) rfl dX7_isNumber_26 ?_
    refine lv_aload_n C.1 C.2.1 dX7_isNumber_29 rfl (lv_at hl 2 rfl) ?_
    refine xget C hK hW hinX7 rfl (by omega) h7 3 (by decide) (List.mem_of_getElem? (i := 3) rfl) rfl dX7_isNumber_30 ?_
    refine xge (tgt := 85) C (by omega) (by omega) dX7_isNumber_33 (by decide) (fun c33 => ?_) (fun c33 => ?_)
    · have hw := wW_le c7
      have hwe := wE_le (T := T) c7.1
      have hn2 : ¬ dg T n (skp T n p + 1) := fun z => by have := z.1; omega
      have hl : lv_has ls 5 [(4, .int (nI (wW T n (skp T n p)))), (3, .int (nI (skp T n p))), (0, .ref (gad g 119)), (1, .int (nI 1)), (2, .int (nI 99))] := by rw [show wW T n (skp T n p) = dV T n p from (by rw [wW, if_neg hn2]; rfl)]; exact hl
      have h8 : w1 119 = .inr (7, [.ref (gad g 120), .ref (gad g 121), .ref (gad g 122), .int (nI n), .ref (gad g 123), .int (nI (wE T n (skp T n p))), .int (nI (dV T n p)), .ref (gad g 124), .ref (gad g 125), .ref (gad g 126), .ref (gad g 127), .int (nI hk), .ref (gad g 128), .ref (gad g 129), .long (lN ao), .long (lN mu), .long (lN md), .long (lN bu), .long (lN bd)]) := h7.trans (by rw [wE, if_neg hn2])
      refine lv_aload_n C.1 C.2.1 dX7_isNumber_85 rfl (lv_at hl 2 rfl) ?_
      refine lv_iload C.1 C.2.1 dX7_isNumber_86 (lv_at hl 0 rfl) ?_
      refine xput (v := .int (nI (wW T n (skp T n p)))) C hK hW hinX7 tyX7_ok nmX7 rfl (by omega) h8 6 (by decide) (List.mem_of_getElem? (i := 2) rfl) rfl rfl rfl (Nat.le_of_ble_eq_true rfl) dX7_isNumber_88 (fun w9 H locs e10 f11 hW => ?_)
      refine lv_iload C.1 C.2.1 dX7_isNumber_91 (lv_at hl 0 rfl) ?_
      refine lv_iload_n C.1 C.2.1 dX7_isNumber_93 rfl (lv_at hl 3 rfl) ?_
      refine lv_iload_n C.1 C.2.1 dX7_isNumber_94 rfl (lv_at hl 4 rfl) ?_
      refine xcS_i (n := 3) (As := [.int (nI (wW T n (skp T n p))), .int (nI 1), .int (nI 99)]) C hK hW (c_X7_in l g w9 (nI (wW T n (skp T n p))) (nI 1) (nI 99) hI hN) gX7_isNumber_X7_in rfl ⟨rfl, rfl⟩ (by decide +kernel) ⟨Nat.le_of_ble_eq_true rfl, Nat.le_of_ble_eq_true rfl⟩ ⟨Nat.zero_le _, Nat.zero_le _⟩ rfl hl rfl (Nat.le_of_ble_eq_true rfl) dX7_isNumber_95 (fun r14 w12 H locs q13 hW => ?_)
      obtain ⟨qw15, rfl⟩ := q13
      rw [qw15] at hW
      refine xBne (tgt := 108) C dX7_isNumber_98 (by decide) (fun c98 => ?_) (fun c98 => ?_)
      · refine lv_aload_n C.1 C.2.1 dX7_isNumber_108 rfl (lv_at hl 2 rfl) ?_
        refine xget C hK hW hinX7 rfl (by omega) e10 5 (by decide) (List.mem_of_getElem? (i := 1) rfl) rfl dX7_isNumber_109 ?_
        refine lv_aload_n C.1 C.2.1 dX7_isNumber_112 rfl (lv_at hl 2 rfl) ?_
        refine xget C hK hW hinX7 rfl (by omega) e10 3 (by decide) (List.mem_of_getElem? (i := 3) rfl) rfl dX7_isNumber_113 ?_
        refine xeq (tgt := 138) C (by omega) (by omega) dX7_isNumber_116 (by decide) (fun c116 => ?_) (fun c116 => ?_)
        · refine lv_iconst (v := (nI 1)) C.1 C.2.1 dX7_isNumber_138 (by decide) ?_
          refine lv_goto (tgt := 143) C.1 C.2.1 dX7_isNumber_139 (by decide) ?_
          have hok : wOk T n p := ⟨c7, ((inR_nn (by omega) (by omega) (by omega)).mp c98).1⟩
          have hwp : wP T n p = wE T n (skp T n p) := if_pos hok
          exact xret_z C hr hlk hW rfl ⟨_, (by rw [hwp]; exact e10), (fun j z0 => ((f11 j (by omega)).trans (f5 j (by omega)))), (fun _ => rfl), (bI_t (P := (wOk T n p ∧ ¬ dg T n (wP T n p))) ⟨hok, fun z => by rw [hwp] at z; have := z.1; omega⟩).symm⟩ dX7_isNumber_143
        · have ht2 := hT (wE T n (skp T n p)) (by omega)
          refine lv_aload_n C.1 C.2.1 dX7_isNumber_119 rfl (lv_at hl 2 rfl) ?_
          refine xget C hK hW hinX7 rfl (by omega) e10 4 (by decide) (List.mem_of_getElem? (i := 4) rfl) rfl dX7_isNumber_120 ?_
          refine lv_aload_n C.1 C.2.1 dX7_isNumber_123 rfl (lv_at hl 2 rfl) ?_
          refine xget C hK hW hinX7 rfl (by omega) e10 5 (by decide) (List.mem_of_getElem? (i := 1) rfl) rfl dX7_isNumber_124 ?_
          have h16 : w9 123 = .inl (gI g, 80, .inl (cK 80 0 T)) := ((f11 123 (by omega)).trans ((f5 123 (by omega)).trans pr1))
          refine xildK0 C hK hW (by omega) h16 (by omega) (by decide) dX7_isNumber_127 ?_
          refine lv_bipush (v := (nI 48)) C.1 C.2.1 dX7_isNumber_128 (by decide) ?_
          refine lv_bipush (v := (nI 57)) C.1 C.2.1 dX7_isNumber_130 (by decide) ?_
          refine xcS_i (n := 3) (As := [.int (nI (T (wE T n (skp T n p)))), .int (nI 48), .int (nI 57)]) C hK hW (c_X7_in l g w9 (nI (T (wE T n (skp T n p)))) (nI 48) (nI 57) hI hN) gX7_isNumber_X7_in rfl ⟨rfl, rfl⟩ (by decide +kernel) ⟨Nat.le_of_ble_eq_true rfl, Nat.le_of_ble_eq_true rfl⟩ ⟨Nat.zero_le _, Nat.zero_le _⟩ rfl hl rfl (Nat.le_of_ble_eq_true rfl) dX7_isNumber_132 (fun r19 w17 H locs q18 hW => ?_)
          obtain ⟨qw20, rfl⟩ := q18
          rw [qw20] at hW
          refine xBne (tgt := 142) C dX7_isNumber_135 (by decide) (fun c135 => ?_) (fun c135 => ?_)
          · refine lv_iconst (v := (nI 0)) C.1 C.2.1 dX7_isNumber_142 (by decide) ?_
            have hok : wOk T n p := ⟨c7, ((inR_nn (by omega) (by omega) (by omega)).mp c98).1⟩
            have hwp : wP T n p = wE T n (skp T n p) := if_pos hok
            exact xret_z C hr hlk hW rfl ⟨_, (by rw [hwp]; exact e10), (fun j z0 => ((f11 j (by omega)).trans (f5 j (by omega)))), (fun z => absurd z (fun z => z.2 (by rw [hwp]; exact ⟨by omega, (inR_nn (by omega) (by omega) (by omega)).mp c135⟩))), (bI_f (P := (wOk T n p ∧ ¬ dg T n (wP T n p))) (fun z => z.2 (by rw [hwp]; exact ⟨by omega, (inR_nn (by omega) (by omega) (by omega)).mp c135⟩))).symm⟩ dX7_isNumber_143
          · refine lv_iconst (v := (nI 1)) C.1 C.2.1 dX7_isNumber_138 (by decide) ?_
            refine lv_goto (tgt := 143) C.1 C.2.1 dX7_isNumber_139 (by decide) ?_
            have hok : wOk T n p := ⟨c7, ((inR_nn (by omega) (by omega) (by omega)).mp c98).1⟩
            have hwp : wP T n p = wE T n (skp T n p) := if_pos hok
            exact xret_z C hr hlk hW rfl ⟨_, (by rw [hwp]; exact e10), (fun j z0 => ((f11 j (by omega)).trans (f5 j (by omega)))), (fun _ => rfl), (bI_t (P := (wOk T n p ∧ ¬ dg T n (wP T n p))) ⟨hok, fun z => c135 ((inR_nn (by omega) (by omega) (by omega)).mpr (by rw [hwp] at z; exact z.2))⟩).symm⟩ dX7_isNumber_143
      · refine lv_aload_n C.1 C.2.1 dX7_isNumber_101 rfl (lv_at hl 2 rfl) ?_
        refine lv_iload_n C.1 C.2.1 dX7_isNumber_102 rfl (lv_at hl 1 rfl) ?_
        refine xput (v := .int (nI (skp T n p))) C hK hW hinX7 tyX7_ok nmX7 rfl (by omega) e10 5 (by decide) (List.mem_of_getElem? (i := 1) rfl) rfl rfl rfl (Nat.le_of_ble_eq_true rfl) dX7_isNumber_103 (fun w21 H locs e22 f23 hW => ?_)
        refine lv_iconst (v := (nI 0)) C.1 C.2.1 dX7_isNumber_106 (by decide) ?_
        exact xret_z C hr hlk hW rfl ⟨_, (by rw [wP, if_neg (fun z => c98 ((inR_nn (by omega) (by omega) (by omega)).mpr ⟨z.2, hw⟩))]; exact e22), (fun j z0 => ((f23 j (by omega)).trans ((f11 j (by omega)).trans (f5 j (by omega))))), (fun z => absurd z (fun z => c98 ((inR_nn (by omega) (by omega) (by omega)).mpr ⟨z.1.2, hw⟩))), (bI_f (P := (wOk T n p ∧ ¬ dg T n (wP T n p))) (fun z => c98 ((inR_nn (by omega) (by omega) (by omega)).mpr ⟨z.1.2, hw⟩))).symm⟩ dX7_isNumber_107
    · have ht := hT (skp T n p + 1) (by omega)
      refine lv_aload_n C.1 C.2.1 dX7_isNumber_36 rfl (lv_at hl 2 rfl) ?_
      refine xget C hK hW hinX7 rfl (by omega) h7 4 (by decide) (List.mem_of_getElem? (i := 4) rfl) rfl dX7_isNumber_37 ?_
      refine lv_aload_n C.1 C.2.1 dX7_isNumber_40 rfl (lv_at hl 2 rfl) ?_
      refine xget C hK hW hinX7 rfl (by omega) h7 5 (by decide) (List.mem_of_getElem? (i := 1) rfl) rfl dX7_isNumber_41 ?_
      have h24 : w1 123 = .inl (gI g, 80, .inl (cK 80 0 T)) := ((f5 123 (by omega)).trans pr1)
      refine xildK0 C hK hW (by omega) h24 (by omega) (by decide) dX7_isNumber_44 ?_
      refine lv_bipush (v := (nI 48)) C.1 C.2.1 dX7_isNumber_45 (by decide) ?_
      refine lv_bipush (v := (nI 57)) C.1 C.2.1 dX7_isNumber_47 (by decide) ?_
      refine xcS_i (n := 3) (As := [.int (nI (T (skp T n p + 1))), .int (nI 48), .int (nI 57)]) C hK hW (c_X7_in l g w1 (nI (T (skp T n p + 1))) (nI 48) (nI 57) hI hN) gX7_isNumber_X7_in rfl ⟨rfl, rfl⟩ (by decide +kernel) ⟨Nat.le_of_ble_eq_true rfl, Nat.le_of_ble_eq_true rfl⟩ ⟨Nat.zero_le _, Nat.zero_le _⟩ rfl hl rfl (Nat.le_of_ble_eq_true rfl) dX7_isNumber_49 (fun r27 w25 H locs q26 hW => ?_)
      obtain ⟨qw28, rfl⟩ := q26
      rw [qw28] at hW
      refine xBeq (tgt := 85) C dX7_isNumber_52 (by decide) (fun c52 => ?_) (fun c52 => ?_)
      · have hw := wW_le c7
        have hwe := wE_le (T := T) c7.1
        have hn2 : ¬ dg T n (skp T n p + 1) := fun z => c52 ((inR_nn (by omega) (by omega) (by omega)).mpr z.2)
        have hl : lv_has ls 5 [(4, .int (nI (wW T n (skp T n p)))), (3, .int (nI (skp T n p))), (0, .ref (gad g 119)), (1, .int (nI 1)), (2, .int (nI 99))] := by rw [show wW T n (skp T n p) = dV T n p from (by rw [wW, if_neg hn2]; rfl)]; exact hl
        have h29 : w1 119 = .inr (7, [.ref (gad g 120), .ref (gad g 121), .ref (gad g 122), .int (nI n), .ref (gad g 123), .int (nI (wE T n (skp T n p))), .int (nI (dV T n p)), .ref (gad g 124), .ref (gad g 125), .ref (gad g 126), .ref (gad g 127), .int (nI hk), .ref (gad g 128), .ref (gad g 129), .long (lN ao), .long (lN mu), .long (lN md), .long (lN bu), .long (lN bd)]) := h7.trans (by rw [wE, if_neg hn2])
        refine lv_aload_n C.1 C.2.1 dX7_isNumber_85 rfl (lv_at hl 2 rfl) ?_
        refine lv_iload C.1 C.2.1 dX7_isNumber_86 (lv_at hl 0 rfl) ?_
        refine xput (v := .int (nI (wW T n (skp T n p)))) C hK hW hinX7 tyX7_ok nmX7 rfl (by omega) h29 6 (by decide) (List.mem_of_getElem? (i := 2) rfl) rfl rfl rfl (Nat.le_of_ble_eq_true rfl) dX7_isNumber_88 (fun w30 H locs e31 f32 hW => ?_)
        refine lv_iload C.1 C.2.1 dX7_isNumber_91 (lv_at hl 0 rfl) ?_
        refine lv_iload_n C.1 C.2.1 dX7_isNumber_93 rfl (lv_at hl 3 rfl) ?_
        refine lv_iload_n C.1 C.2.1 dX7_isNumber_94 rfl (lv_at hl 4 rfl) ?_
        refine xcS_i (n := 3) (As := [.int (nI (wW T n (skp T n p))), .int (nI 1), .int (nI 99)]) C hK hW (c_X7_in l g w30 (nI (wW T n (skp T n p))) (nI 1) (nI 99) hI hN) gX7_isNumber_X7_in rfl ⟨rfl, rfl⟩ (by decide +kernel) ⟨Nat.le_of_ble_eq_true rfl, Nat.le_of_ble_eq_true rfl⟩ ⟨Nat.zero_le _, Nat.zero_le _⟩ rfl hl rfl (Nat.le_of_ble_eq_true rfl) dX7_isNumber_95 (fun r35 w33 H locs q34 hW => ?_)
        obtain ⟨qw36, rfl⟩ := q34
        rw [qw36] at hW
        refine xBne (tgt := 108) C dX7_isNumber_98 (by decide) (fun c98 => ?_) (fun c98 => ?_)
        · refine lv_aload_n C.1 C.2.1 dX7_isNumber_108 rfl (lv_at hl 2 rfl) ?_
          refine xget C hK hW hinX7 rfl (by omega) e31 5 (by decide) (List.mem_of_getElem? (i := 1) rfl) rfl dX7_isNumber_109 ?_
          refine lv_aload_n C.1 C.2.1 dX7_isNumber_112 rfl (lv_at hl 2 rfl) ?_
          refine xget C hK hW hinX7 rfl (by omega) e31 3 (by decide) (List.mem_of_getElem? (i := 3) rfl) rfl dX7_isNumber_113 ?_
          refine xeq (tgt := 138) C (by omega) (by omega) dX7_isNumber_116 (by decide) (fun c116 => ?_) (fun c116 => ?_)
          · refine lv_iconst (v := (nI 1)) C.1 C.2.1 dX7_isNumber_138 (by decide) ?_
            refine lv_goto (tgt := 143) C.1 C.2.1 dX7_isNumber_139 (by decide) ?_
            have hok : wOk T n p := ⟨c7, ((inR_nn (by omega) (by omega) (by omega)).mp c98).1⟩
            have hwp : wP T n p = wE T n (skp T n p) := if_pos hok
            exact xret_z C hr hlk hW rfl ⟨_, (by rw [hwp]; exact e31), (fun j z0 => ((f32 j (by omega)).trans (f5 j (by omega)))), (fun _ => rfl), (bI_t (P := (wOk T n p ∧ ¬ dg T n (wP T n p))) ⟨hok, fun z => by rw [hwp] at z; have := z.1; omega⟩).symm⟩ dX7_isNumber_143
          · have ht2 := hT (wE T n (skp T n p)) (by omega)
            refine lv_aload_n C.1 C.2.1 dX7_isNumber_119 rfl (lv_at hl 2 rfl) ?_
            refine xget C hK hW hinX7 rfl (by omega) e31 4 (by decide) (List.mem_of_getElem? (i := 4) rfl) rfl dX7_isNumber_120 ?_
            refine lv_aload_n C.1 C.2.1 dX7_isNumber_123 rfl (lv_at hl 2 rfl) ?_
            refine xget C hK hW hinX7 rfl (by omega) e31 5 (by decide) (List.mem_of_getElem? (i := 1) rfl) rfl dX7_isNumber_124 ?_
            have h37 : w30 123 = .inl (gI g, 80, .inl (cK 80 0 T)) := ((f32 123 (by omega)).trans h24)
            refine xildK0 C hK hW (by omega) h37 (by omega) (by decide) dX7_isNumber_127 ?_
            refine lv_bipush (v := (nI 48)) C.1 C.2.1 dX7_isNumber_128 (by decide) ?_
            refine lv_bipush (v := (nI 57)) C.1 C.2.1 dX7_isNumber_130 (by decide) ?_
            refine xcS_i (n := 3) (As := [.int (nI (T (wE T n (skp T n p)))), .int (nI 48), .int (nI 57)]) C hK hW (c_X7_in l g w30 (nI (T (wE T n (skp T n p)))) (nI 48) (nI 57) hI hN) gX7_isNumber_X7_in rfl ⟨rfl, rfl⟩ (by decide +kernel) ⟨Nat.le_of_ble_eq_true rfl, Nat.le_of_ble_eq_true rfl⟩ ⟨Nat.zero_le _, Nat.zero_le _⟩ rfl hl rfl (Nat.le_of_ble_eq_true rfl) dX7_isNumber_132 (fun r40 w38 H locs q39 hW => ?_)
            obtain ⟨qw41, rfl⟩ := q39
            rw [qw41] at hW
            refine xBne (tgt := 142) C dX7_isNumber_135 (by decide) (fun c135 => ?_) (fun c135 => ?_)
            · refine lv_iconst (v := (nI 0)) C.1 C.2.1 dX7_isNumber_142 (by decide) ?_
              have hok : wOk T n p := ⟨c7, ((inR_nn (by omega) (by omega) (by omega)).mp c98).1⟩
              have hwp : wP T n p = wE T n (skp T n p) := if_pos hok
              exact xret_z C hr hlk hW rfl ⟨_, (by rw [hwp]; exact e31), (fun j z0 => ((f32 j (by omega)).trans (f5 j (by omega)))), (fun z => absurd z (fun z => z.2 (by rw [hwp]; exact ⟨by omega, (inR_nn (by omega) (by omega) (by omega)).mp c135⟩))), (bI_f (P := (wOk T n p ∧ ¬ dg T n (wP T n p))) (fun z => z.2 (by rw [hwp]; exact ⟨by omega, (inR_nn (by omega) (by omega) (by omega)).mp c135⟩))).symm⟩ dX7_isNumber_143
            · refine lv_iconst (v := (nI 1)) C.1 C.2.1 dX7_isNumber_138 (by decide) ?_
              refine lv_goto (tgt := 143) C.1 C.2.1 dX7_isNumber_139 (by decide) ?_
              have hok : wOk T n p := ⟨c7, ((inR_nn (by omega) (by omega) (by omega)).mp c98).1⟩
              have hwp : wP T n p = wE T n (skp T n p) := if_pos hok
              exact xret_z C hr hlk hW rfl ⟨_, (by rw [hwp]; exact e31), (fun j z0 => ((f32 j (by omega)).trans (f5 j (by omega)))), (fun _ => rfl), (bI_t (P := (wOk T n p ∧ ¬ dg T n (wP T n p))) ⟨hok, fun z => c135 ((inR_nn (by omega) (by omega) (by omega)).mpr (by rw [hwp] at z; exact z.2))⟩).symm⟩ dX7_isNumber_143
        · refine lv_aload_n C.1 C.2.1 dX7_isNumber_101 rfl (lv_at hl 2 rfl) ?_
          refine lv_iload_n C.1 C.2.1 dX7_isNumber_102 rfl (lv_at hl 1 rfl) ?_
          refine xput (v := .int (nI (skp T n p))) C hK hW hinX7 tyX7_ok nmX7 rfl (by omega) e31 5 (by decide) (List.mem_of_getElem? (i := 1) rfl) rfl rfl rfl (Nat.le_of_ble_eq_true rfl) dX7_isNumber_103 (fun w42 H locs e43 f44 hW => ?_)
          refine lv_iconst (v := (nI 0)) C.1 C.2.1 dX7_isNumber_106 (by decide) ?_
          exact xret_z C hr hlk hW rfl ⟨_, (by rw [wP, if_neg (fun z => c98 ((inR_nn (by omega) (by omega) (by omega)).mpr ⟨z.2, hw⟩))]; exact e43), (fun j z0 => ((f44 j (by omega)).trans ((f32 j (by omega)).trans (f5 j (by omega))))), (fun z => absurd z (fun z => c98 ((inR_nn (by omega) (by omega) (by omega)).mpr ⟨z.1.2, hw⟩))), (bI_f (P := (wOk T n p ∧ ¬ dg T n (wP T n p))) (fun z => c98 ((inR_nn (by omega) (by omega) (by omega)).mpr ⟨z.1.2, hw⟩))).symm⟩ dX7_isNumber_107
      · have h48 := (inR_nn (by omega) (by omega) (by omega)).mp c52
        refine lv_bipush (v := (nI 10)) C.1 C.2.1 dX7_isNumber_55 (by decide) ?_
        refine lv_iload C.1 C.2.1 dX7_isNumber_57 (lv_at hl 0 rfl) ?_
        refine xmul C dX7_isNumber_59 ?_
        refine lv_aload_n C.1 C.2.1 dX7_isNumber_60 rfl (lv_at hl 2 rfl) ?_
        refine xget C hK hW hinX7 rfl (by omega) h7 4 (by decide) (List.mem_of_getElem? (i := 4) rfl) rfl dX7_isNumber_61 ?_
        refine lv_aload_n C.1 C.2.1 dX7_isNumber_64 rfl (lv_at hl 2 rfl) ?_
        refine xget C hK hW hinX7 rfl (by omega) h7 5 (by decide) (List.mem_of_getElem? (i := 1) rfl) rfl dX7_isNumber_65 ?_
        refine xildK0 C hK hW (by omega) h24 (by omega) (by decide) dX7_isNumber_68 ?_
        refine xadd C dX7_isNumber_69 ?_
        refine lv_bipush (v := (nI 48)) C.1 C.2.1 dX7_isNumber_70 (by decide) ?_
        refine xsub C (by omega) dX7_isNumber_72 ?_
        refine xtopN (b := wW T n (skp T n p)) (by rw [wW, if_pos (c := dg T n (skp T n p + 1)) ⟨by omega, h48⟩, Nat.mul_comm]; rfl) ?_
        refine lv_istore (lv' := [(4, .int (nI (wW T n (skp T n p)))), (3, .int (nI (skp T n p))), (0, .ref (gad g 119)), (1, .int (nI 1)), (2, .int (nI 99))]) C.1 C.2.1 dX7_isNumber_73 hl (by decide) rfl (fun ls hl => ?_)
        refine lv_aload_n C.1 C.2.1 dX7_isNumber_75 rfl (lv_at hl 2 rfl) ?_
        refine lv_dup C.1 C.2.1 dX7_isNumber_76 rfl ?_
        refine xget C hK hW hinX7 rfl (by omega) h7 5 (by decide) (List.mem_of_getElem? (i := 1) rfl) rfl dX7_isNumber_77 ?_
        refine lv_iconst (v := (nI 1)) C.1 C.2.1 dX7_isNumber_80 (by decide) ?_
        refine xadd C dX7_isNumber_81 ?_
        refine xput (v := .int (nI ((skp T n p + 1) + 1))) C hK hW hinX7 tyX7_ok nmX7 rfl (by omega) h7 5 (by decide) (List.mem_of_getElem? (i := 1) rfl) rfl rfl rfl (Nat.le_of_ble_eq_true rfl) dX7_isNumber_82 (fun w45 H locs e46 f47 hW => ?_)
        have hw := wW_le c7
        have hwe := wE_le (T := T) c7.1
        have h48 : w45 119 = .inr (7, [.ref (gad g 120), .ref (gad g 121), .ref (gad g 122), .int (nI n), .ref (gad g 123), .int (nI (wE T n (skp T n p))), .int (nI (dV T n p)), .ref (gad g 124), .ref (gad g 125), .ref (gad g 126), .ref (gad g 127), .int (nI hk), .ref (gad g 128), .ref (gad g 129), .long (lN ao), .long (lN mu), .long (lN md), .long (lN bu), .long (lN bd)]) := e46.trans (by rw [wE, if_pos (c := dg T n (skp T n p + 1)) ⟨by omega, h48⟩]; rfl)
        refine lv_aload_n C.1 C.2.1 dX7_isNumber_85 rfl (lv_at hl 2 rfl) ?_
        refine lv_iload C.1 C.2.1 dX7_isNumber_86 (lv_at hl 0 rfl) ?_
        refine xput (v := .int (nI (wW T n (skp T n p)))) C hK hW hinX7 tyX7_ok nmX7 rfl (by omega) h48 6 (by decide) (List.mem_of_getElem? (i := 2) rfl) rfl rfl rfl (Nat.le_of_ble_eq_true rfl) dX7_isNumber_88 (fun w49 H locs e50 f51 hW => ?_)
        refine lv_iload C.1 C.2.1 dX7_isNumber_91 (lv_at hl 0 rfl) ?_
        refine lv_iload_n C.1 C.2.1 dX7_isNumber_93 rfl (lv_at hl 3 rfl) ?_
        refine lv_iload_n C.1 C.2.1 dX7_isNumber_94 rfl (lv_at hl 4 rfl) ?_
        refine xcS_i (n := 3) (As := [.int (nI (wW T n (skp T n p))), .int (nI 1), .int (nI 99)]) C hK hW (c_X7_in l g w49 (nI (wW T n (skp T n p))) (nI 1) (nI 99) hI hN) gX7_isNumber_X7_in rfl ⟨rfl, rfl⟩ (by decide +kernel) ⟨Nat.le_of_ble_eq_true rfl, Nat.le_of_ble_eq_true rfl⟩ ⟨Nat.zero_le _, Nat.zero_le _⟩ rfl hl rfl (Nat.le_of_ble_eq_true rfl) dX7_isNumber_95 (fun r54 w52 H locs q53 hW => ?_)
        obtain ⟨qw55, rfl⟩ := q53
        rw [qw55] at hW
        refine xBne (tgt := 108) C dX7_isNumber_98 (by decide) (fun c98 => ?_) (fun c98 => ?_)
        · refine lv_aload_n C.1 C.2.1 dX7_isNumber_108 rfl (lv_at hl 2 rfl) ?_
          refine xget C hK hW hinX7 rfl (by omega) e50 5 (by decide) (List.mem_of_getElem? (i := 1) rfl) rfl dX7_isNumber_109 ?_
          refine lv_aload_n C.1 C.2.1 dX7_isNumber_112 rfl (lv_at hl 2 rfl) ?_
          refine xget C hK hW hinX7 rfl (by omega) e50 3 (by decide) (List.mem_of_getElem? (i := 3) rfl) rfl dX7_isNumber_113 ?_
          refine xeq (tgt := 138) C (by omega) (by omega) dX7_isNumber_116 (by decide) (fun c116 => ?_) (fun c116 => ?_)
          · refine lv_iconst (v := (nI 1)) C.1 C.2.1 dX7_isNumber_138 (by decide) ?_
            refine lv_goto (tgt := 143) C.1 C.2.1 dX7_isNumber_139 (by decide) ?_
            have hok : wOk T n p := ⟨c7, ((inR_nn (by omega) (by omega) (by omega)).mp c98).1⟩
            have hwp : wP T n p = wE T n (skp T n p) := if_pos hok
            exact xret_z C hr hlk hW rfl ⟨_, (by rw [hwp]; exact e50), (fun j z0 => ((f51 j (by omega)).trans ((f47 j (by omega)).trans (f5 j (by omega))))), (fun _ => rfl), (bI_t (P := (wOk T n p ∧ ¬ dg T n (wP T n p))) ⟨hok, fun z => by rw [hwp] at z; have := z.1; omega⟩).symm⟩ dX7_isNumber_143
          · have ht2 := hT (wE T n (skp T n p)) (by omega)
            refine lv_aload_n C.1 C.2.1 dX7_isNumber_119 rfl (lv_at hl 2 rfl) ?_
            refine xget C hK hW hinX7 rfl (by omega) e50 4 (by decide) (List.mem_of_getElem? (i := 4) rfl) rfl dX7_isNumber_120 ?_
            refine lv_aload_n C.1 C.2.1 dX7_isNumber_123 rfl (lv_at hl 2 rfl) ?_
            refine xget C hK hW hinX7 rfl (by omega) e50 5 (by decide) (List.mem_of_getElem? (i := 1) rfl) rfl dX7_isNumber_124 ?_
            have h56 : w49 123 = .inl (gI g, 80, .inl (cK 80 0 T)) := ((f51 123 (by omega)).trans ((f47 123 (by omega)).trans h24))
            refine xildK0 C hK hW (by omega) h56 (by omega) (by decide) dX7_isNumber_127 ?_
            refine lv_bipush (v := (nI 48)) C.1 C.2.1 dX7_isNumber_128 (by decide) ?_
            refine lv_bipush (v := (nI 57)) C.1 C.2.1 dX7_isNumber_130 (by decide) ?_
            refine xcS_i (n := 3) (As := [.int (nI (T (wE T n (skp T n p)))), .int (nI 48), .int (nI 57)]) C hK hW (c_X7_in l g w49 (nI (T (wE T n (skp T n p)))) (nI 48) (nI 57) hI hN) gX7_isNumber_X7_in rfl ⟨rfl, rfl⟩ (by decide +kernel) ⟨Nat.le_of_ble_eq_true rfl, Nat.le_of_ble_eq_true rfl⟩ ⟨Nat.zero_le _, Nat.zero_le _⟩ rfl hl rfl (Nat.le_of_ble_eq_true rfl) dX7_isNumber_132 (fun r59 w57 H locs q58 hW => ?_)
            obtain ⟨qw60, rfl⟩ := q58
            rw [qw60] at hW
            refine xBne (tgt := 142) C dX7_isNumber_135 (by decide) (fun c135 => ?_) (fun c135 => ?_)
            · refine lv_iconst (v := (nI 0)) C.1 C.2.1 dX7_isNumber_142 (by decide) ?_
              have hok : wOk T n p := ⟨c7, ((inR_nn (by omega) (by omega) (by omega)).mp c98).1⟩
              have hwp : wP T n p = wE T n (skp T n p) := if_pos hok
              exact xret_z C hr hlk hW rfl ⟨_, (by rw [hwp]; exact e50), (fun j z0 => ((f51 j (by omega)).trans ((f47 j (by omega)).trans (f5 j (by omega))))), (fun z => absurd z (fun z => z.2 (by rw [hwp]; exact ⟨by omega, (inR_nn (by omega) (by omega) (by omega)).mp c135⟩))), (bI_f (P := (wOk T n p ∧ ¬ dg T n (wP T n p))) (fun z => z.2 (by rw [hwp]; exact ⟨by omega, (inR_nn (by omega) (by omega) (by omega)).mp c135⟩))).symm⟩ dX7_isNumber_143
            · refine lv_iconst (v := (nI 1)) C.1 C.2.1 dX7_isNumber_138 (by decide) ?_
              refine lv_goto (tgt := 143) C.1 C.2.1 dX7_isNumber_139 (by decide) ?_
              have hok : wOk T n p := ⟨c7, ((inR_nn (by omega) (by omega) (by omega)).mp c98).1⟩
              have hwp : wP T n p = wE T n (skp T n p) := if_pos hok
              exact xret_z C hr hlk hW rfl ⟨_, (by rw [hwp]; exact e50), (fun j z0 => ((f51 j (by omega)).trans ((f47 j (by omega)).trans (f5 j (by omega))))), (fun _ => rfl), (bI_t (P := (wOk T n p ∧ ¬ dg T n (wP T n p))) ⟨hok, fun z => c135 ((inR_nn (by omega) (by omega) (by omega)).mpr (by rw [hwp] at z; exact z.2))⟩).symm⟩ dX7_isNumber_143
        · refine lv_aload_n C.1 C.2.1 dX7_isNumber_101 rfl (lv_at hl 2 rfl) ?_
          refine lv_iload_n C.1 C.2.1 dX7_isNumber_102 rfl (lv_at hl 1 rfl) ?_
          refine xput (v := .int (nI (skp T n p))) C hK hW hinX7 tyX7_ok nmX7 rfl (by omega) e50 5 (by decide) (List.mem_of_getElem? (i := 1) rfl) rfl rfl rfl (Nat.le_of_ble_eq_true rfl) dX7_isNumber_103 (fun w61 H locs e62 f63 hW => ?_)
          refine lv_iconst (v := (nI 0)) C.1 C.2.1 dX7_isNumber_106 (by decide) ?_
          exact xret_z C hr hlk hW rfl ⟨_, (by rw [wP, if_neg (fun z => c98 ((inR_nn (by omega) (by omega) (by omega)).mpr ⟨z.2, hw⟩))]; exact e62), (fun j z0 => ((f63 j (by omega)).trans ((f51 j (by omega)).trans ((f47 j (by omega)).trans (f5 j (by omega)))))), (fun z => absurd z (fun z => c98 ((inR_nn (by omega) (by omega) (by omega)).mpr ⟨z.1.2, hw⟩))), (bI_f (P := (wOk T n p ∧ ¬ dg T n (wP T n p))) (fun z => c98 ((inR_nn (by omega) (by omega) (by omega)).mpr ⟨z.1.2, hw⟩))).symm⟩ dX7_isNumber_107
  · refine lv_iconst (v := (nI 0)) C.1 C.2.1 dX7_isNumber_10 (by decide) ?_
    exact xret_z C hr hlk hW rfl ⟨_, (by rw [wP, if_neg (fun z => c7 z.1)]; exact h4.trans (by rw [dP, if_neg c7])), (fun j z0 => (f5 j (by omega))), (fun z => absurd z (fun z => c7 z.1.1)), (bI_f (P := (wOk T n p ∧ ¬ dg T n (wP T n p))) (fun z => c7 z.1.1)).symm⟩ dX7_isNumber_11
