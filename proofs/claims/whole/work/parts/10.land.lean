set_option maxHeartbeats 4000000 in
set_option maxRecDepth 100000 in
theorem c_X1_eat (l : Launch) (g : GE) (w : Nat → va_E) (b f : Nat) (x y : Int32) (L : Nat → Nat) (hI : AdInj g) (hN : gN g = 130) (hb : b + 33 ≤ 119) (hf : f < 7) (hfd : L (3 + f) ≤ 9) (pr0 : GAt g b x y L w) : Met l yX1_eat wsX1_eat ({ frames := 2, cells := 0, slots := 0, locals := 42 } : Room) (XPc g w [.ref (gad g b), .int (nI f)]) (XQv g (fun w' => GAt g b x y (va_up L (3 + f) (L (3 + f) - 1)) w' ∧ (∀ j : Nat, ¬ (b + 3 ≤ j ∧ j < b + 4) → w' j = w j))) 0 0 (gA g) := by
  refine xmet (cc := cX1_eat) (maxL := 2) (ret := none) (by decide) rfl hI (Nat.le_of_ble_eq_true rfl) ?_
  intro pG eG sG mG belowG methG cG ls C hr hlk hK hW hl
  have hl : lv_has ls 2 [(0, .ref (gad g b)), (1, .int (nI f))] := hl
  have hinX1 : ∀ x ∈ u_ws RX1 TX1 8, x ∈ wsX1_eat := by decide +kernel
  have hinX2 : ∀ x ∈ u_ws RX2 TX2 5, x ∈ wsX1_eat := by decide +kernel
  refine lv_iload_n C.1 C.2.1 dX1_eat_0 rfl (lv_at hl 1 rfl) ?_
  refine xcN_i (n := 1) (As := [.int (nI f)]) C hK hW (c_X6_isField l g w (nI f) hI hN) gX1_eat_X6_isField_n90 rfl ⟨rfl, rfl⟩ hK.2.2.2.1 (List.mem_of_getElem? (i := 4) rfl) (List.mem_of_getElem? (i := 3) rfl) (by decide +kernel) ⟨Nat.le_of_ble_eq_true rfl, Nat.le_of_ble_eq_true rfl⟩ ⟨Nat.zero_le _, Nat.zero_le _⟩ rfl hl rfl (Nat.le_of_ble_eq_true rfl) dX1_eat_1 (fun r3 w1 H locs q2 hW => ?_)
  obtain ⟨qw4, rfl⟩ := q2
  rw [qw4] at hW
  refine xBeq (tgt := 32) C dX1_eat_4 (by decide) (fun c4 => absurd c4 (by exact fun z => z ((inR_nn (by omega) (by omega) (by omega)).mpr ⟨Nat.zero_le _, by omega⟩))) (fun c4 => ?_)
  refine lv_aload_n C.1 C.2.1 dX1_eat_7 rfl (lv_at hl 0 rfl) ?_
  refine xget C hK hW hinX1 rfl (by omega) pr0.1 1 (by decide) (List.mem_of_getElem? (i := 1) rfl) rfl dX1_eat_8 ?_
  refine xget C hK hW hinX2 rfl (by omega) pr0.2.2.1 3 (by decide) (List.mem_of_getElem? (i := 2) rfl) rfl dX1_eat_11 ?_
  refine lv_iload_n C.1 C.2.1 dX1_eat_14 rfl (lv_at hl 1 rfl) ?_
  refine xildK C hK hW (by omega) pr0.2.2.2.1 (by omega) (by decide) dX1_eat_15 ?_
  refine x0le (tgt := 32) C (by omega) dX1_eat_16 (by decide) (fun c16 => ?_) (fun c16 => ?_)
  · exact xret_v C hr hlk hW ⟨(by rw [va_up_id (k := 3 + f) (by omega)]; exact pr0), (fun j z0 => rfl)⟩ dX1_eat_32
  · refine lv_aload_n C.1 C.2.1 dX1_eat_19 rfl (lv_at hl 0 rfl) ?_
    refine xget C hK hW hinX1 rfl (by omega) pr0.1 1 (by decide) (List.mem_of_getElem? (i := 1) rfl) rfl dX1_eat_20 ?_
    refine xget C hK hW hinX2 rfl (by omega) pr0.2.2.1 3 (by decide) (List.mem_of_getElem? (i := 2) rfl) rfl dX1_eat_23 ?_
    refine lv_iload_n C.1 C.2.1 dX1_eat_26 rfl (lv_at hl 1 rfl) ?_
    refine lv_dup2_11 C.1 C.2.1 dX1_eat_27 rfl rfl ?_
    refine xildK C hK hW (by omega) pr0.2.2.2.1 (by omega) (by decide) dX1_eat_28 ?_
    refine lv_iconst (v := (nI 1)) C.1 C.2.1 dX1_eat_29 (by decide) ?_
    refine xsub C (by omega) dX1_eat_30 ?_
    refine xistK (v := (L (3 + f)) - 1) C hK hW (by omega) pr0.2.2.2.1 (by omega) (by decide) dX1_eat_31 (fun w5 H locs e6 f7 hW => ?_)
    have h8 : GAt g b x y (va_up L (3 + f) ((L (3 + f)) - 1)) w5 := GAt_food pr0 (by omega) e6 f7
    exact xret_v C hr hlk hW ⟨h8, (fun j z0 => (f7 j (by omega)))⟩ dX1_eat_32

set_option maxHeartbeats 4000000 in
set_option maxRecDepth 100000 in
theorem c_X1_passDay (l : Launch) (g : GE) (w : Nat → va_E) (b : Nat) (x y : Int32) (L : Nat → Nat) (hI : AdInj g) (hN : gN g = 130) (hb : b + 33 ≤ 119) (hok : Okg L) (hs : L 2 < 7) (pr0 : GAt g b x y L w) : Met l yX1_passDay wsX1_passDay ({ frames := 3, cells := 0, slots := 0, locals := 65 } : Room) (XPc g w [.ref (gad g b)]) (XQv g (fun w' => GAt g b x y (dayF L) w' ∧ (∀ j : Nat, ¬ (b + 2 ≤ j ∧ j < b + 4) → w' j = w j))) 0 0 (gA g) := by
  refine xmet (cc := cX1_passDay) (maxL := 5) (ret := none) (by decide) rfl hI (Nat.le_of_ble_eq_true rfl) ?_
  intro pG eG sG mG belowG methG cG ls C hr hlk hK hW hl
  have hl : lv_has ls 5 [(0, .ref (gad g b))] := hl
  have hinX1 : ∀ x ∈ u_ws RX1 TX1 8, x ∈ wsX1_passDay := by decide +kernel
  have hinX2 : ∀ x ∈ u_ws RX2 TX2 5, x ∈ wsX1_passDay := by decide +kernel
  have hfd := (hok (L 2) hs).2.1
  have hdr := drawF_lt (L 1)
  have hon := onF_le L (L 2)
  have hob := onF_back L (L 2)
  refine lv_aload_n C.1 C.2.1 dX1_passDay_0 rfl (lv_at hl 0 rfl) ?_
  refine xget C hK hW hinX1 rfl (by omega) pr0.1 1 (by decide) (List.mem_of_getElem? (i := 1) rfl) rfl dX1_passDay_1 ?_
  refine xget C hK hW hinX2 rfl (by omega) pr0.2.2.1 0 (by decide) (List.mem_of_getElem? (i := 2) rfl) rfl dX1_passDay_4 ?_
  refine lv_istore_n (lv' := [(1, .int (nI (L 2))), (0, .ref (gad g b))]) C.1 C.2.1 dX1_passDay_7 rfl hl (by decide) rfl (fun ls hl => ?_)
  refine lv_aload_n C.1 C.2.1 dX1_passDay_8 rfl (lv_at hl 1 rfl) ?_
  refine lv_iload_n C.1 C.2.1 dX1_passDay_9 rfl (lv_at hl 0 rfl) ?_
  refine xcV_i (n := 1) (As := [.int (nI (L 2))]) C hK hW (c_X1_onFrom l g w b (L 2) x y L hI hN (by omega) (by omega) hok pr0) gX1_passDay_X1_onFrom rfl ⟨rfl, rfl⟩ (by decide +kernel) ⟨Nat.le_of_ble_eq_true rfl, Nat.le_of_ble_eq_true rfl⟩ ⟨Nat.zero_le _, Nat.zero_le _⟩ rfl (by omega) pr0.1 rfl hl rfl (Nat.le_of_ble_eq_true rfl) dX1_passDay_10 (fun r3 w1 H locs q2 hW => ?_)
  obtain ⟨qw4, rfl⟩ := q2
  rw [qw4] at hW
  refine lv_istore_n (lv' := [(2, .int (nI (onF L (L 2)))), (1, .int (nI (L 2))), (0, .ref (gad g b))]) C.1 C.2.1 dX1_passDay_13 rfl hl (by decide) rfl (fun ls hl => ?_)
  refine lv_aload_n C.1 C.2.1 dX1_passDay_14 rfl (lv_at hl 2 rfl) ?_
  refine lv_iload_n C.1 C.2.1 dX1_passDay_15 rfl (lv_at hl 1 rfl) ?_
  refine xcV_i (n := 1) (As := [.int (nI (L 2))]) C hK hW (c_X1_backFrom l g w b (L 2) x y L hI hN (by omega) (by omega) hok pr0) gX1_passDay_X1_backFrom rfl ⟨rfl, rfl⟩ (by decide +kernel) ⟨Nat.le_of_ble_eq_true rfl, Nat.le_of_ble_eq_true rfl⟩ ⟨Nat.zero_le _, Nat.zero_le _⟩ rfl (by omega) pr0.1 rfl hl rfl (Nat.le_of_ble_eq_true rfl) dX1_passDay_16 (fun r7 w5 H locs q6 hW => ?_)
  obtain ⟨qw8, rfl⟩ := q6
  rw [qw8] at hW
  refine lv_istore_n (lv' := [(3, .int (nI (backF L (L 2)))), (2, .int (nI (onF L (L 2)))), (1, .int (nI (L 2))), (0, .ref (gad g b))]) C.1 C.2.1 dX1_passDay_19 rfl hl (by decide) rfl (fun ls hl => ?_)
  refine lv_aload_n C.1 C.2.1 dX1_passDay_20 rfl (lv_at hl 3 rfl) ?_
  refine xget C hK hW hinX1 rfl (by omega) pr0.1 1 (by decide) (List.mem_of_getElem? (i := 1) rfl) rfl dX1_passDay_21 ?_
  refine lv_aload_n C.1 C.2.1 dX1_passDay_24 rfl (lv_at hl 3 rfl) ?_
  refine xget C hK hW hinX1 rfl (by omega) pr0.1 1 (by decide) (List.mem_of_getElem? (i := 1) rfl) rfl dX1_passDay_25 ?_
  refine xget C hK hW hinX2 rfl (by omega) pr0.2.2.1 2 (by decide) (List.mem_of_getElem? (i := 3) rfl) rfl dX1_passDay_28 ?_
  refine lv_ldc (v := (nI 1103515245)) C.1 C.2.1 C.2.2.2.1 (C.2.2.2.2 _ (List.mem_of_getElem? (i := 4) rfl)) dX1_passDay_31 ?_
  refine xmul C dX1_passDay_33 ?_
  refine lv_sipush (v := (nI 12345)) C.1 C.2.1 dX1_passDay_34 (by decide) ?_
  refine xadd C dX1_passDay_37 ?_
  refine lv_ldc (v := (nI 2147483647)) C.1 C.2.1 C.2.2.2.1 (C.2.2.2.2 _ (List.mem_of_getElem? (i := 5) rfl)) dX1_passDay_38 ?_
  refine xand31 C dX1_passDay_40 ?_
  refine xtopN (b := drawF (L 1)) rfl ?_
  refine xput (v := .int (nI (drawF (L 1)))) C hK hW hinX2 tyX2_ok nmX2 rfl (by omega) pr0.2.2.1 2 (by decide) (List.mem_of_getElem? (i := 3) rfl) rfl rfl rfl (Nat.le_of_ble_eq_true rfl) dX1_passDay_41 (fun w9 H locs e10 f11 hW => ?_)
  have h12 : GAt g b x y (va_up L 1 (drawF (L 1))) w9 := GAt_draw pr0 e10 f11
  refine lv_aload_n C.1 C.2.1 dX1_passDay_44 rfl (lv_at hl 3 rfl) ?_
  refine xget C hK hW hinX1 rfl (by omega) h12.1 1 (by decide) (List.mem_of_getElem? (i := 1) rfl) rfl dX1_passDay_45 ?_
  refine xget C hK hW hinX2 rfl (by omega) h12.2.2.1 2 (by decide) (List.mem_of_getElem? (i := 3) rfl) rfl dX1_passDay_48 ?_
  refine xtopN (b := drawF (L 1)) (va_up_self _ _ _) ?_
  refine lv_ldc (v := (nI 65536)) C.1 C.2.1 C.2.2.2.1 (C.2.2.2.2 _ (List.mem_of_getElem? (i := 6) rfl)) dX1_passDay_51 ?_
  refine xdiv C (by omega) (by omega) (by omega) dX1_passDay_53 ?_
  refine lv_bipush (v := (nI 10)) C.1 C.2.1 dX1_passDay_54 (by decide) ?_
  refine xrem C (by omega) (by omega) (by omega) dX1_passDay_56 ?_
  refine lv_istore (lv' := [(4, .int (nI (((drawF (L 1)) / 65536) % 10))), (3, .int (nI (backF L (L 2)))), (2, .int (nI (onF L (L 2)))), (1, .int (nI (L 2))), (0, .ref (gad g b))]) C.1 C.2.1 dX1_passDay_57 hl (by decide) rfl (fun ls hl => ?_)
  refine lv_iload C.1 C.2.1 dX1_passDay_59 (lv_at hl 0 rfl) ?_
  refine lv_iload_n C.1 C.2.1 dX1_passDay_61 rfl (lv_at hl 2 rfl) ?_
  refine xge (tgt := 78) C (by omega) (by omega) dX1_passDay_62 (by decide) (fun c62 => ?_) (fun c62 => ?_)
  · refine lv_iload C.1 C.2.1 dX1_passDay_78 (lv_at hl 0 rfl) ?_
    refine lv_iload_n C.1 C.2.1 dX1_passDay_80 rfl (lv_at hl 2 rfl) ?_
    refine lv_iload_n C.1 C.2.1 dX1_passDay_81 rfl (lv_at hl 1 rfl) ?_
    refine xadd C dX1_passDay_82 ?_
    refine xge (tgt := 99) C (by omega) (by omega) dX1_passDay_83 (by decide) (fun c83 => ?_) (fun c83 => ?_)
    · refine lv_aload_n C.1 C.2.1 dX1_passDay_99 rfl (lv_at hl 4 rfl) ?_
      refine lv_iload_n C.1 C.2.1 dX1_passDay_100 rfl (lv_at hl 3 rfl) ?_
      refine xcV_v (n := 1) (As := [.int (nI (L 2))]) C hK hW (c_X1_eat l g w9 b (L 2) x y (va_up L 1 (drawF (L 1))) hI hN (by omega) (by omega) (by rw [va_up_ne _ _ (by omega)]; omega) h12) gX1_passDay_X1_eat rfl ⟨rfl, rfl⟩ (by decide +kernel) ⟨Nat.le_of_ble_eq_true rfl, Nat.le_of_ble_eq_true rfl⟩ ⟨Nat.zero_le _, Nat.zero_le _⟩ rfl (by omega) h12.1 rfl hl rfl (Nat.le_of_ble_eq_true rfl) dX1_passDay_101 (fun w13 H locs q14 hW => ?_)
      obtain ⟨h16, f17⟩ := q14
      have h18 : GAt g b x y (va_up (va_up L 1 (drawF (L 1))) (3 + L 2) (L (3 + L 2) - 1)) w13 := (by have hh := h16; rw [va_up_ne (f := L) (k := 1) (j := 3 + L 2) _ (by omega)] at hh; exact hh)
      refine lv_aload_n C.1 C.2.1 dX1_passDay_104 rfl (lv_at hl 4 rfl) ?_
      refine xget C hK hW hinX1 rfl (by omega) h18.1 1 (by decide) (List.mem_of_getElem? (i := 1) rfl) rfl dX1_passDay_105 ?_
      refine lv_dup C.1 C.2.1 dX1_passDay_108 rfl ?_
      refine xget C hK hW hinX2 rfl (by omega) h18.2.2.1 1 (by decide) (List.mem_of_getElem? (i := 7) rfl) rfl dX1_passDay_109 ?_
      refine xtopN (b := L 0) ((va_up_ne _ _ (by omega)).trans (va_up_ne _ _ (by omega))) ?_
      refine lv_iconst (v := (nI 1)) C.1 C.2.1 dX1_passDay_112 (by decide) ?_
      refine xadd C dX1_passDay_113 ?_
      refine xput (v := .int (nI ((L 0) + 1))) C hK hW hinX2 tyX2_ok nmX2 rfl (by omega) h18.2.2.1 1 (by decide) (List.mem_of_getElem? (i := 7) rfl) rfl rfl rfl (Nat.le_of_ble_eq_true rfl) dX1_passDay_114 (fun w19 H locs e20 f21 hW => ?_)
      have h22 : GAt g b x y (va_up (va_up (va_up L 1 (drawF (L 1))) (3 + L 2) (L (3 + L 2) - 1)) 0 ((L 0) + 1)) w19 := GAt_day h18 e20 f21
      exact xret_v C hr hlk hW ⟨by rw [dayF, if_neg (by omega), if_neg (by omega)]; exact h22, (fun j z0 => ((f21 j (by omega)).trans ((f17 j (by omega)).trans (f11 j (by omega)))))⟩ dX1_passDay_117
    · refine lv_aload_n C.1 C.2.1 dX1_passDay_86 rfl (lv_at hl 4 rfl) ?_
      refine xget C hK hW hinX1 rfl (by omega) h12.1 1 (by decide) (List.mem_of_getElem? (i := 1) rfl) rfl dX1_passDay_87 ?_
      refine lv_iload_n C.1 C.2.1 dX1_passDay_90 rfl (lv_at hl 3 rfl) ?_
      refine lv_iconst (v := (nI 1)) C.1 C.2.1 dX1_passDay_91 (by decide) ?_
      have hz : L 2 ≠ 0 := by
        intro h0
        have h1 : backF L (L 2) = 0 := by rw [backF, if_pos h0]
        omega
      refine xsub C (by omega) dX1_passDay_92 ?_
      refine xput (v := .int (nI ((L 2) - 1))) C hK hW hinX2 tyX2_ok nmX2 rfl (by omega) h12.2.2.1 0 (by decide) (List.mem_of_getElem? (i := 2) rfl) rfl rfl rfl (Nat.le_of_ble_eq_true rfl) dX1_passDay_93 (fun w23 H locs e24 f25 hW => ?_)
      have h26 : GAt g b x y (va_up (va_up L 1 (drawF (L 1))) 2 ((L 2) - 1)) w23 := GAt_spot h12 e24 f25
      refine lv_goto (tgt := 104) C.1 C.2.1 dX1_passDay_96 (by decide) ?_
      refine lv_aload_n C.1 C.2.1 dX1_passDay_104 rfl (lv_at hl 4 rfl) ?_
      refine xget C hK hW hinX1 rfl (by omega) h26.1 1 (by decide) (List.mem_of_getElem? (i := 1) rfl) rfl dX1_passDay_105 ?_
      refine lv_dup C.1 C.2.1 dX1_passDay_108 rfl ?_
      refine xget C hK hW hinX2 rfl (by omega) h26.2.2.1 1 (by decide) (List.mem_of_getElem? (i := 7) rfl) rfl dX1_passDay_109 ?_
      refine xtopN (b := L 0) ((va_up_ne _ _ (by omega)).trans (va_up_ne _ _ (by omega))) ?_
      refine lv_iconst (v := (nI 1)) C.1 C.2.1 dX1_passDay_112 (by decide) ?_
      refine xadd C dX1_passDay_113 ?_
      refine xput (v := .int (nI ((L 0) + 1))) C hK hW hinX2 tyX2_ok nmX2 rfl (by omega) h26.2.2.1 1 (by decide) (List.mem_of_getElem? (i := 7) rfl) rfl rfl rfl (Nat.le_of_ble_eq_true rfl) dX1_passDay_114 (fun w27 H locs e28 f29 hW => ?_)
      have h30 : GAt g b x y (va_up (va_up (va_up L 1 (drawF (L 1))) 2 ((L 2) - 1)) 0 ((L 0) + 1)) w27 := GAt_day h26 e28 f29
      exact xret_v C hr hlk hW ⟨by rw [dayF, if_neg (by omega), if_pos (by omega)]; exact h30, (fun j z0 => ((f29 j (by omega)).trans ((f25 j (by omega)).trans (f11 j (by omega)))))⟩ dX1_passDay_117
  · refine lv_aload_n C.1 C.2.1 dX1_passDay_65 rfl (lv_at hl 4 rfl) ?_
    refine xget C hK hW hinX1 rfl (by omega) h12.1 1 (by decide) (List.mem_of_getElem? (i := 1) rfl) rfl dX1_passDay_66 ?_
    refine lv_iload_n C.1 C.2.1 dX1_passDay_69 rfl (lv_at hl 3 rfl) ?_
    refine lv_iconst (v := (nI 1)) C.1 C.2.1 dX1_passDay_70 (by decide) ?_
    refine xadd C dX1_passDay_71 ?_
    refine xput (v := .int (nI ((L 2) + 1))) C hK hW hinX2 tyX2_ok nmX2 rfl (by omega) h12.2.2.1 0 (by decide) (List.mem_of_getElem? (i := 2) rfl) rfl rfl rfl (Nat.le_of_ble_eq_true rfl) dX1_passDay_72 (fun w31 H locs e32 f33 hW => ?_)
    have h34 : GAt g b x y (va_up (va_up L 1 (drawF (L 1))) 2 ((L 2) + 1)) w31 := GAt_spot h12 e32 f33
    refine lv_goto (tgt := 104) C.1 C.2.1 dX1_passDay_75 (by decide) ?_
    refine lv_aload_n C.1 C.2.1 dX1_passDay_104 rfl (lv_at hl 4 rfl) ?_
    refine xget C hK hW hinX1 rfl (by omega) h34.1 1 (by decide) (List.mem_of_getElem? (i := 1) rfl) rfl dX1_passDay_105 ?_
    refine lv_dup C.1 C.2.1 dX1_passDay_108 rfl ?_
    refine xget C hK hW hinX2 rfl (by omega) h34.2.2.1 1 (by decide) (List.mem_of_getElem? (i := 7) rfl) rfl dX1_passDay_109 ?_
    refine xtopN (b := L 0) ((va_up_ne _ _ (by omega)).trans (va_up_ne _ _ (by omega))) ?_
    refine lv_iconst (v := (nI 1)) C.1 C.2.1 dX1_passDay_112 (by decide) ?_
    refine xadd C dX1_passDay_113 ?_
    refine xput (v := .int (nI ((L 0) + 1))) C hK hW hinX2 tyX2_ok nmX2 rfl (by omega) h34.2.2.1 1 (by decide) (List.mem_of_getElem? (i := 7) rfl) rfl rfl rfl (Nat.le_of_ble_eq_true rfl) dX1_passDay_114 (fun w35 H locs e36 f37 hW => ?_)
    have h38 : GAt g b x y (va_up (va_up (va_up L 1 (drawF (L 1))) 2 ((L 2) + 1)) 0 ((L 0) + 1)) w35 := GAt_day h34 e36 f37
    exact xret_v C hr hlk hW ⟨by rw [dayF, if_pos (by omega)]; exact h38, (fun j z0 => ((f37 j (by omega)).trans ((f33 j (by omega)).trans (f11 j (by omega)))))⟩ dX1_passDay_117

set_option maxHeartbeats 4000000 in
set_option maxRecDepth 100000 in
theorem c_X7_dayIn (l : Launch) (g : GE) (w : Nat → va_E) (i : Nat) (L : Nat → Nat) (hI : AdInj g) (hN : gN g = 130) (hi : i < 130) (hok : Okg L) (hs : L 2 < 7) (hd : L 1 < 2147483648) (pr0 : w i = .inl (gI g, 177, .inl (cK 177 0 L))) : Met l yX7_dayIn wsX7_dayIn ({ frames := 2, cells := 0, slots := 0, locals := 46 } : Room) (XPc g w [.ref (gad g i)]) (XQv g (fun w' => w' i = .inl (gI g, 177, .inl (cK 177 0 (dayF L))) ∧ (∀ j : Nat, ¬ (i ≤ j ∧ j < i + 1) → w' j = w j))) 0 0 (gA g) := by
  refine xmet (cc := cX7_dayIn) (maxL := 4) (ret := none) (by decide) rfl hI (Nat.le_of_ble_eq_true rfl) ?_
  intro pG eG sG mG belowG methG cG ls C hr hlk hK hW hl
  have hl : lv_has ls 4 [(0, .ref (gad g i))] := hl
  have hfd := (hok (L 2) hs).2.1
  have hdr := drawF_lt (L 1)
  have hon := onF_le L (L 2)
  have hob := onF_back L (L 2)
  refine lv_aload_n C.1 C.2.1 dX7_dayIn_0 rfl (lv_at hl 0 rfl) ?_
  refine lv_iconst (v := (nI 1)) C.1 C.2.1 dX7_dayIn_1 (by decide) ?_
  refine lv_aload_n C.1 C.2.1 dX7_dayIn_2 rfl (lv_at hl 0 rfl) ?_
  refine lv_iconst (v := (nI 1)) C.1 C.2.1 dX7_dayIn_3 (by decide) ?_
  refine xildK0 C hK hW (by omega) pr0 (by omega) (by decide) dX7_dayIn_4 ?_
  refine xi2l C (by omega) dX7_dayIn_5 ?_
  refine lv_ldc2 (v := (lN 1103515245)) C.1 C.2.1 C.2.2.2.1 (C.2.2.2.2 _ (List.mem_of_getElem? (i := 1) rfl)) dX7_dayIn_6 ?_
  refine xlmul C dX7_dayIn_9 ?_
  refine lv_ldc2 (v := (lN 12345)) C.1 C.2.1 C.2.2.2.1 (C.2.2.2.2 _ (List.mem_of_getElem? (i := 2) rfl)) dX7_dayIn_10 ?_
  refine xladd C dX7_dayIn_13 ?_
  refine lv_ldc2 (v := (lN 2147483648)) C.1 C.2.1 C.2.2.2.1 (C.2.2.2.2 _ (List.mem_of_getElem? (i := 3) rfl)) dX7_dayIn_14 ?_
  refine xlrem C (by omega) (by omega) (by omega) dX7_dayIn_17 ?_
  refine xl2i C dX7_dayIn_18 ?_
  refine xtopN (b := drawF (L 1)) rfl ?_
  refine xistK0 (v := drawF (L 1)) C hK hW (by omega) pr0 (by omega) (by decide) dX7_dayIn_19 (fun w1 H locs e2 f3 hW => ?_)
  refine lv_aload_n C.1 C.2.1 dX7_dayIn_20 rfl (lv_at hl 0 rfl) ?_
  refine lv_iconst (v := (nI 1)) C.1 C.2.1 dX7_dayIn_21 (by decide) ?_
  refine xildK0 C hK hW (by omega) e2 (by omega) (by decide) dX7_dayIn_22 ?_
  refine xtopN (b := drawF (L 1)) (va_up_self _ _ _) ?_
  refine lv_ldc (v := (nI 65536)) C.1 C.2.1 C.2.2.2.1 (C.2.2.2.2 _ (List.mem_of_getElem? (i := 4) rfl)) dX7_dayIn_23 ?_
  refine xdiv C (by omega) (by omega) (by omega) dX7_dayIn_25 ?_
  refine lv_bipush (v := (nI 10)) C.1 C.2.1 dX7_dayIn_26 (by decide) ?_
  refine xrem C (by omega) (by omega) (by omega) dX7_dayIn_28 ?_
  refine lv_istore_n (lv' := [(1, .int (nI (((drawF (L 1)) / 65536) % 10))), (0, .ref (gad g i))]) C.1 C.2.1 dX7_dayIn_29 rfl hl (by decide) rfl (fun ls hl => ?_)
  refine lv_aload_n C.1 C.2.1 dX7_dayIn_30 rfl (lv_at hl 1 rfl) ?_
  refine lv_iconst (v := (nI 2)) C.1 C.2.1 dX7_dayIn_31 (by decide) ?_
  refine xildK0 C hK hW (by omega) e2 (by omega) (by decide) dX7_dayIn_32 ?_
  refine xtopN (b := L 2) (va_up_ne _ _ (by omega)) ?_
  refine lv_istore_n (lv' := [(2, .int (nI (L 2))), (1, .int (nI (((drawF (L 1)) / 65536) % 10))), (0, .ref (gad g i))]) C.1 C.2.1 dX7_dayIn_33 rfl hl (by decide) rfl (fun ls hl => ?_)
  refine lv_aload_n C.1 C.2.1 dX7_dayIn_34 rfl (lv_at hl 2 rfl) ?_
  refine lv_iload_n C.1 C.2.1 dX7_dayIn_35 rfl (lv_at hl 0 rfl) ?_
  refine xcS_i (n := 2) (As := [.ref (gad g i), .int (nI (L 2))]) C hK hW (c_X7_onOf l g w1 i (L 2) (va_up L 1 (drawF (L 1))) hI hN (by omega) (by omega) (Okg_up hok (by decide)) e2) gX7_dayIn_X7_onOf rfl ⟨rfl, rfl⟩ (by decide +kernel) ⟨Nat.le_of_ble_eq_true rfl, Nat.le_of_ble_eq_true rfl⟩ ⟨Nat.zero_le _, Nat.zero_le _⟩ rfl hl rfl (Nat.le_of_ble_eq_true rfl) dX7_dayIn_36 (fun r6 w4 H locs q5 hW => ?_)
  obtain ⟨qw7, rfl⟩ := q5
  rw [qw7] at hW
  refine xtopN (b := onF L (L 2)) (onF_up (by decide)) ?_
  refine lv_istore_n (lv' := [(3, .int (nI (onF L (L 2)))), (2, .int (nI (L 2))), (1, .int (nI (((drawF (L 1)) / 65536) % 10))), (0, .ref (gad g i))]) C.1 C.2.1 dX7_dayIn_39 rfl hl (by decide) rfl (fun ls hl => ?_)
  refine lv_iload_n C.1 C.2.1 dX7_dayIn_40 rfl (lv_at hl 2 rfl) ?_
  refine lv_iload_n C.1 C.2.1 dX7_dayIn_41 rfl (lv_at hl 0 rfl) ?_
  refine xge (tgt := 54) C (by omega) (by omega) dX7_dayIn_42 (by decide) (fun c42 => ?_) (fun c42 => ?_)
  · refine lv_iload_n C.1 C.2.1 dX7_dayIn_54 rfl (lv_at hl 2 rfl) ?_
    refine lv_iload_n C.1 C.2.1 dX7_dayIn_55 rfl (lv_at hl 0 rfl) ?_
    refine lv_aload_n C.1 C.2.1 dX7_dayIn_56 rfl (lv_at hl 3 rfl) ?_
    refine lv_iload_n C.1 C.2.1 dX7_dayIn_57 rfl (lv_at hl 1 rfl) ?_
    refine xcS_i (n := 2) (As := [.ref (gad g i), .int (nI (L 2))]) C hK hW (c_X7_backOf l g w1 i (L 2) (va_up L 1 (drawF (L 1))) hI hN (by omega) (by omega) (Okg_up hok (by decide)) e2) gX7_dayIn_X7_backOf rfl ⟨rfl, rfl⟩ (by decide +kernel) ⟨Nat.le_of_ble_eq_true rfl, Nat.le_of_ble_eq_true rfl⟩ ⟨Nat.zero_le _, Nat.zero_le _⟩ rfl hl rfl (Nat.le_of_ble_eq_true rfl) dX7_dayIn_58 (fun r10 w8 H locs q9 hW => ?_)
    obtain ⟨qw11, rfl⟩ := q9
    rw [qw11] at hW
    refine xtopN (b := backF L (L 2)) (backF_up (by decide)) ?_
    refine xadd C dX7_dayIn_61 ?_
    refine xge (tgt := 74) C (by omega) (by omega) dX7_dayIn_62 (by decide) (fun c62 => ?_) (fun c62 => ?_)
    · refine lv_aload_n C.1 C.2.1 dX7_dayIn_74 rfl (lv_at hl 3 rfl) ?_
      refine lv_iconst (v := (nI 3)) C.1 C.2.1 dX7_dayIn_75 (by decide) ?_
      refine lv_iload_n C.1 C.2.1 dX7_dayIn_76 rfl (lv_at hl 1 rfl) ?_
      refine xadd C dX7_dayIn_77 ?_
      refine xildK0 C hK hW (by omega) e2 (by omega) (by decide) dX7_dayIn_78 ?_
      refine xtopN (b := L (3 + (L 2))) (va_up_ne _ _ (by omega)) ?_
      refine x0le (tgt := 91) C (by omega) dX7_dayIn_79 (by decide) (fun c79 => ?_) (fun c79 => ?_)
      · refine lv_aload_n C.1 C.2.1 dX7_dayIn_91 rfl (lv_at hl 3 rfl) ?_
        refine lv_iconst (v := (nI 0)) C.1 C.2.1 dX7_dayIn_92 (by decide) ?_
        refine lv_dup2_11 C.1 C.2.1 dX7_dayIn_93 rfl rfl ?_
        refine xildK0 C hK hW (by omega) e2 (by omega) (by decide) dX7_dayIn_94 ?_
        refine xtopN (b := L 0) (va_up_ne _ _ (by omega)) ?_
        refine lv_iconst (v := (nI 1)) C.1 C.2.1 dX7_dayIn_95 (by decide) ?_
        refine xadd C dX7_dayIn_96 ?_
        refine xistK0 (v := (L 0) + 1) C hK hW (by omega) e2 (by omega) (by decide) dX7_dayIn_97 (fun w12 H locs e13 f14 hW => ?_)
        exact xret_v C hr hlk hW ⟨by rw [dayF, if_neg (by omega), if_neg (by omega), va_up_id (k := 3 + L 2) (by rw [va_up_ne _ _ (by omega)]; omega)]; exact e13, (fun j z0 => ((f14 j (by omega)).trans (f3 j (by omega))))⟩ dX7_dayIn_98
      · refine lv_aload_n C.1 C.2.1 dX7_dayIn_82 rfl (lv_at hl 3 rfl) ?_
        refine lv_iconst (v := (nI 3)) C.1 C.2.1 dX7_dayIn_83 (by decide) ?_
        refine lv_iload_n C.1 C.2.1 dX7_dayIn_84 rfl (lv_at hl 1 rfl) ?_
        refine xadd C dX7_dayIn_85 ?_
        refine lv_dup2_11 C.1 C.2.1 dX7_dayIn_86 rfl rfl ?_
        refine xildK0 C hK hW (by omega) e2 (by omega) (by decide) dX7_dayIn_87 ?_
        refine xtopN (b := L (3 + (L 2))) (va_up_ne _ _ (by omega)) ?_
        refine lv_iconst (v := (nI 1)) C.1 C.2.1 dX7_dayIn_88 (by decide) ?_
        refine xsub C (by omega) dX7_dayIn_89 ?_
        refine xistK0 (v := (L (3 + (L 2))) - 1) C hK hW (by omega) e2 (by omega) (by decide) dX7_dayIn_90 (fun w15 H locs e16 f17 hW => ?_)
        refine lv_aload_n C.1 C.2.1 dX7_dayIn_91 rfl (lv_at hl 3 rfl) ?_
        refine lv_iconst (v := (nI 0)) C.1 C.2.1 dX7_dayIn_92 (by decide) ?_
        refine lv_dup2_11 C.1 C.2.1 dX7_dayIn_93 rfl rfl ?_
        refine xildK0 C hK hW (by omega) e16 (by omega) (by decide) dX7_dayIn_94 ?_
        refine xtopN (b := L 0) ((va_up_ne _ _ (by omega)).trans (va_up_ne _ _ (by omega))) ?_
        refine lv_iconst (v := (nI 1)) C.1 C.2.1 dX7_dayIn_95 (by decide) ?_
        refine xadd C dX7_dayIn_96 ?_
        refine xistK0 (v := (L 0) + 1) C hK hW (by omega) e16 (by omega) (by decide) dX7_dayIn_97 (fun w18 H locs e19 f20 hW => ?_)
        exact xret_v C hr hlk hW ⟨by rw [dayF, if_neg (by omega), if_neg (by omega)]; exact e19, (fun j z0 => ((f20 j (by omega)).trans ((f17 j (by omega)).trans (f3 j (by omega)))))⟩ dX7_dayIn_98
    · refine lv_aload_n C.1 C.2.1 dX7_dayIn_65 rfl (lv_at hl 3 rfl) ?_
      refine lv_iconst (v := (nI 2)) C.1 C.2.1 dX7_dayIn_66 (by decide) ?_
      refine lv_iload_n C.1 C.2.1 dX7_dayIn_67 rfl (lv_at hl 1 rfl) ?_
      refine lv_iconst (v := (nI 1)) C.1 C.2.1 dX7_dayIn_68 (by decide) ?_
      have hz : L 2 ≠ 0 := by
        intro h0
        have h1 : backF L (L 2) = 0 := by rw [backF, if_pos h0]
        omega
      refine xsub C (by omega) dX7_dayIn_69 ?_
      refine xistK0 (v := (L 2) - 1) C hK hW (by omega) e2 (by omega) (by decide) dX7_dayIn_70 (fun w21 H locs e22 f23 hW => ?_)
      refine lv_goto (tgt := 91) C.1 C.2.1 dX7_dayIn_71 (by decide) ?_
      refine lv_aload_n C.1 C.2.1 dX7_dayIn_91 rfl (lv_at hl 3 rfl) ?_
      refine lv_iconst (v := (nI 0)) C.1 C.2.1 dX7_dayIn_92 (by decide) ?_
      refine lv_dup2_11 C.1 C.2.1 dX7_dayIn_93 rfl rfl ?_
      refine xildK0 C hK hW (by omega) e22 (by omega) (by decide) dX7_dayIn_94 ?_
      refine xtopN (b := L 0) ((va_up_ne _ _ (by omega)).trans (va_up_ne _ _ (by omega))) ?_
      refine lv_iconst (v := (nI 1)) C.1 C.2.1 dX7_dayIn_95 (by decide) ?_
      refine xadd C dX7_dayIn_96 ?_
      refine xistK0 (v := (L 0) + 1) C hK hW (by omega) e22 (by omega) (by decide) dX7_dayIn_97 (fun w24 H locs e25 f26 hW => ?_)
      exact xret_v C hr hlk hW ⟨by rw [dayF, if_neg (by omega), if_pos (by omega)]; exact e25, (fun j z0 => ((f26 j (by omega)).trans ((f23 j (by omega)).trans (f3 j (by omega)))))⟩ dX7_dayIn_98
  · refine lv_aload_n C.1 C.2.1 dX7_dayIn_45 rfl (lv_at hl 3 rfl) ?_
    refine lv_iconst (v := (nI 2)) C.1 C.2.1 dX7_dayIn_46 (by decide) ?_
    refine lv_iload_n C.1 C.2.1 dX7_dayIn_47 rfl (lv_at hl 1 rfl) ?_
    refine lv_iconst (v := (nI 1)) C.1 C.2.1 dX7_dayIn_48 (by decide) ?_
    refine xadd C dX7_dayIn_49 ?_
    refine xistK0 (v := (L 2) + 1) C hK hW (by omega) e2 (by omega) (by decide) dX7_dayIn_50 (fun w27 H locs e28 f29 hW => ?_)
    refine lv_goto (tgt := 91) C.1 C.2.1 dX7_dayIn_51 (by decide) ?_
    refine lv_aload_n C.1 C.2.1 dX7_dayIn_91 rfl (lv_at hl 3 rfl) ?_
    refine lv_iconst (v := (nI 0)) C.1 C.2.1 dX7_dayIn_92 (by decide) ?_
    refine lv_dup2_11 C.1 C.2.1 dX7_dayIn_93 rfl rfl ?_
    refine xildK0 C hK hW (by omega) e28 (by omega) (by decide) dX7_dayIn_94 ?_
    refine xtopN (b := L 0) ((va_up_ne _ _ (by omega)).trans (va_up_ne _ _ (by omega))) ?_
    refine lv_iconst (v := (nI 1)) C.1 C.2.1 dX7_dayIn_95 (by decide) ?_
    refine xadd C dX7_dayIn_96 ?_
    refine xistK0 (v := (L 0) + 1) C hK hW (by omega) e28 (by omega) (by decide) dX7_dayIn_97 (fun w30 H locs e31 f32 hW => ?_)
    exact xret_v C hr hlk hW ⟨by rw [dayF, if_pos (by omega)]; exact e31, (fun j z0 => ((f32 j (by omega)).trans ((f29 j (by omega)).trans (f3 j (by omega)))))⟩ dX7_dayIn_98

set_option maxHeartbeats 4000000 in
set_option maxRecDepth 100000 in
theorem c_X2_take (l : Launch) (g : GE) (w : Nat → va_E) (b o : Nat) (M0 M : Nat → Nat) (hI : AdInj g) (hN : gN g = 130) (hb : b + 3 ≤ 119) (ho : o + 3 ≤ 119) (hd : b + 3 ≤ o ∨ o + 3 ≤ b) (pr0 : MomAt g b M0 w) (pr1 : MomAt g o M w) : Met l yX2_take wsX2_take ({ frames := 1, cells := 0, slots := 0, locals := 32 } : Room) (XPc g w [.ref (gad g b), .ref (gad g o)]) (XQv g (fun w' => MomAt g b M w' ∧ (∀ j : Nat, ¬ (b ≤ j ∧ j < b + 3) → w' j = w j))) 0 0 (gA g) := by
  refine xmet (cc := cX2_take) (maxL := 2) (ret := none) (by decide) rfl hI (Nat.le_of_ble_eq_true rfl) ?_
  intro pG eG sG mG belowG methG cG ls C hr hlk hK hW hl
  have hl : lv_has ls 2 [(0, .ref (gad g b)), (1, .ref (gad g o))] := hl
  have hinX2 : ∀ x ∈ u_ws RX2 TX2 5, x ∈ wsX2_take := by decide +kernel
  refine lv_aload_n C.1 C.2.1 dX2_take_0 rfl (lv_at hl 0 rfl) ?_
  refine lv_aload_n C.1 C.2.1 dX2_take_1 rfl (lv_at hl 1 rfl) ?_
  refine xget C hK hW hinX2 rfl (by omega) pr1.1 0 (by decide) (List.mem_of_getElem? (i := 1) rfl) rfl dX2_take_2 ?_
  refine xput (v := .int (nI (M 2))) C hK hW hinX2 tyX2_ok nmX2 rfl (by omega) pr0.1 0 (by decide) (List.mem_of_getElem? (i := 1) rfl) rfl rfl rfl (Nat.le_of_ble_eq_true rfl) dX2_take_5 (fun w1 H locs e2 f3 hW => ?_)
  refine lv_aload_n C.1 C.2.1 dX2_take_8 rfl (lv_at hl 0 rfl) ?_
  refine lv_aload_n C.1 C.2.1 dX2_take_9 rfl (lv_at hl 1 rfl) ?_
  have h4 : MomAt g o M w1 := (MomAt.fr pr1 (fun j h1 h2 => f3 j (by omega)))
  refine xget C hK hW hinX2 rfl (by omega) h4.1 1 (by decide) (List.mem_of_getElem? (i := 2) rfl) rfl dX2_take_10 ?_
  refine xput (v := .int (nI (M 0))) C hK hW hinX2 tyX2_ok nmX2 rfl (by omega) e2 1 (by decide) (List.mem_of_getElem? (i := 2) rfl) rfl rfl rfl (Nat.le_of_ble_eq_true rfl) dX2_take_13 (fun w5 H locs e6 f7 hW => ?_)
  refine lv_aload_n C.1 C.2.1 dX2_take_16 rfl (lv_at hl 0 rfl) ?_
  refine lv_aload_n C.1 C.2.1 dX2_take_17 rfl (lv_at hl 1 rfl) ?_
  have h8 : MomAt g o M w5 := (MomAt.fr h4 (fun j h1 h2 => f7 j (by omega)))
  refine xget C hK hW hinX2 rfl (by omega) h8.1 2 (by decide) (List.mem_of_getElem? (i := 3) rfl) rfl dX2_take_18 ?_
  refine xput (v := .int (nI (M 1))) C hK hW hinX2 tyX2_ok nmX2 rfl (by omega) e6 2 (by decide) (List.mem_of_getElem? (i := 3) rfl) rfl rfl rfl (Nat.le_of_ble_eq_true rfl) dX2_take_21 (fun w9 H locs e10 f11 hW => ?_)
  refine lv_aload_n C.1 C.2.1 dX2_take_24 rfl (lv_at hl 1 rfl) ?_
  have h12 : MomAt g o M w9 := (MomAt.fr h8 (fun j h1 h2 => f11 j (by omega)))
  refine xget C hK hW hinX2 rfl (by omega) h12.1 3 (by decide) (List.mem_of_getElem? (i := 4) rfl) rfl dX2_take_25 ?_
  refine lv_iconst (v := (nI 0)) C.1 C.2.1 dX2_take_28 (by decide) ?_
  refine lv_aload_n C.1 C.2.1 dX2_take_29 rfl (lv_at hl 0 rfl) ?_
  refine xget C hK hW hinX2 rfl (by omega) e10 3 (by decide) (List.mem_of_getElem? (i := 4) rfl) rfl dX2_take_30 ?_
  refine lv_iconst (v := (nI 0)) C.1 C.2.1 dX2_take_33 (by decide) ?_
  refine lv_bipush (v := (nI 7)) C.1 C.2.1 dX2_take_34 (by decide) ?_
  have h13 : w9 (b + 1) = .inl (gI g, 7, .inl (cK 7 3 M0)) := ((f11 (b + 1) (by omega)).trans ((f7 (b + 1) (by omega)).trans ((f3 (b + 1) (by omega)).trans pr0.2.1)))
  refine xcpyi C hK hW hl (by omega) h12.2.1 (by omega) h13 (by omega) (by omega) (by decide) (by decide) (List.mem_of_getElem? (i := 5) rfl) (List.mem_of_getElem? (i := 6) rfl) (List.mem_of_getElem? (i := 7) rfl) (List.mem_of_getElem? (i := 8) rfl) (Nat.le_of_ble_eq_true rfl) (Nat.le_of_ble_eq_true rfl) dX2_take_36 (fun w14 H locs e15 f16 hW => ?_)
  rw [cK_cpyF] at e15
  refine lv_aload_n C.1 C.2.1 dX2_take_39 rfl (lv_at hl 1 rfl) ?_
  have h17 : MomAt g o M w14 := (MomAt.fr h12 (fun j h1 h2 => f16 j (by omega)))
  refine xget C hK hW hinX2 rfl (by omega) h17.1 4 (by decide) (List.mem_of_getElem? (i := 9) rfl) rfl dX2_take_40 ?_
  refine lv_iconst (v := (nI 0)) C.1 C.2.1 dX2_take_43 (by decide) ?_
  refine lv_aload_n C.1 C.2.1 dX2_take_44 rfl (lv_at hl 0 rfl) ?_
  have h18 : w14 b = .inr (2, [.int (nI (M 2)), .int (nI (M 0)), .int (nI (M 1)), .ref (gad g (b + 1)), .ref (gad g (b + 2))]) := ((f16 b (by omega)).trans e10)
  refine xget C hK hW hinX2 rfl (by omega) h18 4 (by decide) (List.mem_of_getElem? (i := 9) rfl) rfl dX2_take_45 ?_
  refine lv_iconst (v := (nI 0)) C.1 C.2.1 dX2_take_48 (by decide) ?_
  refine lv_bipush (v := (nI 7)) C.1 C.2.1 dX2_take_49 (by decide) ?_
  have h19 : w14 (b + 2) = .inl (gI g, 7, .inl (cK 7 10 M0)) := ((f16 (b + 2) (by omega)).trans ((f11 (b + 2) (by omega)).trans ((f7 (b + 2) (by omega)).trans ((f3 (b + 2) (by omega)).trans pr0.2.2))))
  refine xcpyi C hK hW hl (by omega) h17.2.2 (by omega) h19 (by omega) (by omega) (by decide) (by decide) (List.mem_of_getElem? (i := 5) rfl) (List.mem_of_getElem? (i := 6) rfl) (List.mem_of_getElem? (i := 7) rfl) (List.mem_of_getElem? (i := 8) rfl) (Nat.le_of_ble_eq_true rfl) (Nat.le_of_ble_eq_true rfl) dX2_take_51 (fun w20 H locs e21 f22 hW => ?_)
  rw [cK_cpyF] at e21
  have h23 : w20 b = .inr (2, [.int (nI (M 2)), .int (nI (M 0)), .int (nI (M 1)), .ref (gad g (b + 1)), .ref (gad g (b + 2))]) := ((f22 b (by omega)).trans h18)
  have h24 : w20 (b + 1) = .inl (gI g, 7, .inl (cK 7 3 M)) := ((f22 (b + 1) (by omega)).trans e15)
  exact xret_v C hr hlk hW ⟨⟨h23, h24, e21⟩, (fun j z0 => ((f22 j (by omega)).trans ((f16 j (by omega)).trans ((f11 j (by omega)).trans ((f7 j (by omega)).trans (f3 j (by omega)))))))⟩ dX2_take_54

set_option maxHeartbeats 4000000 in
set_option maxRecDepth 100000 in
theorem c_X1_takeGround (l : Launch) (g : GE) (w : Nat → va_E) (b o : Nat) (x y x1 y1 : Int32) (L0 L : Nat → Nat) (hI : AdInj g) (hN : gN g = 130) (hb : b + 33 ≤ 119) (ho : o + 33 ≤ 119) (hd : b + 33 ≤ o ∨ o + 33 ≤ b) (pr0 : GAt g b x y L0 w) (pr1 : GAt g o x1 y1 L w) : Met l yX1_takeGround wsX1_takeGround ({ frames := 2, cells := 0, slots := 0, locals := 53 } : Room) (XPc g w [.ref (gad g b), .ref (gad g o)]) (XQv g (fun w' => GAt g b x y L w' ∧ (∀ j : Nat, ¬ (b + 1 ≤ j ∧ j < b + 5) → w' j = w j))) 0 0 (gA g) := by
  refine xmet (cc := cX1_takeGround) (maxL := 2) (ret := none) (by decide) rfl hI (Nat.le_of_ble_eq_true rfl) ?_
  intro pG eG sG mG belowG methG cG ls C hr hlk hK hW hl
  have hl : lv_has ls 2 [(0, .ref (gad g b)), (1, .ref (gad g o))] := hl
  have hinX1 : ∀ x ∈ u_ws RX1 TX1 8, x ∈ wsX1_takeGround := by decide +kernel
  refine lv_aload_n C.1 C.2.1 dX1_takeGround_0 rfl (lv_at hl 1 rfl) ?_
  refine xget C hK hW hinX1 rfl (by omega) pr1.1 0 (by decide) (List.mem_of_getElem? (i := 1) rfl) rfl dX1_takeGround_1 ?_
  refine lv_iconst (v := (nI 0)) C.1 C.2.1 dX1_takeGround_4 (by decide) ?_
  refine lv_aload_n C.1 C.2.1 dX1_takeGround_5 rfl (lv_at hl 0 rfl) ?_
  refine xget C hK hW hinX1 rfl (by omega) pr0.1 0 (by decide) (List.mem_of_getElem? (i := 1) rfl) rfl dX1_takeGround_6 ?_
  refine lv_iconst (v := (nI 0)) C.1 C.2.1 dX1_takeGround_9 (by decide) ?_
  refine lv_bipush (v := (nI 7)) C.1 C.2.1 dX1_takeGround_10 (by decide) ?_
  refine xcpyi C hK hW hl (by omega) pr1.2.1 (by omega) pr0.2.1 (by omega) (by omega) (by decide) (by decide) (List.mem_of_getElem? (i := 2) rfl) (List.mem_of_getElem? (i := 3) rfl) (List.mem_of_getElem? (i := 4) rfl) (List.mem_of_getElem? (i := 5) rfl) (Nat.le_of_ble_eq_true rfl) (Nat.le_of_ble_eq_true rfl) dX1_takeGround_12 (fun w1 H locs e2 f3 hW => ?_)
  rw [cK_cpyF] at e2
  refine lv_aload_n C.1 C.2.1 dX1_takeGround_15 rfl (lv_at hl 0 rfl) ?_
  have h4 : w1 b = .inr (1, [.ref (gad g (b + 1)), .ref (gad g (b + 2)), .ref (gad g (b + 5)), .int x, .ref (gad g (b + 6)), .ref (gad g (b + 7)), .ref (gad g (b + 8)), .int y]) := ((f3 b (by omega)).trans pr0.1)
  refine xget C hK hW hinX1 rfl (by omega) h4 1 (by decide) (List.mem_of_getElem? (i := 6) rfl) rfl dX1_takeGround_16 ?_
  refine lv_aload_n C.1 C.2.1 dX1_takeGround_19 rfl (lv_at hl 1 rfl) ?_
  have h5 : GAt g o x1 y1 L w1 := (GAt.fr pr1 (fun j h1 h2 => f3 j (by omega)))
  refine xget C hK hW hinX1 rfl (by omega) h5.1 1 (by decide) (List.mem_of_getElem? (i := 6) rfl) rfl dX1_takeGround_20 ?_
  have h6 : w1 (b + 2) = .inr (2, [.int (nI (L0 2)), .int (nI (L0 0)), .int (nI (L0 1)), .ref (gad g (b + 3)), .ref (gad g (b + 4))]) := ((f3 (b + 2) (by omega)).trans pr0.2.2.1)
  have h7 : w1 (b + 3) = .inl (gI g, 7, .inl (cK 7 3 L0)) := ((f3 (b + 3) (by omega)).trans pr0.2.2.2.1)
  have h8 : w1 (b + 4) = .inl (gI g, 7, .inl (cK 7 10 L0)) := ((f3 (b + 4) (by omega)).trans pr0.2.2.2.2)
  refine xcV_v (n := 1) (As := [.ref (gad g (o + 2))]) C hK hW (c_X2_take l g w1 (b + 2) (o + 2) L0 L hI hN (by omega) (by omega) (by omega) (⟨h6, h7, h8⟩) h5.mom) gX1_takeGround_X2_take rfl ⟨rfl, rfl⟩ (by decide +kernel) ⟨Nat.le_of_ble_eq_true rfl, Nat.le_of_ble_eq_true rfl⟩ ⟨Nat.zero_le _, Nat.zero_le _⟩ rfl (by omega) h6 rfl hl rfl (Nat.le_of_ble_eq_true rfl) dX1_takeGround_23 (fun w9 H locs q10 hW => ?_)
  obtain ⟨h12, f13⟩ := q10
  have h14 : w9 b = .inr (1, [.ref (gad g (b + 1)), .ref (gad g (b + 2)), .ref (gad g (b + 5)), .int x, .ref (gad g (b + 6)), .ref (gad g (b + 7)), .ref (gad g (b + 8)), .int y]) := ((f13 b (by omega)).trans h4)
  have h15 : w9 (b + 1) = .inl (gI g, 7, .inl (cK 7 17 L)) := ((f13 (b + 1) (by omega)).trans e2)
  exact xret_v C hr hlk hW ⟨⟨h14, h15, h12.1, h12.2.1, h12.2.2⟩, (fun j z0 => ((f13 j (by omega)).trans (f3 j (by omega))))⟩ dX1_takeGround_26

set_option maxHeartbeats 4000000 in
set_option maxRecDepth 100000 in
theorem c_X1_forget (l : Launch) (g : GE) (w : Nat → va_E) (b : Nat) (x y : Int32) (L : Nat → Nat) (hI : AdInj g) (hN : gN g = 130) (hb : b + 33 ≤ 119) (pr0 : GAt g b x y L w) : Met l yX1_forget wsX1_forget ({ frames := 0, cells := 0, slots := 0, locals := 0 } : Room) (XPc g w [.ref (gad g b)]) (XQv g (fun w' => GAt g b (nI 0) y L w' ∧ (∀ j : Nat, ¬ (b ≤ j ∧ j < b + 1) → w' j = w j))) 0 0 (gA g) := by
  refine xmet (cc := cX1_forget) (maxL := 1) (ret := none) (by decide) rfl hI (Nat.le_of_ble_eq_true rfl) ?_
  intro pG eG sG mG belowG methG cG ls C hr hlk hK hW hl
  have hl : lv_has ls 1 [(0, .ref (gad g b))] := hl
  have hinX1 : ∀ x ∈ u_ws RX1 TX1 8, x ∈ wsX1_forget := by decide +kernel
  refine lv_aload_n C.1 C.2.1 dX1_forget_0 rfl (lv_at hl 0 rfl) ?_
  refine lv_iconst (v := (nI 0)) C.1 C.2.1 dX1_forget_1 (by decide) ?_
  refine xput (v := .int (nI 0)) C hK hW hinX1 tyX1_ok nmX1 rfl (by omega) pr0.1 3 (by decide) (List.mem_of_getElem? (i := 1) rfl) rfl rfl rfl (Nat.le_of_ble_eq_true rfl) dX1_forget_2 (fun w1 H locs e2 f3 hW => ?_)
  have h4 : GAt g b (nI 0) y L w1 := GAt_o pr0 e2 f3
  exact xret_v C hr hlk hW ⟨h4, (fun j z0 => (f3 j (by omega)))⟩ dX1_forget_5

set_option maxHeartbeats 4000000 in
set_option maxRecDepth 100000 in
theorem c_X1_addClaim (l : Launch) (g : GE) (w : Nat → va_E) (b n f t z : Nat) (x : Int32) (L K : Nat → Nat) (hI : AdInj g) (hN : gN g = 130) (hb : b + 33 ≤ 119) (hn : n ≤ 5) (pr0 : GAt g b x (nI n) L w) (pr1 : CAt g b K w) : Met l yX1_addClaim wsX1_addClaim ({ frames := 0, cells := 0, slots := 0, locals := 0 } : Room) (XPc g w [.ref (gad g b), .int (nI f), .int (nI t), .int (nI z)]) (XQi g (fun r w' => GAt g b x (nI (if n < 5 then n + 1 else n)) L w' ∧ CAt g b (if n < 5 then addC n f t z K else K) w' ∧ (∀ j : Nat, ¬ (b ≤ j ∧ j < b + 1) → ¬ (b + 6 ≤ j ∧ j < b + 9) → w' j = w j) ∧ r = (bI (n < 5)))) 0 0 (gA g) := by
  refine xmet (cc := cX1_addClaim) (maxL := 4) (ret := (some .boolean)) (by decide) rfl hI (Nat.le_of_ble_eq_true rfl) ?_
  intro pG eG sG mG belowG methG cG ls C hr hlk hK hW hl
  have hl : lv_has ls 4 [(0, .ref (gad g b)), (1, .int (nI f)), (2, .int (nI t)), (3, .int (nI z))] := hl
  have hinX1 : ∀ x ∈ u_ws RX1 TX1 8, x ∈ wsX1_addClaim := by decide +kernel
  refine lv_aload_n C.1 C.2.1 dX1_addClaim_0 rfl (lv_at hl 0 rfl) ?_
  refine xget C hK hW hinX1 rfl (by omega) pr0.1 7 (by decide) (List.mem_of_getElem? (i := 1) rfl) rfl dX1_addClaim_1 ?_
  refine lv_iconst (v := (nI 5)) C.1 C.2.1 dX1_addClaim_4 (by decide) ?_
  refine xlt (tgt := 10) C (by omega) (by omega) dX1_addClaim_5 (by decide) (fun c5 => ?_) (fun c5 => ?_)
  · refine lv_aload_n C.1 C.2.1 dX1_addClaim_10 rfl (lv_at hl 0 rfl) ?_
    refine xget C hK hW hinX1 rfl (by omega) pr0.1 4 (by decide) (List.mem_of_getElem? (i := 2) rfl) rfl dX1_addClaim_11 ?_
    refine lv_aload_n C.1 C.2.1 dX1_addClaim_14 rfl (lv_at hl 0 rfl) ?_
    refine xget C hK hW hinX1 rfl (by omega) pr0.1 7 (by decide) (List.mem_of_getElem? (i := 1) rfl) rfl dX1_addClaim_15 ?_
    refine lv_iload_n C.1 C.2.1 dX1_addClaim_18 rfl (lv_at hl 1 rfl) ?_
    refine xistK (v := f) C hK hW (by omega) pr1.1 (by omega) (by decide) dX1_addClaim_19 (fun w1 H locs e2 f3 hW => ?_)
    refine lv_aload_n C.1 C.2.1 dX1_addClaim_20 rfl (lv_at hl 0 rfl) ?_
    have h4 : GAt g b x (nI n) L w1 := (GAt.fr pr0 (fun j h1 h2 => f3 j (by omega)))
    refine xget C hK hW hinX1 rfl (by omega) h4.1 5 (by decide) (List.mem_of_getElem? (i := 3) rfl) rfl dX1_addClaim_21 ?_
    refine lv_aload_n C.1 C.2.1 dX1_addClaim_24 rfl (lv_at hl 0 rfl) ?_
    refine xget C hK hW hinX1 rfl (by omega) h4.1 7 (by decide) (List.mem_of_getElem? (i := 1) rfl) rfl dX1_addClaim_25 ?_
    refine lv_iload_n C.1 C.2.1 dX1_addClaim_28 rfl (lv_at hl 2 rfl) ?_
    have h5 : w1 (b + 7) = .inl (gI g, 5, .inl (cK 5 30 K)) := ((f3 (b + 7) (by omega)).trans pr1.2.1)
    refine xistK (v := t) C hK hW (by omega) h5 (by omega) (by decide) dX1_addClaim_29 (fun w6 H locs e7 f8 hW => ?_)
    refine lv_aload_n C.1 C.2.1 dX1_addClaim_30 rfl (lv_at hl 0 rfl) ?_
    have h9 : GAt g b x (nI n) L w6 := (GAt.fr h4 (fun j h1 h2 => f8 j (by omega)))
    refine xget C hK hW hinX1 rfl (by omega) h9.1 6 (by decide) (List.mem_of_getElem? (i := 4) rfl) rfl dX1_addClaim_31 ?_
    refine lv_aload_n C.1 C.2.1 dX1_addClaim_34 rfl (lv_at hl 0 rfl) ?_
    refine xget C hK hW hinX1 rfl (by omega) h9.1 7 (by decide) (List.mem_of_getElem? (i := 1) rfl) rfl dX1_addClaim_35 ?_
    refine lv_iload_n C.1 C.2.1 dX1_addClaim_38 rfl (lv_at hl 3 rfl) ?_
    have h10 : w6 (b + 8) = .inl (gI g, 5, .inl (cK 5 35 K)) := ((f8 (b + 8) (by omega)).trans ((f3 (b + 8) (by omega)).trans pr1.2.2))
    refine xistK (v := z) C hK hW (by omega) h10 (by omega) (by decide) dX1_addClaim_39 (fun w11 H locs e12 f13 hW => ?_)
    refine lv_aload_n C.1 C.2.1 dX1_addClaim_40 rfl (lv_at hl 0 rfl) ?_
    refine lv_dup C.1 C.2.1 dX1_addClaim_41 rfl ?_
    have h14 : GAt g b x (nI n) L w11 := (GAt.fr h9 (fun j h1 h2 => f13 j (by omega)))
    refine xget C hK hW hinX1 rfl (by omega) h14.1 7 (by decide) (List.mem_of_getElem? (i := 1) rfl) rfl dX1_addClaim_42 ?_
    refine lv_iconst (v := (nI 1)) C.1 C.2.1 dX1_addClaim_45 (by decide) ?_
    refine xadd C dX1_addClaim_46 ?_
    refine xput (v := .int (nI (n + 1))) C hK hW hinX1 tyX1_ok nmX1 rfl (by omega) h14.1 7 (by decide) (List.mem_of_getElem? (i := 1) rfl) rfl rfl rfl (Nat.le_of_ble_eq_true rfl) dX1_addClaim_47 (fun w15 H locs e16 f17 hW => ?_)
    have h18 : GAt g b x (nI (n + 1)) L w15 := GAt_o h14 e16 f17
    refine lv_iconst (v := (nI 1)) C.1 C.2.1 dX1_addClaim_50 (by decide) ?_
    have h19 : w15 (b + 6) = .inl (gI g, 5, .inl (cK 5 25 (va_up K (25 + n) f))) := ((f17 (b + 6) (by omega)).trans ((f13 (b + 6) (by omega)).trans ((f8 (b + 6) (by omega)).trans e2)))
    have h20 : w15 (b + 7) = .inl (gI g, 5, .inl (cK 5 30 (va_up K (30 + n) t))) := ((f17 (b + 7) (by omega)).trans ((f13 (b + 7) (by omega)).trans e7))
    have h21 : w15 (b + 8) = .inl (gI g, 5, .inl (cK 5 35 (va_up K (35 + n) z))) := ((f17 (b + 8) (by omega)).trans e12)
    exact xret_z C hr hlk hW rfl ⟨(by rw [if_pos (by omega)]; exact h18), (by rw [if_pos (by omega)]; exact ⟨(by unfold cI5; rw [h19, cK_congr (fun j hj => addC_25 (by omega) hj)]), (by unfold cI5; rw [h20, cK_congr (fun j hj => addC_30 (by omega) hj)]), (by unfold cI5; rw [h21, cK_congr (fun j hj => addC_35 (by omega) hj)])⟩), (fun j z0 z1 => ((f17 j (by omega)).trans ((f13 j (by omega)).trans ((f8 j (by omega)).trans (f3 j (by omega)))))), (bI_t (by omega)).symm⟩ dX1_addClaim_51
  · refine lv_iconst (v := (nI 0)) C.1 C.2.1 dX1_addClaim_8 (by decide) ?_
    exact xret_z C hr hlk hW rfl ⟨(by rw [if_neg (by omega)]; exact pr0), (by rw [if_neg (by omega)]; exact ⟨pr1.1, pr1.2.1, pr1.2.2⟩), (fun j z0 z1 => rfl), (bI_f (by omega)).symm⟩ dX1_addClaim_9

set_option maxHeartbeats 4000000 in
set_option maxRecDepth 100000 in
theorem c_X1_takeClaims (l : Launch) (g : GE) (w : Nat → va_E) (b o : Nat) (x y x1 y1 : Int32) (L L1 K0 K : Nat → Nat) (hI : AdInj g) (hN : gN g = 130) (hb : b + 33 ≤ 119) (ho : o + 33 ≤ 119) (hd : b + 33 ≤ o ∨ o + 33 ≤ b) (pr0 : GAt g b x y L w) (pr1 : CAt g b K0 w) (pr2 : GAt g o x1 y1 L1 w) (pr3 : CAt g o K w) : Met l yX1_takeClaims wsX1_takeClaims ({ frames := 1, cells := 0, slots := 0, locals := 32 } : Room) (XPc g w [.ref (gad g b), .ref (gad g o)]) (XQv g (fun w' => GAt g b x y1 L w' ∧ CAt g b K w' ∧ (∀ j : Nat, ¬ (b ≤ j ∧ j < b + 1) → ¬ (b + 6 ≤ j ∧ j < b + 9) → w' j = w j))) 0 0 (gA g) := by
  refine xmet (cc := cX1_takeClaims) (maxL := 2) (ret := none) (by decide) rfl hI (Nat.le_of_ble_eq_true rfl) ?_
  intro pG eG sG mG belowG methG cG ls C hr hlk hK hW hl
  have hl : lv_has ls 2 [(0, .ref (gad g b)), (1, .ref (gad g o))] := hl
  have hinX1 : ∀ x ∈ u_ws RX1 TX1 8, x ∈ wsX1_takeClaims := by decide +kernel
  refine lv_aload_n C.1 C.2.1 dX1_takeClaims_0 rfl (lv_at hl 1 rfl) ?_
  refine xget C hK hW hinX1 rfl (by omega) pr2.1 4 (by decide) (List.mem_of_getElem? (i := 1) rfl) rfl dX1_takeClaims_1 ?_
  refine lv_iconst (v := (nI 0)) C.1 C.2.1 dX1_takeClaims_4 (by decide) ?_
  refine lv_aload_n C.1 C.2.1 dX1_takeClaims_5 rfl (lv_at hl 0 rfl) ?_
  refine xget C hK hW hinX1 rfl (by omega) pr0.1 4 (by decide) (List.mem_of_getElem? (i := 1) rfl) rfl dX1_takeClaims_6 ?_
  refine lv_iconst (v := (nI 0)) C.1 C.2.1 dX1_takeClaims_9 (by decide) ?_
  refine lv_iconst (v := (nI 5)) C.1 C.2.1 dX1_takeClaims_10 (by decide) ?_
  refine xcpyi C hK hW hl (by omega) pr3.1 (by omega) pr1.1 (by omega) (by omega) (by decide) (by decide) (List.mem_of_getElem? (i := 2) rfl) (List.mem_of_getElem? (i := 3) rfl) (List.mem_of_getElem? (i := 4) rfl) (List.mem_of_getElem? (i := 5) rfl) (Nat.le_of_ble_eq_true rfl) (Nat.le_of_ble_eq_true rfl) dX1_takeClaims_11 (fun w1 H locs e2 f3 hW => ?_)
  rw [cK_cpyF] at e2
  refine lv_aload_n C.1 C.2.1 dX1_takeClaims_14 rfl (lv_at hl 1 rfl) ?_
  have h4 : GAt g o x1 y1 L1 w1 := (GAt.fr pr2 (fun j h1 h2 => f3 j (by omega)))
  refine xget C hK hW hinX1 rfl (by omega) h4.1 5 (by decide) (List.mem_of_getElem? (i := 6) rfl) rfl dX1_takeClaims_15 ?_
  refine lv_iconst (v := (nI 0)) C.1 C.2.1 dX1_takeClaims_18 (by decide) ?_
  refine lv_aload_n C.1 C.2.1 dX1_takeClaims_19 rfl (lv_at hl 0 rfl) ?_
  have h5 : GAt g b x y L w1 := (GAt.fr pr0 (fun j h1 h2 => f3 j (by omega)))
  refine xget C hK hW hinX1 rfl (by omega) h5.1 5 (by decide) (List.mem_of_getElem? (i := 6) rfl) rfl dX1_takeClaims_20 ?_
  refine lv_iconst (v := (nI 0)) C.1 C.2.1 dX1_takeClaims_23 (by decide) ?_
  refine lv_iconst (v := (nI 5)) C.1 C.2.1 dX1_takeClaims_24 (by decide) ?_
  have h6 : CAt g o K w1 := (CAt.fr pr3 (fun j h1 h2 => f3 j (by omega)))
  have h7 : w1 (b + 7) = .inl (gI g, 5, .inl (cK 5 30 K0)) := ((f3 (b + 7) (by omega)).trans pr1.2.1)
  refine xcpyi C hK hW hl (by omega) h6.2.1 (by omega) h7 (by omega) (by omega) (by decide) (by decide) (List.mem_of_getElem? (i := 2) rfl) (List.mem_of_getElem? (i := 3) rfl) (List.mem_of_getElem? (i := 4) rfl) (List.mem_of_getElem? (i := 5) rfl) (Nat.le_of_ble_eq_true rfl) (Nat.le_of_ble_eq_true rfl) dX1_takeClaims_25 (fun w8 H locs e9 f10 hW => ?_)
  rw [cK_cpyF] at e9
  refine lv_aload_n C.1 C.2.1 dX1_takeClaims_28 rfl (lv_at hl 1 rfl) ?_
  have h11 : GAt g o x1 y1 L1 w8 := (GAt.fr h4 (fun j h1 h2 => f10 j (by omega)))
  refine xget C hK hW hinX1 rfl (by omega) h11.1 6 (by decide) (List.mem_of_getElem? (i := 7) rfl) rfl dX1_takeClaims_29 ?_
  refine lv_iconst (v := (nI 0)) C.1 C.2.1 dX1_takeClaims_32 (by decide) ?_
  refine lv_aload_n C.1 C.2.1 dX1_takeClaims_33 rfl (lv_at hl 0 rfl) ?_
  have h12 : GAt g b x y L w8 := (GAt.fr h5 (fun j h1 h2 => f10 j (by omega)))
  refine xget C hK hW hinX1 rfl (by omega) h12.1 6 (by decide) (List.mem_of_getElem? (i := 7) rfl) rfl dX1_takeClaims_34 ?_
  refine lv_iconst (v := (nI 0)) C.1 C.2.1 dX1_takeClaims_37 (by decide) ?_
  refine lv_iconst (v := (nI 5)) C.1 C.2.1 dX1_takeClaims_38 (by decide) ?_
  have h13 : CAt g o K w8 := (CAt.fr h6 (fun j h1 h2 => f10 j (by omega)))
  have h14 : w8 (b + 8) = .inl (gI g, 5, .inl (cK 5 35 K0)) := ((f10 (b + 8) (by omega)).trans ((f3 (b + 8) (by omega)).trans pr1.2.2))
  refine xcpyi C hK hW hl (by omega) h13.2.2 (by omega) h14 (by omega) (by omega) (by decide) (by decide) (List.mem_of_getElem? (i := 2) rfl) (List.mem_of_getElem? (i := 3) rfl) (List.mem_of_getElem? (i := 4) rfl) (List.mem_of_getElem? (i := 5) rfl) (Nat.le_of_ble_eq_true rfl) (Nat.le_of_ble_eq_true rfl) dX1_takeClaims_39 (fun w15 H locs e16 f17 hW => ?_)
  rw [cK_cpyF] at e16
  refine lv_aload_n C.1 C.2.1 dX1_takeClaims_42 rfl (lv_at hl 0 rfl) ?_
  refine lv_aload_n C.1 C.2.1 dX1_takeClaims_43 rfl (lv_at hl 1 rfl) ?_
  have h18 : GAt g o x1 y1 L1 w15 := (GAt.fr h11 (fun j h1 h2 => f17 j (by omega)))
  refine xget C hK hW hinX1 rfl (by omega) h18.1 7 (by decide) (List.mem_of_getElem? (i := 8) rfl) rfl dX1_takeClaims_44 ?_
  have h19 : GAt g b x y L w15 := (GAt.fr h12 (fun j h1 h2 => f17 j (by omega)))
  refine xput (v := .int y1) C hK hW hinX1 tyX1_ok nmX1 rfl (by omega) h19.1 7 (by decide) (List.mem_of_getElem? (i := 8) rfl) rfl rfl rfl (Nat.le_of_ble_eq_true rfl) dX1_takeClaims_47 (fun w20 H locs e21 f22 hW => ?_)
  have h23 : GAt g b x y1 L w20 := GAt_o h19 e21 f22
  have h24 : w20 (b + 6) = .inl (gI g, 5, .inl (cK 5 25 K)) := ((f22 (b + 6) (by omega)).trans ((f17 (b + 6) (by omega)).trans ((f10 (b + 6) (by omega)).trans e2)))
  have h25 : w20 (b + 7) = .inl (gI g, 5, .inl (cK 5 30 K)) := ((f22 (b + 7) (by omega)).trans ((f17 (b + 7) (by omega)).trans e9))
  have h26 : w20 (b + 8) = .inl (gI g, 5, .inl (cK 5 35 K)) := ((f22 (b + 8) (by omega)).trans e16)
  exact xret_v C hr hlk hW ⟨h23, ⟨h24, h25, h26⟩, (fun j z0 z1 => ((f22 j (by omega)).trans ((f17 j (by omega)).trans ((f10 j (by omega)).trans (f3 j (by omega))))))⟩ dX1_takeClaims_50

set_option maxHeartbeats 4000000 in
set_option maxRecDepth 100000 in
theorem c_X7_bring2 (l : Launch) (g : GE) (w : Nat → va_E) (p q i j n : Nat) (A B : Nat → Nat) (hI : AdInj g) (hN : gN g = 130) (hp : p < 130) (hq : q < 130) (hpq : p ≠ q) (hi : i + n ≤ 177) (hj : j + n ≤ 177) (pr0 : w p = .inl (gI g, 177, .inl (cK 177 0 A))) (pr1 : w q = .inl (gI g, 177, .inl (cK 177 0 B))) : Met l yX7_bring wsX7_bring ({ frames := 0, cells := 0, slots := 0, locals := 0 } : Room) (XPc g w [.ref (gad g p), .int (nI i), .ref (gad g q), .int (nI j), .int (nI n)]) (XQv g (fun w' => w' q = .inl (gI g, 177, .inl (cK 177 0 (cpF i j n A B))) ∧ (∀ j : Nat, ¬ (q ≤ j ∧ j < q + 1) → w' j = w j))) 0 0 (gA g) := by
  refine xmet (cc := cX7_bring) (maxL := 6) (ret := none) (by decide) rfl hI (Nat.le_of_ble_eq_true rfl) ?_
  intro pG eG sG mG belowG methG cG ls C hr hlk hK hW hl
  have hl : lv_has ls 6 [(0, .ref (gad g p)), (1, .int (nI i)), (2, .ref (gad g q)), (3, .int (nI j)), (4, .int (nI n))] := hl
  refine lv_iconst (v := (nI 0)) C.1 C.2.1 dX7_bring_0 (by decide) ?_
  refine lv_istore (lv' := [(5, .int (nI 0)), (0, .ref (gad g p)), (1, .int (nI i)), (2, .ref (gad g q)), (3, .int (nI j)), (4, .int (nI n))]) C.1 C.2.1 dX7_bring_1 hl (by decide) rfl (fun ls hl => ?_)
  have loop3 : ∀ (kG : Nat) (k : Nat) (v3 : Nat → va_E) (H : Heap) (locs : List Loc) (ls : Array Slot), kG = n - k → (v3 p = .inl (gI g, 177, .inl (cK 177 0 A))) → (v3 q = .inl (gI g, 177, .inl (cK 177 0 (cpF i j k A B)))) → (∀ j : Nat, ¬ (q ≤ j ∧ j < q + 1) → v3 j = w j) → (k ≤ n) → XW g v3 (gA g) sG.heap H locs → lv_has ls 6 [(5, .int (nI k)), (0, .ref (gad g p)), (1, .int (nI i)), (2, .ref (gad g q)), (3, .int (nI j)), (4, .int (nI n))] → W pG l eG ({ frames := 0, cells := 0, slots := 0, locals := 0 } : Room) sG mG ([.ref (gad g p), .int (nI i), .ref (gad g q), .int (nI j), .int (nI n)] : List Value).toArray belowG methG cG H locs 0 0 (MQ belowG (XQv g (fun w' => w' q = .inl (gI g, 177, .inl (cK 177 0 (cpF i j n A B))) ∧ (∀ j : Nat, ¬ (q ≤ j ∧ j < q + 1) → w' j = w j))) ([.ref (gad g p), .int (nI i), .ref (gad g q), .int (nI j), .int (nI n)] : List Value).toArray sG 0 0 (gA g)) (F0 mG 3 ls []) := by
    intro k3
    induction k3 using Nat.strongRecOn with
    | _ k3 ih3 =>
    intro k v3 H locs ls hk3 fa3_0 fa3_1 hfr3 hkn hW hl
    refine lv_iload C.1 C.2.1 dX7_bring_3 (lv_at hl 0 rfl) ?_
    refine lv_iload C.1 C.2.1 dX7_bring_5 (lv_at hl 5 rfl) ?_
    refine xge (tgt := 28) C (by omega) (by omega) dX7_bring_7 (by decide) (fun c7 => ?_) (fun c7 => ?_)
    · exact xret_v C hr hlk hW ⟨(by rw [show n = k by omega]; exact fa3_1), (fun j z0 => (hfr3 j z0))⟩ dX7_bring_28
    · refine lv_aload_n C.1 C.2.1 dX7_bring_10 rfl (lv_at hl 3 rfl) ?_
      refine lv_iload_n C.1 C.2.1 dX7_bring_11 rfl (lv_at hl 4 rfl) ?_
      refine lv_iload C.1 C.2.1 dX7_bring_12 (lv_at hl 0 rfl) ?_
      refine xadd C dX7_bring_14 ?_
      refine lv_aload_n C.1 C.2.1 dX7_bring_15 rfl (lv_at hl 1 rfl) ?_
      refine lv_iload_n C.1 C.2.1 dX7_bring_16 rfl (lv_at hl 2 rfl) ?_
      refine lv_iload C.1 C.2.1 dX7_bring_17 (lv_at hl 0 rfl) ?_
      refine xadd C dX7_bring_19 ?_
      refine xildK0 C hK hW (by omega) fa3_0 (by omega) (by decide) dX7_bring_20 ?_
      refine xistK0 (v := A (i + k)) C hK hW (by omega) fa3_1 (by omega) (by decide) dX7_bring_21 (fun w1 H locs e2 f3 hW => ?_)
      refine lv_iinc (v := nI (k + 1)) (lv' := [(5, .int (nI (k + 1))), (0, .ref (gad g p)), (1, .int (nI i)), (2, .ref (gad g q)), (3, .int (nI j)), (4, .int (nI n))]) C.1 C.2.1 dX7_bring_22 hl (k := 0) rfl (nI_add _ 1) (by decide) rfl (fun ls hl => ?_)
      refine lv_goto (tgt := 3) C.1 C.2.1 dX7_bring_25 (by decide) ?_
      have h4 : w1 p = .inl (gI g, 177, .inl (cK 177 0 A)) := ((f3 p (by omega)).trans fa3_0)
      exact ih3 (n - (k + 1)) (by omega) (k + 1) w1 _ _ _ rfl h4 (by rw [cpF_up]; exact e2) (fun j z0 => ((f3 j (by omega)).trans (hfr3 j z0))) (by omega) hW hl
  exact loop3 _ 0 w _ _ _ rfl pr0 (by rw [cpF_0]; exact pr1) (fun j z0 => rfl) (by omega) hW hl

set_option maxHeartbeats 4000000 in
set_option maxRecDepth 100000 in
theorem c_X7_bring1 (l : Launch) (g : GE) (w : Nat → va_E) (p i j n : Nat) (A : Nat → Nat) (hI : AdInj g) (hN : gN g = 130) (hp : p < 130) (hd : j ≤ i ∨ i + n ≤ j) (hi : i + n ≤ 177) (hj : j + n ≤ 177) (pr0 : w p = .inl (gI g, 177, .inl (cK 177 0 A))) : Met l yX7_bring wsX7_bring ({ frames := 0, cells := 0, slots := 0, locals := 0 } : Room) (XPc g w [.ref (gad g p), .int (nI i), .ref (gad g p), .int (nI j), .int (nI n)]) (XQv g (fun w' => w' p = .inl (gI g, 177, .inl (cK 177 0 (cpF i j n A A))) ∧ (∀ j : Nat, ¬ (p ≤ j ∧ j < p + 1) → w' j = w j))) 0 0 (gA g) := by
  refine xmet (cc := cX7_bring) (maxL := 6) (ret := none) (by decide) rfl hI (Nat.le_of_ble_eq_true rfl) ?_
  intro pG eG sG mG belowG methG cG ls C hr hlk hK hW hl
  have hl : lv_has ls 6 [(0, .ref (gad g p)), (1, .int (nI i)), (2, .ref (gad g p)), (3, .int (nI j)), (4, .int (nI n))] := hl
  refine lv_iconst (v := (nI 0)) C.1 C.2.1 dX7_bring_0 (by decide) ?_
  refine lv_istore (lv' := [(5, .int (nI 0)), (0, .ref (gad g p)), (1, .int (nI i)), (2, .ref (gad g p)), (3, .int (nI j)), (4, .int (nI n))]) C.1 C.2.1 dX7_bring_1 hl (by decide) rfl (fun ls hl => ?_)
  have loop3 : ∀ (kG : Nat) (k : Nat) (v3 : Nat → va_E) (H : Heap) (locs : List Loc) (ls : Array Slot), kG = n - k → (v3 p = .inl (gI g, 177, .inl (cK 177 0 (cpF i j k A A)))) → (∀ j : Nat, ¬ (p ≤ j ∧ j < p + 1) → v3 j = w j) → (k ≤ n) → XW g v3 (gA g) sG.heap H locs → lv_has ls 6 [(5, .int (nI k)), (0, .ref (gad g p)), (1, .int (nI i)), (2, .ref (gad g p)), (3, .int (nI j)), (4, .int (nI n))] → W pG l eG ({ frames := 0, cells := 0, slots := 0, locals := 0 } : Room) sG mG ([.ref (gad g p), .int (nI i), .ref (gad g p), .int (nI j), .int (nI n)] : List Value).toArray belowG methG cG H locs 0 0 (MQ belowG (XQv g (fun w' => w' p = .inl (gI g, 177, .inl (cK 177 0 (cpF i j n A A))) ∧ (∀ j : Nat, ¬ (p ≤ j ∧ j < p + 1) → w' j = w j))) ([.ref (gad g p), .int (nI i), .ref (gad g p), .int (nI j), .int (nI n)] : List Value).toArray sG 0 0 (gA g)) (F0 mG 3 ls []) := by
    intro k3
    induction k3 using Nat.strongRecOn with
    | _ k3 ih3 =>
    intro k v3 H locs ls hk3 fa3_0 hfr3 hkn hW hl
    refine lv_iload C.1 C.2.1 dX7_bring_3 (lv_at hl 0 rfl) ?_
    refine lv_iload C.1 C.2.1 dX7_bring_5 (lv_at hl 5 rfl) ?_
    refine xge (tgt := 28) C (by omega) (by omega) dX7_bring_7 (by decide) (fun c7 => ?_) (fun c7 => ?_)
    · exact xret_v C hr hlk hW ⟨(by rw [show n = k by omega]; exact fa3_0), (fun j z0 => (hfr3 j z0))⟩ dX7_bring_28
    · refine lv_aload_n C.1 C.2.1 dX7_bring_10 rfl (lv_at hl 3 rfl) ?_
      refine lv_iload_n C.1 C.2.1 dX7_bring_11 rfl (lv_at hl 4 rfl) ?_
      refine lv_iload C.1 C.2.1 dX7_bring_12 (lv_at hl 0 rfl) ?_
      refine xadd C dX7_bring_14 ?_
      refine lv_aload_n C.1 C.2.1 dX7_bring_15 rfl (lv_at hl 1 rfl) ?_
      refine lv_iload_n C.1 C.2.1 dX7_bring_16 rfl (lv_at hl 2 rfl) ?_
      refine lv_iload C.1 C.2.1 dX7_bring_17 (lv_at hl 0 rfl) ?_
      refine xadd C dX7_bring_19 ?_
      refine xildK0 C hK hW (by omega) fa3_0 (by omega) (by decide) dX7_bring_20 ?_
      refine xtopN (b := A (i + k)) (cpF_out (by omega)) ?_
      refine xistK0 (v := A (i + k)) C hK hW (by omega) fa3_0 (by omega) (by decide) dX7_bring_21 (fun w1 H locs e2 f3 hW => ?_)
      refine lv_iinc (v := nI (k + 1)) (lv' := [(5, .int (nI (k + 1))), (0, .ref (gad g p)), (1, .int (nI i)), (2, .ref (gad g p)), (3, .int (nI j)), (4, .int (nI n))]) C.1 C.2.1 dX7_bring_22 hl (k := 0) rfl (nI_add _ 1) (by decide) rfl (fun ls hl => ?_)
      refine lv_goto (tgt := 3) C.1 C.2.1 dX7_bring_25 (by decide) ?_
      exact ih3 (n - (k + 1)) (by omega) (k + 1) w1 _ _ _ rfl (by rw [cpF_up]; exact e2) (fun j z0 => ((f3 j (by omega)).trans (hfr3 j z0))) (by omega) hW hl
  exact loop3 _ 0 w _ _ _ rfl (by rw [cpF_0]; exact pr0) (fun j z0 => rfl) (by omega) hW hl
