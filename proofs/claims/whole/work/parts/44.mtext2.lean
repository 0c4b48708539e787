/-! a field's item, read by the reference -/
theorem fW_no {T : Nat → Nat} {n p f : Nat} {L : Nat → Nat} (h : ¬ aOk T n (q2 T n p) 35) (h0 : L (10 + f) = 0) (hf : f < 7) : va_up (va_up L (17 + f) (kdp T n p)) (3 + f) (foV T n p) = fW T n p f L := by
  unfold fW heV
  rw [if_neg h]
  exact (va_up_id (by rw [va_up_ne _ _ (by omega), va_up_ne _ _ (by omega)]; exact h0)).symm

set_option maxHeartbeats 4000000 in
set_option maxRecDepth 100000 in
theorem c_X7_isFieldItem (l : Launch) (g : GE) (w : Nat → va_E) (n p hk : Nat) (nu : Int32) (ao mu md bu bd : Nat) (f : Nat) (T L : Nat → Nat) (hI : AdInj g) (hN : gN g = 130) (hn : n ≤ 80) (hp : p ≤ n) (hT : OkT T n) (hf : f < 7) (h0 : L (10 + f) = 0) (pr0 : w 119 = .inr (7, [.ref (gad g 120), .ref (gad g 121), .ref (gad g 122), .int (nI n), .ref (gad g 123), .int (nI p), .int nu, .ref (gad g 124), .ref (gad g 125), .ref (gad g 126), .ref (gad g 127), .int (nI hk), .ref (gad g 128), .ref (gad g 129), .long (lN ao), .long (lN mu), .long (lN md), .long (lN bu), .long (lN bd)])) (pr1 : w 123 = .inl (gI g, 80, .inl (cK 80 0 T))) (pr2 : w 126 = .inl (gI g, 177, .inl (cK 177 0 L))) : Met l yX7_isFieldItem wsX7_isFieldItem ({ frames := 2, cells := 0, slots := 0, locals := 44 } : Room) (XPc g w [.ref (gad g 119), .int (nI f)]) (XQi g (fun r w' => ∃ (L1 : Nat → Nat) (nu1 : Int32), w' 119 = .inr (7, [.ref (gad g 120), .ref (gad g 121), .ref (gad g 122), .int (nI n), .ref (gad g 123), .int (nI (fP T n p)), .int nu1, .ref (gad g 124), .ref (gad g 125), .ref (gad g 126), .ref (gad g 127), .int (nI hk), .ref (gad g 128), .ref (gad g 129), .long (lN ao), .long (lN mu), .long (lN md), .long (lN bu), .long (lN bd)]) ∧ w' 126 = .inl (gI g, 177, .inl (cK 177 0 L1)) ∧ (∀ j : Nat, ¬ (119 ≤ j ∧ j < 120) → ¬ (126 ≤ j ∧ j < 127) → w' j = w j) ∧ (fOk T n p → L1 = fW T n p f L) ∧ r = (bI (fOk T n p)))) 0 0 (gA g) := by
  refine xmet (cc := cX7_isFieldItem) (maxL := 3) (ret := (some .boolean)) (by decide) rfl hI (Nat.le_of_ble_eq_true rfl) ?_
  intro pG eG sG mG belowG methG cG ls C hr hlk hK hW hl
  have hl : lv_has ls 3 [(0, .ref (gad g 119)), (1, .int (nI f))] := hl
  have hinX7 : ∀ x ∈ u_ws RX7 TX7 19, x ∈ wsX7_isFieldItem := by decide +kernel
  refine lv_aload_n C.1 C.2.1 dX7_isFieldItem_0 rfl (lv_at hl 0 rfl) ?_
  refine xcV_i (n := 0) (As := []) C hK hW (c_X7_peek l g w n p hk nu ao mu md bu bd T hI hN (by omega) (by omega) hT pr0 pr1) gX7_isFieldItem_X7_peek rfl ⟨rfl, rfl⟩ (by decide +kernel) ⟨Nat.le_of_ble_eq_true rfl, Nat.le_of_ble_eq_true rfl⟩ ⟨Nat.zero_le _, Nat.zero_le _⟩ rfl (by omega) pr0 rfl hl rfl (Nat.le_of_ble_eq_true rfl) dX7_isFieldItem_1 (fun r3 w1 H locs q2 hW => ?_)
  obtain ⟨h4, f5, rfl⟩ := q2
  have hcm := chM_le (T := T) (n := n) (q := skp T n p) hT
  refine xcS_i (n := 1) (As := [.int (nI (chM T n (skp T n p)))]) C hK hW (c_X7_kindBy l g w1 (chM T n (skp T n p)) hI hN (by omega)) gX7_isFieldItem_X7_kindBy rfl ⟨rfl, rfl⟩ (by decide +kernel) ⟨Nat.le_of_ble_eq_true rfl, Nat.le_of_ble_eq_true rfl⟩ ⟨Nat.zero_le _, Nat.zero_le _⟩ rfl hl rfl (Nat.le_of_ble_eq_true rfl) dX7_isFieldItem_4 (fun r8 w6 H locs q7 hW => ?_)
  obtain ⟨qw9, rfl⟩ := q7
  rw [qw9] at hW
  refine xtopI (b := kV (kdp T n p)) rfl ?_
  by_cases hkd : kdp T n p < 5
  · refine xtopI (b := nI (kdp T n p)) (if_pos hkd) ?_
    refine lv_istore_n (lv' := [(2, .int (nI (kdp T n p))), (0, .ref (gad g 119)), (1, .int (nI f))]) C.1 C.2.1 dX7_isFieldItem_7 rfl hl (by decide) rfl (fun ls hl => ?_)
    refine lv_iload_n C.1 C.2.1 dX7_isFieldItem_8 rfl (lv_at hl 0 rfl) ?_
    refine x0ge C (by omega) (tgt := 14) dX7_isFieldItem_9 (by decide) ?_
    refine lv_aload_n C.1 C.2.1 dX7_isFieldItem_14 rfl (lv_at hl 1 rfl) ?_
    refine lv_dup C.1 C.2.1 dX7_isFieldItem_15 rfl ?_
    refine xget C hK hW hinX7 rfl (by omega) h4 5 (by decide) (List.mem_of_getElem? (i := 1) rfl) rfl dX7_isFieldItem_16 ?_
    refine lv_iconst (v := (nI 1)) C.1 C.2.1 dX7_isFieldItem_19 (by decide) ?_
    refine xadd C dX7_isFieldItem_20 ?_
    refine xput (v := .int (nI ((skp T n p) + 1))) C hK hW hinX7 tyX7_ok nmX7 rfl (by omega) h4 5 (by decide) (List.mem_of_getElem? (i := 1) rfl) rfl rfl rfl (Nat.le_of_ble_eq_true rfl) dX7_isFieldItem_21 (fun w10 H locs e11 f12 hW => ?_)
    have h13 : w10 119 = .inr (7, [.ref (gad g 120), .ref (gad g 121), .ref (gad g 122), .int (nI n), .ref (gad g 123), .int (nI (q1 T n p)), .int nu, .ref (gad g 124), .ref (gad g 125), .ref (gad g 126), .ref (gad g 127), .int (nI hk), .ref (gad g 128), .ref (gad g 129), .long (lN ao), .long (lN mu), .long (lN md), .long (lN bu), .long (lN bd)]) := e11
    refine lv_aload_n C.1 C.2.1 dX7_isFieldItem_24 rfl (lv_at hl 1 rfl) ?_
    refine xget C hK hW hinX7 rfl (by omega) h13 9 (by decide) (List.mem_of_getElem? (i := 2) rfl) rfl dX7_isFieldItem_25 ?_
    refine lv_bipush (v := (nI 17)) C.1 C.2.1 dX7_isFieldItem_28 (by decide) ?_
    refine lv_iload_n C.1 C.2.1 dX7_isFieldItem_30 rfl (lv_at hl 2 rfl) ?_
    refine xadd C dX7_isFieldItem_31 ?_
    refine lv_iload_n C.1 C.2.1 dX7_isFieldItem_32 rfl (lv_at hl 0 rfl) ?_
    have h14 : w10 126 = .inl (gI g, 177, .inl (cK 177 0 L)) := ((f12 126 (by omega)).trans ((f5 126 (by omega)).trans pr2))
    refine xistK0 (v := kdp T n p) C hK hW (by omega) h14 (by omega) (by decide) dX7_isFieldItem_33 (fun w15 H locs e16 f17 hW => ?_)
    refine lv_aload_n C.1 C.2.1 dX7_isFieldItem_34 rfl (lv_at hl 1 rfl) ?_
    have h18 : w15 119 = .inr (7, [.ref (gad g 120), .ref (gad g 121), .ref (gad g 122), .int (nI n), .ref (gad g 123), .int (nI (q1 T n p)), .int nu, .ref (gad g 124), .ref (gad g 125), .ref (gad g 126), .ref (gad g 127), .int (nI hk), .ref (gad g 128), .ref (gad g 129), .long (lN ao), .long (lN mu), .long (lN md), .long (lN bu), .long (lN bd)]) := ((f17 119 (by omega)).trans h13)
    refine xget C hK hW hinX7 rfl (by omega) h18 9 (by decide) (List.mem_of_getElem? (i := 2) rfl) rfl dX7_isFieldItem_35 ?_
    refine lv_iconst (v := (nI 3)) C.1 C.2.1 dX7_isFieldItem_38 (by decide) ?_
    refine lv_iload_n C.1 C.2.1 dX7_isFieldItem_39 rfl (lv_at hl 2 rfl) ?_
    refine xadd C dX7_isFieldItem_40 ?_
    refine lv_aload_n C.1 C.2.1 dX7_isFieldItem_41 rfl (lv_at hl 1 rfl) ?_
    refine lv_iconst (v := (nI 0)) C.1 C.2.1 dX7_isFieldItem_42 (by decide) ?_
    refine lv_bipush (v := (nI 9)) C.1 C.2.1 dX7_isFieldItem_43 (by decide) ?_
    have h19 : w15 123 = .inl (gI g, 80, .inl (cK 80 0 T)) := ((f17 123 (by omega)).trans ((f12 123 (by omega)).trans ((f5 123 (by omega)).trans pr1)))
    refine xcV_i (n := 2) (As := [.int (nI 0), .int (nI 9)]) C hK hW (c_X7_isDigit l g w15 n (q1 T n p) hk nu ao mu md bu bd 0 9 T hI hN (by omega) (q1_le hkd) hT (by omega) (by omega) h18 h19) gX7_isFieldItem_X7_isDigit rfl ⟨rfl, rfl⟩ (by decide +kernel) ⟨Nat.le_of_ble_eq_true rfl, Nat.le_of_ble_eq_true rfl⟩ ⟨Nat.zero_le _, Nat.zero_le _⟩ rfl (by omega) h18 rfl hl rfl (Nat.le_of_ble_eq_true rfl) dX7_isFieldItem_45 (fun r22 w20 H locs q21 hW => ?_)
    obtain ⟨h23, f24, rfl⟩ := q21
    have h25 : w20 119 = .inr (7, [.ref (gad g 120), .ref (gad g 121), .ref (gad g 122), .int (nI n), .ref (gad g 123), .int (nI (q2 T n p)), .int (nI (chM T n (skp T n (q1 T n p))) - nI 48), .ref (gad g 124), .ref (gad g 125), .ref (gad g 126), .ref (gad g 127), .int (nI hk), .ref (gad g 128), .ref (gad g 129), .long (lN ao), .long (lN mu), .long (lN md), .long (lN bu), .long (lN bd)]) := h23
    refine xBeq (tgt := 58) C dX7_isFieldItem_48 (by decide) (fun c48 => ?_) (fun c48 => ?_)
    · refine lv_iconst (v := (nI 0)) C.1 C.2.1 dX7_isFieldItem_58 (by decide) ?_
      refine xtopN (b := foV T n p) (if_neg c48).symm ?_
      have h26 : w20 126 = .inl (gI g, 177, .inl (cK 177 0 (va_up L (17 + f) (kdp T n p)))) := ((f24 126 (by omega)).trans e16)
      refine xistK0 (v := foV T n p) C hK hW (by omega) h26 (by omega) (by decide) dX7_isFieldItem_59 (fun w27 H locs e28 f29 hW => ?_)
      refine lv_aload_n C.1 C.2.1 dX7_isFieldItem_60 rfl (lv_at hl 1 rfl) ?_
      refine lv_bipush (v := (nI 35)) C.1 C.2.1 dX7_isFieldItem_61 (by decide) ?_
      have h30 : w27 119 = .inr (7, [.ref (gad g 120), .ref (gad g 121), .ref (gad g 122), .int (nI n), .ref (gad g 123), .int (nI (q2 T n p)), .int (nI (chM T n (skp T n (q1 T n p))) - nI 48), .ref (gad g 124), .ref (gad g 125), .ref (gad g 126), .ref (gad g 127), .int (nI hk), .ref (gad g 128), .ref (gad g 129), .long (lN ao), .long (lN mu), .long (lN md), .long (lN bu), .long (lN bd)]) := ((f29 119 (by omega)).trans h25)
      have h31 : w27 123 = .inl (gI g, 80, .inl (cK 80 0 T)) := ((f29 123 (by omega)).trans ((f24 123 (by omega)).trans h19))
      refine xcV_i (n := 1) (As := [.int (nI 35)]) C hK hW (c_X7_isSign l g w27 n (q2 T n p) hk (nI (chM T n (skp T n (q1 T n p))) - nI 48) ao mu md bu bd 35 T hI hN (by omega) (q2_le hkd) hT (by omega) (by omega) h30 h31) gX7_isFieldItem_X7_isSign rfl ⟨rfl, rfl⟩ (by decide +kernel) ⟨Nat.le_of_ble_eq_true rfl, Nat.le_of_ble_eq_true rfl⟩ ⟨Nat.zero_le _, Nat.zero_le _⟩ rfl (by omega) h30 rfl hl rfl (Nat.le_of_ble_eq_true rfl) dX7_isFieldItem_63 (fun r34 w32 H locs q33 hW => ?_)
      obtain ⟨h35, f36, rfl⟩ := q33
      have h37 : w32 119 = .inr (7, [.ref (gad g 120), .ref (gad g 121), .ref (gad g 122), .int (nI n), .ref (gad g 123), .int (nI (q3 T n p)), .int (nI (chM T n (skp T n (q1 T n p))) - nI 48), .ref (gad g 124), .ref (gad g 125), .ref (gad g 126), .ref (gad g 127), .int (nI hk), .ref (gad g 128), .ref (gad g 129), .long (lN ao), .long (lN mu), .long (lN md), .long (lN bu), .long (lN bd)]) := h35
      refine xBeq (tgt := 93) C dX7_isFieldItem_66 (by decide) (fun c66 => ?_) (fun c66 => ?_)
      · refine lv_iconst (v := (nI 1)) C.1 C.2.1 dX7_isFieldItem_93 (by decide) ?_
        have h38 : w32 126 = .inl (gI g, 177, .inl (cK 177 0 (va_up (va_up L (17 + f) (kdp T n p)) (3 + f) (foV T n p)))) := ((f36 126 (by omega)).trans e28)
        exact xret_z C hr hlk hW rfl ⟨_, _, (by rw [fP, if_pos hkd, if_neg c66]; exact h37), h38, (fun j z0 z1 => ((f36 j (by omega)).trans ((f29 j (by omega)).trans ((f24 j (by omega)).trans ((f17 j (by omega)).trans ((f12 j (by omega)).trans (f5 j (by omega)))))))), (fun z => fW_no c66 h0 hf), (bI_t ⟨hkd, fun z => absurd z c66⟩).symm⟩ dX7_isFieldItem_94
      · refine lv_aload_n C.1 C.2.1 dX7_isFieldItem_69 rfl (lv_at hl 1 rfl) ?_
        refine lv_iconst (v := (nI 1)) C.1 C.2.1 dX7_isFieldItem_70 (by decide) ?_
        refine lv_iconst (v := (nI 4)) C.1 C.2.1 dX7_isFieldItem_71 (by decide) ?_
        have h39 : w32 123 = .inl (gI g, 80, .inl (cK 80 0 T)) := ((f36 123 (by omega)).trans h31)
        refine xcV_i (n := 2) (As := [.int (nI 1), .int (nI 4)]) C hK hW (c_X7_isDigit l g w32 n (q3 T n p) hk (nI (chM T n (skp T n (q1 T n p))) - nI 48) ao mu md bu bd 1 4 T hI hN (by omega) (q3_le hkd) hT (by omega) (by omega) h37 h39) gX7_isFieldItem_X7_isDigit rfl ⟨rfl, rfl⟩ (by decide +kernel) ⟨Nat.le_of_ble_eq_true rfl, Nat.le_of_ble_eq_true rfl⟩ ⟨Nat.zero_le _, Nat.zero_le _⟩ rfl (by omega) h37 rfl hl rfl (Nat.le_of_ble_eq_true rfl) dX7_isFieldItem_72 (fun r42 w40 H locs q41 hW => ?_)
        obtain ⟨h43, f44, rfl⟩ := q41
        have h45 : w40 119 = .inr (7, [.ref (gad g 120), .ref (gad g 121), .ref (gad g 122), .int (nI n), .ref (gad g 123), .int (nI (q4 T n p)), .int (nI (chM T n (skp T n (q3 T n p))) - nI 48), .ref (gad g 124), .ref (gad g 125), .ref (gad g 126), .ref (gad g 127), .int (nI hk), .ref (gad g 128), .ref (gad g 129), .long (lN ao), .long (lN mu), .long (lN md), .long (lN bu), .long (lN bd)]) := h43
        refine xBne (tgt := 80) C dX7_isFieldItem_75 (by decide) (fun c75 => ?_) (fun c75 => ?_)
        · have h46 : w40 119 = .inr (7, [.ref (gad g 120), .ref (gad g 121), .ref (gad g 122), .int (nI n), .ref (gad g 123), .int (nI (q4 T n p)), .int (nI (dV T n (q3 T n p))), .ref (gad g 124), .ref (gad g 125), .ref (gad g 126), .ref (gad g 127), .int (nI hk), .ref (gad g 128), .ref (gad g 129), .long (lN ao), .long (lN mu), .long (lN md), .long (lN bu), .long (lN bd)]) := h45.trans (by rw [chM_v c75])
          refine lv_aload_n C.1 C.2.1 dX7_isFieldItem_80 rfl (lv_at hl 1 rfl) ?_
          refine xget C hK hW hinX7 rfl (by omega) h46 9 (by decide) (List.mem_of_getElem? (i := 2) rfl) rfl dX7_isFieldItem_81 ?_
          refine lv_bipush (v := (nI 10)) C.1 C.2.1 dX7_isFieldItem_84 (by decide) ?_
          refine lv_iload_n C.1 C.2.1 dX7_isFieldItem_86 rfl (lv_at hl 2 rfl) ?_
          refine xadd C dX7_isFieldItem_87 ?_
          refine lv_aload_n C.1 C.2.1 dX7_isFieldItem_88 rfl (lv_at hl 1 rfl) ?_
          refine xget C hK hW hinX7 rfl (by omega) h46 6 (by decide) (List.mem_of_getElem? (i := 3) rfl) rfl dX7_isFieldItem_89 ?_
          have h47 : w40 126 = .inl (gI g, 177, .inl (cK 177 0 (va_up (va_up L (17 + f) (kdp T n p)) (3 + f) (foV T n p)))) := ((f44 126 (by omega)).trans ((f36 126 (by omega)).trans e28))
          refine xistK0 (v := dV T n (q3 T n p)) C hK hW (by omega) h47 (by omega) (by decide) dX7_isFieldItem_92 (fun w48 H locs e49 f50 hW => ?_)
          refine lv_iconst (v := (nI 1)) C.1 C.2.1 dX7_isFieldItem_93 (by decide) ?_
          have h51 : w48 119 = .inr (7, [.ref (gad g 120), .ref (gad g 121), .ref (gad g 122), .int (nI n), .ref (gad g 123), .int (nI (q4 T n p)), .int (nI (dV T n (q3 T n p))), .ref (gad g 124), .ref (gad g 125), .ref (gad g 126), .ref (gad g 127), .int (nI hk), .ref (gad g 128), .ref (gad g 129), .long (lN ao), .long (lN mu), .long (lN md), .long (lN bu), .long (lN bd)]) := ((f50 119 (by omega)).trans h46)
          exact xret_z C hr hlk hW rfl ⟨_, _, (by rw [fP, if_pos hkd, if_pos c66]; exact h51), e49, (fun j z0 z1 => ((f50 j (by omega)).trans ((f44 j (by omega)).trans ((f36 j (by omega)).trans ((f29 j (by omega)).trans ((f24 j (by omega)).trans ((f17 j (by omega)).trans ((f12 j (by omega)).trans (f5 j (by omega)))))))))), (fun z => by rw [fW, heV, if_pos c66]), (bI_t ⟨hkd, fun z => c75⟩).symm⟩ dX7_isFieldItem_94
        · refine lv_iconst (v := (nI 0)) C.1 C.2.1 dX7_isFieldItem_78 (by decide) ?_
          have h52 : w40 126 = .inl (gI g, 177, .inl (cK 177 0 (va_up (va_up L (17 + f) (kdp T n p)) (3 + f) (foV T n p)))) := ((f44 126 (by omega)).trans ((f36 126 (by omega)).trans e28))
          exact xret_z C hr hlk hW rfl ⟨_, _, (by rw [fP, if_pos hkd, if_pos c66]; exact h45), h52, (fun j z0 z1 => ((f44 j (by omega)).trans ((f36 j (by omega)).trans ((f29 j (by omega)).trans ((f24 j (by omega)).trans ((f17 j (by omega)).trans ((f12 j (by omega)).trans (f5 j (by omega))))))))), (fun z => absurd (z.2 c66) c75), (bI_f (fun z => c75 (z.2 c66))).symm⟩ dX7_isFieldItem_79
    · have h53 : w20 119 = .inr (7, [.ref (gad g 120), .ref (gad g 121), .ref (gad g 122), .int (nI n), .ref (gad g 123), .int (nI (q2 T n p)), .int (nI (dV T n (q1 T n p))), .ref (gad g 124), .ref (gad g 125), .ref (gad g 126), .ref (gad g 127), .int (nI hk), .ref (gad g 128), .ref (gad g 129), .long (lN ao), .long (lN mu), .long (lN md), .long (lN bu), .long (lN bd)]) := h25.trans (by rw [chM_v c48])
      refine lv_aload_n C.1 C.2.1 dX7_isFieldItem_51 rfl (lv_at hl 1 rfl) ?_
      refine xget C hK hW hinX7 rfl (by omega) h53 6 (by decide) (List.mem_of_getElem? (i := 3) rfl) rfl dX7_isFieldItem_52 ?_
      refine lv_goto (tgt := 59) C.1 C.2.1 dX7_isFieldItem_55 (by decide) ?_
      refine xtopN (b := foV T n p) (if_pos c48).symm ?_
      have h54 : w20 126 = .inl (gI g, 177, .inl (cK 177 0 (va_up L (17 + f) (kdp T n p)))) := ((f24 126 (by omega)).trans e16)
      refine xistK0 (v := foV T n p) C hK hW (by omega) h54 (by omega) (by decide) dX7_isFieldItem_59 (fun w55 H locs e56 f57 hW => ?_)
      refine lv_aload_n C.1 C.2.1 dX7_isFieldItem_60 rfl (lv_at hl 1 rfl) ?_
      refine lv_bipush (v := (nI 35)) C.1 C.2.1 dX7_isFieldItem_61 (by decide) ?_
      have h58 : w55 119 = .inr (7, [.ref (gad g 120), .ref (gad g 121), .ref (gad g 122), .int (nI n), .ref (gad g 123), .int (nI (q2 T n p)), .int (nI (dV T n (q1 T n p))), .ref (gad g 124), .ref (gad g 125), .ref (gad g 126), .ref (gad g 127), .int (nI hk), .ref (gad g 128), .ref (gad g 129), .long (lN ao), .long (lN mu), .long (lN md), .long (lN bu), .long (lN bd)]) := ((f57 119 (by omega)).trans h53)
      have h59 : w55 123 = .inl (gI g, 80, .inl (cK 80 0 T)) := ((f57 123 (by omega)).trans ((f24 123 (by omega)).trans h19))
      refine xcV_i (n := 1) (As := [.int (nI 35)]) C hK hW (c_X7_isSign l g w55 n (q2 T n p) hk (nI (dV T n (q1 T n p))) ao mu md bu bd 35 T hI hN (by omega) (q2_le hkd) hT (by omega) (by omega) h58 h59) gX7_isFieldItem_X7_isSign rfl ⟨rfl, rfl⟩ (by decide +kernel) ⟨Nat.le_of_ble_eq_true rfl, Nat.le_of_ble_eq_true rfl⟩ ⟨Nat.zero_le _, Nat.zero_le _⟩ rfl (by omega) h58 rfl hl rfl (Nat.le_of_ble_eq_true rfl) dX7_isFieldItem_63 (fun r62 w60 H locs q61 hW => ?_)
      obtain ⟨h63, f64, rfl⟩ := q61
      have h65 : w60 119 = .inr (7, [.ref (gad g 120), .ref (gad g 121), .ref (gad g 122), .int (nI n), .ref (gad g 123), .int (nI (q3 T n p)), .int (nI (dV T n (q1 T n p))), .ref (gad g 124), .ref (gad g 125), .ref (gad g 126), .ref (gad g 127), .int (nI hk), .ref (gad g 128), .ref (gad g 129), .long (lN ao), .long (lN mu), .long (lN md), .long (lN bu), .long (lN bd)]) := h63
      refine xBeq (tgt := 93) C dX7_isFieldItem_66 (by decide) (fun c66 => ?_) (fun c66 => ?_)
      · refine lv_iconst (v := (nI 1)) C.1 C.2.1 dX7_isFieldItem_93 (by decide) ?_
        have h66 : w60 126 = .inl (gI g, 177, .inl (cK 177 0 (va_up (va_up L (17 + f) (kdp T n p)) (3 + f) (foV T n p)))) := ((f64 126 (by omega)).trans e56)
        exact xret_z C hr hlk hW rfl ⟨_, _, (by rw [fP, if_pos hkd, if_neg c66]; exact h65), h66, (fun j z0 z1 => ((f64 j (by omega)).trans ((f57 j (by omega)).trans ((f24 j (by omega)).trans ((f17 j (by omega)).trans ((f12 j (by omega)).trans (f5 j (by omega)))))))), (fun z => fW_no c66 h0 hf), (bI_t ⟨hkd, fun z => absurd z c66⟩).symm⟩ dX7_isFieldItem_94
      · refine lv_aload_n C.1 C.2.1 dX7_isFieldItem_69 rfl (lv_at hl 1 rfl) ?_
        refine lv_iconst (v := (nI 1)) C.1 C.2.1 dX7_isFieldItem_70 (by decide) ?_
        refine lv_iconst (v := (nI 4)) C.1 C.2.1 dX7_isFieldItem_71 (by decide) ?_
        have h67 : w60 123 = .inl (gI g, 80, .inl (cK 80 0 T)) := ((f64 123 (by omega)).trans h59)
        refine xcV_i (n := 2) (As := [.int (nI 1), .int (nI 4)]) C hK hW (c_X7_isDigit l g w60 n (q3 T n p) hk (nI (dV T n (q1 T n p))) ao mu md bu bd 1 4 T hI hN (by omega) (q3_le hkd) hT (by omega) (by omega) h65 h67) gX7_isFieldItem_X7_isDigit rfl ⟨rfl, rfl⟩ (by decide +kernel) ⟨Nat.le_of_ble_eq_true rfl, Nat.le_of_ble_eq_true rfl⟩ ⟨Nat.zero_le _, Nat.zero_le _⟩ rfl (by omega) h65 rfl hl rfl (Nat.le_of_ble_eq_true rfl) dX7_isFieldItem_72 (fun r70 w68 H locs q69 hW => ?_)
        obtain ⟨h71, f72, rfl⟩ := q69
        have h73 : w68 119 = .inr (7, [.ref (gad g 120), .ref (gad g 121), .ref (gad g 122), .int (nI n), .ref (gad g 123), .int (nI (q4 T n p)), .int (nI (chM T n (skp T n (q3 T n p))) - nI 48), .ref (gad g 124), .ref (gad g 125), .ref (gad g 126), .ref (gad g 127), .int (nI hk), .ref (gad g 128), .ref (gad g 129), .long (lN ao), .long (lN mu), .long (lN md), .long (lN bu), .long (lN bd)]) := h71
        refine xBne (tgt := 80) C dX7_isFieldItem_75 (by decide) (fun c75 => ?_) (fun c75 => ?_)
        · have h74 : w68 119 = .inr (7, [.ref (gad g 120), .ref (gad g 121), .ref (gad g 122), .int (nI n), .ref (gad g 123), .int (nI (q4 T n p)), .int (nI (dV T n (q3 T n p))), .ref (gad g 124), .ref (gad g 125), .ref (gad g 126), .ref (gad g 127), .int (nI hk), .ref (gad g 128), .ref (gad g 129), .long (lN ao), .long (lN mu), .long (lN md), .long (lN bu), .long (lN bd)]) := h73.trans (by rw [chM_v c75])
          refine lv_aload_n C.1 C.2.1 dX7_isFieldItem_80 rfl (lv_at hl 1 rfl) ?_
          refine xget C hK hW hinX7 rfl (by omega) h74 9 (by decide) (List.mem_of_getElem? (i := 2) rfl) rfl dX7_isFieldItem_81 ?_
          refine lv_bipush (v := (nI 10)) C.1 C.2.1 dX7_isFieldItem_84 (by decide) ?_
          refine lv_iload_n C.1 C.2.1 dX7_isFieldItem_86 rfl (lv_at hl 2 rfl) ?_
          refine xadd C dX7_isFieldItem_87 ?_
          refine lv_aload_n C.1 C.2.1 dX7_isFieldItem_88 rfl (lv_at hl 1 rfl) ?_
          refine xget C hK hW hinX7 rfl (by omega) h74 6 (by decide) (List.mem_of_getElem? (i := 3) rfl) rfl dX7_isFieldItem_89 ?_
          have h75 : w68 126 = .inl (gI g, 177, .inl (cK 177 0 (va_up (va_up L (17 + f) (kdp T n p)) (3 + f) (foV T n p)))) := ((f72 126 (by omega)).trans ((f64 126 (by omega)).trans e56))
          refine xistK0 (v := dV T n (q3 T n p)) C hK hW (by omega) h75 (by omega) (by decide) dX7_isFieldItem_92 (fun w76 H locs e77 f78 hW => ?_)
          refine lv_iconst (v := (nI 1)) C.1 C.2.1 dX7_isFieldItem_93 (by decide) ?_
          have h79 : w76 119 = .inr (7, [.ref (gad g 120), .ref (gad g 121), .ref (gad g 122), .int (nI n), .ref (gad g 123), .int (nI (q4 T n p)), .int (nI (dV T n (q3 T n p))), .ref (gad g 124), .ref (gad g 125), .ref (gad g 126), .ref (gad g 127), .int (nI hk), .ref (gad g 128), .ref (gad g 129), .long (lN ao), .long (lN mu), .long (lN md), .long (lN bu), .long (lN bd)]) := ((f78 119 (by omega)).trans h74)
          exact xret_z C hr hlk hW rfl ⟨_, _, (by rw [fP, if_pos hkd, if_pos c66]; exact h79), e77, (fun j z0 z1 => ((f78 j (by omega)).trans ((f72 j (by omega)).trans ((f64 j (by omega)).trans ((f57 j (by omega)).trans ((f24 j (by omega)).trans ((f17 j (by omega)).trans ((f12 j (by omega)).trans (f5 j (by omega)))))))))), (fun z => by rw [fW, heV, if_pos c66]), (bI_t ⟨hkd, fun z => c75⟩).symm⟩ dX7_isFieldItem_94
        · refine lv_iconst (v := (nI 0)) C.1 C.2.1 dX7_isFieldItem_78 (by decide) ?_
          have h80 : w68 126 = .inl (gI g, 177, .inl (cK 177 0 (va_up (va_up L (17 + f) (kdp T n p)) (3 + f) (foV T n p)))) := ((f72 126 (by omega)).trans ((f64 126 (by omega)).trans e56))
          exact xret_z C hr hlk hW rfl ⟨_, _, (by rw [fP, if_pos hkd, if_pos c66]; exact h73), h80, (fun j z0 z1 => ((f72 j (by omega)).trans ((f64 j (by omega)).trans ((f57 j (by omega)).trans ((f24 j (by omega)).trans ((f17 j (by omega)).trans ((f12 j (by omega)).trans (f5 j (by omega))))))))), (fun z => absurd (z.2 c66) c75), (bI_f (fun z => c75 (z.2 c66))).symm⟩ dX7_isFieldItem_79
  · refine xtopI (b := (-1 : Int32)) (if_neg hkd) ?_
    refine lv_istore_n (lv' := [(2, .int (-1 : Int32)), (0, .ref (gad g 119)), (1, .int (nI f))]) C.1 C.2.1 dX7_isFieldItem_7 rfl hl (by decide) rfl (fun ls hl => ?_)
    refine lv_iload_n C.1 C.2.1 dX7_isFieldItem_8 rfl (lv_at hl 0 rfl) ?_
    refine lv_if_ge (tgt := 14) C.1 C.2.1 dX7_isFieldItem_9 (by decide) (fun c9 => absurd c9 (by decide)) (fun c9 => ?_)
    refine lv_iconst (v := (nI 0)) C.1 C.2.1 dX7_isFieldItem_12 (by decide) ?_
    have h81 : w1 126 = .inl (gI g, 177, .inl (cK 177 0 L)) := ((f5 126 (by omega)).trans pr2)
    exact xret_z C hr hlk hW rfl ⟨_, _, (by rw [fP, if_neg hkd]; exact h4), h81, (fun j z0 z1 => (f5 j (by omega))), (fun z => absurd z.1 hkd), (bI_f (fun z => hkd z.1)).symm⟩ dX7_isFieldItem_13
