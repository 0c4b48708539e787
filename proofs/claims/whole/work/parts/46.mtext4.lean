/-! a claim's item, read by the reference -/
set_option maxHeartbeats 4000000 in
set_option maxRecDepth 100000 in
theorem c_X7_isClaimItem (l : Launch) (g : GE) (w : Nat → va_E) (n p hk : Nat) (nu : Int32) (ao mu md bu bd : Nat) (T L : Nat → Nat) (hI : AdInj g) (hN : gN g = 130) (hn : n ≤ 80) (hp : p ≤ n) (hT : OkT T n) (h24 : L 24 < 5) (pr0 : w 119 = .inr (7, [.ref (gad g 120), .ref (gad g 121), .ref (gad g 122), .int (nI n), .ref (gad g 123), .int (nI p), .int nu, .ref (gad g 124), .ref (gad g 125), .ref (gad g 126), .ref (gad g 127), .int (nI hk), .ref (gad g 128), .ref (gad g 129), .long (lN ao), .long (lN mu), .long (lN md), .long (lN bu), .long (lN bd)])) (pr1 : w 123 = .inl (gI g, 80, .inl (cK 80 0 T))) (pr2 : w 126 = .inl (gI g, 177, .inl (cK 177 0 L))) : Met l yX7_isClaimItem wsX7_isClaimItem ({ frames := 3, cells := 0, slots := 0, locals := 68 } : Room) (XPc g w [.ref (gad g 119)]) (XQi g (fun r w' => ∃ (L1 : Nat → Nat) (nu1 : Int32), w' 119 = .inr (7, [.ref (gad g 120), .ref (gad g 121), .ref (gad g 122), .int (nI n), .ref (gad g 123), .int (nI (cA T n p)), .int nu1, .ref (gad g 124), .ref (gad g 125), .ref (gad g 126), .ref (gad g 127), .int (nI hk), .ref (gad g 128), .ref (gad g 129), .long (lN ao), .long (lN mu), .long (lN md), .long (lN bu), .long (lN bd)]) ∧ w' 126 = .inl (gI g, 177, .inl (cK 177 0 L1)) ∧ (∀ j : Nat, ¬ (119 ≤ j ∧ j < 120) → ¬ (126 ≤ j ∧ j < 127) → w' j = w j) ∧ ((cOk T n p ∧ ¬ dg T n (cA T n p)) → L1 = va_up (addC (L 24) (dV T n p) (cT T n p) (cZ T n p) L) 24 (L 24 + 1)) ∧ r = (bI ((cOk T n p ∧ ¬ dg T n (cA T n p)))))) 0 0 (gA g) := by
  refine xmet (cc := cX7_isClaimItem) (maxL := 3) (ret := (some .boolean)) (by decide) rfl hI (Nat.le_of_ble_eq_true rfl) ?_
  intro pG eG sG mG belowG methG cG ls C hr hlk hK hW hl
  have hl : lv_has ls 3 [(0, .ref (gad g 119))] := hl
  have hinX7 : ∀ x ∈ u_ws RX7 TX7 19, x ∈ wsX7_isClaimItem := by decide +kernel
  refine lv_aload_n C.1 C.2.1 dX7_isClaimItem_0 rfl (lv_at hl 0 rfl) ?_
  refine lv_iconst (v := (nI 0)) C.1 C.2.1 dX7_isClaimItem_1 (by decide) ?_
  refine lv_bipush (v := (nI 6)) C.1 C.2.1 dX7_isClaimItem_2 (by decide) ?_
  refine xcV_i (n := 2) (As := [.int (nI 0), .int (nI 6)]) C hK hW (c_X7_isDigit l g w n p hk nu ao mu md bu bd 0 6 T hI hN (by omega) (by omega) hT (by omega) (by omega) pr0 pr1) gX7_isClaimItem_X7_isDigit rfl ⟨rfl, rfl⟩ (by decide +kernel) ⟨Nat.le_of_ble_eq_true rfl, Nat.le_of_ble_eq_true rfl⟩ ⟨Nat.zero_le _, Nat.zero_le _⟩ rfl (by omega) pr0 rfl hl rfl (Nat.le_of_ble_eq_true rfl) dX7_isClaimItem_4 (fun r3 w1 H locs q2 hW => ?_)
  obtain ⟨h4, f5, rfl⟩ := q2
  have h6 : w1 119 = .inr (7, [.ref (gad g 120), .ref (gad g 121), .ref (gad g 122), .int (nI n), .ref (gad g 123), .int (nI (c1 T n p)), .int (nI (chM T n (skp T n p)) - nI 48), .ref (gad g 124), .ref (gad g 125), .ref (gad g 126), .ref (gad g 127), .int (nI hk), .ref (gad g 128), .ref (gad g 129), .long (lN ao), .long (lN mu), .long (lN md), .long (lN bu), .long (lN bd)]) := h4
  refine xBne (tgt := 12) C dX7_isClaimItem_7 (by decide) (fun c7 => ?_) (fun c7 => ?_)
  · have h7 : w1 119 = .inr (7, [.ref (gad g 120), .ref (gad g 121), .ref (gad g 122), .int (nI n), .ref (gad g 123), .int (nI (c1 T n p)), .int (nI (dV T n p)), .ref (gad g 124), .ref (gad g 125), .ref (gad g 126), .ref (gad g 127), .int (nI hk), .ref (gad g 128), .ref (gad g 129), .long (lN ao), .long (lN mu), .long (lN md), .long (lN bu), .long (lN bd)]) := h6.trans (by rw [chM_v c7])
    have hv := dV_in c7
    refine lv_aload_n C.1 C.2.1 dX7_isClaimItem_12 rfl (lv_at hl 0 rfl) ?_
    refine xget C hK hW hinX7 rfl (by omega) h7 6 (by decide) (List.mem_of_getElem? (i := 1) rfl) rfl dX7_isClaimItem_13 ?_
    refine lv_istore_n (lv' := [(1, .int (nI (dV T n p))), (0, .ref (gad g 119))]) C.1 C.2.1 dX7_isClaimItem_16 rfl hl (by decide) rfl (fun ls hl => ?_)
    refine lv_aload_n C.1 C.2.1 dX7_isClaimItem_17 rfl (lv_at hl 1 rfl) ?_
    refine lv_bipush (v := (nI 45)) C.1 C.2.1 dX7_isClaimItem_18 (by decide) ?_
    have h8 : w1 123 = .inl (gI g, 80, .inl (cK 80 0 T)) := ((f5 123 (by omega)).trans pr1)
    refine xcV_i (n := 1) (As := [.int (nI 45)]) C hK hW (c_X7_isSign l g w1 n (c1 T n p) hk (nI (dV T n p)) ao mu md bu bd 45 T hI hN (by omega) (c1_le hp) hT (by omega) (by omega) h7 h8) gX7_isClaimItem_X7_isSign rfl ⟨rfl, rfl⟩ (by decide +kernel) ⟨Nat.le_of_ble_eq_true rfl, Nat.le_of_ble_eq_true rfl⟩ ⟨Nat.zero_le _, Nat.zero_le _⟩ rfl (by omega) h7 rfl hl rfl (Nat.le_of_ble_eq_true rfl) dX7_isClaimItem_20 (fun r11 w9 H locs q10 hW => ?_)
    obtain ⟨h12, f13, rfl⟩ := q10
    have h14 : w9 119 = .inr (7, [.ref (gad g 120), .ref (gad g 121), .ref (gad g 122), .int (nI n), .ref (gad g 123), .int (nI (c2 T n p)), .int (nI (dV T n p)), .ref (gad g 124), .ref (gad g 125), .ref (gad g 126), .ref (gad g 127), .int (nI hk), .ref (gad g 128), .ref (gad g 129), .long (lN ao), .long (lN mu), .long (lN md), .long (lN bu), .long (lN bd)]) := h12
    refine xBeq (tgt := 36) C dX7_isClaimItem_23 (by decide) (fun c23 => ?_) (fun c23 => ?_)
    · refine lv_iconst (v := (nI 0)) C.1 C.2.1 dX7_isClaimItem_36 (by decide) ?_
      have h15 : w9 126 = .inl (gI g, 177, .inl (cK 177 0 L)) := ((f13 126 (by omega)).trans ((f5 126 (by omega)).trans pr2))
      exact xret_z C hr hlk hW rfl ⟨_, _, (by rw [cA, if_pos c7, if_neg c23]; exact h14), h15, (fun j z0 z1 => ((f13 j (by omega)).trans (f5 j (by omega)))), (fun z => absurd z (fun z => c23 z.1.2.1)), (bI_f (P := (cOk T n p ∧ ¬ dg T n (cA T n p))) (fun z => c23 z.1.2.1)).symm⟩ dX7_isClaimItem_37
    · refine lv_aload_n C.1 C.2.1 dX7_isClaimItem_26 rfl (lv_at hl 1 rfl) ?_
      refine lv_iload_n C.1 C.2.1 dX7_isClaimItem_27 rfl (lv_at hl 0 rfl) ?_
      refine lv_bipush (v := (nI 6)) C.1 C.2.1 dX7_isClaimItem_28 (by decide) ?_
      have h16 : w9 123 = .inl (gI g, 80, .inl (cK 80 0 T)) := ((f13 123 (by omega)).trans h8)
      refine xcV_i (n := 2) (As := [.int (nI (dV T n p)), .int (nI 6)]) C hK hW (c_X7_isDigit l g w9 n (c2 T n p) hk (nI (dV T n p)) ao mu md bu bd (dV T n p) 6 T hI hN (by omega) (c2_le hp) hT (by omega) (by omega) h14 h16) gX7_isClaimItem_X7_isDigit rfl ⟨rfl, rfl⟩ (by decide +kernel) ⟨Nat.le_of_ble_eq_true rfl, Nat.le_of_ble_eq_true rfl⟩ ⟨Nat.zero_le _, Nat.zero_le _⟩ rfl (by omega) h14 rfl hl rfl (Nat.le_of_ble_eq_true rfl) dX7_isClaimItem_30 (fun r19 w17 H locs q18 hW => ?_)
      obtain ⟨h20, f21, rfl⟩ := q18
      have h22 : w17 119 = .inr (7, [.ref (gad g 120), .ref (gad g 121), .ref (gad g 122), .int (nI n), .ref (gad g 123), .int (nI (c3 T n p)), .int (nI (chM T n (skp T n (c2 T n p))) - nI 48), .ref (gad g 124), .ref (gad g 125), .ref (gad g 126), .ref (gad g 127), .int (nI hk), .ref (gad g 128), .ref (gad g 129), .long (lN ao), .long (lN mu), .long (lN md), .long (lN bu), .long (lN bd)]) := h20
      refine xBne (tgt := 38) C dX7_isClaimItem_33 (by decide) (fun c33 => ?_) (fun c33 => ?_)
      · have h23 : w17 119 = .inr (7, [.ref (gad g 120), .ref (gad g 121), .ref (gad g 122), .int (nI n), .ref (gad g 123), .int (nI (c3 T n p)), .int (nI (dV T n (c2 T n p))), .ref (gad g 124), .ref (gad g 125), .ref (gad g 126), .ref (gad g 127), .int (nI hk), .ref (gad g 128), .ref (gad g 129), .long (lN ao), .long (lN mu), .long (lN md), .long (lN bu), .long (lN bd)]) := h22.trans (by rw [chM_v c33])
        have h24 : w17 119 = .inr (7, [.ref (gad g 120), .ref (gad g 121), .ref (gad g 122), .int (nI n), .ref (gad g 123), .int (nI (c3 T n p)), .int (nI (cT T n p)), .ref (gad g 124), .ref (gad g 125), .ref (gad g 126), .ref (gad g 127), .int (nI hk), .ref (gad g 128), .ref (gad g 129), .long (lN ao), .long (lN mu), .long (lN md), .long (lN bu), .long (lN bd)]) := h23
        have hv3 : dV T n p ≤ cT T n p ∧ cT T n p ≤ 6 := dV_in c33
        refine lv_aload_n C.1 C.2.1 dX7_isClaimItem_38 rfl (lv_at hl 1 rfl) ?_
        refine xget C hK hW hinX7 rfl (by omega) h24 6 (by decide) (List.mem_of_getElem? (i := 1) rfl) rfl dX7_isClaimItem_39 ?_
        refine lv_istore_n (lv' := [(2, .int (nI (cT T n p))), (1, .int (nI (dV T n p))), (0, .ref (gad g 119))]) C.1 C.2.1 dX7_isClaimItem_42 rfl hl (by decide) rfl (fun ls hl => ?_)
        refine lv_aload_n C.1 C.2.1 dX7_isClaimItem_43 rfl (lv_at hl 2 rfl) ?_
        refine lv_bipush (v := (nI 61)) C.1 C.2.1 dX7_isClaimItem_44 (by decide) ?_
        have h25 : w17 123 = .inl (gI g, 80, .inl (cK 80 0 T)) := ((f21 123 (by omega)).trans h16)
        refine xcV_i (n := 1) (As := [.int (nI 61)]) C hK hW (c_X7_isSign l g w17 n (c3 T n p) hk (nI (cT T n p)) ao mu md bu bd 61 T hI hN (by omega) (c3_le hp) hT (by omega) (by omega) h24 h25) gX7_isClaimItem_X7_isSign rfl ⟨rfl, rfl⟩ (by decide +kernel) ⟨Nat.le_of_ble_eq_true rfl, Nat.le_of_ble_eq_true rfl⟩ ⟨Nat.zero_le _, Nat.zero_le _⟩ rfl (by omega) h24 rfl hl rfl (Nat.le_of_ble_eq_true rfl) dX7_isClaimItem_46 (fun r28 w26 H locs q27 hW => ?_)
        obtain ⟨h29, f30, rfl⟩ := q27
        have h31 : w26 119 = .inr (7, [.ref (gad g 120), .ref (gad g 121), .ref (gad g 122), .int (nI n), .ref (gad g 123), .int (nI (c4 T n p)), .int (nI (cT T n p)), .ref (gad g 124), .ref (gad g 125), .ref (gad g 126), .ref (gad g 127), .int (nI hk), .ref (gad g 128), .ref (gad g 129), .long (lN ao), .long (lN mu), .long (lN md), .long (lN bu), .long (lN bd)]) := h29
        refine xBeq (tgt := 62) C dX7_isClaimItem_49 (by decide) (fun c49 => ?_) (fun c49 => ?_)
        · refine lv_iconst (v := (nI 0)) C.1 C.2.1 dX7_isClaimItem_62 (by decide) ?_
          have h32 : w26 126 = .inl (gI g, 177, .inl (cK 177 0 L)) := ((f30 126 (by omega)).trans ((f21 126 (by omega)).trans ((f13 126 (by omega)).trans ((f5 126 (by omega)).trans pr2))))
          exact xret_z C hr hlk hW rfl ⟨_, _, (by rw [cA, if_pos c7, if_pos c23, if_pos c33, if_neg c49]; exact h31), h32, (fun j z0 z1 => ((f30 j (by omega)).trans ((f21 j (by omega)).trans ((f13 j (by omega)).trans (f5 j (by omega)))))), (fun z => absurd z (fun z => c49 z.1.2.2.2.1)), (bI_f (P := (cOk T n p ∧ ¬ dg T n (cA T n p))) (fun z => c49 z.1.2.2.2.1)).symm⟩ dX7_isClaimItem_63
        · refine lv_aload_n C.1 C.2.1 dX7_isClaimItem_52 rfl (lv_at hl 2 rfl) ?_
          refine lv_iconst (v := (nI 1)) C.1 C.2.1 dX7_isClaimItem_53 (by decide) ?_
          refine lv_bipush (v := (nI 99)) C.1 C.2.1 dX7_isClaimItem_54 (by decide) ?_
          have h33 : w26 123 = .inl (gI g, 80, .inl (cK 80 0 T)) := ((f30 123 (by omega)).trans h25)
          refine xcV_i (n := 2) (As := [.int (nI 1), .int (nI 99)]) C hK hW (c_X7_isNumber l g w26 n (c4 T n p) hk (nI (cT T n p)) ao mu md bu bd T hI hN (by omega) (c4_le hp) hT h31 h33) gX7_isClaimItem_X7_isNumber rfl ⟨rfl, rfl⟩ (by decide +kernel) ⟨Nat.le_of_ble_eq_true rfl, Nat.le_of_ble_eq_true rfl⟩ ⟨Nat.zero_le _, Nat.zero_le _⟩ rfl (by omega) h31 rfl hl rfl (Nat.le_of_ble_eq_true rfl) dX7_isClaimItem_56 (fun r36 w34 H locs q35 hW => ?_)
          obtain ⟨nu1_40, h37, f38, x39, rfl⟩ := q35
          refine xBne (tgt := 64) C dX7_isClaimItem_59 (by decide) (fun c59 => ?_) (fun c59 => ?_)
          · have h41 : w34 119 = .inr (7, [.ref (gad g 120), .ref (gad g 121), .ref (gad g 122), .int (nI n), .ref (gad g 123), .int (nI (wP T n (c4 T n p))), .int (nI (cZ T n p)), .ref (gad g 124), .ref (gad g 125), .ref (gad g 126), .ref (gad g 127), .int (nI hk), .ref (gad g 128), .ref (gad g 129), .long (lN ao), .long (lN mu), .long (lN md), .long (lN bu), .long (lN bd)]) := h37.trans (by rw [x39 c59]; rfl)
            refine lv_aload_n C.1 C.2.1 dX7_isClaimItem_64 rfl (lv_at hl 2 rfl) ?_
            refine xget C hK hW hinX7 rfl (by omega) h41 9 (by decide) (List.mem_of_getElem? (i := 2) rfl) rfl dX7_isClaimItem_65 ?_
            refine lv_iload_n C.1 C.2.1 dX7_isClaimItem_68 rfl (lv_at hl 1 rfl) ?_
            refine lv_iload_n C.1 C.2.1 dX7_isClaimItem_69 rfl (lv_at hl 0 rfl) ?_
            refine lv_aload_n C.1 C.2.1 dX7_isClaimItem_70 rfl (lv_at hl 2 rfl) ?_
            refine xget C hK hW hinX7 rfl (by omega) h41 6 (by decide) (List.mem_of_getElem? (i := 1) rfl) rfl dX7_isClaimItem_71 ?_
            have h42 : w34 126 = .inl (gI g, 177, .inl (cK 177 0 L)) := ((f38 126 (by omega)).trans ((f30 126 (by omega)).trans ((f21 126 (by omega)).trans ((f13 126 (by omega)).trans ((f5 126 (by omega)).trans pr2)))))
            refine xcS_i (n := 4) (As := [.ref (gad g 126), .int (nI (dV T n p)), .int (nI (cT T n p)), .int (nI (cZ T n p))]) C hK hW (c_X7_addClaim l g w34 126 (dV T n p) (cT T n p) (cZ T n p) L hI hN (by omega) (by omega) h42) gX7_isClaimItem_X7_addClaim rfl ⟨rfl, rfl⟩ (by decide +kernel) ⟨Nat.le_of_ble_eq_true rfl, Nat.le_of_ble_eq_true rfl⟩ ⟨Nat.zero_le _, Nat.zero_le _⟩ rfl hl rfl (Nat.le_of_ble_eq_true rfl) dX7_isClaimItem_74 (fun r45 w43 H locs q44 hW => ?_)
            obtain ⟨h46, f47, rfl⟩ := q44
            refine lv_pop C.1 C.2.1 dX7_isClaimItem_77 rfl ?_
            refine lv_iconst (v := (nI 1)) C.1 C.2.1 dX7_isClaimItem_78 (by decide) ?_
            have h48 : w43 119 = .inr (7, [.ref (gad g 120), .ref (gad g 121), .ref (gad g 122), .int (nI n), .ref (gad g 123), .int (nI (wP T n (c4 T n p))), .int (nI (cZ T n p)), .ref (gad g 124), .ref (gad g 125), .ref (gad g 126), .ref (gad g 127), .int (nI hk), .ref (gad g 128), .ref (gad g 129), .long (lN ao), .long (lN mu), .long (lN md), .long (lN bu), .long (lN bd)]) := ((f47 119 (by omega)).trans h41)
            have hca : cA T n p = wP T n (c4 T n p) := by rw [cA, if_pos c7, if_pos c23, if_pos c33, if_pos c49]
            exact xret_z C hr hlk hW rfl ⟨_, _, (by rw [hca]; exact h48), h46, (fun j z0 z1 => ((f47 j (by omega)).trans ((f38 j (by omega)).trans ((f30 j (by omega)).trans ((f21 j (by omega)).trans ((f13 j (by omega)).trans (f5 j (by omega)))))))), (fun _ => rfl), (bI_t (P := (cOk T n p ∧ ¬ dg T n (cA T n p))) ⟨⟨c7, c23, c33, c49, c59.1⟩, by rw [hca]; exact c59.2⟩).symm⟩ dX7_isClaimItem_79
          · refine lv_iconst (v := (nI 0)) C.1 C.2.1 dX7_isClaimItem_62 (by decide) ?_
            have h49 : w34 126 = .inl (gI g, 177, .inl (cK 177 0 L)) := ((f38 126 (by omega)).trans ((f30 126 (by omega)).trans ((f21 126 (by omega)).trans ((f13 126 (by omega)).trans ((f5 126 (by omega)).trans pr2)))))
            have hca : cA T n p = wP T n (c4 T n p) := by rw [cA, if_pos c7, if_pos c23, if_pos c33, if_pos c49]
            exact xret_z C hr hlk hW rfl ⟨_, _, (by rw [hca]; exact h37), h49, (fun j z0 z1 => ((f38 j (by omega)).trans ((f30 j (by omega)).trans ((f21 j (by omega)).trans ((f13 j (by omega)).trans (f5 j (by omega))))))), (fun z => absurd z (fun z => c59 ⟨z.1.2.2.2.2, by rw [← hca]; exact z.2⟩)), (bI_f (P := (cOk T n p ∧ ¬ dg T n (cA T n p))) (fun z => c59 ⟨z.1.2.2.2.2, by rw [← hca]; exact z.2⟩)).symm⟩ dX7_isClaimItem_63
      · refine lv_iconst (v := (nI 0)) C.1 C.2.1 dX7_isClaimItem_36 (by decide) ?_
        have h50 : w17 126 = .inl (gI g, 177, .inl (cK 177 0 L)) := ((f21 126 (by omega)).trans ((f13 126 (by omega)).trans ((f5 126 (by omega)).trans pr2)))
        exact xret_z C hr hlk hW rfl ⟨_, _, (by rw [cA, if_pos c7, if_pos c23, if_neg c33]; exact h22), h50, (fun j z0 z1 => ((f21 j (by omega)).trans ((f13 j (by omega)).trans (f5 j (by omega))))), (fun z => absurd z (fun z => c33 z.1.2.2.1)), (bI_f (P := (cOk T n p ∧ ¬ dg T n (cA T n p))) (fun z => c33 z.1.2.2.1)).symm⟩ dX7_isClaimItem_37
  · refine lv_iconst (v := (nI 0)) C.1 C.2.1 dX7_isClaimItem_10 (by decide) ?_
    have h51 : w1 126 = .inl (gI g, 177, .inl (cK 177 0 L)) := ((f5 126 (by omega)).trans pr2)
    exact xret_z C hr hlk hW rfl ⟨_, _, (by rw [cA, if_neg c7]; exact h6), h51, (fun j z0 z1 => (f5 j (by omega))), (fun z => absurd z (fun z => c7 z.1.1)), (bI_f (P := (cOk T n p ∧ ¬ dg T n (cA T n p))) (fun z => c7 z.1.1)).symm⟩ dX7_isClaimItem_11
