/-! the reference: the claims here, counts, days -/
theorem or_nI0 (x : Int32) : x ||| nI 0 = x := by
  rw [nI_0]
  exact Int32.or_zero

set_option maxHeartbeats 4000000 in
set_option maxRecDepth 100000 in
theorem c_X7_claimsHere (l : Launch) (g : GE) (w : Nat → va_E) (hk tn po : Nat) (nu : Int32) (ao mu md bu bd : Nat) (L : Nat → Nat) (hI : AdInj g) (hN : gN g = 130) (h24 : L 24 ≤ 5) (pr0 : w 119 = .inr (7, [.ref (gad g 120), .ref (gad g 121), .ref (gad g 122), .int (nI tn), .ref (gad g 123), .int (nI po), .int nu, .ref (gad g 124), .ref (gad g 125), .ref (gad g 126), .ref (gad g 127), .int (nI hk), .ref (gad g 128), .ref (gad g 129), .long (lN ao), .long (lN mu), .long (lN md), .long (lN bu), .long (lN bd)])) (pr1 : w 124 = .inl (gI g, 177, .inl (cK 177 0 L))) : Met l yX7_claimsHere wsX7_claimsHere ({ frames := 1, cells := 0, slots := 0, locals := 22 } : Room) (XPc g w [.ref (gad g 119)]) (XQi g (fun r w' => w' = w ∧ r = (setF (fun c => decide (inR (nI (L 2)) (nI (L (25 + c))) (nI (L (30 + c))))) (L 24)))) 0 0 (gA g) := by
  refine xmet (cc := cX7_claimsHere) (maxL := 3) (ret := (some .int)) (by decide) rfl hI (Nat.le_of_ble_eq_true rfl) ?_
  intro pG eG sG mG belowG methG cG ls C hr hlk hK hW hl
  have hl : lv_has ls 3 [(0, .ref (gad g 119))] := hl
  have hinX7 : ∀ x ∈ u_ws RX7 TX7 19, x ∈ wsX7_claimsHere := by decide +kernel
  refine lv_iconst (v := (nI 0)) C.1 C.2.1 dX7_claimsHere_0 (by decide) ?_
  refine lv_istore_n (lv' := [(1, .int (nI 0)), (0, .ref (gad g 119))]) C.1 C.2.1 dX7_claimsHere_1 rfl hl (by decide) rfl (fun ls hl => ?_)
  refine lv_iconst (v := (nI 0)) C.1 C.2.1 dX7_claimsHere_2 (by decide) ?_
  refine lv_istore_n (lv' := [(2, .int (nI 0)), (1, .int (nI 0)), (0, .ref (gad g 119))]) C.1 C.2.1 dX7_claimsHere_3 rfl hl (by decide) rfl (fun ls hl => ?_)
  have loop4 : ∀ (kG : Nat) (c : Nat) (H : Heap) (locs : List Loc) (ls : Array Slot), kG = L 24 - c → (c ≤ L 24) → XW g w (gA g) sG.heap H locs → lv_has ls 3 [(2, .int (nI c)), (1, .int (setF (fun c => decide (inR (nI (L 2)) (nI (L (25 + c))) (nI (L (30 + c))))) c)), (0, .ref (gad g 119))] → W pG l eG ({ frames := 1, cells := 0, slots := 0, locals := 22 } : Room) sG mG ([.ref (gad g 119)] : List Value).toArray belowG methG cG H locs 0 0 (MQ belowG (XQi g (fun r w' => w' = w ∧ r = (setF (fun c => decide (inR (nI (L 2)) (nI (L (25 + c))) (nI (L (30 + c))))) (L 24)))) ([.ref (gad g 119)] : List Value).toArray sG 0 0 (gA g)) (F0 mG 4 ls []) := by
    intro k4
    induction k4 using Nat.strongRecOn with
    | _ k4 ih4 =>
    intro c H locs ls hk4 hc hW hl
    refine lv_iload_n C.1 C.2.1 dX7_claimsHere_4 rfl (lv_at hl 0 rfl) ?_
    refine lv_aload_n C.1 C.2.1 dX7_claimsHere_5 rfl (lv_at hl 2 rfl) ?_
    refine xget C hK hW hinX7 rfl (by omega) pr0 7 (by decide) (List.mem_of_getElem? (i := 1) rfl) rfl dX7_claimsHere_6 ?_
    refine lv_bipush (v := (nI 24)) C.1 C.2.1 dX7_claimsHere_9 (by decide) ?_
    refine xildK0 C hK hW (by omega) pr1 (by omega) (by decide) dX7_claimsHere_11 ?_
    refine xge (tgt := 61) C (by omega) (by omega) dX7_claimsHere_12 (by decide) (fun c12 => ?_) (fun c12 => ?_)
    · refine lv_iload_n C.1 C.2.1 dX7_claimsHere_61 rfl (lv_at hl 1 rfl) ?_
      exact xret_i C hr hlk hW ⟨rfl, by rw [show c = L 24 by omega]⟩ dX7_claimsHere_62
    · refine lv_iload_n C.1 C.2.1 dX7_claimsHere_15 rfl (lv_at hl 1 rfl) ?_
      refine lv_aload_n C.1 C.2.1 dX7_claimsHere_16 rfl (lv_at hl 2 rfl) ?_
      refine xget C hK hW hinX7 rfl (by omega) pr0 7 (by decide) (List.mem_of_getElem? (i := 1) rfl) rfl dX7_claimsHere_17 ?_
      refine lv_iconst (v := (nI 2)) C.1 C.2.1 dX7_claimsHere_20 (by decide) ?_
      refine xildK0 C hK hW (by omega) pr1 (by omega) (by decide) dX7_claimsHere_21 ?_
      refine lv_aload_n C.1 C.2.1 dX7_claimsHere_22 rfl (lv_at hl 2 rfl) ?_
      refine xget C hK hW hinX7 rfl (by omega) pr0 7 (by decide) (List.mem_of_getElem? (i := 1) rfl) rfl dX7_claimsHere_23 ?_
      refine lv_bipush (v := (nI 25)) C.1 C.2.1 dX7_claimsHere_26 (by decide) ?_
      refine lv_iload_n C.1 C.2.1 dX7_claimsHere_28 rfl (lv_at hl 0 rfl) ?_
      refine xadd C dX7_claimsHere_29 ?_
      refine xildK0 C hK hW (by omega) pr1 (by omega) (by decide) dX7_claimsHere_30 ?_
      refine lv_aload_n C.1 C.2.1 dX7_claimsHere_31 rfl (lv_at hl 2 rfl) ?_
      refine xget C hK hW hinX7 rfl (by omega) pr0 7 (by decide) (List.mem_of_getElem? (i := 1) rfl) rfl dX7_claimsHere_32 ?_
      refine lv_bipush (v := (nI 30)) C.1 C.2.1 dX7_claimsHere_35 (by decide) ?_
      refine lv_iload_n C.1 C.2.1 dX7_claimsHere_37 rfl (lv_at hl 0 rfl) ?_
      refine xadd C dX7_claimsHere_38 ?_
      refine xildK0 C hK hW (by omega) pr1 (by omega) (by decide) dX7_claimsHere_39 ?_
      refine xcS_i (n := 3) (As := [.int (nI (L 2)), .int (nI (L (25 + c))), .int (nI (L (30 + c)))]) C hK hW (c_X7_in l g w (nI (L 2)) (nI (L (25 + c))) (nI (L (30 + c))) hI hN) gX7_claimsHere_X7_in rfl ⟨rfl, rfl⟩ (by decide +kernel) ⟨Nat.le_of_ble_eq_true rfl, Nat.le_of_ble_eq_true rfl⟩ ⟨Nat.zero_le _, Nat.zero_le _⟩ rfl hl rfl (Nat.le_of_ble_eq_true rfl) dX7_claimsHere_40 (fun r3 w1 H locs q2 hW => ?_)
      obtain ⟨qw4, rfl⟩ := q2
      rw [qw4] at hW
      refine xBeq (tgt := 52) C dX7_claimsHere_43 (by decide) (fun c43 => ?_) (fun c43 => ?_)
      · refine lv_iconst (v := (nI 0)) C.1 C.2.1 dX7_claimsHere_52 (by decide) ?_
        refine lv_ior C.1 C.2.1 dX7_claimsHere_53 ?_
        refine lv_istore_n (lv' := [(1, .int ((setF (fun c => decide (inR (nI (L 2)) (nI (L (25 + c))) (nI (L (30 + c))))) c) ||| (nI 0))), (2, .int (nI c)), (0, .ref (gad g 119))]) C.1 C.2.1 dX7_claimsHere_54 rfl hl (by decide) rfl (fun ls hl => ?_)
        have hl : lv_has ls 3 [(1, .int (setF (fun c => decide (inR (nI (L 2)) (nI (L (25 + c))) (nI (L (30 + c))))) (c + 1))), (2, .int (nI c)), (0, .ref (gad g 119))] := by rw [show (setF (fun c => decide (inR (nI (L 2)) (nI (L (25 + c))) (nI (L (30 + c))))) (c + 1)) = ((setF (fun c => decide (inR (nI (L 2)) (nI (L (25 + c))) (nI (L (30 + c))))) c) ||| (nI 0)) from ((setF_n (p := fun c => decide (inR (nI (L 2)) (nI (L (25 + c))) (nI (L (30 + c))))) (fun z => c43 (of_decide_eq_true z))).trans (or_nI0 _).symm)]; exact hl
        refine lv_iinc (v := nI (c + 1)) (lv' := [(2, .int (nI (c + 1))), (1, .int (setF (fun c => decide (inR (nI (L 2)) (nI (L (25 + c))) (nI (L (30 + c))))) (c + 1))), (0, .ref (gad g 119))]) C.1 C.2.1 dX7_claimsHere_55 hl (k := 1) rfl (nI_add _ 1) (by decide) rfl (fun ls hl => ?_)
        refine lv_goto (tgt := 4) C.1 C.2.1 dX7_claimsHere_58 (by decide) ?_
        exact ih4 (L 24 - (c + 1)) (by omega) (c + 1) _ _ _ rfl (by omega) hW hl
      · refine lv_iconst (v := (nI 1)) C.1 C.2.1 dX7_claimsHere_46 (by decide) ?_
        refine lv_iload_n C.1 C.2.1 dX7_claimsHere_47 rfl (lv_at hl 0 rfl) ?_
        refine lv_ishl C.1 C.2.1 dX7_claimsHere_48 ?_
        refine lv_goto (tgt := 53) C.1 C.2.1 dX7_claimsHere_49 (by decide) ?_
        refine lv_ior C.1 C.2.1 dX7_claimsHere_53 ?_
        refine lv_istore_n (lv' := [(1, .int ((setF (fun c => decide (inR (nI (L 2)) (nI (L (25 + c))) (nI (L (30 + c))))) c) ||| ((nI 1) <<< ((nI c) &&& 31)))), (2, .int (nI c)), (0, .ref (gad g 119))]) C.1 C.2.1 dX7_claimsHere_54 rfl hl (by decide) rfl (fun ls hl => ?_)
        have hl : lv_has ls 3 [(1, .int (setF (fun c => decide (inR (nI (L 2)) (nI (L (25 + c))) (nI (L (30 + c))))) (c + 1))), (2, .int (nI c)), (0, .ref (gad g 119))] := by rw [show (setF (fun c => decide (inR (nI (L 2)) (nI (L (25 + c))) (nI (L (30 + c))))) (c + 1)) = ((setF (fun c => decide (inR (nI (L 2)) (nI (L (25 + c))) (nI (L (30 + c))))) c) ||| ((nI 1) <<< ((nI c) &&& 31))) from (setF_y (p := fun c => decide (inR (nI (L 2)) (nI (L (25 + c))) (nI (L (30 + c))))) (decide_eq_true c43))]; exact hl
        refine lv_iinc (v := nI (c + 1)) (lv' := [(2, .int (nI (c + 1))), (1, .int (setF (fun c => decide (inR (nI (L 2)) (nI (L (25 + c))) (nI (L (30 + c))))) (c + 1))), (0, .ref (gad g 119))]) C.1 C.2.1 dX7_claimsHere_55 hl (k := 1) rfl (nI_add _ 1) (by decide) rfl (fun ls hl => ?_)
        refine lv_goto (tgt := 4) C.1 C.2.1 dX7_claimsHere_58 (by decide) ?_
        exact ih4 (L 24 - (c + 1)) (by omega) (c + 1) _ _ _ rfl (by omega) hW hl
  exact loop4 _ 0 _ _ _ rfl (by omega) hW hl

set_option maxHeartbeats 4000000 in
set_option maxRecDepth 100000 in
theorem c_X7_count (l : Launch) (g : GE) (w : Nat → va_E) (L K T ln sz : Nat → Nat) (hk tn : Nat) (Z : Nat → Int64) (y : Int32) (hI : AdInj g) (hN : gN g = 130) (hS : OkS (L, K, hk, tn, T, ln, sz, Z)) (pr0 : MAll g (L, K, hk, tn, T, ln, sz, Z) w) : Met l yX7_count wsX7_count ({ frames := 2, cells := 0, slots := 0, locals := 44 } : Room) (XPc g w [.ref (gad g 119), .int y]) (XQi g (fun r w' => MAll g (L, K, hk, tn, T, ln, sz, Z) w' ∧ (∀ j : Nat, ¬ (119 ≤ j ∧ j < 130) → w' j = w j) ∧ r = countS L y)) 0 0 (gA g) := by
  refine xmet (cc := cX7_count) (maxL := 2) (ret := (some .int)) (by decide) rfl hI (Nat.le_of_ble_eq_true rfl) ?_
  intro pG eG sG mG belowG methG cG ls C hr hlk hK hW hl
  have hl : lv_has ls 2 [(0, .ref (gad g 119)), (1, .int y)] := hl
  have hinX7 : ∀ x ∈ u_ws RX7 TX7 19, x ∈ wsX7_count := by decide +kernel
  obtain ⟨po, ao, mu, md, bu, bd, nu, TR, RD, KP, O, A, m0, m1, m2, m3, m4, m5, m6, m7, m8, m9, m10, m11⟩ := pr0
  have hokL : OkL L := hS.1
  obtain ⟨hok, hs2, hdy, hdr, hcl, hkn, hcs, hps⟩ := hokL
  have htn : tn ≤ 80 := hS.2.2.1
  have hlz : ∀ s, s < 4 → ln s ≤ 4 ∧ sz s ≤ 24 := hS.2.2.2.2
  have m0 : w 119 = .inr (7, [.ref (gad g 120), .ref (gad g 121), .ref (gad g 122), .int (nI tn), .ref (gad g 123), .int (nI po), .int nu, .ref (gad g 124), .ref (gad g 125), .ref (gad g 126), .ref (gad g 127), .int (nI hk), .ref (gad g 128), .ref (gad g 129), .long (lN ao), .long (lN mu), .long (lN md), .long (lN bu), .long (lN bd)]) := m0
  have m1 : w 120 = .inl (gI g, 4, .inl (kK 0 4 0 (laF ln))) := m1
  have m2 : w 121 = .inl (gI g, 4, .inl (cK 4 0 sz)) := m2
  have m3 : w 122 = .inl (gJ g, 96, .inr (.inl (kK 0 96 0 Z))) := m3
  have m4 : w 123 = .inl (gI g, 80, .inl (cK 80 0 T)) := m4
  have m5 : w 124 = .inl (gI g, 177, .inl (cK 177 0 L)) := m5
  have m9 : hk = 1 → KP = K := m9
  refine lv_iload_n C.1 C.2.1 dX7_count_0 rfl (lv_at hl 1 rfl) ?_
  by_cases c1_0 : y = nI 0
  · refine lv_tableIn (off := 43) (tgt := 44) C.1 C.2.1 dX7_count_1 (by rw [c1_0]; decide) (by rw [c1_0]; decide) (by rw [c1_0]; decide) (by decide) ?_
    refine lv_aload_n C.1 C.2.1 dX7_count_44 rfl (lv_at hl 0 rfl) ?_
    refine xget C hK hW hinX7 rfl (by omega) m0 7 (by decide) (List.mem_of_getElem? (i := 1) rfl) rfl dX7_count_45 ?_
    refine lv_bipush (v := (nI 24)) C.1 C.2.1 dX7_count_48 (by decide) ?_
    refine xildK0 C hK hW (by omega) m5 (by omega) (by decide) dX7_count_50 ?_
    exact xret_i C hr hlk hW ⟨⟨_, _, _, _, _, _, _, _, _, _, _, _, m0, m1, m2, m3, m4, m5, m6, m7, m8, m9, m10, m11⟩, (fun j z0 => rfl), (by rw [countS, if_pos (c := y = nI 0) c1_0])⟩ dX7_count_51
  · by_cases c1_1 : y = nI 1
    · refine lv_tableIn (off := 51) (tgt := 52) C.1 C.2.1 dX7_count_1 (by rw [c1_1]; decide) (by rw [c1_1]; decide) (by rw [c1_1]; decide) (by decide) ?_
      refine lv_aload_n C.1 C.2.1 dX7_count_52 rfl (lv_at hl 0 rfl) ?_
      refine xget C hK hW hinX7 rfl (by omega) m0 7 (by decide) (List.mem_of_getElem? (i := 1) rfl) rfl dX7_count_53 ?_
      refine lv_iconst (v := (nI 2)) C.1 C.2.1 dX7_count_56 (by decide) ?_
      refine xildK0 C hK hW (by omega) m5 (by omega) (by decide) dX7_count_57 ?_
      exact xret_i C hr hlk hW ⟨⟨_, _, _, _, _, _, _, _, _, _, _, _, m0, m1, m2, m3, m4, m5, m6, m7, m8, m9, m10, m11⟩, (fun j z0 => rfl), (by rw [countS, if_neg (c := y = nI 0) c1_0, if_pos (c := y = nI 1) c1_1])⟩ dX7_count_58
    · by_cases c1_2 : y = nI 2
      · refine lv_tableIn (off := 58) (tgt := 59) C.1 C.2.1 dX7_count_1 (by rw [c1_2]; decide) (by rw [c1_2]; decide) (by rw [c1_2]; decide) (by decide) ?_
        refine lv_aload_n C.1 C.2.1 dX7_count_59 rfl (lv_at hl 0 rfl) ?_
        refine xget C hK hW hinX7 rfl (by omega) m0 7 (by decide) (List.mem_of_getElem? (i := 1) rfl) rfl dX7_count_60 ?_
        refine lv_iconst (v := (nI 0)) C.1 C.2.1 dX7_count_63 (by decide) ?_
        refine xildK0 C hK hW (by omega) m5 (by omega) (by decide) dX7_count_64 ?_
        exact xret_i C hr hlk hW ⟨⟨_, _, _, _, _, _, _, _, _, _, _, _, m0, m1, m2, m3, m4, m5, m6, m7, m8, m9, m10, m11⟩, (fun j z0 => rfl), (by rw [countS, if_neg (c := y = nI 0) c1_0, if_neg (c := y = nI 1) c1_1, if_pos (c := y = nI 2) c1_2])⟩ dX7_count_65
      · by_cases c1_3 : y = nI 3
        · refine lv_tableIn (off := 65) (tgt := 66) C.1 C.2.1 dX7_count_1 (by rw [c1_3]; decide) (by rw [c1_3]; decide) (by rw [c1_3]; decide) (by decide) ?_
          refine lv_aload_n C.1 C.2.1 dX7_count_66 rfl (lv_at hl 0 rfl) ?_
          refine xget C hK hW hinX7 rfl (by omega) m0 7 (by decide) (List.mem_of_getElem? (i := 1) rfl) rfl dX7_count_67 ?_
          refine lv_iconst (v := (nI 3)) C.1 C.2.1 dX7_count_70 (by decide) ?_
          refine xcS_i (n := 2) (As := [.ref (gad g 124), .int (nI 3)]) C hK hW (c_X7_sumOf l g w 124 3 L hI hN (by omega) (by omega) m5) gX7_count_X7_sumOf rfl ⟨rfl, rfl⟩ (by decide +kernel) ⟨Nat.le_of_ble_eq_true rfl, Nat.le_of_ble_eq_true rfl⟩ ⟨Nat.zero_le _, Nat.zero_le _⟩ rfl hl rfl (Nat.le_of_ble_eq_true rfl) dX7_count_71 (fun r4 w2 H locs q3 hW => ?_)
          obtain ⟨qw5, rfl⟩ := q3
          rw [qw5] at hW
          exact xret_i C hr hlk hW ⟨⟨_, _, _, _, _, _, _, _, _, _, _, _, m0, m1, m2, m3, m4, m5, m6, m7, m8, m9, m10, m11⟩, (fun j z0 => rfl), (by rw [countS, if_neg (c := y = nI 0) c1_0, if_neg (c := y = nI 1) c1_1, if_neg (c := y = nI 2) c1_2, if_pos (c := y = nI 3) c1_3])⟩ dX7_count_74
        · by_cases c1_4 : y = nI 4
          · refine lv_tableIn (off := 74) (tgt := 75) C.1 C.2.1 dX7_count_1 (by rw [c1_4]; decide) (by rw [c1_4]; decide) (by rw [c1_4]; decide) (by decide) ?_
            refine lv_aload_n C.1 C.2.1 dX7_count_75 rfl (lv_at hl 0 rfl) ?_
            refine xget C hK hW hinX7 rfl (by omega) m0 7 (by decide) (List.mem_of_getElem? (i := 1) rfl) rfl dX7_count_76 ?_
            refine lv_bipush (v := (nI 10)) C.1 C.2.1 dX7_count_79 (by decide) ?_
            refine xcS_i (n := 2) (As := [.ref (gad g 124), .int (nI 10)]) C hK hW (c_X7_sumOf l g w 124 10 L hI hN (by omega) (by omega) m5) gX7_count_X7_sumOf rfl ⟨rfl, rfl⟩ (by decide +kernel) ⟨Nat.le_of_ble_eq_true rfl, Nat.le_of_ble_eq_true rfl⟩ ⟨Nat.zero_le _, Nat.zero_le _⟩ rfl hl rfl (Nat.le_of_ble_eq_true rfl) dX7_count_81 (fun r8 w6 H locs q7 hW => ?_)
            obtain ⟨qw9, rfl⟩ := q7
            rw [qw9] at hW
            exact xret_i C hr hlk hW ⟨⟨_, _, _, _, _, _, _, _, _, _, _, _, m0, m1, m2, m3, m4, m5, m6, m7, m8, m9, m10, m11⟩, (fun j z0 => rfl), (by rw [countS, if_neg (c := y = nI 0) c1_0, if_neg (c := y = nI 1) c1_1, if_neg (c := y = nI 2) c1_2, if_neg (c := y = nI 3) c1_3, if_pos (c := y = nI 4) c1_4])⟩ dX7_count_84
          · by_cases c1_5 : y = nI 5
            · refine lv_tableIn (off := 84) (tgt := 85) C.1 C.2.1 dX7_count_1 (by rw [c1_5]; decide) (by rw [c1_5]; decide) (by rw [c1_5]; decide) (by decide) ?_
              refine lv_aload_n C.1 C.2.1 dX7_count_85 rfl (lv_at hl 0 rfl) ?_
              refine xcV_i (n := 0) (As := []) C hK hW (c_X7_claimsHere l g w hk tn po nu ao mu md bu bd L hI hN (by omega) m0 m5) gX7_count_X7_claimsHere rfl ⟨rfl, rfl⟩ (by decide +kernel) ⟨Nat.le_of_ble_eq_true rfl, Nat.le_of_ble_eq_true rfl⟩ ⟨Nat.zero_le _, Nat.zero_le _⟩ rfl (by omega) m0 rfl hl rfl (Nat.le_of_ble_eq_true rfl) dX7_count_86 (fun r12 w10 H locs q11 hW => ?_)
              obtain ⟨qw13, rfl⟩ := q11
              rw [qw13] at hW
              exact xret_i C hr hlk hW ⟨⟨_, _, _, _, _, _, _, _, _, _, _, _, m0, m1, m2, m3, m4, m5, m6, m7, m8, m9, m10, m11⟩, (fun j z0 => rfl), (by rw [countS, if_neg (c := y = nI 0) c1_0, if_neg (c := y = nI 1) c1_1, if_neg (c := y = nI 2) c1_2, if_neg (c := y = nI 3) c1_3, if_neg (c := y = nI 4) c1_4, if_pos (c := y = nI 5) c1_5])⟩ dX7_count_89
            · by_cases c1_6 : y = nI 6
              · refine lv_tableIn (off := 89) (tgt := 90) C.1 C.2.1 dX7_count_1 (by rw [c1_6]; decide) (by rw [c1_6]; decide) (by rw [c1_6]; decide) (by decide) ?_
                refine lv_aload_n C.1 C.2.1 dX7_count_90 rfl (lv_at hl 0 rfl) ?_
                refine xget C hK hW hinX7 rfl (by omega) m0 7 (by decide) (List.mem_of_getElem? (i := 1) rfl) rfl dX7_count_91 ?_
                refine lv_bipush (v := (nI 40)) C.1 C.2.1 dX7_count_94 (by decide) ?_
                refine xildK0 C hK hW (by omega) m5 (by omega) (by decide) dX7_count_96 ?_
                exact xret_i C hr hlk hW ⟨⟨_, _, _, _, _, _, _, _, _, _, _, _, m0, m1, m2, m3, m4, m5, m6, m7, m8, m9, m10, m11⟩, (fun j z0 => rfl), (by rw [countS, if_neg (c := y = nI 0) c1_0, if_neg (c := y = nI 1) c1_1, if_neg (c := y = nI 2) c1_2, if_neg (c := y = nI 3) c1_3, if_neg (c := y = nI 4) c1_4, if_neg (c := y = nI 5) c1_5, if_pos (c := y = nI 6) c1_6])⟩ dX7_count_97
              · refine lv_tableOut (tgt := 98) C.1 C.2.1 dX7_count_1 (by exact sw_out7 c1_0 c1_1 c1_2 c1_3 c1_4 c1_5 c1_6) (by decide) ?_
                refine lv_iconst (v := (-1 : Int32)) C.1 C.2.1 dX7_count_98 (by decide) ?_
                exact xret_i C hr hlk hW ⟨⟨_, _, _, _, _, _, _, _, _, _, _, _, m0, m1, m2, m3, m4, m5, m6, m7, m8, m9, m10, m11⟩, (fun j z0 => rfl), (by rw [countS, if_neg (c := y = nI 0) c1_0, if_neg (c := y = nI 1) c1_1, if_neg (c := y = nI 2) c1_2, if_neg (c := y = nI 3) c1_3, if_neg (c := y = nI 4) c1_4, if_neg (c := y = nI 5) c1_5, if_neg (c := y = nI 6) c1_6])⟩ dX7_count_99

set_option maxHeartbeats 4000000 in
set_option maxRecDepth 100000 in
theorem c_X7_days (l : Launch) (g : GE) (w : Nat → va_E) (L K T ln sz : Nat → Nat) (hk tn : Nat) (Z : Nat → Int64) (x : Int32) (hI : AdInj g) (hN : gN g = 130) (hS : OkS (L, K, hk, tn, T, ln, sz, Z)) (pr0 : MAll g (L, K, hk, tn, T, ln, sz, Z) w) : Met l yX7_days wsX7_days ({ frames := 3, cells := 0, slots := 0, locals := 69 } : Room) (XPc g w [.ref (gad g 119), .int x]) (XQi g (fun r w' => MAll g (daysM L x, K, hk, tn, T, ln, sz, Z) w' ∧ (∀ j : Nat, ¬ (119 ≤ j ∧ j < 130) → w' j = w j) ∧ r = daysS L x)) 0 0 (gA g) := by
  refine xmet (cc := cX7_days) (maxL := 3) (ret := (some .int)) (by decide) rfl hI (Nat.le_of_ble_eq_true rfl) ?_
  intro pG eG sG mG belowG methG cG ls C hr hlk hK hW hl
  have hl : lv_has ls 3 [(0, .ref (gad g 119)), (1, .int x)] := hl
  have hinX7 : ∀ x ∈ u_ws RX7 TX7 19, x ∈ wsX7_days := by decide +kernel
  obtain ⟨po, ao, mu, md, bu, bd, nu, TR, RD, KP, O, A, m0, m1, m2, m3, m4, m5, m6, m7, m8, m9, m10, m11⟩ := pr0
  have hokL : OkL L := hS.1
  obtain ⟨hok, hs2, hdy, hdr, hcl, hkn, hcs, hps⟩ := hokL
  have htn : tn ≤ 80 := hS.2.2.1
  have hlz : ∀ s, s < 4 → ln s ≤ 4 ∧ sz s ≤ 24 := hS.2.2.2.2
  have m0 : w 119 = .inr (7, [.ref (gad g 120), .ref (gad g 121), .ref (gad g 122), .int (nI tn), .ref (gad g 123), .int (nI po), .int nu, .ref (gad g 124), .ref (gad g 125), .ref (gad g 126), .ref (gad g 127), .int (nI hk), .ref (gad g 128), .ref (gad g 129), .long (lN ao), .long (lN mu), .long (lN md), .long (lN bu), .long (lN bd)]) := m0
  have m1 : w 120 = .inl (gI g, 4, .inl (kK 0 4 0 (laF ln))) := m1
  have m2 : w 121 = .inl (gI g, 4, .inl (cK 4 0 sz)) := m2
  have m3 : w 122 = .inl (gJ g, 96, .inr (.inl (kK 0 96 0 Z))) := m3
  have m4 : w 123 = .inl (gI g, 80, .inl (cK 80 0 T)) := m4
  have m5 : w 124 = .inl (gI g, 177, .inl (cK 177 0 L)) := m5
  have m9 : hk = 1 → KP = K := m9
  refine lv_iload_n C.1 C.2.1 dX7_days_0 rfl (lv_at hl 1 rfl) ?_
  refine lv_iconst (v := (nI 1)) C.1 C.2.1 dX7_days_1 (by decide) ?_
  refine lv_bipush (v := (nI 40)) C.1 C.2.1 dX7_days_2 (by decide) ?_
  refine xcS_i (n := 3) (As := [.int x, .int (nI 1), .int (nI 40)]) C hK hW (c_X7_in l g w x (nI 1) (nI 40) hI hN) gX7_days_X7_in rfl ⟨rfl, rfl⟩ (by decide +kernel) ⟨Nat.le_of_ble_eq_true rfl, Nat.le_of_ble_eq_true rfl⟩ ⟨Nat.zero_le _, Nat.zero_le _⟩ rfl hl rfl (Nat.le_of_ble_eq_true rfl) dX7_days_4 (fun r3 w1 H locs q2 hW => ?_)
  obtain ⟨qw4, rfl⟩ := q2
  rw [qw4] at hW
  refine xBne (tgt := 12) C dX7_days_7 (by decide) (fun c7 => ?_) (fun c7 => ?_)
  · obtain ⟨k1, ha_k1, hb_k1, hx_k1⟩ := inR_N (by omega) (by omega) c7
    rw [hx_k1] at hl
    refine lv_aload_n C.1 C.2.1 dX7_days_12 rfl (lv_at hl 0 rfl) ?_
    refine xget C hK hW hinX7 rfl (by omega) m0 7 (by decide) (List.mem_of_getElem? (i := 1) rfl) rfl dX7_days_13 ?_
    refine lv_iconst (v := (nI 0)) C.1 C.2.1 dX7_days_16 (by decide) ?_
    refine xildK0 C hK hW (by omega) m5 (by omega) (by decide) dX7_days_17 ?_
    refine lv_iload_n C.1 C.2.1 dX7_days_18 rfl (lv_at hl 1 rfl) ?_
    refine xadd C dX7_days_19 ?_
    refine lv_sipush (v := (nI 9999)) C.1 C.2.1 dX7_days_20 (by decide) ?_
    refine xle (tgt := 29) C (by omega) (by omega) dX7_days_23 (by decide) (fun c23 => ?_) (fun c23 => ?_)
    · refine lv_iconst (v := (nI 0)) C.1 C.2.1 dX7_days_29 (by decide) ?_
      refine lv_istore_n (lv' := [(2, .int (nI 0)), (0, .ref (gad g 119)), (1, .int (nI k1))]) C.1 C.2.1 dX7_days_30 rfl hl (by decide) rfl (fun ls hl => ?_)
      have loop31 : ∀ (kG : Nat) (d : Nat) (v31 : Nat → va_E) (H : Heap) (locs : List Loc) (ls : Array Slot), kG = k1 - d → (v31 119 = .inr (7, [.ref (gad g 120), .ref (gad g 121), .ref (gad g 122), .int (nI tn), .ref (gad g 123), .int (nI po), .int nu, .ref (gad g 124), .ref (gad g 125), .ref (gad g 126), .ref (gad g 127), .int (nI hk), .ref (gad g 128), .ref (gad g 129), .long (lN ao), .long (lN mu), .long (lN md), .long (lN bu), .long (lN bd)])) → (v31 120 = .inl (gI g, 4, .inl (kK 0 4 0 (laF ln)))) → (v31 121 = .inl (gI g, 4, .inl (cK 4 0 sz))) → (v31 122 = .inl (gJ g, 96, .inr (.inl (kK 0 96 0 Z)))) → (v31 123 = .inl (gI g, 80, .inl (cK 80 0 T))) → (v31 124 = .inl (gI g, 177, .inl (cK 177 0 (daysL L d)))) → (v31 125 = .inl (gI g, 177, .inl (cK 177 0 TR))) → (v31 126 = .inl (gI g, 177, .inl (cK 177 0 RD))) → (v31 127 = .inl (gI g, 177, .inl (cK 177 0 KP))) → (v31 128 = .inl (gJ g, 7, .inr (.inl (cL 7 0 O)))) → (v31 129 = .inl (gJ g, 7, .inr (.inl (cL 7 0 A)))) → (∀ j : Nat, ¬ (119 ≤ j ∧ j < 130) → v31 j = w j) → (d ≤ k1) → XW g v31 (gA g) sG.heap H locs → lv_has ls 3 [(2, .int (nI d)), (0, .ref (gad g 119)), (1, .int (nI k1))] → W pG l eG ({ frames := 3, cells := 0, slots := 0, locals := 69 } : Room) sG mG ([.ref (gad g 119), .int x] : List Value).toArray belowG methG cG H locs 0 0 (MQ belowG (XQi g (fun r w' => MAll g (daysM L x, K, hk, tn, T, ln, sz, Z) w' ∧ (∀ j : Nat, ¬ (119 ≤ j ∧ j < 130) → w' j = w j) ∧ r = daysS L x)) ([.ref (gad g 119), .int x] : List Value).toArray sG 0 0 (gA g)) (F0 mG 31 ls []) := by
        intro k31
        induction k31 using Nat.strongRecOn with
        | _ k31 ih31 =>
        intro d v31 H locs ls hk31 fa31_0 fa31_1 fa31_2 fa31_3 fa31_4 fa31_5 fa31_6 fa31_7 fa31_8 fa31_9 fa31_10 hfr31 hd hW hl
        refine lv_iload_n C.1 C.2.1 dX7_days_31 rfl (lv_at hl 0 rfl) ?_
        refine lv_iload_n C.1 C.2.1 dX7_days_32 rfl (lv_at hl 2 rfl) ?_
        refine xge (tgt := 53) C (by omega) (by omega) dX7_days_33 (by decide) (fun c33 => ?_) (fun c33 => ?_)
        · have hW1 := OkW_days (OkL.w (L := L) hS.1) d
          refine lv_aload_n C.1 C.2.1 dX7_days_53 rfl (lv_at hl 1 rfl) ?_
          refine xget C hK hW hinX7 rfl (by omega) fa31_0 7 (by decide) (List.mem_of_getElem? (i := 1) rfl) rfl dX7_days_54 ?_
          refine lv_iconst (v := (nI 2)) C.1 C.2.1 dX7_days_57 (by decide) ?_
          refine xildK0 C hK hW (by omega) fa31_5 (by omega) (by decide) dX7_days_58 ?_
          exact xret_i C hr hlk hW ⟨(by rw [daysM, if_pos (c := okDays L x) ⟨c7, by rw [hx_k1, cl_nI (by omega)]; omega⟩, hx_k1, cl_nI (by omega), show k1 = d by omega]; exact ⟨_, _, _, _, _, _, _, _, _, _, _, _, fa31_0, fa31_1, fa31_2, fa31_3, fa31_4, fa31_5, fa31_6, fa31_7, fa31_8, m9, fa31_9, fa31_10⟩), (fun j z0 => (hfr31 j z0)), (by rw [daysS, if_pos (c := inR x (nI 1) (nI 40)) c7, hx_k1, cl_nI (by omega), if_pos (by omega), show k1 = d by omega])⟩ dX7_days_59
        · have hW1 := OkW_days (OkL.w (L := L) hS.1) d
          have hW2 := OkW_note hW1
          refine lv_aload_n C.1 C.2.1 dX7_days_36 rfl (lv_at hl 1 rfl) ?_
          refine xcV_v (n := 0) (As := []) C hK hW (c_X7_note l g v31 hk tn po nu ao mu md bu bd (daysL L d) hI hN hW1.2.2.2.2 fa31_0 fa31_5) gX7_days_X7_note rfl ⟨rfl, rfl⟩ (by decide +kernel) ⟨Nat.le_of_ble_eq_true rfl, Nat.le_of_ble_eq_true rfl⟩ ⟨Nat.zero_le _, Nat.zero_le _⟩ rfl (by omega) fa31_0 rfl hl rfl (Nat.le_of_ble_eq_true rfl) dX7_days_37 (fun w5 H locs q6 hW => ?_)
          obtain ⟨h8, f9⟩ := q6
          refine lv_aload_n C.1 C.2.1 dX7_days_40 rfl (lv_at hl 1 rfl) ?_
          have h10 : w5 119 = .inr (7, [.ref (gad g 120), .ref (gad g 121), .ref (gad g 122), .int (nI tn), .ref (gad g 123), .int (nI po), .int nu, .ref (gad g 124), .ref (gad g 125), .ref (gad g 126), .ref (gad g 127), .int (nI hk), .ref (gad g 128), .ref (gad g 129), .long (lN ao), .long (lN mu), .long (lN md), .long (lN bu), .long (lN bd)]) := ((f9 119 (by omega)).trans fa31_0)
          refine xget C hK hW hinX7 rfl (by omega) h10 7 (by decide) (List.mem_of_getElem? (i := 1) rfl) rfl dX7_days_41 ?_
          refine xcS_v (n := 1) (As := [.ref (gad g 124)]) C hK hW (c_X7_dayIn l g w5 124 (noteF (daysL L d)) hI hN (by omega) hW2.1 hW2.2.1 hW2.2.2.1 h8) gX7_days_X7_dayIn rfl ⟨rfl, rfl⟩ (by decide +kernel) ⟨Nat.le_of_ble_eq_true rfl, Nat.le_of_ble_eq_true rfl⟩ ⟨Nat.zero_le _, Nat.zero_le _⟩ rfl hl rfl (Nat.le_of_ble_eq_true rfl) dX7_days_44 (fun w11 H locs q12 hW => ?_)
          obtain ⟨h14, f15⟩ := q12
          have h16 : w11 124 = .inl (gI g, 177, .inl (cK 177 0 (daysL L (d + 1)))) := h14
          refine lv_iinc (v := nI (d + 1)) (lv' := [(2, .int (nI (d + 1))), (0, .ref (gad g 119)), (1, .int (nI k1))]) C.1 C.2.1 dX7_days_47 hl (k := 0) rfl (nI_add _ 1) (by decide) rfl (fun ls hl => ?_)
          refine lv_goto (tgt := 31) C.1 C.2.1 dX7_days_50 (by decide) ?_
          have h17 : w11 119 = .inr (7, [.ref (gad g 120), .ref (gad g 121), .ref (gad g 122), .int (nI tn), .ref (gad g 123), .int (nI po), .int nu, .ref (gad g 124), .ref (gad g 125), .ref (gad g 126), .ref (gad g 127), .int (nI hk), .ref (gad g 128), .ref (gad g 129), .long (lN ao), .long (lN mu), .long (lN md), .long (lN bu), .long (lN bd)]) := ((f15 119 (by omega)).trans h10)
          have h18 : w11 120 = .inl (gI g, 4, .inl (kK 0 4 0 (laF ln))) := ((f15 120 (by omega)).trans ((f9 120 (by omega)).trans fa31_1))
          have h19 : w11 121 = .inl (gI g, 4, .inl (cK 4 0 sz)) := ((f15 121 (by omega)).trans ((f9 121 (by omega)).trans fa31_2))
          have h20 : w11 122 = .inl (gJ g, 96, .inr (.inl (kK 0 96 0 Z))) := ((f15 122 (by omega)).trans ((f9 122 (by omega)).trans fa31_3))
          have h21 : w11 123 = .inl (gI g, 80, .inl (cK 80 0 T)) := ((f15 123 (by omega)).trans ((f9 123 (by omega)).trans fa31_4))
          have h22 : w11 125 = .inl (gI g, 177, .inl (cK 177 0 TR)) := ((f15 125 (by omega)).trans ((f9 125 (by omega)).trans fa31_6))
          have h23 : w11 126 = .inl (gI g, 177, .inl (cK 177 0 RD)) := ((f15 126 (by omega)).trans ((f9 126 (by omega)).trans fa31_7))
          have h24 : w11 127 = .inl (gI g, 177, .inl (cK 177 0 KP)) := ((f15 127 (by omega)).trans ((f9 127 (by omega)).trans fa31_8))
          have h25 : w11 128 = .inl (gJ g, 7, .inr (.inl (cL 7 0 O))) := ((f15 128 (by omega)).trans ((f9 128 (by omega)).trans fa31_9))
          have h26 : w11 129 = .inl (gJ g, 7, .inr (.inl (cL 7 0 A))) := ((f15 129 (by omega)).trans ((f9 129 (by omega)).trans fa31_10))
          exact ih31 (k1 - (d + 1)) (by omega) (d + 1) w11 _ _ _ rfl h17 h18 h19 h20 h21 h16 h22 h23 h24 h25 h26 (fun j z0 => ((f15 j (by omega)).trans ((f9 j (by omega)).trans (hfr31 j z0)))) (by omega) hW hl
      exact loop31 _ 0 w _ _ _ rfl m0 m1 m2 m3 m4 m5 m6 m7 m8 m10 m11 (fun j z0 => rfl) (by omega) hW hl
    · refine lv_bipush (v := (-3 : Int32)) C.1 C.2.1 dX7_days_26 (by decide) ?_
      exact xret_i C hr hlk hW ⟨(by rw [daysM, if_neg (c := okDays L x) (fun h => by have h2 := h.2; rw [hx_k1, cl_nI (by omega)] at h2; omega)]; exact ⟨_, _, _, _, _, _, _, _, _, _, _, _, m0, m1, m2, m3, m4, m5, m6, m7, m8, m9, m10, m11⟩), (fun j z0 => rfl), (by rw [daysS, if_pos (c := inR x (nI 1) (nI 40)) c7, hx_k1, cl_nI (by omega), if_neg (by omega)])⟩ dX7_days_28
  · refine lv_iconst (v := (-1 : Int32)) C.1 C.2.1 dX7_days_10 (by decide) ?_
    exact xret_i C hr hlk hW ⟨(by rw [daysM, if_neg (c := okDays L x) (fun h => c7 h.1)]; exact ⟨_, _, _, _, _, _, _, _, _, _, _, _, m0, m1, m2, m3, m4, m5, m6, m7, m8, m9, m10, m11⟩), (fun j z0 => rfl), (by rw [daysS, if_neg (c := inR x (nI 1) (nI 40)) c7])⟩ dX7_days_11
