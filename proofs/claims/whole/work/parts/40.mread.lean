/-! the reference: what is read -/
theorem eq_nI0 {y : Int32} (h : y = 0) : y = nI 0 := h.trans nI_0.symm

set_option maxHeartbeats 4000000 in
set_option maxRecDepth 100000 in
theorem c_X7_of (l : Launch) (g : GE) (w : Nat → va_E) (L K T ln sz : Nat → Nat) (hk tn : Nat) (Z : Nat → Int64) (x : Int32) (y : Int32) (hI : AdInj g) (hN : gN g = 130) (hS : OkS (L, K, hk, tn, T, ln, sz, Z)) (pr0 : MAll g (L, K, hk, tn, T, ln, sz, Z) w) : Met l yX7_of wsX7_of ({ frames := 2, cells := 0, slots := 0, locals := 46 } : Room) (XPc g w [.ref (gad g 119), .int x, .int y]) (XQi g (fun r w' => MAll g (L, K, hk, tn, T, ln, sz, Z) w' ∧ (∀ j : Nat, ¬ (119 ≤ j ∧ j < 130) → w' j = w j) ∧ r = ofS L x y)) 0 0 (gA g) := by
  refine xmet (cc := cX7_of) (maxL := 3) (ret := (some .int)) (by decide) rfl hI (Nat.le_of_ble_eq_true rfl) ?_
  intro pG eG sG mG belowG methG cG ls C hr hlk hK hW hl
  have hl : lv_has ls 3 [(0, .ref (gad g 119)), (1, .int x), (2, .int y)] := hl
  have hinX7 : ∀ x ∈ u_ws RX7 TX7 19, x ∈ wsX7_of := by decide +kernel
  obtain ⟨po, ao, mu, md, bu, bd, nu, TR, RD, KP, O, A, m0, m1, m2, m3, m4, m5, m6, m7, m8, m9, m10, m11⟩ := pr0
  have hokL : OkL L := hS.1
  obtain ⟨hok, hs2, hdy, hdr, hcl, hkn, hcs, hps⟩ := hokL
  have htn : tn ≤ 80 := hS.2.2.1
  have hlz : ∀ s, s < 4 → ln s ≤ 4 ∧ sz s ≤ 24 := hS.2.2.2.2
  have m0 : w 119 = .inr (7, [.ref (gad g 120), .ref (gad g 121), .ref (gad g 122), .int (nI tn), .ref (gad g 123), .int (nI po), .int nu, .ref (gad g 124), .ref (gad g 125), .ref (gad g 126), .ref (gad g 127), .int (nI hk), .ref (gad g 128), .ref (gad g 129), .long (lN ao), .long (lN mu), .long (lN md), .long (lN bu), .long (lN bd)]) := m0
  have m1 : w 120 = .inl (gI g, 4, .inl (kK 0 4 0 (laF ln))) := m1
  have m2 : w 121 = .inl (gI g, 4, .inl (cK 4 0 sz)) := m2
  have m3 : w 122 = .inl (gJ g, 96, .inr (.inl (kK 0 96 0 Z))) := m3
  have m4 : w 123 = .inl (gI g, 80, .inl (cK 80 0 T)) := m4
  have m5 : w 124 = .inl (gI g, 177, .inl (cK 177 0 L)) := m5
  have m9 : hk = 1 → KP = K := m9
  refine lv_iload_n C.1 C.2.1 dX7_of_0 rfl (lv_at hl 1 rfl) ?_
  refine xcS_i (n := 1) (As := [.int x]) C hK hW (c_X7_isField l g w x hI hN) gX7_of_X7_isField rfl ⟨rfl, rfl⟩ (by decide +kernel) ⟨Nat.le_of_ble_eq_true rfl, Nat.le_of_ble_eq_true rfl⟩ ⟨Nat.zero_le _, Nat.zero_le _⟩ rfl hl rfl (Nat.le_of_ble_eq_true rfl) dX7_of_1 (fun r3 w1 H locs q2 hW => ?_)
  obtain ⟨qw4, rfl⟩ := q2
  rw [qw4] at hW
  refine xBne (tgt := 9) C dX7_of_4 (by decide) (fun c4 => ?_) (fun c4 => ?_)
  · obtain ⟨k1, ha_k1, hb_k1, hx_k1⟩ := inR_N (by omega) (by omega) c4
    rw [hx_k1] at hl
    refine lv_iload_n C.1 C.2.1 dX7_of_9 rfl (lv_at hl 2 rfl) ?_
    by_cases c5_0 : y = nI 0
    · refine lv_tableIn (off := 34) (tgt := 44) C.1 C.2.1 dX7_of_10 (by rw [c5_0]; decide) (by rw [c5_0]; decide) (by rw [c5_0]; decide) (by decide) ?_
      refine lv_aload_n C.1 C.2.1 dX7_of_44 rfl (lv_at hl 0 rfl) ?_
      refine xget C hK hW hinX7 rfl (by omega) m0 7 (by decide) (List.mem_of_getElem? (i := 1) rfl) rfl dX7_of_45 ?_
      refine lv_bipush (v := (nI 17)) C.1 C.2.1 dX7_of_48 (by decide) ?_
      refine lv_iload_n C.1 C.2.1 dX7_of_50 rfl (lv_at hl 1 rfl) ?_
      refine xadd C dX7_of_51 ?_
      refine xildK0 C hK hW (by omega) m5 (by omega) (by decide) dX7_of_52 ?_
      exact xret_i C hr hlk hW ⟨⟨_, _, _, _, _, _, _, _, _, _, _, _, m0, m1, m2, m3, m4, m5, m6, m7, m8, m9, m10, m11⟩, (fun j z0 => rfl), (by rw [ofS, if_pos (c := in6 x) c4, if_pos (c := y = nI 0) c5_0, hx_k1, cl_nI (by omega)])⟩ dX7_of_53
    · by_cases c5_1 : y = nI 1
      · refine lv_tableIn (off := 44) (tgt := 54) C.1 C.2.1 dX7_of_10 (by rw [c5_1]; decide) (by rw [c5_1]; decide) (by rw [c5_1]; decide) (by decide) ?_
        refine lv_aload_n C.1 C.2.1 dX7_of_54 rfl (lv_at hl 0 rfl) ?_
        refine xget C hK hW hinX7 rfl (by omega) m0 7 (by decide) (List.mem_of_getElem? (i := 1) rfl) rfl dX7_of_55 ?_
        refine lv_iconst (v := (nI 3)) C.1 C.2.1 dX7_of_58 (by decide) ?_
        refine lv_iload_n C.1 C.2.1 dX7_of_59 rfl (lv_at hl 1 rfl) ?_
        refine xadd C dX7_of_60 ?_
        refine xildK0 C hK hW (by omega) m5 (by omega) (by decide) dX7_of_61 ?_
        exact xret_i C hr hlk hW ⟨⟨_, _, _, _, _, _, _, _, _, _, _, _, m0, m1, m2, m3, m4, m5, m6, m7, m8, m9, m10, m11⟩, (fun j z0 => rfl), (by rw [ofS, if_pos (c := in6 x) c4, if_neg (c := y = nI 0) c5_0, if_pos (c := y = nI 1) c5_1, hx_k1, cl_nI (by omega)])⟩ dX7_of_62
      · by_cases c5_2 : y = nI 2
        · refine lv_tableIn (off := 53) (tgt := 63) C.1 C.2.1 dX7_of_10 (by rw [c5_2]; decide) (by rw [c5_2]; decide) (by rw [c5_2]; decide) (by decide) ?_
          refine lv_aload_n C.1 C.2.1 dX7_of_63 rfl (lv_at hl 0 rfl) ?_
          refine xget C hK hW hinX7 rfl (by omega) m0 7 (by decide) (List.mem_of_getElem? (i := 1) rfl) rfl dX7_of_64 ?_
          refine lv_bipush (v := (nI 10)) C.1 C.2.1 dX7_of_67 (by decide) ?_
          refine lv_iload_n C.1 C.2.1 dX7_of_69 rfl (lv_at hl 1 rfl) ?_
          refine xadd C dX7_of_70 ?_
          refine xildK0 C hK hW (by omega) m5 (by omega) (by decide) dX7_of_71 ?_
          exact xret_i C hr hlk hW ⟨⟨_, _, _, _, _, _, _, _, _, _, _, _, m0, m1, m2, m3, m4, m5, m6, m7, m8, m9, m10, m11⟩, (fun j z0 => rfl), (by rw [ofS, if_pos (c := in6 x) c4, if_neg (c := y = nI 0) c5_0, if_neg (c := y = nI 1) c5_1, if_pos (c := y = nI 2) c5_2, hx_k1, cl_nI (by omega)])⟩ dX7_of_72
        · by_cases c5_3 : y = nI 3
          · refine lv_tableIn (off := 63) (tgt := 73) C.1 C.2.1 dX7_of_10 (by rw [c5_3]; decide) (by rw [c5_3]; decide) (by rw [c5_3]; decide) (by decide) ?_
            refine lv_aload_n C.1 C.2.1 dX7_of_73 rfl (lv_at hl 0 rfl) ?_
            refine xget C hK hW hinX7 rfl (by omega) m0 7 (by decide) (List.mem_of_getElem? (i := 1) rfl) rfl dX7_of_74 ?_
            refine lv_iload_n C.1 C.2.1 dX7_of_77 rfl (lv_at hl 1 rfl) ?_
            refine xcS_i (n := 2) (As := [.ref (gad g 124), .int (nI k1)]) C hK hW (c_X7_onOf l g w 124 k1 L hI hN (by omega) (by omega) hok m5) gX7_of_X7_onOf rfl ⟨rfl, rfl⟩ (by decide +kernel) ⟨Nat.le_of_ble_eq_true rfl, Nat.le_of_ble_eq_true rfl⟩ ⟨Nat.zero_le _, Nat.zero_le _⟩ rfl hl rfl (Nat.le_of_ble_eq_true rfl) dX7_of_78 (fun r8 w6 H locs q7 hW => ?_)
            obtain ⟨qw9, rfl⟩ := q7
            rw [qw9] at hW
            exact xret_i C hr hlk hW ⟨⟨_, _, _, _, _, _, _, _, _, _, _, _, m0, m1, m2, m3, m4, m5, m6, m7, m8, m9, m10, m11⟩, (fun j z0 => rfl), (by rw [ofS, if_pos (c := in6 x) c4, if_neg (c := y = nI 0) c5_0, if_neg (c := y = nI 1) c5_1, if_neg (c := y = nI 2) c5_2, if_pos (c := y = nI 3) c5_3, hx_k1, cl_nI (by omega)])⟩ dX7_of_81
          · by_cases c5_4 : y = nI 4
            · refine lv_tableIn (off := 72) (tgt := 82) C.1 C.2.1 dX7_of_10 (by rw [c5_4]; decide) (by rw [c5_4]; decide) (by rw [c5_4]; decide) (by decide) ?_
              refine lv_aload_n C.1 C.2.1 dX7_of_82 rfl (lv_at hl 0 rfl) ?_
              refine xget C hK hW hinX7 rfl (by omega) m0 7 (by decide) (List.mem_of_getElem? (i := 1) rfl) rfl dX7_of_83 ?_
              refine lv_iload_n C.1 C.2.1 dX7_of_86 rfl (lv_at hl 1 rfl) ?_
              refine xcS_i (n := 2) (As := [.ref (gad g 124), .int (nI k1)]) C hK hW (c_X7_backOf l g w 124 k1 L hI hN (by omega) (by omega) hok m5) gX7_of_X7_backOf rfl ⟨rfl, rfl⟩ (by decide +kernel) ⟨Nat.le_of_ble_eq_true rfl, Nat.le_of_ble_eq_true rfl⟩ ⟨Nat.zero_le _, Nat.zero_le _⟩ rfl hl rfl (Nat.le_of_ble_eq_true rfl) dX7_of_87 (fun r12 w10 H locs q11 hW => ?_)
              obtain ⟨qw13, rfl⟩ := q11
              rw [qw13] at hW
              exact xret_i C hr hlk hW ⟨⟨_, _, _, _, _, _, _, _, _, _, _, _, m0, m1, m2, m3, m4, m5, m6, m7, m8, m9, m10, m11⟩, (fun j z0 => rfl), (by rw [ofS, if_pos (c := in6 x) c4, if_neg (c := y = nI 0) c5_0, if_neg (c := y = nI 1) c5_1, if_neg (c := y = nI 2) c5_2, if_neg (c := y = nI 3) c5_3, if_pos (c := y = nI 4) c5_4, hx_k1, cl_nI (by omega)])⟩ dX7_of_90
            · refine lv_tableOut (tgt := 91) C.1 C.2.1 dX7_of_10 (by exact sw_out5 c5_0 c5_1 c5_2 c5_3 c5_4) (by decide) ?_
              refine lv_iconst (v := (-1 : Int32)) C.1 C.2.1 dX7_of_91 (by decide) ?_
              exact xret_i C hr hlk hW ⟨⟨_, _, _, _, _, _, _, _, _, _, _, _, m0, m1, m2, m3, m4, m5, m6, m7, m8, m9, m10, m11⟩, (fun j z0 => rfl), (by rw [ofS, if_pos (c := in6 x) c4, if_neg (c := y = nI 0) c5_0, if_neg (c := y = nI 1) c5_1, if_neg (c := y = nI 2) c5_2, if_neg (c := y = nI 3) c5_3, if_neg (c := y = nI 4) c5_4])⟩ dX7_of_92
  · refine lv_iconst (v := (-1 : Int32)) C.1 C.2.1 dX7_of_7 (by decide) ?_
    exact xret_i C hr hlk hW ⟨⟨_, _, _, _, _, _, _, _, _, _, _, _, m0, m1, m2, m3, m4, m5, m6, m7, m8, m9, m10, m11⟩, (fun j z0 => rfl), (by rw [ofS, if_neg (c := in6 x) c4])⟩ dX7_of_8

set_option maxHeartbeats 4000000 in
set_option maxRecDepth 100000 in
theorem c_X7_at (l : Launch) (g : GE) (w : Nat → va_E) (L K T ln sz : Nat → Nat) (hk tn : Nat) (Z : Nat → Int64) (x : Int32) (y : Int32) (hI : AdInj g) (hN : gN g = 130) (hS : OkS (L, K, hk, tn, T, ln, sz, Z)) (pr0 : MAll g (L, K, hk, tn, T, ln, sz, Z) w) : Met l yX7_at wsX7_at ({ frames := 2, cells := 0, slots := 0, locals := 43 } : Room) (XPc g w [.ref (gad g 119), .int x, .int y]) (XQi g (fun r w' => MAll g (L, K, hk, tn, T, ln, sz, Z) w' ∧ (∀ j : Nat, ¬ (119 ≤ j ∧ j < 130) → w' j = w j) ∧ r = atS L x y)) 0 0 (gA g) := by
  refine xmet (cc := cX7_at) (maxL := 3) (ret := (some .int)) (by decide) rfl hI (Nat.le_of_ble_eq_true rfl) ?_
  intro pG eG sG mG belowG methG cG ls C hr hlk hK hW hl
  have hl : lv_has ls 3 [(0, .ref (gad g 119)), (1, .int x), (2, .int y)] := hl
  have hinX7 : ∀ x ∈ u_ws RX7 TX7 19, x ∈ wsX7_at := by decide +kernel
  obtain ⟨po, ao, mu, md, bu, bd, nu, TR, RD, KP, O, A, m0, m1, m2, m3, m4, m5, m6, m7, m8, m9, m10, m11⟩ := pr0
  have hokL : OkL L := hS.1
  obtain ⟨hok, hs2, hdy, hdr, hcl, hkn, hcs, hps⟩ := hokL
  have htn : tn ≤ 80 := hS.2.2.1
  have hlz : ∀ s, s < 4 → ln s ≤ 4 ∧ sz s ≤ 24 := hS.2.2.2.2
  have m0 : w 119 = .inr (7, [.ref (gad g 120), .ref (gad g 121), .ref (gad g 122), .int (nI tn), .ref (gad g 123), .int (nI po), .int nu, .ref (gad g 124), .ref (gad g 125), .ref (gad g 126), .ref (gad g 127), .int (nI hk), .ref (gad g 128), .ref (gad g 129), .long (lN ao), .long (lN mu), .long (lN md), .long (lN bu), .long (lN bd)]) := m0
  have m1 : w 120 = .inl (gI g, 4, .inl (kK 0 4 0 (laF ln))) := m1
  have m2 : w 121 = .inl (gI g, 4, .inl (cK 4 0 sz)) := m2
  have m3 : w 122 = .inl (gJ g, 96, .inr (.inl (kK 0 96 0 Z))) := m3
  have m4 : w 123 = .inl (gI g, 80, .inl (cK 80 0 T)) := m4
  have m5 : w 124 = .inl (gI g, 177, .inl (cK 177 0 L)) := m5
  have m9 : hk = 1 → KP = K := m9
  refine lv_aload_n C.1 C.2.1 dX7_at_0 rfl (lv_at hl 0 rfl) ?_
  refine lv_iload_n C.1 C.2.1 dX7_at_1 rfl (lv_at hl 1 rfl) ?_
  refine xcV_i (n := 1) (As := [.int x]) C hK hW (c_X7_isClaim l g w x hk tn po nu ao mu md bu bd L hI hN m0 m5) gX7_at_X7_isClaim rfl ⟨rfl, rfl⟩ (by decide +kernel) ⟨Nat.le_of_ble_eq_true rfl, Nat.le_of_ble_eq_true rfl⟩ ⟨Nat.zero_le _, Nat.zero_le _⟩ rfl (by omega) m0 rfl hl rfl (Nat.le_of_ble_eq_true rfl) dX7_at_2 (fun r3 w1 H locs q2 hW => ?_)
  obtain ⟨qw4, rfl⟩ := q2
  rw [qw4] at hW
  refine xBne (tgt := 10) C dX7_at_5 (by decide) (fun c5 => ?_) (fun c5 => ?_)
  · obtain ⟨k1, hb_k1, hx_k1⟩ := inR_claim hcl c5
    rw [hx_k1] at hl
    refine lv_iload_n C.1 C.2.1 dX7_at_10 rfl (lv_at hl 2 rfl) ?_
    refine lv_if_ne (tgt := 26) C.1 C.2.1 dX7_at_11 (by decide) (fun c11 => ?_) (fun c11 => ?_)
    · refine lv_iload_n C.1 C.2.1 dX7_at_26 rfl (lv_at hl 2 rfl) ?_
      refine lv_iconst (v := (nI 1)) C.1 C.2.1 dX7_at_27 (by decide) ?_
      refine lv_icmp_ne (tgt := 43) C.1 C.2.1 dX7_at_28 (by decide) (fun c28 => ?_) (fun c28 => ?_)
      · refine lv_iload_n C.1 C.2.1 dX7_at_43 rfl (lv_at hl 2 rfl) ?_
        refine lv_iconst (v := (nI 2)) C.1 C.2.1 dX7_at_44 (by decide) ?_
        refine lv_icmp_ne (tgt := 60) C.1 C.2.1 dX7_at_45 (by decide) (fun c45 => ?_) (fun c45 => ?_)
        · refine lv_iconst (v := (-1 : Int32)) C.1 C.2.1 dX7_at_60 (by decide) ?_
          exact xret_i C hr hlk hW ⟨⟨_, _, _, _, _, _, _, _, _, _, _, _, m0, m1, m2, m3, m4, m5, m6, m7, m8, m9, m10, m11⟩, (fun j z0 => rfl), (by rw [atS, if_pos (c := inR x (nI 0) (nI (L 24) - nI 1)) c5, if_neg (c := y = nI 0) (fun z => c11 (z.trans nI_0)), if_neg (c := y = nI 1) c28, if_neg (c := y = nI 2) c45])⟩ dX7_at_61
        · refine lv_aload_n C.1 C.2.1 dX7_at_48 rfl (lv_at hl 0 rfl) ?_
          refine xget C hK hW hinX7 rfl (by omega) m0 7 (by decide) (List.mem_of_getElem? (i := 1) rfl) rfl dX7_at_49 ?_
          refine lv_bipush (v := (nI 35)) C.1 C.2.1 dX7_at_52 (by decide) ?_
          refine lv_iload_n C.1 C.2.1 dX7_at_54 rfl (lv_at hl 1 rfl) ?_
          refine xadd C dX7_at_55 ?_
          refine xildK0 C hK hW (by omega) m5 (by omega) (by decide) dX7_at_56 ?_
          refine lv_goto (tgt := 61) C.1 C.2.1 dX7_at_57 (by decide) ?_
          exact xret_i C hr hlk hW ⟨⟨_, _, _, _, _, _, _, _, _, _, _, _, m0, m1, m2, m3, m4, m5, m6, m7, m8, m9, m10, m11⟩, (fun j z0 => rfl), (by rw [atS, if_pos (c := inR x (nI 0) (nI (L 24) - nI 1)) c5, if_neg (c := y = nI 0) (fun z => c11 (z.trans nI_0)), if_neg (c := y = nI 1) c28, if_pos (c := y = nI 2) (by first | exact c45 | exact Decidable.not_not.mp c45), hx_k1, cl_nI (by omega)])⟩ dX7_at_61
      · refine lv_aload_n C.1 C.2.1 dX7_at_31 rfl (lv_at hl 0 rfl) ?_
        refine xget C hK hW hinX7 rfl (by omega) m0 7 (by decide) (List.mem_of_getElem? (i := 1) rfl) rfl dX7_at_32 ?_
        refine lv_bipush (v := (nI 30)) C.1 C.2.1 dX7_at_35 (by decide) ?_
        refine lv_iload_n C.1 C.2.1 dX7_at_37 rfl (lv_at hl 1 rfl) ?_
        refine xadd C dX7_at_38 ?_
        refine xildK0 C hK hW (by omega) m5 (by omega) (by decide) dX7_at_39 ?_
        refine lv_goto (tgt := 61) C.1 C.2.1 dX7_at_40 (by decide) ?_
        exact xret_i C hr hlk hW ⟨⟨_, _, _, _, _, _, _, _, _, _, _, _, m0, m1, m2, m3, m4, m5, m6, m7, m8, m9, m10, m11⟩, (fun j z0 => rfl), (by rw [atS, if_pos (c := inR x (nI 0) (nI (L 24) - nI 1)) c5, if_neg (c := y = nI 0) (fun z => c11 (z.trans nI_0)), if_pos (c := y = nI 1) (by first | exact c28 | exact Decidable.not_not.mp c28), hx_k1, cl_nI (by omega)])⟩ dX7_at_61
    · refine lv_aload_n C.1 C.2.1 dX7_at_14 rfl (lv_at hl 0 rfl) ?_
      refine xget C hK hW hinX7 rfl (by omega) m0 7 (by decide) (List.mem_of_getElem? (i := 1) rfl) rfl dX7_at_15 ?_
      refine lv_bipush (v := (nI 25)) C.1 C.2.1 dX7_at_18 (by decide) ?_
      refine lv_iload_n C.1 C.2.1 dX7_at_20 rfl (lv_at hl 1 rfl) ?_
      refine xadd C dX7_at_21 ?_
      refine xildK0 C hK hW (by omega) m5 (by omega) (by decide) dX7_at_22 ?_
      refine lv_goto (tgt := 61) C.1 C.2.1 dX7_at_23 (by decide) ?_
      exact xret_i C hr hlk hW ⟨⟨_, _, _, _, _, _, _, _, _, _, _, _, m0, m1, m2, m3, m4, m5, m6, m7, m8, m9, m10, m11⟩, (fun j z0 => rfl), (by rw [atS, if_pos (c := inR x (nI 0) (nI (L 24) - nI 1)) c5, if_pos (c := y = nI 0) (eq_nI0 (by first | exact c11 | exact Decidable.not_not.mp c11)), hx_k1, cl_nI (by omega)])⟩ dX7_at_61
  · refine lv_iconst (v := (-1 : Int32)) C.1 C.2.1 dX7_at_8 (by decide) ?_
    exact xret_i C hr hlk hW ⟨⟨_, _, _, _, _, _, _, _, _, _, _, _, m0, m1, m2, m3, m4, m5, m6, m7, m8, m9, m10, m11⟩, (fun j z0 => rfl), (by rw [atS, if_neg (c := inR x (nI 0) (nI (L 24) - nI 1)) c5])⟩ dX7_at_9

set_option maxHeartbeats 4000000 in
set_option maxRecDepth 100000 in
theorem c_X7_sumOf (l : Launch) (g : GE) (w : Nat → va_E) (i o : Nat) (M : Nat → Nat) (hI : AdInj g) (hN : gN g = 130) (hi : i < 130) (ho : o + 7 ≤ 177) (pr0 : w i = .inl (gI g, 177, .inl (cK 177 0 M))) : Met l yX7_sumOf wsX7_sumOf ({ frames := 0, cells := 0, slots := 0, locals := 0 } : Room) (XPc g w [.ref (gad g i), .int (nI o)]) (XQi g (fun r w' => w' = w ∧ r = (nI (sumO M o 7)))) 0 0 (gA g) := by
  refine xmet (cc := cX7_sumOf) (maxL := 4) (ret := (some .int)) (by decide) rfl hI (Nat.le_of_ble_eq_true rfl) ?_
  intro pG eG sG mG belowG methG cG ls C hr hlk hK hW hl
  have hl : lv_has ls 4 [(0, .ref (gad g i)), (1, .int (nI o))] := hl
  refine lv_iconst (v := (nI 0)) C.1 C.2.1 dX7_sumOf_0 (by decide) ?_
  refine lv_istore_n (lv' := [(2, .int (nI 0)), (0, .ref (gad g i)), (1, .int (nI o))]) C.1 C.2.1 dX7_sumOf_1 rfl hl (by decide) rfl (fun ls hl => ?_)
  refine lv_iconst (v := (nI 0)) C.1 C.2.1 dX7_sumOf_2 (by decide) ?_
  refine lv_istore_n (lv' := [(3, .int (nI 0)), (2, .int (nI 0)), (0, .ref (gad g i)), (1, .int (nI o))]) C.1 C.2.1 dX7_sumOf_3 rfl hl (by decide) rfl (fun ls hl => ?_)
  have loop4 : ∀ (kG : Nat) (j : Nat) (H : Heap) (locs : List Loc) (ls : Array Slot), kG = 7 - j → (j ≤ 7) → XW g w (gA g) sG.heap H locs → lv_has ls 4 [(3, .int (nI j)), (2, .int (nI (sumO M o j))), (0, .ref (gad g i)), (1, .int (nI o))] → W pG l eG ({ frames := 0, cells := 0, slots := 0, locals := 0 } : Room) sG mG ([.ref (gad g i), .int (nI o)] : List Value).toArray belowG methG cG H locs 0 0 (MQ belowG (XQi g (fun r w' => w' = w ∧ r = (nI (sumO M o 7)))) ([.ref (gad g i), .int (nI o)] : List Value).toArray sG 0 0 (gA g)) (F0 mG 4 ls []) := by
    intro k4
    induction k4 using Nat.strongRecOn with
    | _ k4 ih4 =>
    intro j H locs ls hk4 hj hW hl
    refine lv_iload_n C.1 C.2.1 dX7_sumOf_4 rfl (lv_at hl 0 rfl) ?_
    refine lv_bipush (v := (nI 7)) C.1 C.2.1 dX7_sumOf_5 (by decide) ?_
    refine xge (tgt := 24) C (by omega) (by omega) dX7_sumOf_7 (by decide) (fun c7 => ?_) (fun c7 => ?_)
    · refine lv_iload_n C.1 C.2.1 dX7_sumOf_24 rfl (lv_at hl 1 rfl) ?_
      exact xret_i C hr hlk hW ⟨rfl, by rw [show j = 7 by omega]⟩ dX7_sumOf_25
    · refine lv_iload_n C.1 C.2.1 dX7_sumOf_10 rfl (lv_at hl 1 rfl) ?_
      refine lv_aload_n C.1 C.2.1 dX7_sumOf_11 rfl (lv_at hl 2 rfl) ?_
      refine lv_iload_n C.1 C.2.1 dX7_sumOf_12 rfl (lv_at hl 3 rfl) ?_
      refine lv_iload_n C.1 C.2.1 dX7_sumOf_13 rfl (lv_at hl 0 rfl) ?_
      refine xadd C dX7_sumOf_14 ?_
      refine xildK0 C hK hW (by omega) pr0 (by omega) (by decide) dX7_sumOf_15 ?_
      refine xadd C dX7_sumOf_16 ?_
      refine lv_istore_n (lv' := [(2, .int (nI ((sumO M o j) + (M (o + j))))), (3, .int (nI j)), (0, .ref (gad g i)), (1, .int (nI o))]) C.1 C.2.1 dX7_sumOf_17 rfl hl (by decide) rfl (fun ls hl => ?_)
      refine lv_iinc (v := nI (j + 1)) (lv' := [(3, .int (nI (j + 1))), (2, .int (nI ((sumO M o j) + (M (o + j))))), (0, .ref (gad g i)), (1, .int (nI o))]) C.1 C.2.1 dX7_sumOf_18 hl (k := 1) rfl (nI_add _ 1) (by decide) rfl (fun ls hl => ?_)
      refine lv_goto (tgt := 4) C.1 C.2.1 dX7_sumOf_21 (by decide) ?_
      exact ih4 (7 - (j + 1)) (by omega) (j + 1) _ _ _ rfl (by omega) hW hl
  exact loop4 _ 0 _ _ _ rfl (by omega) hW hl

set_option maxHeartbeats 4000000 in
set_option maxRecDepth 100000 in
theorem c_X7_isPart (l : Launch) (g : GE) (w : Nat → va_E) (le : Nat) (i n : Int32) (hI : AdInj g) (hN : gN g = 130) : Met l yX7_isPart wsX7_isPart ({ frames := 0, cells := 0, slots := 0, locals := 0 } : Room) (XPc g w [.int i, .int n, .int (nI le)]) (XQi g (fun r w' => w' = w ∧ r = (bI (isPt i n le)))) 0 0 (gA g) := by
  refine xmet (cc := cX7_isPart) (maxL := 3) (ret := (some .boolean)) (by decide) rfl hI (Nat.le_of_ble_eq_true rfl) ?_
  intro pG eG sG mG belowG methG cG ls C hr hlk hK hW hl
  have hl : lv_has ls 3 [(0, .int i), (1, .int n), (2, .int (nI le))] := hl
  refine lv_iload_n C.1 C.2.1 dX7_isPart_0 rfl (lv_at hl 1 rfl) ?_
  refine lv_if_lt (tgt := 24) C.1 C.2.1 dX7_isPart_1 (by decide) (fun c1 => ?_) (fun c1 => ?_)
  · refine lv_iconst (v := (nI 0)) C.1 C.2.1 dX7_isPart_24 (by decide) ?_
    exact xret_z C hr hlk hW rfl ⟨rfl, (bI_f (P := isPt i n le) (fun z => z.1 c1)).symm⟩ dX7_isPart_25
  · refine lv_iload_n C.1 C.2.1 dX7_isPart_4 rfl (lv_at hl 0 rfl) ?_
    refine lv_if_lt (tgt := 24) C.1 C.2.1 dX7_isPart_5 (by decide) (fun c5 => ?_) (fun c5 => ?_)
    · refine lv_iconst (v := (nI 0)) C.1 C.2.1 dX7_isPart_24 (by decide) ?_
      exact xret_z C hr hlk hW rfl ⟨rfl, (bI_f (P := isPt i n le) (fun z => z.2.2.1 c5)).symm⟩ dX7_isPart_25
    · refine lv_iload_n C.1 C.2.1 dX7_isPart_8 rfl (lv_at hl 1 rfl) ?_
      refine lv_iload_n C.1 C.2.1 dX7_isPart_9 rfl (lv_at hl 2 rfl) ?_
      refine lv_icmp_gt (tgt := 24) C.1 C.2.1 dX7_isPart_10 (by decide) (fun c10 => ?_) (fun c10 => ?_)
      · refine lv_iconst (v := (nI 0)) C.1 C.2.1 dX7_isPart_24 (by decide) ?_
        exact xret_z C hr hlk hW rfl ⟨rfl, (bI_f (P := isPt i n le) (fun z => absurd z.2.1 (Int32.not_le.mpr c10))).symm⟩ dX7_isPart_25
      · refine lv_iload_n C.1 C.2.1 dX7_isPart_13 rfl (lv_at hl 0 rfl) ?_
        refine lv_iload_n C.1 C.2.1 dX7_isPart_14 rfl (lv_at hl 2 rfl) ?_
        refine lv_iload_n C.1 C.2.1 dX7_isPart_15 rfl (lv_at hl 1 rfl) ?_
        refine lv_isub C.1 C.2.1 dX7_isPart_16 ?_
        refine lv_icmp_gt (tgt := 24) C.1 C.2.1 dX7_isPart_17 (by decide) (fun c17 => ?_) (fun c17 => ?_)
        · refine lv_iconst (v := (nI 0)) C.1 C.2.1 dX7_isPart_24 (by decide) ?_
          exact xret_z C hr hlk hW rfl ⟨rfl, (bI_f (P := isPt i n le) (fun z => absurd z.2.2.2 (Int32.not_le.mpr c17))).symm⟩ dX7_isPart_25
        · refine lv_iconst (v := (nI 1)) C.1 C.2.1 dX7_isPart_20 (by decide) ?_
          refine lv_goto (tgt := 25) C.1 C.2.1 dX7_isPart_21 (by decide) ?_
          exact xret_z C hr hlk hW rfl ⟨rfl, (bI_t (P := isPt i n le) ⟨c1, Int32.not_lt.mp c10, c5, Int32.not_lt.mp c17⟩).symm⟩ dX7_isPart_25
