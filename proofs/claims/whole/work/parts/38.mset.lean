/-! the reference: what is set -/
theorem cK_cp {n : Nat} {A B : Nat → Nat} : cK n 0 (cpF 0 0 n A B) = cK n 0 A := cK_congr (fun j hj => by
  rw [cpF_in (by omega), Nat.zero_add, Nat.zero_add, Nat.sub_zero])

set_option maxHeartbeats 4000000 in
set_option maxRecDepth 100000 in
theorem c_X7_seed (l : Launch) (g : GE) (w : Nat → va_E) (L K T ln sz : Nat → Nat) (hk tn : Nat) (Z : Nat → Int64) (x : Int32) (hI : AdInj g) (hN : gN g = 130) (hS : OkS (L, K, hk, tn, T, ln, sz, Z)) (pr0 : MAll g (L, K, hk, tn, T, ln, sz, Z) w) : Met l yX7_seed wsX7_seed ({ frames := 0, cells := 0, slots := 0, locals := 0 } : Room) (XPc g w [.ref (gad g 119), .int x]) (XQi g (fun r w' => MAll g (seedL L x, K, hk, tn, T, ln, sz, Z) w' ∧ (∀ j : Nat, ¬ (119 ≤ j ∧ j < 130) → w' j = w j) ∧ r = seedS L x)) 0 0 (gA g) := by
  refine xmet (cc := cX7_seed) (maxL := 3) (ret := (some .int)) (by decide) rfl hI (Nat.le_of_ble_eq_true rfl) ?_
  intro pG eG sG mG belowG methG cG ls C hr hlk hK hW hl
  have hl : lv_has ls 3 [(0, .ref (gad g 119)), (1, .int x)] := hl
  have hinX7 : ∀ x ∈ u_ws RX7 TX7 19, x ∈ wsX7_seed := by decide +kernel
  obtain ⟨po, ao, mu, md, bu, bd, nu, TR, RD, KP, O, A, m0, m1, m2, m3, m4, m5, m6, m7, m8, m9, m10, m11⟩ := pr0
  have hokL : OkL L := hS.1
  obtain ⟨hok, hs2, hdy, hdr, hcl, hkn, hcs, hps⟩ := hokL
  have htn : tn ≤ 80 := hS.2.2.1
  have hlz : ∀ s, s < 4 → ln s ≤ 4 ∧ sz s ≤ 24 := hS.2.2.2.2
  have m0 : w 119 = .inr (7, [.ref (gad g 120), .ref (gad g 121), .ref (gad g 122), .int (nI tn), .ref (gad g 123), .int (nI po), .int nu, .ref (gad g 124), .ref (gad g 125), .ref (gad g 126), .ref (gad g 127), .int (nI hk), .ref (gad g 128), .ref (gad g 129), .long (lN ao), .long (lN mu), .long (lN md), .long (lN bu), .long (lN bd)]) := m0
  have m1 : w 120 = .inl (gI g, 4, .inl (kK 0 4 0 (laF ln))) := m1
  have m2 : w 121 = .inl (gI g, 4, .inl (cK 4 0 sz)) := m2
  have m3 : w 122 = .inl (gJ g, 96, .inr (.inl (kK 0 96 0 Z))) := m3
  have m4 : w 123 = .inl (gI g, 80, .inl (cK 80 0 T)) := m4
  have m5 : w 124 = .inl (gI g, 177, .inl (cK 177 0 L)) := m5
  have m9 : hk = 1 → KP = K := m9
  refine lv_iload_n C.1 C.2.1 dX7_seed_0 rfl (lv_at hl 1 rfl) ?_
  refine lv_if_ge (tgt := 6) C.1 C.2.1 dX7_seed_1 (by decide) (fun c1 => ?_) (fun c1 => ?_)
  · obtain ⟨k1, hb_k1, hx_k1⟩ := not_neg (nlt_of_ge c1)
    rw [hx_k1] at hl
    refine lv_aload_n C.1 C.2.1 dX7_seed_6 rfl (lv_at hl 0 rfl) ?_
    refine xget C hK hW hinX7 rfl (by omega) m0 7 (by decide) (List.mem_of_getElem? (i := 1) rfl) rfl dX7_seed_7 ?_
    refine lv_iconst (v := (nI 1)) C.1 C.2.1 dX7_seed_10 (by decide) ?_
    refine xildK0 C hK hW (by omega) m5 (by omega) (by decide) dX7_seed_11 ?_
    refine lv_istore_n (lv' := [(2, .int (nI (L 1))), (0, .ref (gad g 119)), (1, .int (nI k1))]) C.1 C.2.1 dX7_seed_12 rfl hl (by decide) rfl (fun ls hl => ?_)
    refine lv_aload_n C.1 C.2.1 dX7_seed_13 rfl (lv_at hl 1 rfl) ?_
    refine xget C hK hW hinX7 rfl (by omega) m0 7 (by decide) (List.mem_of_getElem? (i := 1) rfl) rfl dX7_seed_14 ?_
    refine lv_iconst (v := (nI 1)) C.1 C.2.1 dX7_seed_17 (by decide) ?_
    refine lv_iload_n C.1 C.2.1 dX7_seed_18 rfl (lv_at hl 2 rfl) ?_
    refine xistK0 (v := k1) C hK hW (by omega) m5 (by omega) (by decide) dX7_seed_19 (fun w1 H locs e2 f3 hW => ?_)
    refine lv_iload_n C.1 C.2.1 dX7_seed_20 rfl (lv_at hl 0 rfl) ?_
    have h4 : w1 119 = .inr (7, [.ref (gad g 120), .ref (gad g 121), .ref (gad g 122), .int (nI tn), .ref (gad g 123), .int (nI po), .int nu, .ref (gad g 124), .ref (gad g 125), .ref (gad g 126), .ref (gad g 127), .int (nI hk), .ref (gad g 128), .ref (gad g 129), .long (lN ao), .long (lN mu), .long (lN md), .long (lN bu), .long (lN bd)]) := ((f3 119 (by omega)).trans m0)
    have h5 : w1 120 = .inl (gI g, 4, .inl (kK 0 4 0 (laF ln))) := ((f3 120 (by omega)).trans m1)
    have h6 : w1 121 = .inl (gI g, 4, .inl (cK 4 0 sz)) := ((f3 121 (by omega)).trans m2)
    have h7 : w1 122 = .inl (gJ g, 96, .inr (.inl (kK 0 96 0 Z))) := ((f3 122 (by omega)).trans m3)
    have h8 : w1 123 = .inl (gI g, 80, .inl (cK 80 0 T)) := ((f3 123 (by omega)).trans m4)
    have h9 : w1 125 = .inl (gI g, 177, .inl (cK 177 0 TR)) := ((f3 125 (by omega)).trans m6)
    have h10 : w1 126 = .inl (gI g, 177, .inl (cK 177 0 RD)) := ((f3 126 (by omega)).trans m7)
    have h11 : w1 127 = .inl (gI g, 177, .inl (cK 177 0 KP)) := ((f3 127 (by omega)).trans m8)
    have h12 : w1 128 = .inl (gJ g, 7, .inr (.inl (cL 7 0 O))) := ((f3 128 (by omega)).trans m10)
    have h13 : w1 129 = .inl (gJ g, 7, .inr (.inl (cL 7 0 A))) := ((f3 129 (by omega)).trans m11)
    exact xret_i C hr hlk hW ⟨(by rw [seedL, if_neg (nlt_of_ge c1), hx_k1, cl_nI hb_k1]; exact ⟨_, _, _, _, _, _, _, _, _, _, _, _, h4, h5, h6, h7, h8, e2, h9, h10, h11, m9, h12, h13⟩), (fun j z0 => (f3 j (by omega))), (by rw [seedS, if_neg (nlt_of_ge c1)])⟩ dX7_seed_21
  · refine lv_iconst (v := (-1 : Int32)) C.1 C.2.1 dX7_seed_4 (by decide) ?_
    exact xret_i C hr hlk hW ⟨(by rw [seedL, if_pos (lt_of_nge c1)]; exact ⟨_, _, _, _, _, _, _, _, _, _, _, _, m0, m1, m2, m3, m4, m5, m6, m7, m8, m9, m10, m11⟩), (fun j z0 => rfl), (by rw [seedS, if_pos (lt_of_nge c1)])⟩ dX7_seed_5

set_option maxHeartbeats 4000000 in
set_option maxRecDepth 100000 in
theorem c_X7_type (l : Launch) (g : GE) (w : Nat → va_E) (L K T ln sz : Nat → Nat) (hk tn : Nat) (Z : Nat → Int64) (x : Int32) (hI : AdInj g) (hN : gN g = 130) (hS : OkS (L, K, hk, tn, T, ln, sz, Z)) (pr0 : MAll g (L, K, hk, tn, T, ln, sz, Z) w) : Met l yX7_type wsX7_type ({ frames := 1, cells := 0, slots := 0, locals := 22 } : Room) (XPc g w [.ref (gad g 119), .int x]) (XQi g (fun r w' => MAll g (L, K, hk, typeN tn x, typeT tn T x, ln, sz, Z) w' ∧ (∀ j : Nat, ¬ (119 ≤ j ∧ j < 130) → w' j = w j) ∧ r = typeS tn x)) 0 0 (gA g) := by
  refine xmet (cc := cX7_type) (maxL := 2) (ret := (some .int)) (by decide) rfl hI (Nat.le_of_ble_eq_true rfl) ?_
  intro pG eG sG mG belowG methG cG ls C hr hlk hK hW hl
  have hl : lv_has ls 2 [(0, .ref (gad g 119)), (1, .int x)] := hl
  have hinX7 : ∀ x ∈ u_ws RX7 TX7 19, x ∈ wsX7_type := by decide +kernel
  obtain ⟨po, ao, mu, md, bu, bd, nu, TR, RD, KP, O, A, m0, m1, m2, m3, m4, m5, m6, m7, m8, m9, m10, m11⟩ := pr0
  have hokL : OkL L := hS.1
  obtain ⟨hok, hs2, hdy, hdr, hcl, hkn, hcs, hps⟩ := hokL
  have htn : tn ≤ 80 := hS.2.2.1
  have hlz : ∀ s, s < 4 → ln s ≤ 4 ∧ sz s ≤ 24 := hS.2.2.2.2
  have m0 : w 119 = .inr (7, [.ref (gad g 120), .ref (gad g 121), .ref (gad g 122), .int (nI tn), .ref (gad g 123), .int (nI po), .int nu, .ref (gad g 124), .ref (gad g 125), .ref (gad g 126), .ref (gad g 127), .int (nI hk), .ref (gad g 128), .ref (gad g 129), .long (lN ao), .long (lN mu), .long (lN md), .long (lN bu), .long (lN bd)]) := m0
  have m1 : w 120 = .inl (gI g, 4, .inl (kK 0 4 0 (laF ln))) := m1
  have m2 : w 121 = .inl (gI g, 4, .inl (cK 4 0 sz)) := m2
  have m3 : w 122 = .inl (gJ g, 96, .inr (.inl (kK 0 96 0 Z))) := m3
  have m4 : w 123 = .inl (gI g, 80, .inl (cK 80 0 T)) := m4
  have m5 : w 124 = .inl (gI g, 177, .inl (cK 177 0 L)) := m5
  have m9 : hk = 1 → KP = K := m9
  refine lv_iload_n C.1 C.2.1 dX7_type_0 rfl (lv_at hl 1 rfl) ?_
  refine lv_bipush (v := (nI 32)) C.1 C.2.1 dX7_type_1 (by decide) ?_
  refine lv_bipush (v := (nI 126)) C.1 C.2.1 dX7_type_3 (by decide) ?_
  refine xcS_i (n := 3) (As := [.int x, .int (nI 32), .int (nI 126)]) C hK hW (c_X7_in l g w x (nI 32) (nI 126) hI hN) gX7_type_X7_in rfl ⟨rfl, rfl⟩ (by decide +kernel) ⟨Nat.le_of_ble_eq_true rfl, Nat.le_of_ble_eq_true rfl⟩ ⟨Nat.zero_le _, Nat.zero_le _⟩ rfl hl rfl (Nat.le_of_ble_eq_true rfl) dX7_type_5 (fun r3 w1 H locs q2 hW => ?_)
  obtain ⟨qw4, rfl⟩ := q2
  rw [qw4] at hW
  refine xBne (tgt := 13) C dX7_type_8 (by decide) (fun c8 => ?_) (fun c8 => ?_)
  · obtain ⟨k1, ha_k1, hb_k1, hx_k1⟩ := inR_N (by omega) (by omega) c8
    rw [hx_k1] at hl
    refine lv_aload_n C.1 C.2.1 dX7_type_13 rfl (lv_at hl 0 rfl) ?_
    refine xget C hK hW hinX7 rfl (by omega) m0 3 (by decide) (List.mem_of_getElem? (i := 1) rfl) rfl dX7_type_14 ?_
    refine lv_bipush (v := (nI 80)) C.1 C.2.1 dX7_type_17 (by decide) ?_
    refine xne (tgt := 25) C (by omega) (by omega) dX7_type_19 (by decide) (fun c19 => ?_) (fun c19 => ?_)
    · refine lv_aload_n C.1 C.2.1 dX7_type_25 rfl (lv_at hl 0 rfl) ?_
      refine xget C hK hW hinX7 rfl (by omega) m0 4 (by decide) (List.mem_of_getElem? (i := 2) rfl) rfl dX7_type_26 ?_
      refine lv_aload_n C.1 C.2.1 dX7_type_29 rfl (lv_at hl 0 rfl) ?_
      refine xget C hK hW hinX7 rfl (by omega) m0 3 (by decide) (List.mem_of_getElem? (i := 1) rfl) rfl dX7_type_30 ?_
      refine lv_iload_n C.1 C.2.1 dX7_type_33 rfl (lv_at hl 1 rfl) ?_
      refine xistK0 (v := k1) C hK hW (by omega) m4 (by omega) (by decide) dX7_type_34 (fun w5 H locs e6 f7 hW => ?_)
      refine lv_aload_n C.1 C.2.1 dX7_type_35 rfl (lv_at hl 0 rfl) ?_
      refine lv_dup C.1 C.2.1 dX7_type_36 rfl ?_
      have h8 : w5 119 = .inr (7, [.ref (gad g 120), .ref (gad g 121), .ref (gad g 122), .int (nI tn), .ref (gad g 123), .int (nI po), .int nu, .ref (gad g 124), .ref (gad g 125), .ref (gad g 126), .ref (gad g 127), .int (nI hk), .ref (gad g 128), .ref (gad g 129), .long (lN ao), .long (lN mu), .long (lN md), .long (lN bu), .long (lN bd)]) := ((f7 119 (by omega)).trans m0)
      refine xget C hK hW hinX7 rfl (by omega) h8 3 (by decide) (List.mem_of_getElem? (i := 1) rfl) rfl dX7_type_37 ?_
      refine lv_iconst (v := (nI 1)) C.1 C.2.1 dX7_type_40 (by decide) ?_
      refine xadd C dX7_type_41 ?_
      refine xput (v := .int (nI (tn + 1))) C hK hW hinX7 tyX7_ok nmX7 rfl (by omega) h8 3 (by decide) (List.mem_of_getElem? (i := 1) rfl) rfl rfl rfl (Nat.le_of_ble_eq_true rfl) dX7_type_42 (fun w9 H locs e10 f11 hW => ?_)
      refine lv_aload_n C.1 C.2.1 dX7_type_45 rfl (lv_at hl 0 rfl) ?_
      refine xget C hK hW hinX7 rfl (by omega) e10 3 (by decide) (List.mem_of_getElem? (i := 1) rfl) rfl dX7_type_46 ?_
      have h12 : w9 120 = .inl (gI g, 4, .inl (kK 0 4 0 (laF ln))) := ((f11 120 (by omega)).trans ((f7 120 (by omega)).trans m1))
      have h13 : w9 121 = .inl (gI g, 4, .inl (cK 4 0 sz)) := ((f11 121 (by omega)).trans ((f7 121 (by omega)).trans m2))
      have h14 : w9 122 = .inl (gJ g, 96, .inr (.inl (kK 0 96 0 Z))) := ((f11 122 (by omega)).trans ((f7 122 (by omega)).trans m3))
      have h15 : w9 123 = .inl (gI g, 80, .inl (cK 80 0 (va_up T tn k1))) := ((f11 123 (by omega)).trans e6)
      have h16 : w9 124 = .inl (gI g, 177, .inl (cK 177 0 L)) := ((f11 124 (by omega)).trans ((f7 124 (by omega)).trans m5))
      have h17 : w9 125 = .inl (gI g, 177, .inl (cK 177 0 TR)) := ((f11 125 (by omega)).trans ((f7 125 (by omega)).trans m6))
      have h18 : w9 126 = .inl (gI g, 177, .inl (cK 177 0 RD)) := ((f11 126 (by omega)).trans ((f7 126 (by omega)).trans m7))
      have h19 : w9 127 = .inl (gI g, 177, .inl (cK 177 0 KP)) := ((f11 127 (by omega)).trans ((f7 127 (by omega)).trans m8))
      have h20 : w9 128 = .inl (gJ g, 7, .inr (.inl (cL 7 0 O))) := ((f11 128 (by omega)).trans ((f7 128 (by omega)).trans m10))
      have h21 : w9 129 = .inl (gJ g, 7, .inr (.inl (cL 7 0 A))) := ((f11 129 (by omega)).trans ((f7 129 (by omega)).trans m11))
      exact xret_i C hr hlk hW ⟨(by rw [typeN, typeT, if_pos (c := okType x ∧ tn < 80) ⟨c8, by omega⟩, if_pos (c := okType x ∧ tn < 80) ⟨c8, by omega⟩, hx_k1, cl_nI (by omega)]; exact ⟨_, _, _, _, _, _, _, _, _, _, _, _, e10, h12, h13, h14, h15, h16, h17, h18, h19, m9, h20, h21⟩), (fun j z0 => ((f11 j (by omega)).trans (f7 j (by omega)))), (by rw [typeS, if_pos (c := okType x) c8, if_pos (by omega)])⟩ dX7_type_49
    · refine lv_bipush (v := (-3 : Int32)) C.1 C.2.1 dX7_type_22 (by decide) ?_
      exact xret_i C hr hlk hW ⟨(by rw [typeN, typeT, if_neg (c := okType x ∧ tn < 80) (fun h => absurd h.2 (by omega)), if_neg (c := okType x ∧ tn < 80) (fun h => absurd h.2 (by omega))]; exact ⟨_, _, _, _, _, _, _, _, _, _, _, _, m0, m1, m2, m3, m4, m5, m6, m7, m8, m9, m10, m11⟩), (fun j z0 => rfl), (by rw [typeS, if_pos (c := okType x) c8, if_neg (by omega)])⟩ dX7_type_24
  · refine lv_iconst (v := (-1 : Int32)) C.1 C.2.1 dX7_type_11 (by decide) ?_
    exact xret_i C hr hlk hW ⟨(by rw [typeN, typeT, if_neg (c := okType x ∧ tn < 80) (fun h => c8 h.1), if_neg (c := okType x ∧ tn < 80) (fun h => c8 h.1)]; exact ⟨_, _, _, _, _, _, _, _, _, _, _, _, m0, m1, m2, m3, m4, m5, m6, m7, m8, m9, m10, m11⟩), (fun j z0 => rfl), (by rw [typeS, if_neg (c := okType x) c8])⟩ dX7_type_12

set_option maxHeartbeats 4000000 in
set_option maxRecDepth 100000 in
theorem c_X7_field (l : Launch) (g : GE) (w : Nat → va_E) (L K T ln sz : Nat → Nat) (hk tn : Nat) (Z : Nat → Int64) (x : Int32) (y : Int32) (hI : AdInj g) (hN : gN g = 130) (hS : OkS (L, K, hk, tn, T, ln, sz, Z)) (pr0 : MAll g (L, K, hk, tn, T, ln, sz, Z) w) : Met l yX7_field wsX7_field ({ frames := 2, cells := 0, slots := 0, locals := 42 } : Room) (XPc g w [.ref (gad g 119), .int x, .int y]) (XQi g (fun r w' => MAll g (fieldL L x y, K, hk, tn, T, ln, sz, Z) w' ∧ (∀ j : Nat, ¬ (119 ≤ j ∧ j < 130) → w' j = w j) ∧ r = fieldS L x y)) 0 0 (gA g) := by
  refine xmet (cc := cX7_field) (maxL := 4) (ret := (some .int)) (by decide) rfl hI (Nat.le_of_ble_eq_true rfl) ?_
  intro pG eG sG mG belowG methG cG ls C hr hlk hK hW hl
  have hl : lv_has ls 4 [(0, .ref (gad g 119)), (1, .int x), (2, .int y)] := hl
  have hinX7 : ∀ x ∈ u_ws RX7 TX7 19, x ∈ wsX7_field := by decide +kernel
  obtain ⟨po, ao, mu, md, bu, bd, nu, TR, RD, KP, O, A, m0, m1, m2, m3, m4, m5, m6, m7, m8, m9, m10, m11⟩ := pr0
  have hokL : OkL L := hS.1
  obtain ⟨hok, hs2, hdy, hdr, hcl, hkn, hcs, hps⟩ := hokL
  have htn : tn ≤ 80 := hS.2.2.1
  have hlz : ∀ s, s < 4 → ln s ≤ 4 ∧ sz s ≤ 24 := hS.2.2.2.2
  have m0 : w 119 = .inr (7, [.ref (gad g 120), .ref (gad g 121), .ref (gad g 122), .int (nI tn), .ref (gad g 123), .int (nI po), .int nu, .ref (gad g 124), .ref (gad g 125), .ref (gad g 126), .ref (gad g 127), .int (nI hk), .ref (gad g 128), .ref (gad g 129), .long (lN ao), .long (lN mu), .long (lN md), .long (lN bu), .long (lN bd)]) := m0
  have m1 : w 120 = .inl (gI g, 4, .inl (kK 0 4 0 (laF ln))) := m1
  have m2 : w 121 = .inl (gI g, 4, .inl (cK 4 0 sz)) := m2
  have m3 : w 122 = .inl (gJ g, 96, .inr (.inl (kK 0 96 0 Z))) := m3
  have m4 : w 123 = .inl (gI g, 80, .inl (cK 80 0 T)) := m4
  have m5 : w 124 = .inl (gI g, 177, .inl (cK 177 0 L)) := m5
  have m9 : hk = 1 → KP = K := m9
  refine lv_iload_n C.1 C.2.1 dX7_field_0 rfl (lv_at hl 1 rfl) ?_
  refine xcS_i (n := 1) (As := [.int x]) C hK hW (c_X7_isField l g w x hI hN) gX7_field_X7_isField rfl ⟨rfl, rfl⟩ (by decide +kernel) ⟨Nat.le_of_ble_eq_true rfl, Nat.le_of_ble_eq_true rfl⟩ ⟨Nat.zero_le _, Nat.zero_le _⟩ rfl hl rfl (Nat.le_of_ble_eq_true rfl) dX7_field_1 (fun r3 w1 H locs q2 hW => ?_)
  obtain ⟨qw4, rfl⟩ := q2
  rw [qw4] at hW
  refine xBeq (tgt := 16) C dX7_field_4 (by decide) (fun c4 => ?_) (fun c4 => ?_)
  · refine lv_iconst (v := (-1 : Int32)) C.1 C.2.1 dX7_field_16 (by decide) ?_
    exact xret_i C hr hlk hW ⟨(by rw [fieldL, if_neg (c := okField x y) (fun h => c4 h.1)]; exact ⟨_, _, _, _, _, _, _, _, _, _, _, _, m0, m1, m2, m3, m4, m5, m6, m7, m8, m9, m10, m11⟩), (fun j z0 => rfl), (by rw [fieldS, if_neg (c := okField x y) (fun h => c4 h.1)])⟩ dX7_field_17
  · refine lv_iload_n C.1 C.2.1 dX7_field_7 rfl (lv_at hl 2 rfl) ?_
    refine lv_iconst (v := (nI 0)) C.1 C.2.1 dX7_field_8 (by decide) ?_
    refine lv_iconst (v := (nI 4)) C.1 C.2.1 dX7_field_9 (by decide) ?_
    refine xcS_i (n := 3) (As := [.int y, .int (nI 0), .int (nI 4)]) C hK hW (c_X7_in l g w y (nI 0) (nI 4) hI hN) gX7_field_X7_in rfl ⟨rfl, rfl⟩ (by decide +kernel) ⟨Nat.le_of_ble_eq_true rfl, Nat.le_of_ble_eq_true rfl⟩ ⟨Nat.zero_le _, Nat.zero_le _⟩ rfl hl rfl (Nat.le_of_ble_eq_true rfl) dX7_field_10 (fun r7 w5 H locs q6 hW => ?_)
    obtain ⟨qw8, rfl⟩ := q6
    rw [qw8] at hW
    refine xBne (tgt := 18) C dX7_field_13 (by decide) (fun c13 => ?_) (fun c13 => ?_)
    · obtain ⟨k1, ha_k1, hb_k1, hx_k1⟩ := inR_N (by omega) (by omega) c4
      rw [hx_k1] at hl
      obtain ⟨k2, ha_k2, hb_k2, hx_k2⟩ := inR_N (by omega) (by omega) c13
      rw [hx_k2] at hl
      refine lv_aload_n C.1 C.2.1 dX7_field_18 rfl (lv_at hl 0 rfl) ?_
      refine xget C hK hW hinX7 rfl (by omega) m0 7 (by decide) (List.mem_of_getElem? (i := 1) rfl) rfl dX7_field_19 ?_
      refine lv_bipush (v := (nI 17)) C.1 C.2.1 dX7_field_22 (by decide) ?_
      refine lv_iload_n C.1 C.2.1 dX7_field_24 rfl (lv_at hl 1 rfl) ?_
      refine xadd C dX7_field_25 ?_
      refine xildK0 C hK hW (by omega) m5 (by omega) (by decide) dX7_field_26 ?_
      refine lv_istore_n (lv' := [(3, .int (nI (L (17 + k1)))), (0, .ref (gad g 119)), (1, .int (nI k1)), (2, .int (nI k2))]) C.1 C.2.1 dX7_field_27 rfl hl (by decide) rfl (fun ls hl => ?_)
      refine lv_aload_n C.1 C.2.1 dX7_field_28 rfl (lv_at hl 1 rfl) ?_
      refine xget C hK hW hinX7 rfl (by omega) m0 7 (by decide) (List.mem_of_getElem? (i := 1) rfl) rfl dX7_field_29 ?_
      refine lv_bipush (v := (nI 17)) C.1 C.2.1 dX7_field_32 (by decide) ?_
      refine lv_iload_n C.1 C.2.1 dX7_field_34 rfl (lv_at hl 2 rfl) ?_
      refine xadd C dX7_field_35 ?_
      refine lv_iload_n C.1 C.2.1 dX7_field_36 rfl (lv_at hl 3 rfl) ?_
      refine xistK0 (v := k2) C hK hW (by omega) m5 (by omega) (by decide) dX7_field_37 (fun w9 H locs e10 f11 hW => ?_)
      refine lv_aload_n C.1 C.2.1 dX7_field_38 rfl (lv_at hl 1 rfl) ?_
      have h12 : w9 119 = .inr (7, [.ref (gad g 120), .ref (gad g 121), .ref (gad g 122), .int (nI tn), .ref (gad g 123), .int (nI po), .int nu, .ref (gad g 124), .ref (gad g 125), .ref (gad g 126), .ref (gad g 127), .int (nI hk), .ref (gad g 128), .ref (gad g 129), .long (lN ao), .long (lN mu), .long (lN md), .long (lN bu), .long (lN bd)]) := ((f11 119 (by omega)).trans m0)
      refine xget C hK hW hinX7 rfl (by omega) h12 7 (by decide) (List.mem_of_getElem? (i := 1) rfl) rfl dX7_field_39 ?_
      refine lv_bipush (v := (nI 40)) C.1 C.2.1 dX7_field_42 (by decide) ?_
      refine lv_iconst (v := (nI 0)) C.1 C.2.1 dX7_field_44 (by decide) ?_
      refine xistK0 (v := 0) C hK hW (by omega) e10 (by omega) (by decide) dX7_field_45 (fun w13 H locs e14 f15 hW => ?_)
      refine lv_iload_n C.1 C.2.1 dX7_field_46 rfl (lv_at hl 0 rfl) ?_
      have h16 : w13 119 = .inr (7, [.ref (gad g 120), .ref (gad g 121), .ref (gad g 122), .int (nI tn), .ref (gad g 123), .int (nI po), .int nu, .ref (gad g 124), .ref (gad g 125), .ref (gad g 126), .ref (gad g 127), .int (nI hk), .ref (gad g 128), .ref (gad g 129), .long (lN ao), .long (lN mu), .long (lN md), .long (lN bu), .long (lN bd)]) := ((f15 119 (by omega)).trans h12)
      have h17 : w13 120 = .inl (gI g, 4, .inl (kK 0 4 0 (laF ln))) := ((f15 120 (by omega)).trans ((f11 120 (by omega)).trans m1))
      have h18 : w13 121 = .inl (gI g, 4, .inl (cK 4 0 sz)) := ((f15 121 (by omega)).trans ((f11 121 (by omega)).trans m2))
      have h19 : w13 122 = .inl (gJ g, 96, .inr (.inl (kK 0 96 0 Z))) := ((f15 122 (by omega)).trans ((f11 122 (by omega)).trans m3))
      have h20 : w13 123 = .inl (gI g, 80, .inl (cK 80 0 T)) := ((f15 123 (by omega)).trans ((f11 123 (by omega)).trans m4))
      have h21 : w13 125 = .inl (gI g, 177, .inl (cK 177 0 TR)) := ((f15 125 (by omega)).trans ((f11 125 (by omega)).trans m6))
      have h22 : w13 126 = .inl (gI g, 177, .inl (cK 177 0 RD)) := ((f15 126 (by omega)).trans ((f11 126 (by omega)).trans m7))
      have h23 : w13 127 = .inl (gI g, 177, .inl (cK 177 0 KP)) := ((f15 127 (by omega)).trans ((f11 127 (by omega)).trans m8))
      have h24 : w13 128 = .inl (gJ g, 7, .inr (.inl (cL 7 0 O))) := ((f15 128 (by omega)).trans ((f11 128 (by omega)).trans m10))
      have h25 : w13 129 = .inl (gJ g, 7, .inr (.inl (cL 7 0 A))) := ((f15 129 (by omega)).trans ((f11 129 (by omega)).trans m11))
      exact xret_i C hr hlk hW ⟨(by rw [fieldL, if_pos (c := okField x y) ⟨c4, c13⟩, hx_k1, hx_k2, cl_nI (by omega), cl_nI (by omega)]; exact ⟨_, _, _, _, _, _, _, _, _, _, _, _, h16, h17, h18, h19, h20, e14, h21, h22, h23, m9, h24, h25⟩), (fun j z0 => ((f15 j (by omega)).trans (f11 j (by omega)))), (by rw [fieldS, if_pos (c := okField x y) ⟨c4, c13⟩, hx_k1, cl_nI (by omega)])⟩ dX7_field_47
    · refine lv_iconst (v := (-1 : Int32)) C.1 C.2.1 dX7_field_16 (by decide) ?_
      exact xret_i C hr hlk hW ⟨(by rw [fieldL, if_neg (c := okField x y) (fun h => c13 h.2)]; exact ⟨_, _, _, _, _, _, _, _, _, _, _, _, m0, m1, m2, m3, m4, m5, m6, m7, m8, m9, m10, m11⟩), (fun j z0 => rfl), (by rw [fieldS, if_neg (c := okField x y) (fun h => c13 h.2)])⟩ dX7_field_17

set_option maxHeartbeats 4000000 in
set_option maxRecDepth 100000 in
theorem c_X7_image (l : Launch) (g : GE) (w : Nat → va_E) (L K T ln sz : Nat → Nat) (hk tn : Nat) (Z : Nat → Int64)  (hI : AdInj g) (hN : gN g = 130) (hS : OkS (L, K, hk, tn, T, ln, sz, Z)) (pr0 : MAll g (L, K, hk, tn, T, ln, sz, Z) w) : Met l yX7_image wsX7_image ({ frames := 1, cells := 0, slots := 0, locals := 25 } : Room) (XPc g w [.ref (gad g 119)]) (XQi g (fun r w' => MAll g (L, L, 1, tn, T, ln, sz, Z) w' ∧ (∀ j : Nat, ¬ (119 ≤ j ∧ j < 130) → w' j = w j) ∧ r = nI 1)) 0 0 (gA g) := by
  refine xmet (cc := cX7_image) (maxL := 1) (ret := (some .int)) (by decide) rfl hI (Nat.le_of_ble_eq_true rfl) ?_
  intro pG eG sG mG belowG methG cG ls C hr hlk hK hW hl
  have hl : lv_has ls 1 [(0, .ref (gad g 119))] := hl
  have hinX7 : ∀ x ∈ u_ws RX7 TX7 19, x ∈ wsX7_image := by decide +kernel
  obtain ⟨po, ao, mu, md, bu, bd, nu, TR, RD, KP, O, A, m0, m1, m2, m3, m4, m5, m6, m7, m8, m9, m10, m11⟩ := pr0
  have hokL : OkL L := hS.1
  obtain ⟨hok, hs2, hdy, hdr, hcl, hkn, hcs, hps⟩ := hokL
  have htn : tn ≤ 80 := hS.2.2.1
  have hlz : ∀ s, s < 4 → ln s ≤ 4 ∧ sz s ≤ 24 := hS.2.2.2.2
  have m0 : w 119 = .inr (7, [.ref (gad g 120), .ref (gad g 121), .ref (gad g 122), .int (nI tn), .ref (gad g 123), .int (nI po), .int nu, .ref (gad g 124), .ref (gad g 125), .ref (gad g 126), .ref (gad g 127), .int (nI hk), .ref (gad g 128), .ref (gad g 129), .long (lN ao), .long (lN mu), .long (lN md), .long (lN bu), .long (lN bd)]) := m0
  have m1 : w 120 = .inl (gI g, 4, .inl (kK 0 4 0 (laF ln))) := m1
  have m2 : w 121 = .inl (gI g, 4, .inl (cK 4 0 sz)) := m2
  have m3 : w 122 = .inl (gJ g, 96, .inr (.inl (kK 0 96 0 Z))) := m3
  have m4 : w 123 = .inl (gI g, 80, .inl (cK 80 0 T)) := m4
  have m5 : w 124 = .inl (gI g, 177, .inl (cK 177 0 L)) := m5
  have m9 : hk = 1 → KP = K := m9
  refine lv_aload_n C.1 C.2.1 dX7_image_0 rfl (lv_at hl 0 rfl) ?_
  refine xget C hK hW hinX7 rfl (by omega) m0 7 (by decide) (List.mem_of_getElem? (i := 1) rfl) rfl dX7_image_1 ?_
  refine lv_iconst (v := (nI 0)) C.1 C.2.1 dX7_image_4 (by decide) ?_
  refine lv_aload_n C.1 C.2.1 dX7_image_5 rfl (lv_at hl 0 rfl) ?_
  refine xget C hK hW hinX7 rfl (by omega) m0 10 (by decide) (List.mem_of_getElem? (i := 2) rfl) rfl dX7_image_6 ?_
  refine lv_iconst (v := (nI 0)) C.1 C.2.1 dX7_image_9 (by decide) ?_
  refine lv_sipush (v := (nI 177)) C.1 C.2.1 dX7_image_10 (by decide) ?_
  refine xcS_v (n := 5) (As := [.ref (gad g 124), .int (nI 0), .ref (gad g 127), .int (nI 0), .int (nI 177)]) C hK hW (c_X7_bring2 l g w 124 127 0 0 177 L KP hI hN (by omega) (by omega) (by omega) (by omega) (by omega) m5 m8) gX7_image_X7_bring rfl ⟨rfl, rfl⟩ (by decide +kernel) ⟨Nat.le_of_ble_eq_true rfl, Nat.le_of_ble_eq_true rfl⟩ ⟨Nat.zero_le _, Nat.zero_le _⟩ rfl hl rfl (Nat.le_of_ble_eq_true rfl) dX7_image_13 (fun w1 H locs q2 hW => ?_)
  obtain ⟨h4, f5⟩ := q2
  have h6 : w1 127 = .inl (gI g, 177, .inl (cK 177 0 L)) := h4.trans (by rw [cK_cp])
  refine lv_aload_n C.1 C.2.1 dX7_image_16 rfl (lv_at hl 0 rfl) ?_
  refine lv_iconst (v := (nI 1)) C.1 C.2.1 dX7_image_17 (by decide) ?_
  have h7 : w1 119 = .inr (7, [.ref (gad g 120), .ref (gad g 121), .ref (gad g 122), .int (nI tn), .ref (gad g 123), .int (nI po), .int nu, .ref (gad g 124), .ref (gad g 125), .ref (gad g 126), .ref (gad g 127), .int (nI hk), .ref (gad g 128), .ref (gad g 129), .long (lN ao), .long (lN mu), .long (lN md), .long (lN bu), .long (lN bd)]) := ((f5 119 (by omega)).trans m0)
  refine xput (v := .int (nI 1)) C hK hW hinX7 tyX7_ok nmX7 rfl (by omega) h7 11 (by decide) (List.mem_of_getElem? (i := 3) rfl) rfl rfl rfl (Nat.le_of_ble_eq_true rfl) dX7_image_18 (fun w8 H locs e9 f10 hW => ?_)
  refine lv_iconst (v := (nI 1)) C.1 C.2.1 dX7_image_21 (by decide) ?_
  have h11 : w8 120 = .inl (gI g, 4, .inl (kK 0 4 0 (laF ln))) := ((f10 120 (by omega)).trans ((f5 120 (by omega)).trans m1))
  have h12 : w8 121 = .inl (gI g, 4, .inl (cK 4 0 sz)) := ((f10 121 (by omega)).trans ((f5 121 (by omega)).trans m2))
  have h13 : w8 122 = .inl (gJ g, 96, .inr (.inl (kK 0 96 0 Z))) := ((f10 122 (by omega)).trans ((f5 122 (by omega)).trans m3))
  have h14 : w8 123 = .inl (gI g, 80, .inl (cK 80 0 T)) := ((f10 123 (by omega)).trans ((f5 123 (by omega)).trans m4))
  have h15 : w8 124 = .inl (gI g, 177, .inl (cK 177 0 L)) := ((f10 124 (by omega)).trans ((f5 124 (by omega)).trans m5))
  have h16 : w8 125 = .inl (gI g, 177, .inl (cK 177 0 TR)) := ((f10 125 (by omega)).trans ((f5 125 (by omega)).trans m6))
  have h17 : w8 126 = .inl (gI g, 177, .inl (cK 177 0 RD)) := ((f10 126 (by omega)).trans ((f5 126 (by omega)).trans m7))
  have h18 : w8 127 = .inl (gI g, 177, .inl (cK 177 0 L)) := ((f10 127 (by omega)).trans h6)
  have h19 : w8 128 = .inl (gJ g, 7, .inr (.inl (cL 7 0 O))) := ((f10 128 (by omega)).trans ((f5 128 (by omega)).trans m10))
  have h20 : w8 129 = .inl (gJ g, 7, .inr (.inl (cL 7 0 A))) := ((f10 129 (by omega)).trans ((f5 129 (by omega)).trans m11))
  exact xret_i C hr hlk hW ⟨⟨_, _, _, _, _, _, _, _, _, _, _, _, e9, h11, h12, h13, h14, h15, h16, h17, h18, (fun _ => rfl), h19, h20⟩, (fun j z0 => ((f10 j (by omega)).trans (f5 j (by omega)))), rfl⟩ dX7_image_22

set_option maxHeartbeats 4000000 in
set_option maxRecDepth 100000 in
theorem c_X7_restore (l : Launch) (g : GE) (w : Nat → va_E) (L K T ln sz : Nat → Nat) (hk tn : Nat) (Z : Nat → Int64)  (hI : AdInj g) (hN : gN g = 130) (hS : OkS (L, K, hk, tn, T, ln, sz, Z)) (pr0 : MAll g (L, K, hk, tn, T, ln, sz, Z) w) : Met l yX7_restore wsX7_restore ({ frames := 1, cells := 0, slots := 0, locals := 25 } : Room) (XPc g w [.ref (gad g 119)]) (XQi g (fun r w' => MAll g (restL hk L K, K, hk, tn, T, ln, sz, Z) w' ∧ (∀ j : Nat, ¬ (119 ≤ j ∧ j < 130) → w' j = w j) ∧ r = restS hk)) 0 0 (gA g) := by
  refine xmet (cc := cX7_restore) (maxL := 1) (ret := (some .int)) (by decide) rfl hI (Nat.le_of_ble_eq_true rfl) ?_
  intro pG eG sG mG belowG methG cG ls C hr hlk hK hW hl
  have hl : lv_has ls 1 [(0, .ref (gad g 119))] := hl
  have hinX7 : ∀ x ∈ u_ws RX7 TX7 19, x ∈ wsX7_restore := by decide +kernel
  obtain ⟨po, ao, mu, md, bu, bd, nu, TR, RD, KP, O, A, m0, m1, m2, m3, m4, m5, m6, m7, m8, m9, m10, m11⟩ := pr0
  have hokL : OkL L := hS.1
  obtain ⟨hok, hs2, hdy, hdr, hcl, hkn, hcs, hps⟩ := hokL
  have htn : tn ≤ 80 := hS.2.2.1
  have hlz : ∀ s, s < 4 → ln s ≤ 4 ∧ sz s ≤ 24 := hS.2.2.2.2
  have m0 : w 119 = .inr (7, [.ref (gad g 120), .ref (gad g 121), .ref (gad g 122), .int (nI tn), .ref (gad g 123), .int (nI po), .int nu, .ref (gad g 124), .ref (gad g 125), .ref (gad g 126), .ref (gad g 127), .int (nI hk), .ref (gad g 128), .ref (gad g 129), .long (lN ao), .long (lN mu), .long (lN md), .long (lN bu), .long (lN bd)]) := m0
  have m1 : w 120 = .inl (gI g, 4, .inl (kK 0 4 0 (laF ln))) := m1
  have m2 : w 121 = .inl (gI g, 4, .inl (cK 4 0 sz)) := m2
  have m3 : w 122 = .inl (gJ g, 96, .inr (.inl (kK 0 96 0 Z))) := m3
  have m4 : w 123 = .inl (gI g, 80, .inl (cK 80 0 T)) := m4
  have m5 : w 124 = .inl (gI g, 177, .inl (cK 177 0 L)) := m5
  have m9 : hk = 1 → KP = K := m9
  have hhk : hk = 0 ∨ (hk = 1 ∧ OkL K) := hS.2.1
  have hhk2 : hk ≤ 1 := hhk.elim (fun h => by omega) (fun h => by omega)
  refine lv_aload_n C.1 C.2.1 dX7_restore_0 rfl (lv_at hl 0 rfl) ?_
  refine xget C hK hW hinX7 rfl (by omega) m0 11 (by decide) (List.mem_of_getElem? (i := 1) rfl) rfl dX7_restore_1 ?_
  refine x0ne (tgt := 10) C (by omega) dX7_restore_4 (by decide) (fun c4 => ?_) (fun c4 => ?_)
  · refine lv_aload_n C.1 C.2.1 dX7_restore_10 rfl (lv_at hl 0 rfl) ?_
    refine xget C hK hW hinX7 rfl (by omega) m0 10 (by decide) (List.mem_of_getElem? (i := 2) rfl) rfl dX7_restore_11 ?_
    refine lv_iconst (v := (nI 0)) C.1 C.2.1 dX7_restore_14 (by decide) ?_
    refine lv_aload_n C.1 C.2.1 dX7_restore_15 rfl (lv_at hl 0 rfl) ?_
    refine xget C hK hW hinX7 rfl (by omega) m0 7 (by decide) (List.mem_of_getElem? (i := 3) rfl) rfl dX7_restore_16 ?_
    refine lv_iconst (v := (nI 0)) C.1 C.2.1 dX7_restore_19 (by decide) ?_
    refine lv_sipush (v := (nI 177)) C.1 C.2.1 dX7_restore_20 (by decide) ?_
    refine xcS_v (n := 5) (As := [.ref (gad g 127), .int (nI 0), .ref (gad g 124), .int (nI 0), .int (nI 177)]) C hK hW (c_X7_bring2 l g w 127 124 0 0 177 KP L hI hN (by omega) (by omega) (by omega) (by omega) (by omega) m8 m5) gX7_restore_X7_bring rfl ⟨rfl, rfl⟩ (by decide +kernel) ⟨Nat.le_of_ble_eq_true rfl, Nat.le_of_ble_eq_true rfl⟩ ⟨Nat.zero_le _, Nat.zero_le _⟩ rfl hl rfl (Nat.le_of_ble_eq_true rfl) dX7_restore_23 (fun w1 H locs q2 hW => ?_)
    obtain ⟨h4, f5⟩ := q2
    have hk1 : hk = 1 := by omega
    have h6 : w1 124 = .inl (gI g, 177, .inl (cK 177 0 K)) := h4.trans (by rw [cK_cp, m9 hk1])
    refine lv_iconst (v := (nI 1)) C.1 C.2.1 dX7_restore_26 (by decide) ?_
    have h7 : w1 119 = .inr (7, [.ref (gad g 120), .ref (gad g 121), .ref (gad g 122), .int (nI tn), .ref (gad g 123), .int (nI po), .int nu, .ref (gad g 124), .ref (gad g 125), .ref (gad g 126), .ref (gad g 127), .int (nI hk), .ref (gad g 128), .ref (gad g 129), .long (lN ao), .long (lN mu), .long (lN md), .long (lN bu), .long (lN bd)]) := ((f5 119 (by omega)).trans m0)
    have h8 : w1 120 = .inl (gI g, 4, .inl (kK 0 4 0 (laF ln))) := ((f5 120 (by omega)).trans m1)
    have h9 : w1 121 = .inl (gI g, 4, .inl (cK 4 0 sz)) := ((f5 121 (by omega)).trans m2)
    have h10 : w1 122 = .inl (gJ g, 96, .inr (.inl (kK 0 96 0 Z))) := ((f5 122 (by omega)).trans m3)
    have h11 : w1 123 = .inl (gI g, 80, .inl (cK 80 0 T)) := ((f5 123 (by omega)).trans m4)
    have h12 : w1 125 = .inl (gI g, 177, .inl (cK 177 0 TR)) := ((f5 125 (by omega)).trans m6)
    have h13 : w1 126 = .inl (gI g, 177, .inl (cK 177 0 RD)) := ((f5 126 (by omega)).trans m7)
    have h14 : w1 127 = .inl (gI g, 177, .inl (cK 177 0 KP)) := ((f5 127 (by omega)).trans m8)
    have h15 : w1 128 = .inl (gJ g, 7, .inr (.inl (cL 7 0 O))) := ((f5 128 (by omega)).trans m10)
    have h16 : w1 129 = .inl (gJ g, 7, .inr (.inl (cL 7 0 A))) := ((f5 129 (by omega)).trans m11)
    exact xret_i C hr hlk hW ⟨(by rw [restL, if_neg (by omega)]; exact ⟨_, _, _, _, _, _, _, _, _, _, _, _, h7, h8, h9, h10, h11, h6, h12, h13, h14, m9, h15, h16⟩), (fun j z0 => (f5 j (by omega))), (by rw [restS, if_neg (by omega)]; rfl)⟩ dX7_restore_27
  · refine lv_bipush (v := (-4 : Int32)) C.1 C.2.1 dX7_restore_7 (by decide) ?_
    exact xret_i C hr hlk hW ⟨(by rw [restL, if_pos (by omega)]; exact ⟨_, _, _, _, _, _, _, _, _, _, _, _, m0, m1, m2, m3, m4, m5, m6, m7, m8, m9, m10, m11⟩), (fun j z0 => rfl), (by rw [restS, if_pos (by omega)])⟩ dX7_restore_9

set_option maxHeartbeats 4000000 in
set_option maxRecDepth 100000 in
theorem c_X7_isClaim (l : Launch) (g : GE) (w : Nat → va_E) (c : Int32) (hk tn po : Nat) (nu : Int32) (ao mu md bu bd : Nat) (L : Nat → Nat) (hI : AdInj g) (hN : gN g = 130) (pr0 : w 119 = .inr (7, [.ref (gad g 120), .ref (gad g 121), .ref (gad g 122), .int (nI tn), .ref (gad g 123), .int (nI po), .int nu, .ref (gad g 124), .ref (gad g 125), .ref (gad g 126), .ref (gad g 127), .int (nI hk), .ref (gad g 128), .ref (gad g 129), .long (lN ao), .long (lN mu), .long (lN md), .long (lN bu), .long (lN bd)])) (pr1 : w 124 = .inl (gI g, 177, .inl (cK 177 0 L))) : Met l yX7_isClaim wsX7_isClaim ({ frames := 1, cells := 0, slots := 0, locals := 22 } : Room) (XPc g w [.ref (gad g 119), .int c]) (XQi g (fun r w' => w' = w ∧ r = (bI (inR c (nI 0) (nI (L 24) - nI 1))))) 0 0 (gA g) := by
  refine xmet (cc := cX7_isClaim) (maxL := 2) (ret := (some .boolean)) (by decide) rfl hI (Nat.le_of_ble_eq_true rfl) ?_
  intro pG eG sG mG belowG methG cG ls C hr hlk hK hW hl
  have hl : lv_has ls 2 [(0, .ref (gad g 119)), (1, .int c)] := hl
  have hinX7 : ∀ x ∈ u_ws RX7 TX7 19, x ∈ wsX7_isClaim := by decide +kernel
  refine lv_iload_n C.1 C.2.1 dX7_isClaim_0 rfl (lv_at hl 1 rfl) ?_
  refine lv_iconst (v := (nI 0)) C.1 C.2.1 dX7_isClaim_1 (by decide) ?_
  refine lv_aload_n C.1 C.2.1 dX7_isClaim_2 rfl (lv_at hl 0 rfl) ?_
  refine xget C hK hW hinX7 rfl (by omega) pr0 7 (by decide) (List.mem_of_getElem? (i := 1) rfl) rfl dX7_isClaim_3 ?_
  refine lv_bipush (v := (nI 24)) C.1 C.2.1 dX7_isClaim_6 (by decide) ?_
  refine xildK0 C hK hW (by omega) pr1 (by omega) (by decide) dX7_isClaim_8 ?_
  refine lv_iconst (v := (nI 1)) C.1 C.2.1 dX7_isClaim_9 (by decide) ?_
  refine lv_isub C.1 C.2.1 dX7_isClaim_10 ?_
  refine xcS_i (n := 3) (As := [.int c, .int (nI 0), .int ((nI (L 24)) - (nI 1))]) C hK hW (c_X7_in l g w c (nI 0) ((nI (L 24)) - (nI 1)) hI hN) gX7_isClaim_X7_in rfl ⟨rfl, rfl⟩ (by decide +kernel) ⟨Nat.le_of_ble_eq_true rfl, Nat.le_of_ble_eq_true rfl⟩ ⟨Nat.zero_le _, Nat.zero_le _⟩ rfl hl rfl (Nat.le_of_ble_eq_true rfl) dX7_isClaim_11 (fun r3 w1 H locs q2 hW => ?_)
  obtain ⟨qw4, rfl⟩ := q2
  rw [qw4] at hW
  exact xret_z C hr hlk hW bI_nar ⟨rfl, rfl⟩ dX7_isClaim_14

set_option maxHeartbeats 4000000 in
set_option maxRecDepth 100000 in
theorem c_X7_addClaim (l : Launch) (g : GE) (w : Nat → va_E) (i f t z : Nat) (L : Nat → Nat) (hI : AdInj g) (hN : gN g = 130) (hi : i < 130) (h24 : L 24 < 5) (pr0 : w i = .inl (gI g, 177, .inl (cK 177 0 L))) : Met l yX7_addClaim wsX7_addClaim ({ frames := 0, cells := 0, slots := 0, locals := 0 } : Room) (XPc g w [.ref (gad g i), .int (nI f), .int (nI t), .int (nI z)]) (XQi g (fun r w' => w' i = .inl (gI g, 177, .inl (cK 177 0 (va_up (addC (L 24) f t z L) 24 (L 24 + 1)))) ∧ (∀ j : Nat, ¬ (i ≤ j ∧ j < i + 1) → w' j = w j) ∧ r = (nI (L 24)))) 0 0 (gA g) := by
  refine xmet (cc := cX7_addClaim) (maxL := 5) (ret := (some .int)) (by decide) rfl hI (Nat.le_of_ble_eq_true rfl) ?_
  intro pG eG sG mG belowG methG cG ls C hr hlk hK hW hl
  have hl : lv_has ls 5 [(0, .ref (gad g i)), (1, .int (nI f)), (2, .int (nI t)), (3, .int (nI z))] := hl
  refine lv_aload_n C.1 C.2.1 dX7_addClaim_0 rfl (lv_at hl 0 rfl) ?_
  refine lv_bipush (v := (nI 24)) C.1 C.2.1 dX7_addClaim_1 (by decide) ?_
  refine xildK0 C hK hW (by omega) pr0 (by omega) (by decide) dX7_addClaim_3 ?_
  refine lv_istore (lv' := [(4, .int (nI (L 24))), (0, .ref (gad g i)), (1, .int (nI f)), (2, .int (nI t)), (3, .int (nI z))]) C.1 C.2.1 dX7_addClaim_4 hl (by decide) rfl (fun ls hl => ?_)
  refine lv_aload_n C.1 C.2.1 dX7_addClaim_6 rfl (lv_at hl 1 rfl) ?_
  refine lv_bipush (v := (nI 25)) C.1 C.2.1 dX7_addClaim_7 (by decide) ?_
  refine lv_iload C.1 C.2.1 dX7_addClaim_9 (lv_at hl 0 rfl) ?_
  refine xadd C dX7_addClaim_11 ?_
  refine lv_iload_n C.1 C.2.1 dX7_addClaim_12 rfl (lv_at hl 2 rfl) ?_
  refine xistK0 (v := f) C hK hW (by omega) pr0 (by omega) (by decide) dX7_addClaim_13 (fun w1 H locs e2 f3 hW => ?_)
  refine lv_aload_n C.1 C.2.1 dX7_addClaim_14 rfl (lv_at hl 1 rfl) ?_
  refine lv_bipush (v := (nI 30)) C.1 C.2.1 dX7_addClaim_15 (by decide) ?_
  refine lv_iload C.1 C.2.1 dX7_addClaim_17 (lv_at hl 0 rfl) ?_
  refine xadd C dX7_addClaim_19 ?_
  refine lv_iload_n C.1 C.2.1 dX7_addClaim_20 rfl (lv_at hl 3 rfl) ?_
  refine xistK0 (v := t) C hK hW (by omega) e2 (by omega) (by decide) dX7_addClaim_21 (fun w4 H locs e5 f6 hW => ?_)
  refine lv_aload_n C.1 C.2.1 dX7_addClaim_22 rfl (lv_at hl 1 rfl) ?_
  refine lv_bipush (v := (nI 35)) C.1 C.2.1 dX7_addClaim_23 (by decide) ?_
  refine lv_iload C.1 C.2.1 dX7_addClaim_25 (lv_at hl 0 rfl) ?_
  refine xadd C dX7_addClaim_27 ?_
  refine lv_iload_n C.1 C.2.1 dX7_addClaim_28 rfl (lv_at hl 4 rfl) ?_
  refine xistK0 (v := z) C hK hW (by omega) e5 (by omega) (by decide) dX7_addClaim_29 (fun w7 H locs e8 f9 hW => ?_)
  refine lv_aload_n C.1 C.2.1 dX7_addClaim_30 rfl (lv_at hl 1 rfl) ?_
  refine lv_bipush (v := (nI 24)) C.1 C.2.1 dX7_addClaim_31 (by decide) ?_
  refine lv_dup2_11 C.1 C.2.1 dX7_addClaim_33 rfl rfl ?_
  refine xildK0 C hK hW (by omega) e8 (by omega) (by decide) dX7_addClaim_34 ?_
  refine xtopN (b := L 24) (((va_up_ne _ _ (by omega)).trans (va_up_ne _ _ (by omega))).trans (va_up_ne _ _ (by omega))) ?_
  refine lv_iconst (v := (nI 1)) C.1 C.2.1 dX7_addClaim_35 (by decide) ?_
  refine xadd C dX7_addClaim_36 ?_
  refine xistK0 (v := (L 24) + 1) C hK hW (by omega) e8 (by omega) (by decide) dX7_addClaim_37 (fun w10 H locs e11 f12 hW => ?_)
  refine lv_iload C.1 C.2.1 dX7_addClaim_38 (lv_at hl 0 rfl) ?_
  exact xret_i C hr hlk hW ⟨(by first | exact e11 | (rw [mixF_0]; exact e11) | (rw [mixF_up]; exact e11) | (refine (e11).trans ?_; rw [cK_mixE (by omega)]; done) | (refine (e11).trans ?_; rw [cL_mixE (by omega)]; done) | (refine (e11).trans ?_; rw [cL_mixE (by omega)]; rfl)), (fun j z0 => ((f12 j (by omega)).trans ((f9 j (by omega)).trans ((f6 j (by omega)).trans (f3 j (by omega)))))), rfl⟩ dX7_addClaim_40

set_option maxHeartbeats 4000000 in
set_option maxRecDepth 100000 in
theorem c_X7_claim (l : Launch) (g : GE) (w : Nat → va_E) (L K T ln sz : Nat → Nat) (hk tn : Nat) (Z : Nat → Int64) (x : Int32) (y : Int32) (z : Int32) (hI : AdInj g) (hN : gN g = 130) (hS : OkS (L, K, hk, tn, T, ln, sz, Z)) (pr0 : MAll g (L, K, hk, tn, T, ln, sz, Z) w) : Met l yX7_claim wsX7_claim ({ frames := 2, cells := 0, slots := 0, locals := 42 } : Room) (XPc g w [.ref (gad g 119), .int x, .int y, .int z]) (XQi g (fun r w' => MAll g (claimL L x y z, K, hk, tn, T, ln, sz, Z) w' ∧ (∀ j : Nat, ¬ (119 ≤ j ∧ j < 130) → w' j = w j) ∧ r = claimS L x y z)) 0 0 (gA g) := by
  refine xmet (cc := cX7_claim) (maxL := 4) (ret := (some .int)) (by decide) rfl hI (Nat.le_of_ble_eq_true rfl) ?_
  intro pG eG sG mG belowG methG cG ls C hr hlk hK hW hl
  have hl : lv_has ls 4 [(0, .ref (gad g 119)), (1, .int x), (2, .int y), (3, .int z)] := hl
  have hinX7 : ∀ x ∈ u_ws RX7 TX7 19, x ∈ wsX7_claim := by decide +kernel
  obtain ⟨po, ao, mu, md, bu, bd, nu, TR, RD, KP, O, A, m0, m1, m2, m3, m4, m5, m6, m7, m8, m9, m10, m11⟩ := pr0
  have hokL : OkL L := hS.1
  obtain ⟨hok, hs2, hdy, hdr, hcl, hkn, hcs, hps⟩ := hokL
  have htn : tn ≤ 80 := hS.2.2.1
  have hlz : ∀ s, s < 4 → ln s ≤ 4 ∧ sz s ≤ 24 := hS.2.2.2.2
  have m0 : w 119 = .inr (7, [.ref (gad g 120), .ref (gad g 121), .ref (gad g 122), .int (nI tn), .ref (gad g 123), .int (nI po), .int nu, .ref (gad g 124), .ref (gad g 125), .ref (gad g 126), .ref (gad g 127), .int (nI hk), .ref (gad g 128), .ref (gad g 129), .long (lN ao), .long (lN mu), .long (lN md), .long (lN bu), .long (lN bd)]) := m0
  have m1 : w 120 = .inl (gI g, 4, .inl (kK 0 4 0 (laF ln))) := m1
  have m2 : w 121 = .inl (gI g, 4, .inl (cK 4 0 sz)) := m2
  have m3 : w 122 = .inl (gJ g, 96, .inr (.inl (kK 0 96 0 Z))) := m3
  have m4 : w 123 = .inl (gI g, 80, .inl (cK 80 0 T)) := m4
  have m5 : w 124 = .inl (gI g, 177, .inl (cK 177 0 L)) := m5
  have m9 : hk = 1 → KP = K := m9
  refine lv_iload_n C.1 C.2.1 dX7_claim_0 rfl (lv_at hl 1 rfl) ?_
  refine xcS_i (n := 1) (As := [.int x]) C hK hW (c_X7_isField l g w x hI hN) gX7_claim_X7_isField rfl ⟨rfl, rfl⟩ (by decide +kernel) ⟨Nat.le_of_ble_eq_true rfl, Nat.le_of_ble_eq_true rfl⟩ ⟨Nat.zero_le _, Nat.zero_le _⟩ rfl hl rfl (Nat.le_of_ble_eq_true rfl) dX7_claim_1 (fun r3 w1 H locs q2 hW => ?_)
  obtain ⟨qw4, rfl⟩ := q2
  rw [qw4] at hW
  refine xBeq (tgt := 27) C dX7_claim_4 (by decide) (fun c4 => ?_) (fun c4 => ?_)
  · refine lv_iconst (v := (-1 : Int32)) C.1 C.2.1 dX7_claim_27 (by decide) ?_
    exact xret_i C hr hlk hW ⟨(by rw [claimL, if_neg (c := okClaim x y z ∧ L 24 < 5) (fun h => c4 h.1.1)]; exact ⟨_, _, _, _, _, _, _, _, _, _, _, _, m0, m1, m2, m3, m4, m5, m6, m7, m8, m9, m10, m11⟩), (fun j z0 => rfl), (by rw [claimS, if_neg (c := okClaim x y z) (fun h => c4 h.1)])⟩ dX7_claim_28
  · refine lv_iload_n C.1 C.2.1 dX7_claim_7 rfl (lv_at hl 2 rfl) ?_
    refine lv_iload_n C.1 C.2.1 dX7_claim_8 rfl (lv_at hl 1 rfl) ?_
    refine lv_bipush (v := (nI 6)) C.1 C.2.1 dX7_claim_9 (by decide) ?_
    refine xcS_i (n := 3) (As := [.int y, .int x, .int (nI 6)]) C hK hW (c_X7_in l g w y x (nI 6) hI hN) gX7_claim_X7_in rfl ⟨rfl, rfl⟩ (by decide +kernel) ⟨Nat.le_of_ble_eq_true rfl, Nat.le_of_ble_eq_true rfl⟩ ⟨Nat.zero_le _, Nat.zero_le _⟩ rfl hl rfl (Nat.le_of_ble_eq_true rfl) dX7_claim_11 (fun r7 w5 H locs q6 hW => ?_)
    obtain ⟨qw8, rfl⟩ := q6
    rw [qw8] at hW
    refine xBeq (tgt := 27) C dX7_claim_14 (by decide) (fun c14 => ?_) (fun c14 => ?_)
    · refine lv_iconst (v := (-1 : Int32)) C.1 C.2.1 dX7_claim_27 (by decide) ?_
      exact xret_i C hr hlk hW ⟨(by rw [claimL, if_neg (c := okClaim x y z ∧ L 24 < 5) (fun h => c14 h.1.2.1)]; exact ⟨_, _, _, _, _, _, _, _, _, _, _, _, m0, m1, m2, m3, m4, m5, m6, m7, m8, m9, m10, m11⟩), (fun j z0 => rfl), (by rw [claimS, if_neg (c := okClaim x y z) (fun h => c14 h.2.1)])⟩ dX7_claim_28
    · refine lv_iload_n C.1 C.2.1 dX7_claim_17 rfl (lv_at hl 3 rfl) ?_
      refine lv_iconst (v := (nI 1)) C.1 C.2.1 dX7_claim_18 (by decide) ?_
      refine lv_bipush (v := (nI 99)) C.1 C.2.1 dX7_claim_19 (by decide) ?_
      refine xcS_i (n := 3) (As := [.int z, .int (nI 1), .int (nI 99)]) C hK hW (c_X7_in l g w z (nI 1) (nI 99) hI hN) gX7_claim_X7_in rfl ⟨rfl, rfl⟩ (by decide +kernel) ⟨Nat.le_of_ble_eq_true rfl, Nat.le_of_ble_eq_true rfl⟩ ⟨Nat.zero_le _, Nat.zero_le _⟩ rfl hl rfl (Nat.le_of_ble_eq_true rfl) dX7_claim_21 (fun r11 w9 H locs q10 hW => ?_)
      obtain ⟨qw12, rfl⟩ := q10
      rw [qw12] at hW
      refine xBne (tgt := 29) C dX7_claim_24 (by decide) (fun c24 => ?_) (fun c24 => ?_)
      · refine lv_aload_n C.1 C.2.1 dX7_claim_29 rfl (lv_at hl 0 rfl) ?_
        refine xget C hK hW hinX7 rfl (by omega) m0 7 (by decide) (List.mem_of_getElem? (i := 1) rfl) rfl dX7_claim_30 ?_
        refine lv_bipush (v := (nI 24)) C.1 C.2.1 dX7_claim_33 (by decide) ?_
        refine xildK0 C hK hW (by omega) m5 (by omega) (by decide) dX7_claim_35 ?_
        refine lv_iconst (v := (nI 5)) C.1 C.2.1 dX7_claim_36 (by decide) ?_
        refine xne (tgt := 43) C (by omega) (by omega) dX7_claim_37 (by decide) (fun c37 => ?_) (fun c37 => ?_)
        · have c14x := c14
          obtain ⟨k1, ha_k1, hb_k1, hx_k1⟩ := inR_N (by omega) (by omega) c4
          rw [hx_k1] at hl
          obtain ⟨k2, ha_k2, hb_k2, hx_k2⟩ := inR_mid (by omega) (by omega) hx_k1 c14
          rw [hx_k2] at hl
          obtain ⟨k3, ha_k3, hb_k3, hx_k3⟩ := inR_N (by omega) (by omega) c24
          rw [hx_k3] at hl
          refine lv_aload_n C.1 C.2.1 dX7_claim_43 rfl (lv_at hl 0 rfl) ?_
          refine xget C hK hW hinX7 rfl (by omega) m0 7 (by decide) (List.mem_of_getElem? (i := 1) rfl) rfl dX7_claim_44 ?_
          refine lv_bipush (v := (nI 40)) C.1 C.2.1 dX7_claim_47 (by decide) ?_
          refine lv_iconst (v := (nI 0)) C.1 C.2.1 dX7_claim_49 (by decide) ?_
          refine xistK0 (v := 0) C hK hW (by omega) m5 (by omega) (by decide) dX7_claim_50 (fun w13 H locs e14 f15 hW => ?_)
          refine lv_aload_n C.1 C.2.1 dX7_claim_51 rfl (lv_at hl 0 rfl) ?_
          have h16 : w13 119 = .inr (7, [.ref (gad g 120), .ref (gad g 121), .ref (gad g 122), .int (nI tn), .ref (gad g 123), .int (nI po), .int nu, .ref (gad g 124), .ref (gad g 125), .ref (gad g 126), .ref (gad g 127), .int (nI hk), .ref (gad g 128), .ref (gad g 129), .long (lN ao), .long (lN mu), .long (lN md), .long (lN bu), .long (lN bd)]) := ((f15 119 (by omega)).trans m0)
          refine xget C hK hW hinX7 rfl (by omega) h16 7 (by decide) (List.mem_of_getElem? (i := 1) rfl) rfl dX7_claim_52 ?_
          refine lv_iload_n C.1 C.2.1 dX7_claim_55 rfl (lv_at hl 1 rfl) ?_
          refine lv_iload_n C.1 C.2.1 dX7_claim_56 rfl (lv_at hl 2 rfl) ?_
          refine lv_iload_n C.1 C.2.1 dX7_claim_57 rfl (lv_at hl 3 rfl) ?_
          refine xcS_i (n := 4) (As := [.ref (gad g 124), .int (nI k1), .int (nI k2), .int (nI k3)]) C hK hW (c_X7_addClaim l g w13 124 k1 k2 k3 (va_up L 40 0) hI hN (by omega) (by rw [va_up_ne _ _ (by omega)]; omega) e14) gX7_claim_X7_addClaim rfl ⟨rfl, rfl⟩ (by decide +kernel) ⟨Nat.le_of_ble_eq_true rfl, Nat.le_of_ble_eq_true rfl⟩ ⟨Nat.zero_le _, Nat.zero_le _⟩ rfl hl rfl (Nat.le_of_ble_eq_true rfl) dX7_claim_58 (fun r19 w17 H locs q18 hW => ?_)
          obtain ⟨h20, f21, rfl⟩ := q18
          refine xtopN (b := L 24) (va_up_ne _ _ (by omega)) ?_
          have h22 : w17 124 = .inl (gI g, 177, .inl (cK 177 0 (addF L k1 k2 k3))) := h20.trans (by rw [va_up_ne (f := L) (k := 40) (j := 24) _ (by omega)]; rfl)
          have h23 : w17 119 = .inr (7, [.ref (gad g 120), .ref (gad g 121), .ref (gad g 122), .int (nI tn), .ref (gad g 123), .int (nI po), .int nu, .ref (gad g 124), .ref (gad g 125), .ref (gad g 126), .ref (gad g 127), .int (nI hk), .ref (gad g 128), .ref (gad g 129), .long (lN ao), .long (lN mu), .long (lN md), .long (lN bu), .long (lN bd)]) := ((f21 119 (by omega)).trans h16)
          have h24 : w17 120 = .inl (gI g, 4, .inl (kK 0 4 0 (laF ln))) := ((f21 120 (by omega)).trans ((f15 120 (by omega)).trans m1))
          have h25 : w17 121 = .inl (gI g, 4, .inl (cK 4 0 sz)) := ((f21 121 (by omega)).trans ((f15 121 (by omega)).trans m2))
          have h26 : w17 122 = .inl (gJ g, 96, .inr (.inl (kK 0 96 0 Z))) := ((f21 122 (by omega)).trans ((f15 122 (by omega)).trans m3))
          have h27 : w17 123 = .inl (gI g, 80, .inl (cK 80 0 T)) := ((f21 123 (by omega)).trans ((f15 123 (by omega)).trans m4))
          have h28 : w17 125 = .inl (gI g, 177, .inl (cK 177 0 TR)) := ((f21 125 (by omega)).trans ((f15 125 (by omega)).trans m6))
          have h29 : w17 126 = .inl (gI g, 177, .inl (cK 177 0 RD)) := ((f21 126 (by omega)).trans ((f15 126 (by omega)).trans m7))
          have h30 : w17 127 = .inl (gI g, 177, .inl (cK 177 0 KP)) := ((f21 127 (by omega)).trans ((f15 127 (by omega)).trans m8))
          have h31 : w17 128 = .inl (gJ g, 7, .inr (.inl (cL 7 0 O))) := ((f21 128 (by omega)).trans ((f15 128 (by omega)).trans m10))
          have h32 : w17 129 = .inl (gJ g, 7, .inr (.inl (cL 7 0 A))) := ((f21 129 (by omega)).trans ((f15 129 (by omega)).trans m11))
          exact xret_i C hr hlk hW ⟨(by rw [claimL, if_pos (c := okClaim x y z ∧ L 24 < 5) ⟨⟨c4, c14x, c24⟩, by omega⟩, hx_k1, hx_k2, hx_k3, cl_nI (by omega), cl_nI (by omega), cl_nI (by omega)]; exact ⟨_, _, _, _, _, _, _, _, _, _, _, _, h23, h24, h25, h26, h27, h22, h28, h29, h30, m9, h31, h32⟩), (fun j z0 => ((f21 j (by omega)).trans (f15 j (by omega)))), (by rw [claimS, if_pos (c := okClaim x y z) ⟨c4, c14x, c24⟩, if_pos (by omega)])⟩ dX7_claim_61
        · refine lv_bipush (v := (-3 : Int32)) C.1 C.2.1 dX7_claim_40 (by decide) ?_
          exact xret_i C hr hlk hW ⟨(by rw [claimL, if_neg (c := okClaim x y z ∧ L 24 < 5) (fun h => absurd h.2 (by omega))]; exact ⟨_, _, _, _, _, _, _, _, _, _, _, _, m0, m1, m2, m3, m4, m5, m6, m7, m8, m9, m10, m11⟩), (fun j z0 => rfl), (by rw [claimS, if_pos (c := okClaim x y z) ⟨c4, c14, c24⟩, if_neg (by omega)])⟩ dX7_claim_42
      · refine lv_iconst (v := (-1 : Int32)) C.1 C.2.1 dX7_claim_27 (by decide) ?_
        exact xret_i C hr hlk hW ⟨(by rw [claimL, if_neg (c := okClaim x y z ∧ L 24 < 5) (fun h => c24 h.1.2.2)]; exact ⟨_, _, _, _, _, _, _, _, _, _, _, _, m0, m1, m2, m3, m4, m5, m6, m7, m8, m9, m10, m11⟩), (fun j z0 => rfl), (by rw [claimS, if_neg (c := okClaim x y z) (fun h => c24 h.2.2)])⟩ dX7_claim_28

set_option maxHeartbeats 4000000 in
set_option maxRecDepth 100000 in
theorem c_X7_undo (l : Launch) (g : GE) (w : Nat → va_E) (L K T ln sz : Nat → Nat) (hk tn : Nat) (Z : Nat → Int64)  (hI : AdInj g) (hN : gN g = 130) (hS : OkS (L, K, hk, tn, T, ln, sz, Z)) (pr0 : MAll g (L, K, hk, tn, T, ln, sz, Z) w) : Met l yX7_undo wsX7_undo ({ frames := 1, cells := 0, slots := 0, locals := 25 } : Room) (XPc g w [.ref (gad g 119)]) (XQi g (fun r w' => MAll g (undoL L, K, hk, tn, T, ln, sz, Z) w' ∧ (∀ j : Nat, ¬ (119 ≤ j ∧ j < 130) → w' j = w j) ∧ r = undoS L)) 0 0 (gA g) := by
  refine xmet (cc := cX7_undo) (maxL := 1) (ret := (some .int)) (by decide) rfl hI (Nat.le_of_ble_eq_true rfl) ?_
  intro pG eG sG mG belowG methG cG ls C hr hlk hK hW hl
  have hl : lv_has ls 1 [(0, .ref (gad g 119))] := hl
  have hinX7 : ∀ x ∈ u_ws RX7 TX7 19, x ∈ wsX7_undo := by decide +kernel
  obtain ⟨po, ao, mu, md, bu, bd, nu, TR, RD, KP, O, A, m0, m1, m2, m3, m4, m5, m6, m7, m8, m9, m10, m11⟩ := pr0
  have hokL : OkL L := hS.1
  obtain ⟨hok, hs2, hdy, hdr, hcl, hkn, hcs, hps⟩ := hokL
  have htn : tn ≤ 80 := hS.2.2.1
  have hlz : ∀ s, s < 4 → ln s ≤ 4 ∧ sz s ≤ 24 := hS.2.2.2.2
  have m0 : w 119 = .inr (7, [.ref (gad g 120), .ref (gad g 121), .ref (gad g 122), .int (nI tn), .ref (gad g 123), .int (nI po), .int nu, .ref (gad g 124), .ref (gad g 125), .ref (gad g 126), .ref (gad g 127), .int (nI hk), .ref (gad g 128), .ref (gad g 129), .long (lN ao), .long (lN mu), .long (lN md), .long (lN bu), .long (lN bd)]) := m0
  have m1 : w 120 = .inl (gI g, 4, .inl (kK 0 4 0 (laF ln))) := m1
  have m2 : w 121 = .inl (gI g, 4, .inl (cK 4 0 sz)) := m2
  have m3 : w 122 = .inl (gJ g, 96, .inr (.inl (kK 0 96 0 Z))) := m3
  have m4 : w 123 = .inl (gI g, 80, .inl (cK 80 0 T)) := m4
  have m5 : w 124 = .inl (gI g, 177, .inl (cK 177 0 L)) := m5
  have m9 : hk = 1 → KP = K := m9
  refine lv_aload_n C.1 C.2.1 dX7_undo_0 rfl (lv_at hl 0 rfl) ?_
  refine xget C hK hW hinX7 rfl (by omega) m0 7 (by decide) (List.mem_of_getElem? (i := 1) rfl) rfl dX7_undo_1 ?_
  refine lv_bipush (v := (nI 40)) C.1 C.2.1 dX7_undo_4 (by decide) ?_
  refine xildK0 C hK hW (by omega) m5 (by omega) (by decide) dX7_undo_6 ?_
  refine x0ne (tgt := 13) C (by omega) dX7_undo_7 (by decide) (fun c7 => ?_) (fun c7 => ?_)
  · refine lv_aload_n C.1 C.2.1 dX7_undo_13 rfl (lv_at hl 0 rfl) ?_
    refine xget C hK hW hinX7 rfl (by omega) m0 7 (by decide) (List.mem_of_getElem? (i := 1) rfl) rfl dX7_undo_14 ?_
    refine lv_bipush (v := (nI 40)) C.1 C.2.1 dX7_undo_17 (by decide) ?_
    refine lv_dup2_11 C.1 C.2.1 dX7_undo_19 rfl rfl ?_
    refine xildK0 C hK hW (by omega) m5 (by omega) (by decide) dX7_undo_20 ?_
    refine lv_iconst (v := (nI 1)) C.1 C.2.1 dX7_undo_21 (by decide) ?_
    refine xsub C (by omega) dX7_undo_22 ?_
    refine xistK0 (v := (L 40) - 1) C hK hW (by omega) m5 (by omega) (by decide) dX7_undo_23 (fun w1 H locs e2 f3 hW => ?_)
    refine lv_aload_n C.1 C.2.1 dX7_undo_24 rfl (lv_at hl 0 rfl) ?_
    have h4 : w1 119 = .inr (7, [.ref (gad g 120), .ref (gad g 121), .ref (gad g 122), .int (nI tn), .ref (gad g 123), .int (nI po), .int nu, .ref (gad g 124), .ref (gad g 125), .ref (gad g 126), .ref (gad g 127), .int (nI hk), .ref (gad g 128), .ref (gad g 129), .long (lN ao), .long (lN mu), .long (lN md), .long (lN bu), .long (lN bd)]) := ((f3 119 (by omega)).trans m0)
    refine xget C hK hW hinX7 rfl (by omega) h4 7 (by decide) (List.mem_of_getElem? (i := 1) rfl) rfl dX7_undo_25 ?_
    refine lv_bipush (v := (nI 41)) C.1 C.2.1 dX7_undo_28 (by decide) ?_
    refine lv_bipush (v := (nI 17)) C.1 C.2.1 dX7_undo_30 (by decide) ?_
    refine lv_aload_n C.1 C.2.1 dX7_undo_32 rfl (lv_at hl 0 rfl) ?_
    refine xget C hK hW hinX7 rfl (by omega) h4 7 (by decide) (List.mem_of_getElem? (i := 1) rfl) rfl dX7_undo_33 ?_
    refine lv_bipush (v := (nI 40)) C.1 C.2.1 dX7_undo_36 (by decide) ?_
    refine xildK0 C hK hW (by omega) e2 (by omega) (by decide) dX7_undo_38 ?_
    refine xtopN (b := (L 40) - 1) (va_up_self _ _ _) ?_
    refine xmul C dX7_undo_39 ?_
    refine xadd C dX7_undo_40 ?_
    refine lv_aload_n C.1 C.2.1 dX7_undo_41 rfl (lv_at hl 0 rfl) ?_
    refine xget C hK hW hinX7 rfl (by omega) h4 7 (by decide) (List.mem_of_getElem? (i := 1) rfl) rfl dX7_undo_42 ?_
    refine lv_iconst (v := (nI 0)) C.1 C.2.1 dX7_undo_45 (by decide) ?_
    refine lv_bipush (v := (nI 17)) C.1 C.2.1 dX7_undo_46 (by decide) ?_
    refine xcS_v (n := 5) (As := [.ref (gad g 124), .int (nI (41 + (17 * ((L 40) - 1)))), .ref (gad g 124), .int (nI 0), .int (nI 17)]) C hK hW (c_X7_bring1 l g w1 124 (41 + (17 * ((L 40) - 1))) 0 17 (va_up L 40 ((L 40) - 1)) hI hN (by omega) (by omega) (by omega) (by omega) e2) gX7_undo_X7_bring rfl ⟨rfl, rfl⟩ (by decide +kernel) ⟨Nat.le_of_ble_eq_true rfl, Nat.le_of_ble_eq_true rfl⟩ ⟨Nat.zero_le _, Nat.zero_le _⟩ rfl hl rfl (Nat.le_of_ble_eq_true rfl) dX7_undo_48 (fun w5 H locs q6 hW => ?_)
    obtain ⟨h8, f9⟩ := q6
    refine lv_aload_n C.1 C.2.1 dX7_undo_51 rfl (lv_at hl 0 rfl) ?_
    have h10 : w5 119 = .inr (7, [.ref (gad g 120), .ref (gad g 121), .ref (gad g 122), .int (nI tn), .ref (gad g 123), .int (nI po), .int nu, .ref (gad g 124), .ref (gad g 125), .ref (gad g 126), .ref (gad g 127), .int (nI hk), .ref (gad g 128), .ref (gad g 129), .long (lN ao), .long (lN mu), .long (lN md), .long (lN bu), .long (lN bd)]) := ((f9 119 (by omega)).trans h4)
    refine xget C hK hW hinX7 rfl (by omega) h10 7 (by decide) (List.mem_of_getElem? (i := 1) rfl) rfl dX7_undo_52 ?_
    refine lv_bipush (v := (nI 40)) C.1 C.2.1 dX7_undo_55 (by decide) ?_
    refine xildK0 C hK hW (by omega) h8 (by omega) (by decide) dX7_undo_57 ?_
    refine xtopN (b := L 40 - 1) (by rw [cpF_out (by omega), va_up_self]) ?_
    have h11 : w5 120 = .inl (gI g, 4, .inl (kK 0 4 0 (laF ln))) := ((f9 120 (by omega)).trans ((f3 120 (by omega)).trans m1))
    have h12 : w5 121 = .inl (gI g, 4, .inl (cK 4 0 sz)) := ((f9 121 (by omega)).trans ((f3 121 (by omega)).trans m2))
    have h13 : w5 122 = .inl (gJ g, 96, .inr (.inl (kK 0 96 0 Z))) := ((f9 122 (by omega)).trans ((f3 122 (by omega)).trans m3))
    have h14 : w5 123 = .inl (gI g, 80, .inl (cK 80 0 T)) := ((f9 123 (by omega)).trans ((f3 123 (by omega)).trans m4))
    have h15 : w5 125 = .inl (gI g, 177, .inl (cK 177 0 TR)) := ((f9 125 (by omega)).trans ((f3 125 (by omega)).trans m6))
    have h16 : w5 126 = .inl (gI g, 177, .inl (cK 177 0 RD)) := ((f9 126 (by omega)).trans ((f3 126 (by omega)).trans m7))
    have h17 : w5 127 = .inl (gI g, 177, .inl (cK 177 0 KP)) := ((f9 127 (by omega)).trans ((f3 127 (by omega)).trans m8))
    have h18 : w5 128 = .inl (gJ g, 7, .inr (.inl (cL 7 0 O))) := ((f9 128 (by omega)).trans ((f3 128 (by omega)).trans m10))
    have h19 : w5 129 = .inl (gJ g, 7, .inr (.inl (cL 7 0 A))) := ((f9 129 (by omega)).trans ((f3 129 (by omega)).trans m11))
    exact xret_i C hr hlk hW ⟨(by rw [undoL, if_neg (by omega)]; exact ⟨_, _, _, _, _, _, _, _, _, _, _, _, h10, h11, h12, h13, h14, h8, h15, h16, h17, m9, h18, h19⟩), (fun j z0 => ((f9 j (by omega)).trans (f3 j (by omega)))), (by rw [undoS, if_neg (by omega)])⟩ dX7_undo_58
  · refine lv_bipush (v := (-4 : Int32)) C.1 C.2.1 dX7_undo_10 (by decide) ?_
    exact xret_i C hr hlk hW ⟨(by rw [undoL, if_pos (by omega)]; exact ⟨_, _, _, _, _, _, _, _, _, _, _, _, m0, m1, m2, m3, m4, m5, m6, m7, m8, m9, m10, m11⟩), (fun j z0 => rfl), (by rw [undoS, if_pos (by omega)])⟩ dX7_undo_12
