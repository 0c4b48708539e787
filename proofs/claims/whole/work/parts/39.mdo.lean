/-! the reference: what is done -/
set_option maxHeartbeats 4000000 in
set_option maxRecDepth 100000 in
theorem c_X7_note (l : Launch) (g : GE) (w : Nat → va_E) (hk tn po : Nat) (nu : Int32) (ao mu md bu bd : Nat) (L : Nat → Nat) (hI : AdInj g) (hN : gN g = 130) (h40 : L 40 ≤ 8) (pr0 : w 119 = .inr (7, [.ref (gad g 120), .ref (gad g 121), .ref (gad g 122), .int (nI tn), .ref (gad g 123), .int (nI po), .int nu, .ref (gad g 124), .ref (gad g 125), .ref (gad g 126), .ref (gad g 127), .int (nI hk), .ref (gad g 128), .ref (gad g 129), .long (lN ao), .long (lN mu), .long (lN md), .long (lN bu), .long (lN bd)])) (pr1 : w 124 = .inl (gI g, 177, .inl (cK 177 0 L))) : Met l yX7_note wsX7_note ({ frames := 1, cells := 0, slots := 0, locals := 25 } : Room) (XPc g w [.ref (gad g 119)]) (XQv g (fun w' => w' 124 = .inl (gI g, 177, .inl (cK 177 0 (noteF L))) ∧ (∀ j : Nat, ¬ (124 ≤ j ∧ j < 125) → w' j = w j))) 0 0 (gA g) := by
  refine xmet (cc := cX7_note) (maxL := 1) (ret := none) (by decide) rfl hI (Nat.le_of_ble_eq_true rfl) ?_
  intro pG eG sG mG belowG methG cG ls C hr hlk hK hW hl
  have hl : lv_has ls 1 [(0, .ref (gad g 119))] := hl
  have hinX7 : ∀ x ∈ u_ws RX7 TX7 19, x ∈ wsX7_note := by decide +kernel
  refine lv_aload_n C.1 C.2.1 dX7_note_0 rfl (lv_at hl 0 rfl) ?_
  refine xget C hK hW hinX7 rfl (by omega) pr0 7 (by decide) (List.mem_of_getElem? (i := 1) rfl) rfl dX7_note_1 ?_
  refine lv_bipush (v := (nI 40)) C.1 C.2.1 dX7_note_4 (by decide) ?_
  refine xildK0 C hK hW (by omega) pr1 (by omega) (by decide) dX7_note_6 ?_
  refine lv_bipush (v := (nI 8)) C.1 C.2.1 dX7_note_7 (by decide) ?_
  refine xne (tgt := 40) C (by omega) (by omega) dX7_note_9 (by decide) (fun c9 => ?_) (fun c9 => ?_)
  · refine lv_aload_n C.1 C.2.1 dX7_note_40 rfl (lv_at hl 0 rfl) ?_
    refine xget C hK hW hinX7 rfl (by omega) pr0 7 (by decide) (List.mem_of_getElem? (i := 1) rfl) rfl dX7_note_41 ?_
    refine lv_iconst (v := (nI 0)) C.1 C.2.1 dX7_note_44 (by decide) ?_
    refine lv_aload_n C.1 C.2.1 dX7_note_45 rfl (lv_at hl 0 rfl) ?_
    refine xget C hK hW hinX7 rfl (by omega) pr0 7 (by decide) (List.mem_of_getElem? (i := 1) rfl) rfl dX7_note_46 ?_
    refine lv_bipush (v := (nI 41)) C.1 C.2.1 dX7_note_49 (by decide) ?_
    refine lv_bipush (v := (nI 17)) C.1 C.2.1 dX7_note_51 (by decide) ?_
    refine lv_aload_n C.1 C.2.1 dX7_note_53 rfl (lv_at hl 0 rfl) ?_
    refine xget C hK hW hinX7 rfl (by omega) pr0 7 (by decide) (List.mem_of_getElem? (i := 1) rfl) rfl dX7_note_54 ?_
    refine lv_bipush (v := (nI 40)) C.1 C.2.1 dX7_note_57 (by decide) ?_
    refine xildK0 C hK hW (by omega) pr1 (by omega) (by decide) dX7_note_59 ?_
    refine xmul C dX7_note_60 ?_
    refine xadd C dX7_note_61 ?_
    refine lv_bipush (v := (nI 17)) C.1 C.2.1 dX7_note_62 (by decide) ?_
    refine xcS_v (n := 5) (As := [.ref (gad g 124), .int (nI 0), .ref (gad g 124), .int (nI (41 + (17 * (L 40)))), .int (nI 17)]) C hK hW (c_X7_bring1 l g w 124 0 (41 + (17 * (L 40))) 17 L hI hN (by omega) (by omega) (by omega) (by omega) pr1) gX7_note_X7_bring rfl ⟨rfl, rfl⟩ (by decide +kernel) ⟨Nat.le_of_ble_eq_true rfl, Nat.le_of_ble_eq_true rfl⟩ ⟨Nat.zero_le _, Nat.zero_le _⟩ rfl hl rfl (Nat.le_of_ble_eq_true rfl) dX7_note_64 (fun w1 H locs q2 hW => ?_)
    obtain ⟨h4, f5⟩ := q2
    refine lv_aload_n C.1 C.2.1 dX7_note_67 rfl (lv_at hl 0 rfl) ?_
    have h6 : w1 119 = .inr (7, [.ref (gad g 120), .ref (gad g 121), .ref (gad g 122), .int (nI tn), .ref (gad g 123), .int (nI po), .int nu, .ref (gad g 124), .ref (gad g 125), .ref (gad g 126), .ref (gad g 127), .int (nI hk), .ref (gad g 128), .ref (gad g 129), .long (lN ao), .long (lN mu), .long (lN md), .long (lN bu), .long (lN bd)]) := ((f5 119 (by omega)).trans pr0)
    refine xget C hK hW hinX7 rfl (by omega) h6 7 (by decide) (List.mem_of_getElem? (i := 1) rfl) rfl dX7_note_68 ?_
    refine lv_bipush (v := (nI 40)) C.1 C.2.1 dX7_note_71 (by decide) ?_
    refine lv_dup2_11 C.1 C.2.1 dX7_note_73 rfl rfl ?_
    refine xildK0 C hK hW (by omega) h4 (by omega) (by decide) dX7_note_74 ?_
    refine xtopN (b := L 40) (cpF_out (by omega)) ?_
    refine lv_iconst (v := (nI 1)) C.1 C.2.1 dX7_note_75 (by decide) ?_
    refine xadd C dX7_note_76 ?_
    refine xistK0 (v := (L 40) + 1) C hK hW (by omega) h4 (by omega) (by decide) dX7_note_77 (fun w7 H locs e8 f9 hW => ?_)
    exact xret_v C hr hlk hW ⟨(by rw [noteF, if_neg c9]; exact e8), (fun j z0 => ((f9 j (by omega)).trans (f5 j (by omega))))⟩ dX7_note_78
  · refine lv_aload_n C.1 C.2.1 dX7_note_12 rfl (lv_at hl 0 rfl) ?_
    refine xget C hK hW hinX7 rfl (by omega) pr0 7 (by decide) (List.mem_of_getElem? (i := 1) rfl) rfl dX7_note_13 ?_
    refine lv_bipush (v := (nI 58)) C.1 C.2.1 dX7_note_16 (by decide) ?_
    refine lv_aload_n C.1 C.2.1 dX7_note_18 rfl (lv_at hl 0 rfl) ?_
    refine xget C hK hW hinX7 rfl (by omega) pr0 7 (by decide) (List.mem_of_getElem? (i := 1) rfl) rfl dX7_note_19 ?_
    refine lv_bipush (v := (nI 41)) C.1 C.2.1 dX7_note_22 (by decide) ?_
    refine lv_bipush (v := (nI 119)) C.1 C.2.1 dX7_note_24 (by decide) ?_
    refine xcS_v (n := 5) (As := [.ref (gad g 124), .int (nI 58), .ref (gad g 124), .int (nI 41), .int (nI 119)]) C hK hW (c_X7_bring1 l g w 124 58 41 119 L hI hN (by omega) (by omega) (by omega) (by omega) pr1) gX7_note_X7_bring rfl ⟨rfl, rfl⟩ (by decide +kernel) ⟨Nat.le_of_ble_eq_true rfl, Nat.le_of_ble_eq_true rfl⟩ ⟨Nat.zero_le _, Nat.zero_le _⟩ rfl hl rfl (Nat.le_of_ble_eq_true rfl) dX7_note_26 (fun w10 H locs q11 hW => ?_)
    obtain ⟨h13, f14⟩ := q11
    refine lv_aload_n C.1 C.2.1 dX7_note_29 rfl (lv_at hl 0 rfl) ?_
    have h15 : w10 119 = .inr (7, [.ref (gad g 120), .ref (gad g 121), .ref (gad g 122), .int (nI tn), .ref (gad g 123), .int (nI po), .int nu, .ref (gad g 124), .ref (gad g 125), .ref (gad g 126), .ref (gad g 127), .int (nI hk), .ref (gad g 128), .ref (gad g 129), .long (lN ao), .long (lN mu), .long (lN md), .long (lN bu), .long (lN bd)]) := ((f14 119 (by omega)).trans pr0)
    refine xget C hK hW hinX7 rfl (by omega) h15 7 (by decide) (List.mem_of_getElem? (i := 1) rfl) rfl dX7_note_30 ?_
    refine lv_bipush (v := (nI 40)) C.1 C.2.1 dX7_note_33 (by decide) ?_
    refine lv_dup2_11 C.1 C.2.1 dX7_note_35 rfl rfl ?_
    refine xildK0 C hK hW (by omega) h13 (by omega) (by decide) dX7_note_36 ?_
    refine xtopN (b := 8) (by rw [cpF_out (by omega)]; omega) ?_
    refine lv_iconst (v := (nI 1)) C.1 C.2.1 dX7_note_37 (by decide) ?_
    refine xsub C (by omega) dX7_note_38 ?_
    refine xistK0 (v := 8 - 1) C hK hW (by omega) h13 (by omega) (by decide) dX7_note_39 (fun w16 H locs e17 f18 hW => ?_)
    have h19 : w16 124 = .inl (gI g, 177, .inl (cK 177 0 (va_up (cpF 58 41 119 L L) 40 7))) := e17
    refine lv_aload_n C.1 C.2.1 dX7_note_40 rfl (lv_at hl 0 rfl) ?_
    have h20 : w16 119 = .inr (7, [.ref (gad g 120), .ref (gad g 121), .ref (gad g 122), .int (nI tn), .ref (gad g 123), .int (nI po), .int nu, .ref (gad g 124), .ref (gad g 125), .ref (gad g 126), .ref (gad g 127), .int (nI hk), .ref (gad g 128), .ref (gad g 129), .long (lN ao), .long (lN mu), .long (lN md), .long (lN bu), .long (lN bd)]) := ((f18 119 (by omega)).trans h15)
    refine xget C hK hW hinX7 rfl (by omega) h20 7 (by decide) (List.mem_of_getElem? (i := 1) rfl) rfl dX7_note_41 ?_
    refine lv_iconst (v := (nI 0)) C.1 C.2.1 dX7_note_44 (by decide) ?_
    refine lv_aload_n C.1 C.2.1 dX7_note_45 rfl (lv_at hl 0 rfl) ?_
    refine xget C hK hW hinX7 rfl (by omega) h20 7 (by decide) (List.mem_of_getElem? (i := 1) rfl) rfl dX7_note_46 ?_
    refine lv_bipush (v := (nI 41)) C.1 C.2.1 dX7_note_49 (by decide) ?_
    refine lv_bipush (v := (nI 17)) C.1 C.2.1 dX7_note_51 (by decide) ?_
    refine lv_aload_n C.1 C.2.1 dX7_note_53 rfl (lv_at hl 0 rfl) ?_
    refine xget C hK hW hinX7 rfl (by omega) h20 7 (by decide) (List.mem_of_getElem? (i := 1) rfl) rfl dX7_note_54 ?_
    refine lv_bipush (v := (nI 40)) C.1 C.2.1 dX7_note_57 (by decide) ?_
    refine xildK0 C hK hW (by omega) h19 (by omega) (by decide) dX7_note_59 ?_
    refine xtopN (b := 7) (va_up_self _ _ _) ?_
    refine xmul C dX7_note_60 ?_
    refine xadd C dX7_note_61 ?_
    refine lv_bipush (v := (nI 17)) C.1 C.2.1 dX7_note_62 (by decide) ?_
    refine xcS_v (n := 5) (As := [.ref (gad g 124), .int (nI 0), .ref (gad g 124), .int (nI 160), .int (nI 17)]) C hK hW (c_X7_bring1 l g w16 124 0 160 17 (va_up (cpF 58 41 119 L L) 40 7) hI hN (by omega) (by omega) (by omega) (by omega) h19) gX7_note_X7_bring rfl ⟨rfl, rfl⟩ (by decide +kernel) ⟨Nat.le_of_ble_eq_true rfl, Nat.le_of_ble_eq_true rfl⟩ ⟨Nat.zero_le _, Nat.zero_le _⟩ rfl hl rfl (Nat.le_of_ble_eq_true rfl) dX7_note_64 (fun w21 H locs q22 hW => ?_)
    obtain ⟨h24, f25⟩ := q22
    refine lv_aload_n C.1 C.2.1 dX7_note_67 rfl (lv_at hl 0 rfl) ?_
    have h26 : w21 119 = .inr (7, [.ref (gad g 120), .ref (gad g 121), .ref (gad g 122), .int (nI tn), .ref (gad g 123), .int (nI po), .int nu, .ref (gad g 124), .ref (gad g 125), .ref (gad g 126), .ref (gad g 127), .int (nI hk), .ref (gad g 128), .ref (gad g 129), .long (lN ao), .long (lN mu), .long (lN md), .long (lN bu), .long (lN bd)]) := ((f25 119 (by omega)).trans h20)
    refine xget C hK hW hinX7 rfl (by omega) h26 7 (by decide) (List.mem_of_getElem? (i := 1) rfl) rfl dX7_note_68 ?_
    refine lv_bipush (v := (nI 40)) C.1 C.2.1 dX7_note_71 (by decide) ?_
    refine lv_dup2_11 C.1 C.2.1 dX7_note_73 rfl rfl ?_
    refine xildK0 C hK hW (by omega) h24 (by omega) (by decide) dX7_note_74 ?_
    refine xtopN (b := 7) (by rw [cpF_out (by omega), va_up_self]) ?_
    refine lv_iconst (v := (nI 1)) C.1 C.2.1 dX7_note_75 (by decide) ?_
    refine xadd C dX7_note_76 ?_
    refine xistK0 (v := 8) C hK hW (by omega) h24 (by omega) (by decide) dX7_note_77 (fun w27 H locs e28 f29 hW => ?_)
    exact xret_v C hr hlk hW ⟨(by rw [noteF, if_pos (by omega)]; exact e28), (fun j z0 => ((f29 j (by omega)).trans ((f25 j (by omega)).trans ((f18 j (by omega)).trans (f14 j (by omega))))))⟩ dX7_note_78

set_option maxHeartbeats 4000000 in
set_option maxRecDepth 100000 in
theorem c_X7_carry (l : Launch) (g : GE) (w : Nat → va_E) (L K T ln sz : Nat → Nat) (hk tn : Nat) (Z : Nat → Int64) (x : Int32) (hI : AdInj g) (hN : gN g = 130) (hS : OkS (L, K, hk, tn, T, ln, sz, Z)) (pr0 : MAll g (L, K, hk, tn, T, ln, sz, Z) w) : Met l yX7_carry wsX7_carry ({ frames := 2, cells := 0, slots := 0, locals := 45 } : Room) (XPc g w [.ref (gad g 119), .int x]) (XQi g (fun r w' => MAll g (carryL L x, K, hk, tn, T, ln, sz, Z) w' ∧ (∀ j : Nat, ¬ (119 ≤ j ∧ j < 130) → w' j = w j) ∧ r = carryS L x)) 0 0 (gA g) := by
  refine xmet (cc := cX7_carry) (maxL := 3) (ret := (some .int)) (by decide) rfl hI (Nat.le_of_ble_eq_true rfl) ?_
  intro pG eG sG mG belowG methG cG ls C hr hlk hK hW hl
  have hl : lv_has ls 3 [(0, .ref (gad g 119)), (1, .int x)] := hl
  have hinX7 : ∀ x ∈ u_ws RX7 TX7 19, x ∈ wsX7_carry := by decide +kernel
  obtain ⟨po, ao, mu, md, bu, bd, nu, TR, RD, KP, O, A, m0, m1, m2, m3, m4, m5, m6, m7, m8, m9, m10, m11⟩ := pr0
  have hokL : OkL L := hS.1
  obtain ⟨hok, hs2, hdy, hdr, hcl, hkn, hcs, hps⟩ := hokL
  have htn : tn ≤ 80 := hS.2.2.1
  have hlz : ∀ s, s < 4 → ln s ≤ 4 ∧ sz s ≤ 24 := hS.2.2.2.2
  have m0 : w 119 = .inr (7, [.ref (gad g 120), .ref (gad g 121), .ref (gad g 122), .int (nI tn), .ref (gad g 123), .int (nI po), .int nu, .ref (gad g 124), .ref (gad g 125), .ref (gad g 126), .ref (gad g 127), .int (nI hk), .ref (gad g 128), .ref (gad g 129), .long (lN ao), .long (lN mu), .long (lN md), .long (lN bu), .long (lN bd)]) := m0
  have m1 : w 120 = .inl (gI g, 4, .inl (kK 0 4 0 (laF ln))) := m1
  have m2 : w 121 = .inl (gI g, 4, .inl (cK 4 0 sz)) := m2
  have m3 : w 122 = .inl (gJ g, 96, .inr (.inl (kK 0 96 0 Z))) := m3
  have m4 : w 123 = .inl (gI g, 80, .inl (cK 80 0 T)) := m4
  have m5 : w 124 = .inl (gI g, 177, .inl (cK 177 0 L)) := m5
  have m9 : hk = 1 → KP = K := m9
  refine lv_iload_n C.1 C.2.1 dX7_carry_0 rfl (lv_at hl 1 rfl) ?_
  refine xcS_i (n := 1) (As := [.int x]) C hK hW (c_X7_isField l g w x hI hN) gX7_carry_X7_isField rfl ⟨rfl, rfl⟩ (by decide +kernel) ⟨Nat.le_of_ble_eq_true rfl, Nat.le_of_ble_eq_true rfl⟩ ⟨Nat.zero_le _, Nat.zero_le _⟩ rfl hl rfl (Nat.le_of_ble_eq_true rfl) dX7_carry_1 (fun r3 w1 H locs q2 hW => ?_)
  obtain ⟨qw4, rfl⟩ := q2
  rw [qw4] at hW
  refine xBne (tgt := 9) C dX7_carry_4 (by decide) (fun c4 => ?_) (fun c4 => ?_)
  · obtain ⟨k1, ha_k1, hb_k1, hx_k1⟩ := inR_N (by omega) (by omega) c4
    rw [hx_k1] at hl
    refine lv_aload_n C.1 C.2.1 dX7_carry_9 rfl (lv_at hl 0 rfl) ?_
    refine xget C hK hW hinX7 rfl (by omega) m0 7 (by decide) (List.mem_of_getElem? (i := 1) rfl) rfl dX7_carry_10 ?_
    refine lv_iconst (v := (nI 2)) C.1 C.2.1 dX7_carry_13 (by decide) ?_
    refine xildK0 C hK hW (by omega) m5 (by omega) (by decide) dX7_carry_14 ?_
    refine lv_istore_n (lv' := [(2, .int (nI (L 2))), (0, .ref (gad g 119)), (1, .int (nI k1))]) C.1 C.2.1 dX7_carry_15 rfl hl (by decide) rfl (fun ls hl => ?_)
    refine lv_iload_n C.1 C.2.1 dX7_carry_16 rfl (lv_at hl 0 rfl) ?_
    refine lv_iload_n C.1 C.2.1 dX7_carry_17 rfl (lv_at hl 2 rfl) ?_
    refine xne (tgt := 24) C (by omega) (by omega) dX7_carry_18 (by decide) (fun c18 => ?_) (fun c18 => ?_)
    · refine lv_aload_n C.1 C.2.1 dX7_carry_24 rfl (lv_at hl 1 rfl) ?_
      refine xcV_v (n := 0) (As := []) C hK hW (c_X7_note l g w hk tn po nu ao mu md bu bd L hI hN (by omega) m0 m5) gX7_carry_X7_note rfl ⟨rfl, rfl⟩ (by decide +kernel) ⟨Nat.le_of_ble_eq_true rfl, Nat.le_of_ble_eq_true rfl⟩ ⟨Nat.zero_le _, Nat.zero_le _⟩ rfl (by omega) m0 rfl hl rfl (Nat.le_of_ble_eq_true rfl) dX7_carry_25 (fun w5 H locs q6 hW => ?_)
      obtain ⟨h8, f9⟩ := q6
      refine lv_aload_n C.1 C.2.1 dX7_carry_28 rfl (lv_at hl 1 rfl) ?_
      have h10 : w5 119 = .inr (7, [.ref (gad g 120), .ref (gad g 121), .ref (gad g 122), .int (nI tn), .ref (gad g 123), .int (nI po), .int nu, .ref (gad g 124), .ref (gad g 125), .ref (gad g 126), .ref (gad g 127), .int (nI hk), .ref (gad g 128), .ref (gad g 129), .long (lN ao), .long (lN mu), .long (lN md), .long (lN bu), .long (lN bd)]) := ((f9 119 (by omega)).trans m0)
      refine xget C hK hW hinX7 rfl (by omega) h10 7 (by decide) (List.mem_of_getElem? (i := 1) rfl) rfl dX7_carry_29 ?_
      refine lv_iconst (v := (nI 2)) C.1 C.2.1 dX7_carry_32 (by decide) ?_
      refine lv_iload_n C.1 C.2.1 dX7_carry_33 rfl (lv_at hl 2 rfl) ?_
      refine xistK0 (v := k1) C hK hW (by omega) h8 (by omega) (by decide) dX7_carry_34 (fun w11 H locs e12 f13 hW => ?_)
      refine lv_iload_n C.1 C.2.1 dX7_carry_35 rfl (lv_at hl 0 rfl) ?_
      have h14 : w11 119 = .inr (7, [.ref (gad g 120), .ref (gad g 121), .ref (gad g 122), .int (nI tn), .ref (gad g 123), .int (nI po), .int nu, .ref (gad g 124), .ref (gad g 125), .ref (gad g 126), .ref (gad g 127), .int (nI hk), .ref (gad g 128), .ref (gad g 129), .long (lN ao), .long (lN mu), .long (lN md), .long (lN bu), .long (lN bd)]) := ((f13 119 (by omega)).trans h10)
      have h15 : w11 120 = .inl (gI g, 4, .inl (kK 0 4 0 (laF ln))) := ((f13 120 (by omega)).trans ((f9 120 (by omega)).trans m1))
      have h16 : w11 121 = .inl (gI g, 4, .inl (cK 4 0 sz)) := ((f13 121 (by omega)).trans ((f9 121 (by omega)).trans m2))
      have h17 : w11 122 = .inl (gJ g, 96, .inr (.inl (kK 0 96 0 Z))) := ((f13 122 (by omega)).trans ((f9 122 (by omega)).trans m3))
      have h18 : w11 123 = .inl (gI g, 80, .inl (cK 80 0 T)) := ((f13 123 (by omega)).trans ((f9 123 (by omega)).trans m4))
      have h19 : w11 125 = .inl (gI g, 177, .inl (cK 177 0 TR)) := ((f13 125 (by omega)).trans ((f9 125 (by omega)).trans m6))
      have h20 : w11 126 = .inl (gI g, 177, .inl (cK 177 0 RD)) := ((f13 126 (by omega)).trans ((f9 126 (by omega)).trans m7))
      have h21 : w11 127 = .inl (gI g, 177, .inl (cK 177 0 KP)) := ((f13 127 (by omega)).trans ((f9 127 (by omega)).trans m8))
      have h22 : w11 128 = .inl (gJ g, 7, .inr (.inl (cL 7 0 O))) := ((f13 128 (by omega)).trans ((f9 128 (by omega)).trans m10))
      have h23 : w11 129 = .inl (gJ g, 7, .inr (.inl (cL 7 0 A))) := ((f13 129 (by omega)).trans ((f9 129 (by omega)).trans m11))
      exact xret_i C hr hlk hW ⟨(by rw [carryL, if_pos (c := in6 x ∧ ¬ L 2 = cl x) ⟨c4, by rw [hx_k1, cl_nI (by omega)]; omega⟩, hx_k1, cl_nI (by omega)]; exact ⟨_, _, _, _, _, _, _, _, _, _, _, _, h14, h15, h16, h17, h18, e12, h19, h20, h21, m9, h22, h23⟩), (fun j z0 => ((f13 j (by omega)).trans (f9 j (by omega)))), (by rw [carryS, if_pos (c := in6 x) c4, hx_k1, cl_nI (by omega), if_neg (by omega)])⟩ dX7_carry_36
    · refine lv_bipush (v := (-2 : Int32)) C.1 C.2.1 dX7_carry_21 (by decide) ?_
      exact xret_i C hr hlk hW ⟨(by rw [carryL, if_neg (c := in6 x ∧ ¬ L 2 = cl x) (fun h => h.2 (by rw [hx_k1, cl_nI (by omega)]; omega))]; exact ⟨_, _, _, _, _, _, _, _, _, _, _, _, m0, m1, m2, m3, m4, m5, m6, m7, m8, m9, m10, m11⟩), (fun j z0 => rfl), (by rw [carryS, if_pos (c := in6 x) c4, hx_k1, cl_nI (by omega), if_pos (by omega)])⟩ dX7_carry_23
  · refine lv_iconst (v := (-1 : Int32)) C.1 C.2.1 dX7_carry_7 (by decide) ?_
    exact xret_i C hr hlk hW ⟨(by rw [carryL, if_neg (c := in6 x ∧ ¬ L 2 = cl x) (fun h => c4 h.1)]; exact ⟨_, _, _, _, _, _, _, _, _, _, _, _, m0, m1, m2, m3, m4, m5, m6, m7, m8, m9, m10, m11⟩), (fun j z0 => rfl), (by rw [carryS, if_neg (c := in6 x) c4])⟩ dX7_carry_8

set_option maxHeartbeats 4000000 in
set_option maxRecDepth 100000 in
theorem c_X7_lettuce (l : Launch) (g : GE) (w : Nat → va_E) (L K T ln sz : Nat → Nat) (hk tn : Nat) (Z : Nat → Int64) (x : Int32) (y : Int32) (hI : AdInj g) (hN : gN g = 130) (hS : OkS (L, K, hk, tn, T, ln, sz, Z)) (pr0 : MAll g (L, K, hk, tn, T, ln, sz, Z) w) : Met l yX7_lettuce wsX7_lettuce ({ frames := 2, cells := 0, slots := 0, locals := 45 } : Room) (XPc g w [.ref (gad g 119), .int x, .int y]) (XQi g (fun r w' => MAll g (letL L x y, K, hk, tn, T, ln, sz, Z) w' ∧ (∀ j : Nat, ¬ (119 ≤ j ∧ j < 130) → w' j = w j) ∧ r = letS L x y)) 0 0 (gA g) := by
  refine xmet (cc := cX7_lettuce) (maxL := 3) (ret := (some .int)) (by decide) rfl hI (Nat.le_of_ble_eq_true rfl) ?_
  intro pG eG sG mG belowG methG cG ls C hr hlk hK hW hl
  have hl : lv_has ls 3 [(0, .ref (gad g 119)), (1, .int x), (2, .int y)] := hl
  have hinX7 : ∀ x ∈ u_ws RX7 TX7 19, x ∈ wsX7_lettuce := by decide +kernel
  obtain ⟨po, ao, mu, md, bu, bd, nu, TR, RD, KP, O, A, m0, m1, m2, m3, m4, m5, m6, m7, m8, m9, m10, m11⟩ := pr0
  have hokL : OkL L := hS.1
  obtain ⟨hok, hs2, hdy, hdr, hcl, hkn, hcs, hps⟩ := hokL
  have htn : tn ≤ 80 := hS.2.2.1
  have hlz : ∀ s, s < 4 → ln s ≤ 4 ∧ sz s ≤ 24 := hS.2.2.2.2
  have m0 : w 119 = .inr (7, [.ref (gad g 120), .ref (gad g 121), .ref (gad g 122), .int (nI tn), .ref (gad g 123), .int (nI po), .int nu, .ref (gad g 124), .ref (gad g 125), .ref (gad g 126), .ref (gad g 127), .int (nI hk), .ref (gad g 128), .ref (gad g 129), .long (lN ao), .long (lN mu), .long (lN md), .long (lN bu), .long (lN bd)]) := m0
  have m1 : w 120 = .inl (gI g, 4, .inl (kK 0 4 0 (laF ln))) := m1
  have m2 : w 121 = .inl (gI g, 4, .inl (cK 4 0 sz)) := m2
  have m3 : w 122 = .inl (gJ g, 96, .inr (.inl (kK 0 96 0 Z))) := m3
  have m4 : w 123 = .inl (gI g, 80, .inl (cK 80 0 T)) := m4
  have m5 : w 124 = .inl (gI g, 177, .inl (cK 177 0 L)) := m5
  have m9 : hk = 1 → KP = K := m9
  refine lv_iload_n C.1 C.2.1 dX7_lettuce_0 rfl (lv_at hl 1 rfl) ?_
  refine xcS_i (n := 1) (As := [.int x]) C hK hW (c_X7_isField l g w x hI hN) gX7_lettuce_X7_isField rfl ⟨rfl, rfl⟩ (by decide +kernel) ⟨Nat.le_of_ble_eq_true rfl, Nat.le_of_ble_eq_true rfl⟩ ⟨Nat.zero_le _, Nat.zero_le _⟩ rfl hl rfl (Nat.le_of_ble_eq_true rfl) dX7_lettuce_1 (fun r3 w1 H locs q2 hW => ?_)
  obtain ⟨qw4, rfl⟩ := q2
  rw [qw4] at hW
  refine xBeq (tgt := 17) C dX7_lettuce_4 (by decide) (fun c4 => ?_) (fun c4 => ?_)
  · refine lv_iconst (v := (-1 : Int32)) C.1 C.2.1 dX7_lettuce_17 (by decide) ?_
    exact xret_i C hr hlk hW ⟨(by rw [letL, if_neg (c := okLet x y ∧ ¬ L (3 + cl x) = 9) (fun h => c4 h.1.1)]; exact ⟨_, _, _, _, _, _, _, _, _, _, _, _, m0, m1, m2, m3, m4, m5, m6, m7, m8, m9, m10, m11⟩), (fun j z0 => rfl), (by rw [letS, if_neg (c := okLet x y) (fun h => c4 h.1)])⟩ dX7_lettuce_18
  · refine lv_iload_n C.1 C.2.1 dX7_lettuce_7 rfl (lv_at hl 2 rfl) ?_
    refine lv_iconst (v := (nI 1)) C.1 C.2.1 dX7_lettuce_8 (by decide) ?_
    refine lv_bipush (v := (nI 9)) C.1 C.2.1 dX7_lettuce_9 (by decide) ?_
    refine xcS_i (n := 3) (As := [.int y, .int (nI 1), .int (nI 9)]) C hK hW (c_X7_in l g w y (nI 1) (nI 9) hI hN) gX7_lettuce_X7_in rfl ⟨rfl, rfl⟩ (by decide +kernel) ⟨Nat.le_of_ble_eq_true rfl, Nat.le_of_ble_eq_true rfl⟩ ⟨Nat.zero_le _, Nat.zero_le _⟩ rfl hl rfl (Nat.le_of_ble_eq_true rfl) dX7_lettuce_11 (fun r7 w5 H locs q6 hW => ?_)
    obtain ⟨qw8, rfl⟩ := q6
    rw [qw8] at hW
    refine xBne (tgt := 19) C dX7_lettuce_14 (by decide) (fun c14 => ?_) (fun c14 => ?_)
    · obtain ⟨k1, ha_k1, hb_k1, hx_k1⟩ := inR_N (by omega) (by omega) c4
      rw [hx_k1] at hl
      obtain ⟨k2, ha_k2, hb_k2, hx_k2⟩ := inR_N (by omega) (by omega) c14
      rw [hx_k2] at hl
      have hfo := (hok k1 (by omega)).2.1
      refine lv_aload_n C.1 C.2.1 dX7_lettuce_19 rfl (lv_at hl 0 rfl) ?_
      refine xget C hK hW hinX7 rfl (by omega) m0 7 (by decide) (List.mem_of_getElem? (i := 1) rfl) rfl dX7_lettuce_20 ?_
      refine lv_iconst (v := (nI 3)) C.1 C.2.1 dX7_lettuce_23 (by decide) ?_
      refine lv_iload_n C.1 C.2.1 dX7_lettuce_24 rfl (lv_at hl 1 rfl) ?_
      refine xadd C dX7_lettuce_25 ?_
      refine xildK0 C hK hW (by omega) m5 (by omega) (by decide) dX7_lettuce_26 ?_
      refine lv_bipush (v := (nI 9)) C.1 C.2.1 dX7_lettuce_27 (by decide) ?_
      refine xne (tgt := 35) C (by omega) (by omega) dX7_lettuce_29 (by decide) (fun c29 => ?_) (fun c29 => ?_)
      · refine lv_aload_n C.1 C.2.1 dX7_lettuce_35 rfl (lv_at hl 0 rfl) ?_
        refine xcV_v (n := 0) (As := []) C hK hW (c_X7_note l g w hk tn po nu ao mu md bu bd L hI hN (by omega) m0 m5) gX7_lettuce_X7_note rfl ⟨rfl, rfl⟩ (by decide +kernel) ⟨Nat.le_of_ble_eq_true rfl, Nat.le_of_ble_eq_true rfl⟩ ⟨Nat.zero_le _, Nat.zero_le _⟩ rfl (by omega) m0 rfl hl rfl (Nat.le_of_ble_eq_true rfl) dX7_lettuce_36 (fun w9 H locs q10 hW => ?_)
        obtain ⟨h12, f13⟩ := q10
        refine lv_aload_n C.1 C.2.1 dX7_lettuce_39 rfl (lv_at hl 0 rfl) ?_
        have h14 : w9 119 = .inr (7, [.ref (gad g 120), .ref (gad g 121), .ref (gad g 122), .int (nI tn), .ref (gad g 123), .int (nI po), .int nu, .ref (gad g 124), .ref (gad g 125), .ref (gad g 126), .ref (gad g 127), .int (nI hk), .ref (gad g 128), .ref (gad g 129), .long (lN ao), .long (lN mu), .long (lN md), .long (lN bu), .long (lN bd)]) := ((f13 119 (by omega)).trans m0)
        refine xget C hK hW hinX7 rfl (by omega) h14 7 (by decide) (List.mem_of_getElem? (i := 1) rfl) rfl dX7_lettuce_40 ?_
        refine lv_iconst (v := (nI 3)) C.1 C.2.1 dX7_lettuce_43 (by decide) ?_
        refine lv_iload_n C.1 C.2.1 dX7_lettuce_44 rfl (lv_at hl 1 rfl) ?_
        refine xadd C dX7_lettuce_45 ?_
        refine lv_aload_n C.1 C.2.1 dX7_lettuce_46 rfl (lv_at hl 0 rfl) ?_
        refine xget C hK hW hinX7 rfl (by omega) h14 7 (by decide) (List.mem_of_getElem? (i := 1) rfl) rfl dX7_lettuce_47 ?_
        refine lv_iconst (v := (nI 3)) C.1 C.2.1 dX7_lettuce_50 (by decide) ?_
        refine lv_iload_n C.1 C.2.1 dX7_lettuce_51 rfl (lv_at hl 1 rfl) ?_
        refine xadd C dX7_lettuce_52 ?_
        refine xildK0 C hK hW (by omega) h12 (by omega) (by decide) dX7_lettuce_53 ?_
        refine xtopN (b := L (3 + k1)) (noteF_lo (by omega)) ?_
        refine lv_iload_n C.1 C.2.1 dX7_lettuce_54 rfl (lv_at hl 2 rfl) ?_
        refine xadd C dX7_lettuce_55 ?_
        refine lv_bipush (v := (nI 9)) C.1 C.2.1 dX7_lettuce_56 (by decide) ?_
        refine xle (tgt := 66) C (by omega) (by omega) dX7_lettuce_58 (by decide) (fun c58 => ?_) (fun c58 => ?_)
        · refine lv_aload_n C.1 C.2.1 dX7_lettuce_66 rfl (lv_at hl 0 rfl) ?_
          refine xget C hK hW hinX7 rfl (by omega) h14 7 (by decide) (List.mem_of_getElem? (i := 1) rfl) rfl dX7_lettuce_67 ?_
          refine lv_iconst (v := (nI 3)) C.1 C.2.1 dX7_lettuce_70 (by decide) ?_
          refine lv_iload_n C.1 C.2.1 dX7_lettuce_71 rfl (lv_at hl 1 rfl) ?_
          refine xadd C dX7_lettuce_72 ?_
          refine xildK0 C hK hW (by omega) h12 (by omega) (by decide) dX7_lettuce_73 ?_
          refine xtopN (b := L (3 + k1)) (noteF_lo (by omega)) ?_
          refine lv_iload_n C.1 C.2.1 dX7_lettuce_74 rfl (lv_at hl 2 rfl) ?_
          refine xadd C dX7_lettuce_75 ?_
          refine xistK0 (v := (L (3 + k1)) + k2) C hK hW (by omega) h12 (by omega) (by decide) dX7_lettuce_76 (fun w15 H locs e16 f17 hW => ?_)
          have h18 : w15 124 = .inl (gI g, 177, .inl (cK 177 0 (va_up (noteF L) (3 + k1) (min 9 (L (3 + k1) + k2))))) := e16.trans (by rw [show min 9 (L (3 + k1) + k2) = L (3 + k1) + k2 by omega])
          refine lv_aload_n C.1 C.2.1 dX7_lettuce_77 rfl (lv_at hl 0 rfl) ?_
          have h19 : w15 119 = .inr (7, [.ref (gad g 120), .ref (gad g 121), .ref (gad g 122), .int (nI tn), .ref (gad g 123), .int (nI po), .int nu, .ref (gad g 124), .ref (gad g 125), .ref (gad g 126), .ref (gad g 127), .int (nI hk), .ref (gad g 128), .ref (gad g 129), .long (lN ao), .long (lN mu), .long (lN md), .long (lN bu), .long (lN bd)]) := ((f17 119 (by omega)).trans h14)
          refine xget C hK hW hinX7 rfl (by omega) h19 7 (by decide) (List.mem_of_getElem? (i := 1) rfl) rfl dX7_lettuce_78 ?_
          refine lv_iconst (v := (nI 3)) C.1 C.2.1 dX7_lettuce_81 (by decide) ?_
          refine lv_iload_n C.1 C.2.1 dX7_lettuce_82 rfl (lv_at hl 1 rfl) ?_
          refine xadd C dX7_lettuce_83 ?_
          refine xildK0 C hK hW (by omega) h18 (by omega) (by decide) dX7_lettuce_84 ?_
          refine xtopN (b := min 9 (L (3 + k1) + k2)) (va_up_self _ _ _) ?_
          have h20 : w15 120 = .inl (gI g, 4, .inl (kK 0 4 0 (laF ln))) := ((f17 120 (by omega)).trans ((f13 120 (by omega)).trans m1))
          have h21 : w15 121 = .inl (gI g, 4, .inl (cK 4 0 sz)) := ((f17 121 (by omega)).trans ((f13 121 (by omega)).trans m2))
          have h22 : w15 122 = .inl (gJ g, 96, .inr (.inl (kK 0 96 0 Z))) := ((f17 122 (by omega)).trans ((f13 122 (by omega)).trans m3))
          have h23 : w15 123 = .inl (gI g, 80, .inl (cK 80 0 T)) := ((f17 123 (by omega)).trans ((f13 123 (by omega)).trans m4))
          have h24 : w15 125 = .inl (gI g, 177, .inl (cK 177 0 TR)) := ((f17 125 (by omega)).trans ((f13 125 (by omega)).trans m6))
          have h25 : w15 126 = .inl (gI g, 177, .inl (cK 177 0 RD)) := ((f17 126 (by omega)).trans ((f13 126 (by omega)).trans m7))
          have h26 : w15 127 = .inl (gI g, 177, .inl (cK 177 0 KP)) := ((f17 127 (by omega)).trans ((f13 127 (by omega)).trans m8))
          have h27 : w15 128 = .inl (gJ g, 7, .inr (.inl (cL 7 0 O))) := ((f17 128 (by omega)).trans ((f13 128 (by omega)).trans m10))
          have h28 : w15 129 = .inl (gJ g, 7, .inr (.inl (cL 7 0 A))) := ((f17 129 (by omega)).trans ((f13 129 (by omega)).trans m11))
          exact xret_i C hr hlk hW ⟨(by rw [letL, if_pos (c := okLet x y ∧ ¬ L (3 + cl x) = 9) ⟨⟨c4, c14⟩, by rw [hx_k1, cl_nI (by omega)]; omega⟩, hx_k1, hx_k2, cl_nI (by omega), cl_nI (by omega)]; exact ⟨_, _, _, _, _, _, _, _, _, _, _, _, h19, h20, h21, h22, h23, h18, h24, h25, h26, m9, h27, h28⟩), (fun j z0 => ((f17 j (by omega)).trans (f13 j (by omega)))), (by rw [letS, if_pos (c := okLet x y) ⟨c4, c14⟩, hx_k1, cl_nI (by omega), if_neg (by omega), hx_k2, cl_nI (by omega)])⟩ dX7_lettuce_85
        · refine lv_bipush (v := (nI 9)) C.1 C.2.1 dX7_lettuce_61 (by decide) ?_
          refine lv_goto (tgt := 76) C.1 C.2.1 dX7_lettuce_63 (by decide) ?_
          refine xistK0 (v := 9) C hK hW (by omega) h12 (by omega) (by decide) dX7_lettuce_76 (fun w29 H locs e30 f31 hW => ?_)
          have h32 : w29 124 = .inl (gI g, 177, .inl (cK 177 0 (va_up (noteF L) (3 + k1) (min 9 (L (3 + k1) + k2))))) := e30.trans (by rw [show min 9 (L (3 + k1) + k2) = 9 by omega])
          refine lv_aload_n C.1 C.2.1 dX7_lettuce_77 rfl (lv_at hl 0 rfl) ?_
          have h33 : w29 119 = .inr (7, [.ref (gad g 120), .ref (gad g 121), .ref (gad g 122), .int (nI tn), .ref (gad g 123), .int (nI po), .int nu, .ref (gad g 124), .ref (gad g 125), .ref (gad g 126), .ref (gad g 127), .int (nI hk), .ref (gad g 128), .ref (gad g 129), .long (lN ao), .long (lN mu), .long (lN md), .long (lN bu), .long (lN bd)]) := ((f31 119 (by omega)).trans h14)
          refine xget C hK hW hinX7 rfl (by omega) h33 7 (by decide) (List.mem_of_getElem? (i := 1) rfl) rfl dX7_lettuce_78 ?_
          refine lv_iconst (v := (nI 3)) C.1 C.2.1 dX7_lettuce_81 (by decide) ?_
          refine lv_iload_n C.1 C.2.1 dX7_lettuce_82 rfl (lv_at hl 1 rfl) ?_
          refine xadd C dX7_lettuce_83 ?_
          refine xildK0 C hK hW (by omega) h32 (by omega) (by decide) dX7_lettuce_84 ?_
          refine xtopN (b := min 9 (L (3 + k1) + k2)) (va_up_self _ _ _) ?_
          have h34 : w29 120 = .inl (gI g, 4, .inl (kK 0 4 0 (laF ln))) := ((f31 120 (by omega)).trans ((f13 120 (by omega)).trans m1))
          have h35 : w29 121 = .inl (gI g, 4, .inl (cK 4 0 sz)) := ((f31 121 (by omega)).trans ((f13 121 (by omega)).trans m2))
          have h36 : w29 122 = .inl (gJ g, 96, .inr (.inl (kK 0 96 0 Z))) := ((f31 122 (by omega)).trans ((f13 122 (by omega)).trans m3))
          have h37 : w29 123 = .inl (gI g, 80, .inl (cK 80 0 T)) := ((f31 123 (by omega)).trans ((f13 123 (by omega)).trans m4))
          have h38 : w29 125 = .inl (gI g, 177, .inl (cK 177 0 TR)) := ((f31 125 (by omega)).trans ((f13 125 (by omega)).trans m6))
          have h39 : w29 126 = .inl (gI g, 177, .inl (cK 177 0 RD)) := ((f31 126 (by omega)).trans ((f13 126 (by omega)).trans m7))
          have h40 : w29 127 = .inl (gI g, 177, .inl (cK 177 0 KP)) := ((f31 127 (by omega)).trans ((f13 127 (by omega)).trans m8))
          have h41 : w29 128 = .inl (gJ g, 7, .inr (.inl (cL 7 0 O))) := ((f31 128 (by omega)).trans ((f13 128 (by omega)).trans m10))
          have h42 : w29 129 = .inl (gJ g, 7, .inr (.inl (cL 7 0 A))) := ((f31 129 (by omega)).trans ((f13 129 (by omega)).trans m11))
          exact xret_i C hr hlk hW ⟨(by rw [letL, if_pos (c := okLet x y ∧ ¬ L (3 + cl x) = 9) ⟨⟨c4, c14⟩, by rw [hx_k1, cl_nI (by omega)]; omega⟩, hx_k1, hx_k2, cl_nI (by omega), cl_nI (by omega)]; exact ⟨_, _, _, _, _, _, _, _, _, _, _, _, h33, h34, h35, h36, h37, h32, h38, h39, h40, m9, h41, h42⟩), (fun j z0 => ((f31 j (by omega)).trans (f13 j (by omega)))), (by rw [letS, if_pos (c := okLet x y) ⟨c4, c14⟩, hx_k1, cl_nI (by omega), if_neg (by omega), hx_k2, cl_nI (by omega)])⟩ dX7_lettuce_85
      · refine lv_bipush (v := (-2 : Int32)) C.1 C.2.1 dX7_lettuce_32 (by decide) ?_
        exact xret_i C hr hlk hW ⟨(by rw [letL, if_neg (c := okLet x y ∧ ¬ L (3 + cl x) = 9) (fun h => h.2 (by rw [hx_k1, cl_nI (by omega)]; omega))]; exact ⟨_, _, _, _, _, _, _, _, _, _, _, _, m0, m1, m2, m3, m4, m5, m6, m7, m8, m9, m10, m11⟩), (fun j z0 => rfl), (by rw [letS, if_pos (c := okLet x y) ⟨c4, c14⟩, hx_k1, cl_nI (by omega), if_pos (by omega)])⟩ dX7_lettuce_34
    · refine lv_iconst (v := (-1 : Int32)) C.1 C.2.1 dX7_lettuce_17 (by decide) ?_
      exact xret_i C hr hlk hW ⟨(by rw [letL, if_neg (c := okLet x y ∧ ¬ L (3 + cl x) = 9) (fun h => c14 h.1.2)]; exact ⟨_, _, _, _, _, _, _, _, _, _, _, _, m0, m1, m2, m3, m4, m5, m6, m7, m8, m9, m10, m11⟩), (fun j z0 => rfl), (by rw [letS, if_neg (c := okLet x y) (fun h => c14 h.2)])⟩ dX7_lettuce_18

set_option maxHeartbeats 4000000 in
set_option maxRecDepth 100000 in
theorem c_X7_lay (l : Launch) (g : GE) (w : Nat → va_E) (L K T ln sz : Nat → Nat) (hk tn : Nat) (Z : Nat → Int64) (x : Int32) (y : Int32) (hI : AdInj g) (hN : gN g = 130) (hS : OkS (L, K, hk, tn, T, ln, sz, Z)) (pr0 : MAll g (L, K, hk, tn, T, ln, sz, Z) w) : Met l yX7_lay wsX7_lay ({ frames := 2, cells := 0, slots := 0, locals := 45 } : Room) (XPc g w [.ref (gad g 119), .int x, .int y]) (XQi g (fun r w' => MAll g (layL L x y, K, hk, tn, T, ln, sz, Z) w' ∧ (∀ j : Nat, ¬ (119 ≤ j ∧ j < 130) → w' j = w j) ∧ r = layS L x y)) 0 0 (gA g) := by
  refine xmet (cc := cX7_lay) (maxL := 4) (ret := (some .int)) (by decide) rfl hI (Nat.le_of_ble_eq_true rfl) ?_
  intro pG eG sG mG belowG methG cG ls C hr hlk hK hW hl
  have hl : lv_has ls 4 [(0, .ref (gad g 119)), (1, .int x), (2, .int y)] := hl
  have hinX7 : ∀ x ∈ u_ws RX7 TX7 19, x ∈ wsX7_lay := by decide +kernel
  obtain ⟨po, ao, mu, md, bu, bd, nu, TR, RD, KP, O, A, m0, m1, m2, m3, m4, m5, m6, m7, m8, m9, m10, m11⟩ := pr0
  have hokL : OkL L := hS.1
  obtain ⟨hok, hs2, hdy, hdr, hcl, hkn, hcs, hps⟩ := hokL
  have htn : tn ≤ 80 := hS.2.2.1
  have hlz : ∀ s, s < 4 → ln s ≤ 4 ∧ sz s ≤ 24 := hS.2.2.2.2
  have m0 : w 119 = .inr (7, [.ref (gad g 120), .ref (gad g 121), .ref (gad g 122), .int (nI tn), .ref (gad g 123), .int (nI po), .int nu, .ref (gad g 124), .ref (gad g 125), .ref (gad g 126), .ref (gad g 127), .int (nI hk), .ref (gad g 128), .ref (gad g 129), .long (lN ao), .long (lN mu), .long (lN md), .long (lN bu), .long (lN bd)]) := m0
  have m1 : w 120 = .inl (gI g, 4, .inl (kK 0 4 0 (laF ln))) := m1
  have m2 : w 121 = .inl (gI g, 4, .inl (cK 4 0 sz)) := m2
  have m3 : w 122 = .inl (gJ g, 96, .inr (.inl (kK 0 96 0 Z))) := m3
  have m4 : w 123 = .inl (gI g, 80, .inl (cK 80 0 T)) := m4
  have m5 : w 124 = .inl (gI g, 177, .inl (cK 177 0 L)) := m5
  have m9 : hk = 1 → KP = K := m9
  refine lv_iload_n C.1 C.2.1 dX7_lay_0 rfl (lv_at hl 1 rfl) ?_
  refine xcS_i (n := 1) (As := [.int x]) C hK hW (c_X7_isField l g w x hI hN) gX7_lay_X7_isField rfl ⟨rfl, rfl⟩ (by decide +kernel) ⟨Nat.le_of_ble_eq_true rfl, Nat.le_of_ble_eq_true rfl⟩ ⟨Nat.zero_le _, Nat.zero_le _⟩ rfl hl rfl (Nat.le_of_ble_eq_true rfl) dX7_lay_1 (fun r3 w1 H locs q2 hW => ?_)
  obtain ⟨qw4, rfl⟩ := q2
  rw [qw4] at hW
  refine xBeq (tgt := 16) C dX7_lay_4 (by decide) (fun c4 => ?_) (fun c4 => ?_)
  · refine lv_iconst (v := (-1 : Int32)) C.1 C.2.1 dX7_lay_16 (by decide) ?_
    exact xret_i C hr hlk hW ⟨(by rw [layL, if_neg (c := okField x y ∧ ¬ L (10 + cl x) = cl y) (fun h => c4 h.1.1)]; exact ⟨_, _, _, _, _, _, _, _, _, _, _, _, m0, m1, m2, m3, m4, m5, m6, m7, m8, m9, m10, m11⟩), (fun j z0 => rfl), (by rw [layS, if_neg (c := okField x y) (fun h => c4 h.1)])⟩ dX7_lay_17
  · refine lv_iload_n C.1 C.2.1 dX7_lay_7 rfl (lv_at hl 2 rfl) ?_
    refine lv_iconst (v := (nI 0)) C.1 C.2.1 dX7_lay_8 (by decide) ?_
    refine lv_iconst (v := (nI 4)) C.1 C.2.1 dX7_lay_9 (by decide) ?_
    refine xcS_i (n := 3) (As := [.int y, .int (nI 0), .int (nI 4)]) C hK hW (c_X7_in l g w y (nI 0) (nI 4) hI hN) gX7_lay_X7_in rfl ⟨rfl, rfl⟩ (by decide +kernel) ⟨Nat.le_of_ble_eq_true rfl, Nat.le_of_ble_eq_true rfl⟩ ⟨Nat.zero_le _, Nat.zero_le _⟩ rfl hl rfl (Nat.le_of_ble_eq_true rfl) dX7_lay_10 (fun r7 w5 H locs q6 hW => ?_)
    obtain ⟨qw8, rfl⟩ := q6
    rw [qw8] at hW
    refine xBne (tgt := 18) C dX7_lay_13 (by decide) (fun c13 => ?_) (fun c13 => ?_)
    · obtain ⟨k1, ha_k1, hb_k1, hx_k1⟩ := inR_N (by omega) (by omega) c4
      rw [hx_k1] at hl
      obtain ⟨k2, ha_k2, hb_k2, hx_k2⟩ := inR_N (by omega) (by omega) c13
      rw [hx_k2] at hl
      have hhe := (hok k1 (by omega)).2.2
      refine lv_aload_n C.1 C.2.1 dX7_lay_18 rfl (lv_at hl 0 rfl) ?_
      refine xget C hK hW hinX7 rfl (by omega) m0 7 (by decide) (List.mem_of_getElem? (i := 1) rfl) rfl dX7_lay_19 ?_
      refine lv_bipush (v := (nI 10)) C.1 C.2.1 dX7_lay_22 (by decide) ?_
      refine lv_iload_n C.1 C.2.1 dX7_lay_24 rfl (lv_at hl 1 rfl) ?_
      refine xadd C dX7_lay_25 ?_
      refine xildK0 C hK hW (by omega) m5 (by omega) (by decide) dX7_lay_26 ?_
      refine lv_istore_n (lv' := [(3, .int (nI (L (10 + k1)))), (0, .ref (gad g 119)), (1, .int (nI k1)), (2, .int (nI k2))]) C.1 C.2.1 dX7_lay_27 rfl hl (by decide) rfl (fun ls hl => ?_)
      refine lv_iload_n C.1 C.2.1 dX7_lay_28 rfl (lv_at hl 0 rfl) ?_
      refine lv_iload_n C.1 C.2.1 dX7_lay_29 rfl (lv_at hl 3 rfl) ?_
      refine xne (tgt := 36) C (by omega) (by omega) dX7_lay_30 (by decide) (fun c30 => ?_) (fun c30 => ?_)
      · refine lv_aload_n C.1 C.2.1 dX7_lay_36 rfl (lv_at hl 1 rfl) ?_
        refine xcV_v (n := 0) (As := []) C hK hW (c_X7_note l g w hk tn po nu ao mu md bu bd L hI hN (by omega) m0 m5) gX7_lay_X7_note rfl ⟨rfl, rfl⟩ (by decide +kernel) ⟨Nat.le_of_ble_eq_true rfl, Nat.le_of_ble_eq_true rfl⟩ ⟨Nat.zero_le _, Nat.zero_le _⟩ rfl (by omega) m0 rfl hl rfl (Nat.le_of_ble_eq_true rfl) dX7_lay_37 (fun w9 H locs q10 hW => ?_)
        obtain ⟨h12, f13⟩ := q10
        refine lv_aload_n C.1 C.2.1 dX7_lay_40 rfl (lv_at hl 1 rfl) ?_
        have h14 : w9 119 = .inr (7, [.ref (gad g 120), .ref (gad g 121), .ref (gad g 122), .int (nI tn), .ref (gad g 123), .int (nI po), .int nu, .ref (gad g 124), .ref (gad g 125), .ref (gad g 126), .ref (gad g 127), .int (nI hk), .ref (gad g 128), .ref (gad g 129), .long (lN ao), .long (lN mu), .long (lN md), .long (lN bu), .long (lN bd)]) := ((f13 119 (by omega)).trans m0)
        refine xget C hK hW hinX7 rfl (by omega) h14 7 (by decide) (List.mem_of_getElem? (i := 1) rfl) rfl dX7_lay_41 ?_
        refine lv_bipush (v := (nI 10)) C.1 C.2.1 dX7_lay_44 (by decide) ?_
        refine lv_iload_n C.1 C.2.1 dX7_lay_46 rfl (lv_at hl 2 rfl) ?_
        refine xadd C dX7_lay_47 ?_
        refine lv_iload_n C.1 C.2.1 dX7_lay_48 rfl (lv_at hl 3 rfl) ?_
        refine xistK0 (v := k2) C hK hW (by omega) h12 (by omega) (by decide) dX7_lay_49 (fun w15 H locs e16 f17 hW => ?_)
        refine lv_iload_n C.1 C.2.1 dX7_lay_50 rfl (lv_at hl 0 rfl) ?_
        have h18 : w15 119 = .inr (7, [.ref (gad g 120), .ref (gad g 121), .ref (gad g 122), .int (nI tn), .ref (gad g 123), .int (nI po), .int nu, .ref (gad g 124), .ref (gad g 125), .ref (gad g 126), .ref (gad g 127), .int (nI hk), .ref (gad g 128), .ref (gad g 129), .long (lN ao), .long (lN mu), .long (lN md), .long (lN bu), .long (lN bd)]) := ((f17 119 (by omega)).trans h14)
        have h19 : w15 120 = .inl (gI g, 4, .inl (kK 0 4 0 (laF ln))) := ((f17 120 (by omega)).trans ((f13 120 (by omega)).trans m1))
        have h20 : w15 121 = .inl (gI g, 4, .inl (cK 4 0 sz)) := ((f17 121 (by omega)).trans ((f13 121 (by omega)).trans m2))
        have h21 : w15 122 = .inl (gJ g, 96, .inr (.inl (kK 0 96 0 Z))) := ((f17 122 (by omega)).trans ((f13 122 (by omega)).trans m3))
        have h22 : w15 123 = .inl (gI g, 80, .inl (cK 80 0 T)) := ((f17 123 (by omega)).trans ((f13 123 (by omega)).trans m4))
        have h23 : w15 125 = .inl (gI g, 177, .inl (cK 177 0 TR)) := ((f17 125 (by omega)).trans ((f13 125 (by omega)).trans m6))
        have h24 : w15 126 = .inl (gI g, 177, .inl (cK 177 0 RD)) := ((f17 126 (by omega)).trans ((f13 126 (by omega)).trans m7))
        have h25 : w15 127 = .inl (gI g, 177, .inl (cK 177 0 KP)) := ((f17 127 (by omega)).trans ((f13 127 (by omega)).trans m8))
        have h26 : w15 128 = .inl (gJ g, 7, .inr (.inl (cL 7 0 O))) := ((f17 128 (by omega)).trans ((f13 128 (by omega)).trans m10))
        have h27 : w15 129 = .inl (gJ g, 7, .inr (.inl (cL 7 0 A))) := ((f17 129 (by omega)).trans ((f13 129 (by omega)).trans m11))
        exact xret_i C hr hlk hW ⟨(by rw [layL, if_pos (c := okField x y ∧ ¬ L (10 + cl x) = cl y) ⟨⟨c4, c13⟩, by rw [hx_k1, hx_k2, cl_nI (by omega), cl_nI (by omega)]; omega⟩, hx_k1, hx_k2, cl_nI (by omega), cl_nI (by omega)]; exact ⟨_, _, _, _, _, _, _, _, _, _, _, _, h18, h19, h20, h21, h22, e16, h23, h24, h25, m9, h26, h27⟩), (fun j z0 => ((f17 j (by omega)).trans (f13 j (by omega)))), (by rw [layS, if_pos (c := okField x y) ⟨c4, c13⟩, hx_k1, hx_k2, cl_nI (by omega), cl_nI (by omega), if_neg (by omega)])⟩ dX7_lay_51
      · refine lv_bipush (v := (-2 : Int32)) C.1 C.2.1 dX7_lay_33 (by decide) ?_
        exact xret_i C hr hlk hW ⟨(by rw [layL, if_neg (c := okField x y ∧ ¬ L (10 + cl x) = cl y) (fun h => h.2 (by rw [hx_k1, hx_k2, cl_nI (by omega), cl_nI (by omega)]; omega))]; exact ⟨_, _, _, _, _, _, _, _, _, _, _, _, m0, m1, m2, m3, m4, m5, m6, m7, m8, m9, m10, m11⟩), (fun j z0 => rfl), (by rw [layS, if_pos (c := okField x y) ⟨c4, c13⟩, hx_k1, hx_k2, cl_nI (by omega), cl_nI (by omega), if_pos (by omega)])⟩ dX7_lay_35
    · refine lv_iconst (v := (-1 : Int32)) C.1 C.2.1 dX7_lay_16 (by decide) ?_
      exact xret_i C hr hlk hW ⟨(by rw [layL, if_neg (c := okField x y ∧ ¬ L (10 + cl x) = cl y) (fun h => c13 h.1.2)]; exact ⟨_, _, _, _, _, _, _, _, _, _, _, _, m0, m1, m2, m3, m4, m5, m6, m7, m8, m9, m10, m11⟩), (fun j z0 => rfl), (by rw [layS, if_neg (c := okField x y) (fun h => c13 h.2)])⟩ dX7_lay_17
