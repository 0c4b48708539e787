/-! the reference: what refuses, an item -/
theorem laF_pos {ln : Nat → Nat} {k : Nat} (h : ¬ ln k = 0) : laF ln k = nI (ln k - 1) := if_neg h

set_option maxHeartbeats 4000000 in
set_option maxRecDepth 100000 in
theorem c_X7_wrong (l : Launch) (g : GE) (w : Nat → va_E) (hk tn po : Nat) (nu : Int32) (ao mu md bu bd : Nat) (k : Nat) (y i n : Int32) (ln sz : Nat → Nat) (hI : AdInj g) (hN : gN g = 130) (hk4 : k < 4) (hlk4 : ln k ≤ 4) (pr0 : w 119 = .inr (7, [.ref (gad g 120), .ref (gad g 121), .ref (gad g 122), .int (nI tn), .ref (gad g 123), .int (nI po), .int nu, .ref (gad g 124), .ref (gad g 125), .ref (gad g 126), .ref (gad g 127), .int (nI hk), .ref (gad g 128), .ref (gad g 129), .long (lN ao), .long (lN mu), .long (lN md), .long (lN bu), .long (lN bd)])) (pr1 : w 120 = .inl (gI g, 4, .inl (kK 0 4 0 (laF ln)))) (pr2 : w 121 = .inl (gI g, 4, .inl (cK 4 0 sz))) : Met l yX7_wrong wsX7_wrong ({ frames := 1, cells := 0, slots := 0, locals := 22 } : Room) (XPc g w [.ref (gad g 119), .int (nI k), .int y, .int i, .int n]) (XQi g (fun r w' => w' = w ∧ r = (wrongS (ln k) (sz k) y i n))) 0 0 (gA g) := by
  refine xmet (cc := cX7_wrong) (maxL := 5) (ret := (some .int)) (by decide) rfl hI (Nat.le_of_ble_eq_true rfl) ?_
  intro pG eG sG mG belowG methG cG ls C hr hlk hK hW hl
  have hl : lv_has ls 5 [(0, .ref (gad g 119)), (1, .int (nI k)), (2, .int y), (3, .int i), (4, .int n)] := hl
  have hinX7 : ∀ x ∈ u_ws RX7 TX7 19, x ∈ wsX7_wrong := by decide +kernel
  refine lv_aload_n C.1 C.2.1 dX7_wrong_0 rfl (lv_at hl 0 rfl) ?_
  refine xget C hK hW hinX7 rfl (by omega) pr0 0 (by decide) (List.mem_of_getElem? (i := 1) rfl) rfl dX7_wrong_1 ?_
  refine lv_iload_n C.1 C.2.1 dX7_wrong_4 rfl (lv_at hl 1 rfl) ?_
  refine xildR0 C hK hW (by omega) pr1 (by omega) (by decide) dX7_wrong_5 ?_
  refine lv_if_ge (tgt := 14) C.1 C.2.1 dX7_wrong_6 (by decide) (fun c6 => ?_) (fun c6 => ?_)
  · refine lv_aload_n C.1 C.2.1 dX7_wrong_14 rfl (lv_at hl 0 rfl) ?_
    refine xget C hK hW hinX7 rfl (by omega) pr0 0 (by decide) (List.mem_of_getElem? (i := 1) rfl) rfl dX7_wrong_15 ?_
    refine lv_iload_n C.1 C.2.1 dX7_wrong_18 rfl (lv_at hl 1 rfl) ?_
    refine xildR0 C hK hW (by omega) pr1 (by omega) (by decide) dX7_wrong_19 ?_
    refine lv_iload_n C.1 C.2.1 dX7_wrong_20 rfl (lv_at hl 2 rfl) ?_
    refine lv_icmp_eq (tgt := 29) C.1 C.2.1 dX7_wrong_21 (by decide) (fun c21 => ?_) (fun c21 => ?_)
    · refine lv_iload_n C.1 C.2.1 dX7_wrong_29 rfl (lv_at hl 3 rfl) ?_
      refine lv_iload C.1 C.2.1 dX7_wrong_30 (lv_at hl 4 rfl) ?_
      refine lv_aload_n C.1 C.2.1 dX7_wrong_32 rfl (lv_at hl 0 rfl) ?_
      refine xget C hK hW hinX7 rfl (by omega) pr0 1 (by decide) (List.mem_of_getElem? (i := 2) rfl) rfl dX7_wrong_33 ?_
      refine lv_iload_n C.1 C.2.1 dX7_wrong_36 rfl (lv_at hl 1 rfl) ?_
      refine xildK0 C hK hW (by omega) pr2 (by omega) (by decide) dX7_wrong_37 ?_
      refine xcS_i (n := 3) (As := [.int i, .int n, .int (nI (sz k))]) C hK hW (c_X7_isPart l g w (sz k) i n hI hN) gX7_wrong_X7_isPart rfl ⟨rfl, rfl⟩ (by decide +kernel) ⟨Nat.le_of_ble_eq_true rfl, Nat.le_of_ble_eq_true rfl⟩ ⟨Nat.zero_le _, Nat.zero_le _⟩ rfl hl rfl (Nat.le_of_ble_eq_true rfl) dX7_wrong_38 (fun r3 w1 H locs q2 hW => ?_)
      obtain ⟨qw4, rfl⟩ := q2
      rw [qw4] at hW
      refine xBeq (tgt := 48) C dX7_wrong_41 (by decide) (fun c41 => ?_) (fun c41 => ?_)
      · refine lv_bipush (v := (-13 : Int32)) C.1 C.2.1 dX7_wrong_48 (by decide) ?_
        exact xret_i C hr hlk hW ⟨rfl, (by rw [wrongS, if_neg (fun z => (laF_lt hlk4).mpr z c6), if_pos ((laF_pos (fun z => (laF_lt hlk4).mpr z c6)).symm.trans c21), if_neg c41])⟩ dX7_wrong_50
      · refine lv_iconst (v := (nI 0)) C.1 C.2.1 dX7_wrong_44 (by decide) ?_
        refine lv_goto (tgt := 50) C.1 C.2.1 dX7_wrong_45 (by decide) ?_
        exact xret_i C hr hlk hW ⟨rfl, (by rw [wrongS, if_neg (fun z => (laF_lt hlk4).mpr z c6), if_pos ((laF_pos (fun z => (laF_lt hlk4).mpr z c6)).symm.trans c21), if_pos c41])⟩ dX7_wrong_50
    · refine lv_bipush (v := (-12 : Int32)) C.1 C.2.1 dX7_wrong_24 (by decide) ?_
      refine lv_goto (tgt := 50) C.1 C.2.1 dX7_wrong_26 (by decide) ?_
      exact xret_i C hr hlk hW ⟨rfl, (by rw [wrongS, if_neg (fun z => (laF_lt hlk4).mpr z c6), if_neg (fun z => c21 ((laF_pos (fun z => (laF_lt hlk4).mpr z c6)).trans z))])⟩ dX7_wrong_50
  · refine lv_bipush (v := (-11 : Int32)) C.1 C.2.1 dX7_wrong_9 (by decide) ?_
    refine lv_goto (tgt := 50) C.1 C.2.1 dX7_wrong_11 (by decide) ?_
    exact xret_i C hr hlk hW ⟨rfl, (by rw [wrongS, if_pos ((laF_lt hlk4).mp c6)])⟩ dX7_wrong_50

set_option maxHeartbeats 4000000 in
set_option maxRecDepth 100000 in
theorem c_X7_cutTo (l : Launch) (g : GE) (w : Nat → va_E) (k : Nat) (v : Int64) (hI : AdInj g) (hN : gN g = 130) (hk4 : k < 4) : Met l yX7_cutTo wsX7_cutTo ({ frames := 0, cells := 0, slots := 0, locals := 0 } : Room) (XPc g w [.int (nI k), .long v]) (XQl g (fun r w' => w' = w ∧ r = (cutL k v))) 0 0 (gA g) := by
  refine xmet (cc := cX7_cutTo) (maxL := 3) (ret := (some .long)) (by decide) rfl hI (Nat.le_of_ble_eq_true rfl) ?_
  intro pG eG sG mG belowG methG cG ls C hr hlk hK hW hl
  have hl : lv_has ls 3 [(0, .int (nI k)), (1, .long v)] := hl
  refine lv_iload_n C.1 C.2.1 dX7_cutTo_0 rfl (lv_at hl 0 rfl) ?_
  refine x0ne (tgt := 11) C (by omega) dX7_cutTo_1 (by decide) (fun c1 => ?_) (fun c1 => ?_)
  · refine lv_iload_n C.1 C.2.1 dX7_cutTo_11 rfl (lv_at hl 0 rfl) ?_
    refine lv_iconst (v := (nI 1)) C.1 C.2.1 dX7_cutTo_12 (by decide) ?_
    refine xne (tgt := 23) C (by omega) (by omega) dX7_cutTo_13 (by decide) (fun c13 => ?_) (fun c13 => ?_)
    · refine lv_iload_n C.1 C.2.1 dX7_cutTo_23 rfl (lv_at hl 0 rfl) ?_
      refine lv_iconst (v := (nI 2)) C.1 C.2.1 dX7_cutTo_24 (by decide) ?_
      refine xne (tgt := 34) C (by omega) (by omega) dX7_cutTo_25 (by decide) (fun c25 => ?_) (fun c25 => ?_)
      · refine lv_lload_n C.1 C.2.1 dX7_cutTo_34 rfl (lv_at hl 1 rfl) ?_
        exact xret_l C hr hlk hW ⟨rfl, (by rw [cutL, if_neg (by omega), if_neg (by omega), if_neg (by omega)])⟩ dX7_cutTo_35
      · refine lv_lload_n C.1 C.2.1 dX7_cutTo_28 rfl (lv_at hl 1 rfl) ?_
        refine lv_l2i (v := v.toInt32) C.1 C.2.1 dX7_cutTo_29 rfl ?_
        refine lv_i2l (v := v.toInt32.toInt64) C.1 C.2.1 dX7_cutTo_30 rfl ?_
        refine lv_goto (tgt := 35) C.1 C.2.1 dX7_cutTo_31 (by decide) ?_
        exact xret_l C hr hlk hW ⟨rfl, (by rw [cutL, if_neg (by omega), if_neg (by omega), if_pos (by omega)])⟩ dX7_cutTo_35
    · refine lv_lload_n C.1 C.2.1 dX7_cutTo_16 rfl (lv_at hl 1 rfl) ?_
      refine lv_l2i (v := v.toInt32) C.1 C.2.1 dX7_cutTo_17 rfl ?_
      refine lv_i2s (v := v.toInt32.toInt16.toInt32) C.1 C.2.1 dX7_cutTo_18 rfl ?_
      refine lv_i2l (v := v.toInt32.toInt16.toInt32.toInt64) C.1 C.2.1 dX7_cutTo_19 rfl ?_
      refine lv_goto (tgt := 35) C.1 C.2.1 dX7_cutTo_20 (by decide) ?_
      exact xret_l C hr hlk hW ⟨rfl, (by rw [cutL, if_neg (by omega), if_pos (by omega)])⟩ dX7_cutTo_35
  · refine lv_lload_n C.1 C.2.1 dX7_cutTo_4 rfl (lv_at hl 1 rfl) ?_
    refine lv_l2i (v := v.toInt32) C.1 C.2.1 dX7_cutTo_5 rfl ?_
    refine lv_i2b (v := v.toInt32.toInt8.toInt32) C.1 C.2.1 dX7_cutTo_6 rfl ?_
    refine lv_i2l (v := v.toInt32.toInt8.toInt32.toInt64) C.1 C.2.1 dX7_cutTo_7 rfl ?_
    refine lv_goto (tgt := 35) C.1 C.2.1 dX7_cutTo_8 (by decide) ?_
    exact xret_l C hr hlk hW ⟨rfl, (by rw [cutL, if_pos (by omega)])⟩ dX7_cutTo_35

set_option maxHeartbeats 4000000 in
set_option maxRecDepth 100000 in
theorem c_X7_item (l : Launch) (g : GE) (w : Nat → va_E) (L K T ln sz : Nat → Nat) (hk tn : Nat) (Z : Nat → Int64) (x : Int32) (y : Int32) (i : Int32) (v : Int64) (hI : AdInj g) (hN : gN g = 130) (hS : OkS (L, K, hk, tn, T, ln, sz, Z)) (pr0 : MAll g (L, K, hk, tn, T, ln, sz, Z) w) : Met l yX7_item wsX7_item ({ frames := 2, cells := 0, slots := 0, locals := 46 } : Room) (XPc g w [.ref (gad g 119), .int x, .int y, .int i, .long v]) (XQi g (fun r w' => MAll g (L, K, hk, tn, T, ln, sz, itZ ln sz Z x y i v) w' ∧ (∀ j : Nat, ¬ (119 ≤ j ∧ j < 130) → w' j = w j) ∧ r = itS ln sz x y i)) 0 0 (gA g) := by
  refine xmet (cc := cX7_item) (maxL := 7) (ret := (some .int)) (by decide) rfl hI (Nat.le_of_ble_eq_true rfl) ?_
  intro pG eG sG mG belowG methG cG ls C hr hlk hK hW hl
  have hl : lv_has ls 7 [(0, .ref (gad g 119)), (1, .int x), (2, .int y), (3, .int i), (4, .long v)] := hl
  have hinX7 : ∀ x ∈ u_ws RX7 TX7 19, x ∈ wsX7_item := by decide +kernel
  obtain ⟨po, ao, mu, md, bu, bd, nu, TR, RD, KP, O, A, m0, m1, m2, m3, m4, m5, m6, m7, m8, m9, m10, m11⟩ := pr0
  have hokL : OkL L := hS.1
  obtain ⟨hok, hs2, hdy, hdr, hcl, hkn, hcs, hps⟩ := hokL
  have htn : tn ≤ 80 := hS.2.2.1
  have hlz : ∀ s, s < 4 → ln s ≤ 4 ∧ sz s ≤ 24 := hS.2.2.2.2
  have m0 : w 119 = .inr (7, [.ref (gad g 120), .ref (gad g 121), .ref (gad g 122), .int (nI tn), .ref (gad g 123), .int (nI po), .int nu, .ref (gad g 124), .ref (gad g 125), .ref (gad g 126), .ref (gad g 127), .int (nI hk), .ref (gad g 128), .ref (gad g 129), .long (lN ao), .long (lN mu), .long (lN md), .long (lN bu), .long (lN bd)]) := m0
  have m1 : w 120 = .inl (gI g, 4, .inl (kK 0 4 0 (laF ln))) := m1
  have m2 : w 121 = .inl (gI g, 4, .inl (cK 4 0 sz)) := m2
  have m3 : w 122 = .inl (gJ g, 96, .inr (.inl (kK 0 96 0 Z))) := m3
  have m4 : w 123 = .inl (gI g, 80, .inl (cK 80 0 T)) := m4
  have m5 : w 124 = .inl (gI g, 177, .inl (cK 177 0 L)) := m5
  have m9 : hk = 1 → KP = K := m9
  refine lv_iload_n C.1 C.2.1 dX7_item_0 rfl (lv_at hl 1 rfl) ?_
  refine xcS_i (n := 1) (As := [.int x]) C hK hW (c_X7_isSheet l g w x hI hN) gX7_item_X7_isSheet rfl ⟨rfl, rfl⟩ (by decide +kernel) ⟨Nat.le_of_ble_eq_true rfl, Nat.le_of_ble_eq_true rfl⟩ ⟨Nat.zero_le _, Nat.zero_le _⟩ rfl hl rfl (Nat.le_of_ble_eq_true rfl) dX7_item_1 (fun r3 w1 H locs q2 hW => ?_)
  obtain ⟨qw4, rfl⟩ := q2
  rw [qw4] at hW
  refine xBeq (tgt := 16) C dX7_item_4 (by decide) (fun c4 => ?_) (fun c4 => ?_)
  · refine lv_iconst (v := (-1 : Int32)) C.1 C.2.1 dX7_item_16 (by decide) ?_
    exact xret_i C hr hlk hW ⟨(by rw [itZ, if_neg (c := (in3 x ∧ in3 y) ∧ itW ln sz x y i = 0) (fun h => c4 h.1.1)]; exact ⟨_, _, _, _, _, _, _, _, _, _, _, _, m0, m1, m2, m3, m4, m5, m6, m7, m8, m9, m10, m11⟩), (fun j z0 => rfl), (by rw [itS, if_neg (c := in3 x ∧ in3 y) (fun h => c4 h.1)])⟩ dX7_item_17
  · refine lv_iload_n C.1 C.2.1 dX7_item_7 rfl (lv_at hl 2 rfl) ?_
    refine lv_iconst (v := (nI 0)) C.1 C.2.1 dX7_item_8 (by decide) ?_
    refine lv_iconst (v := (nI 3)) C.1 C.2.1 dX7_item_9 (by decide) ?_
    refine xcS_i (n := 3) (As := [.int y, .int (nI 0), .int (nI 3)]) C hK hW (c_X7_in l g w y (nI 0) (nI 3) hI hN) gX7_item_X7_in rfl ⟨rfl, rfl⟩ (by decide +kernel) ⟨Nat.le_of_ble_eq_true rfl, Nat.le_of_ble_eq_true rfl⟩ ⟨Nat.zero_le _, Nat.zero_le _⟩ rfl hl rfl (Nat.le_of_ble_eq_true rfl) dX7_item_10 (fun r7 w5 H locs q6 hW => ?_)
    obtain ⟨qw8, rfl⟩ := q6
    rw [qw8] at hW
    refine xBne (tgt := 18) C dX7_item_13 (by decide) (fun c13 => ?_) (fun c13 => ?_)
    · obtain ⟨k1, ha_k1, hb_k1, hx_k1⟩ := inR_N (by omega) (by omega) c4
      rw [hx_k1] at hl
      obtain ⟨k2, ha_k2, hb_k2, hx_k2⟩ := inR_N (by omega) (by omega) c13
      rw [hx_k2] at hl
      have hiw : itW ln sz x y i = wrongS (ln k1) (sz k1) (nI k2) i (nI 1) := by rw [itW, hx_k1, hx_k2, cl_nI (by omega)]
      refine lv_aload_n C.1 C.2.1 dX7_item_18 rfl (lv_at hl 0 rfl) ?_
      refine lv_iload_n C.1 C.2.1 dX7_item_19 rfl (lv_at hl 1 rfl) ?_
      refine lv_iload_n C.1 C.2.1 dX7_item_20 rfl (lv_at hl 2 rfl) ?_
      refine lv_iload_n C.1 C.2.1 dX7_item_21 rfl (lv_at hl 3 rfl) ?_
      refine lv_iconst (v := (nI 1)) C.1 C.2.1 dX7_item_22 (by decide) ?_
      refine xcV_i (n := 4) (As := [.int (nI k1), .int (nI k2), .int i, .int (nI 1)]) C hK hW (c_X7_wrong l g w hk tn po nu ao mu md bu bd k1 (nI k2) i (nI 1) ln sz hI hN (by omega) ((hlz k1 (by omega)).1) m0 m1 m2) gX7_item_X7_wrong rfl ⟨rfl, rfl⟩ (by decide +kernel) ⟨Nat.le_of_ble_eq_true rfl, Nat.le_of_ble_eq_true rfl⟩ ⟨Nat.zero_le _, Nat.zero_le _⟩ rfl (by omega) m0 rfl hl rfl (Nat.le_of_ble_eq_true rfl) dX7_item_23 (fun r11 w9 H locs q10 hW => ?_)
      obtain ⟨qw12, rfl⟩ := q10
      rw [qw12] at hW
      refine lv_istore (lv' := [(6, .int (wrongS (ln k1) (sz k1) (nI k2) i (nI 1))), (0, .ref (gad g 119)), (1, .int (nI k1)), (2, .int (nI k2)), (3, .int i), (4, .long v)]) C.1 C.2.1 dX7_item_26 hl (by decide) rfl (fun ls hl => ?_)
      refine lv_iload C.1 C.2.1 dX7_item_28 (lv_at hl 0 rfl) ?_
      refine lv_if_eq (tgt := 36) C.1 C.2.1 dX7_item_30 (by decide) (fun c30 => ?_) (fun c30 => ?_)
      · obtain ⟨hu1, hu2, hu3⟩ := wrong_ok c30
        have hl4 := hlz k1 (by omega)
        obtain ⟨a, m, hx_a, hx_m, ham⟩ := isPt_nat hl4.2 hu3
        have hm1 : m = 1 := ((nI_eq (by decide) (by omega)).mp hx_m).symm
        have hu4 : ln k1 - 1 = k2 := (nI_eq (by omega) (by omega)).mp hu2
        rw [hx_a] at hl
        refine lv_aload_n C.1 C.2.1 dX7_item_36 rfl (lv_at hl 1 rfl) ?_
        refine xget C hK hW hinX7 rfl (by omega) m0 2 (by decide) (List.mem_of_getElem? (i := 1) rfl) rfl dX7_item_37 ?_
        refine lv_bipush (v := (nI 24)) C.1 C.2.1 dX7_item_40 (by decide) ?_
        refine lv_iload_n C.1 C.2.1 dX7_item_42 rfl (lv_at hl 2 rfl) ?_
        refine xmul C dX7_item_43 ?_
        refine lv_iload_n C.1 C.2.1 dX7_item_44 rfl (lv_at hl 4 rfl) ?_
        refine xadd C dX7_item_45 ?_
        refine lv_iload_n C.1 C.2.1 dX7_item_46 rfl (lv_at hl 3 rfl) ?_
        refine x0ne (tgt := 58) C (by omega) dX7_item_47 (by decide) (fun c47 => ?_) (fun c47 => ?_)
        · refine lv_iload_n C.1 C.2.1 dX7_item_58 rfl (lv_at hl 3 rfl) ?_
          refine lv_iconst (v := (nI 1)) C.1 C.2.1 dX7_item_59 (by decide) ?_
          refine xne (tgt := 71) C (by omega) (by omega) dX7_item_60 (by decide) (fun c60 => ?_) (fun c60 => ?_)
          · refine lv_iload_n C.1 C.2.1 dX7_item_71 rfl (lv_at hl 3 rfl) ?_
            refine lv_iconst (v := (nI 2)) C.1 C.2.1 dX7_item_72 (by decide) ?_
            refine xne (tgt := 83) C (by omega) (by omega) dX7_item_73 (by decide) (fun c73 => ?_) (fun c73 => ?_)
            · refine lv_lload C.1 C.2.1 dX7_item_83 (lv_at hl 5 rfl) ?_
              refine xlstR0 (v := v) C hK hW (by omega) m3 (by omega) (by decide) dX7_item_85 (fun w13 H locs e14 f15 hW => ?_)
              have h16 : w13 122 = .inl (gJ g, 96, .inr (.inl (kK 0 96 0 (va_up Z (24 * k1 + a) (cutL (ln k1 - 1) v))))) := e14.trans (by rw [cutL, if_neg (by omega), if_neg (by omega), if_neg (by omega)])
              refine lv_iconst (v := (nI 1)) C.1 C.2.1 dX7_item_86 (by decide) ?_
              have h17 : w13 119 = .inr (7, [.ref (gad g 120), .ref (gad g 121), .ref (gad g 122), .int (nI tn), .ref (gad g 123), .int (nI po), .int nu, .ref (gad g 124), .ref (gad g 125), .ref (gad g 126), .ref (gad g 127), .int (nI hk), .ref (gad g 128), .ref (gad g 129), .long (lN ao), .long (lN mu), .long (lN md), .long (lN bu), .long (lN bd)]) := ((f15 119 (by omega)).trans m0)
              have h18 : w13 120 = .inl (gI g, 4, .inl (kK 0 4 0 (laF ln))) := ((f15 120 (by omega)).trans m1)
              have h19 : w13 121 = .inl (gI g, 4, .inl (cK 4 0 sz)) := ((f15 121 (by omega)).trans m2)
              have h20 : w13 123 = .inl (gI g, 80, .inl (cK 80 0 T)) := ((f15 123 (by omega)).trans m4)
              have h21 : w13 124 = .inl (gI g, 177, .inl (cK 177 0 L)) := ((f15 124 (by omega)).trans m5)
              have h22 : w13 125 = .inl (gI g, 177, .inl (cK 177 0 TR)) := ((f15 125 (by omega)).trans m6)
              have h23 : w13 126 = .inl (gI g, 177, .inl (cK 177 0 RD)) := ((f15 126 (by omega)).trans m7)
              have h24 : w13 127 = .inl (gI g, 177, .inl (cK 177 0 KP)) := ((f15 127 (by omega)).trans m8)
              have h25 : w13 128 = .inl (gJ g, 7, .inr (.inl (cL 7 0 O))) := ((f15 128 (by omega)).trans m10)
              have h26 : w13 129 = .inl (gJ g, 7, .inr (.inl (cL 7 0 A))) := ((f15 129 (by omega)).trans m11)
              exact xret_i C hr hlk hW ⟨(by rw [itZ, if_pos (c := (in3 x ∧ in3 y) ∧ itW ln sz x y i = 0) ⟨⟨c4, c13⟩, by rw [hiw]; exact c30⟩, hx_k1, hx_a, cl_nI (by omega), cl_nI (by omega)]; exact ⟨_, _, _, _, _, _, _, _, _, _, _, _, h17, h18, h19, h16, h20, h21, h22, h23, h24, m9, h25, h26⟩), (fun j z0 => (f15 j (by omega))), (by rw [itS, if_pos (c := in3 x ∧ in3 y) ⟨c4, c13⟩, hiw, if_pos c30]; rfl)⟩ dX7_item_87
            · refine lv_lload C.1 C.2.1 dX7_item_76 (lv_at hl 5 rfl) ?_
              refine lv_l2i (v := v.toInt32) C.1 C.2.1 dX7_item_78 rfl ?_
              refine lv_i2l (v := v.toInt32.toInt64) C.1 C.2.1 dX7_item_79 rfl ?_
              refine lv_goto (tgt := 85) C.1 C.2.1 dX7_item_80 (by decide) ?_
              refine xlstR0 (v := v.toInt32.toInt64) C hK hW (by omega) m3 (by omega) (by decide) dX7_item_85 (fun w27 H locs e28 f29 hW => ?_)
              have h30 : w27 122 = .inl (gJ g, 96, .inr (.inl (kK 0 96 0 (va_up Z (24 * k1 + a) (cutL (ln k1 - 1) v))))) := e28.trans (by rw [cutL, if_neg (by omega), if_neg (by omega), if_pos (by omega)])
              refine lv_iconst (v := (nI 1)) C.1 C.2.1 dX7_item_86 (by decide) ?_
              have h31 : w27 119 = .inr (7, [.ref (gad g 120), .ref (gad g 121), .ref (gad g 122), .int (nI tn), .ref (gad g 123), .int (nI po), .int nu, .ref (gad g 124), .ref (gad g 125), .ref (gad g 126), .ref (gad g 127), .int (nI hk), .ref (gad g 128), .ref (gad g 129), .long (lN ao), .long (lN mu), .long (lN md), .long (lN bu), .long (lN bd)]) := ((f29 119 (by omega)).trans m0)
              have h32 : w27 120 = .inl (gI g, 4, .inl (kK 0 4 0 (laF ln))) := ((f29 120 (by omega)).trans m1)
              have h33 : w27 121 = .inl (gI g, 4, .inl (cK 4 0 sz)) := ((f29 121 (by omega)).trans m2)
              have h34 : w27 123 = .inl (gI g, 80, .inl (cK 80 0 T)) := ((f29 123 (by omega)).trans m4)
              have h35 : w27 124 = .inl (gI g, 177, .inl (cK 177 0 L)) := ((f29 124 (by omega)).trans m5)
              have h36 : w27 125 = .inl (gI g, 177, .inl (cK 177 0 TR)) := ((f29 125 (by omega)).trans m6)
              have h37 : w27 126 = .inl (gI g, 177, .inl (cK 177 0 RD)) := ((f29 126 (by omega)).trans m7)
              have h38 : w27 127 = .inl (gI g, 177, .inl (cK 177 0 KP)) := ((f29 127 (by omega)).trans m8)
              have h39 : w27 128 = .inl (gJ g, 7, .inr (.inl (cL 7 0 O))) := ((f29 128 (by omega)).trans m10)
              have h40 : w27 129 = .inl (gJ g, 7, .inr (.inl (cL 7 0 A))) := ((f29 129 (by omega)).trans m11)
              exact xret_i C hr hlk hW ⟨(by rw [itZ, if_pos (c := (in3 x ∧ in3 y) ∧ itW ln sz x y i = 0) ⟨⟨c4, c13⟩, by rw [hiw]; exact c30⟩, hx_k1, hx_a, cl_nI (by omega), cl_nI (by omega)]; exact ⟨_, _, _, _, _, _, _, _, _, _, _, _, h31, h32, h33, h30, h34, h35, h36, h37, h38, m9, h39, h40⟩), (fun j z0 => (f29 j (by omega))), (by rw [itS, if_pos (c := in3 x ∧ in3 y) ⟨c4, c13⟩, hiw, if_pos c30]; rfl)⟩ dX7_item_87
          · refine lv_lload C.1 C.2.1 dX7_item_63 (lv_at hl 5 rfl) ?_
            refine lv_l2i (v := v.toInt32) C.1 C.2.1 dX7_item_65 rfl ?_
            refine lv_i2s (v := v.toInt32.toInt16.toInt32) C.1 C.2.1 dX7_item_66 rfl ?_
            refine lv_i2l (v := v.toInt32.toInt16.toInt32.toInt64) C.1 C.2.1 dX7_item_67 rfl ?_
            refine lv_goto (tgt := 85) C.1 C.2.1 dX7_item_68 (by decide) ?_
            refine xlstR0 (v := v.toInt32.toInt16.toInt32.toInt64) C hK hW (by omega) m3 (by omega) (by decide) dX7_item_85 (fun w41 H locs e42 f43 hW => ?_)
            have h44 : w41 122 = .inl (gJ g, 96, .inr (.inl (kK 0 96 0 (va_up Z (24 * k1 + a) (cutL (ln k1 - 1) v))))) := e42.trans (by rw [cutL, if_neg (by omega), if_pos (by omega)])
            refine lv_iconst (v := (nI 1)) C.1 C.2.1 dX7_item_86 (by decide) ?_
            have h45 : w41 119 = .inr (7, [.ref (gad g 120), .ref (gad g 121), .ref (gad g 122), .int (nI tn), .ref (gad g 123), .int (nI po), .int nu, .ref (gad g 124), .ref (gad g 125), .ref (gad g 126), .ref (gad g 127), .int (nI hk), .ref (gad g 128), .ref (gad g 129), .long (lN ao), .long (lN mu), .long (lN md), .long (lN bu), .long (lN bd)]) := ((f43 119 (by omega)).trans m0)
            have h46 : w41 120 = .inl (gI g, 4, .inl (kK 0 4 0 (laF ln))) := ((f43 120 (by omega)).trans m1)
            have h47 : w41 121 = .inl (gI g, 4, .inl (cK 4 0 sz)) := ((f43 121 (by omega)).trans m2)
            have h48 : w41 123 = .inl (gI g, 80, .inl (cK 80 0 T)) := ((f43 123 (by omega)).trans m4)
            have h49 : w41 124 = .inl (gI g, 177, .inl (cK 177 0 L)) := ((f43 124 (by omega)).trans m5)
            have h50 : w41 125 = .inl (gI g, 177, .inl (cK 177 0 TR)) := ((f43 125 (by omega)).trans m6)
            have h51 : w41 126 = .inl (gI g, 177, .inl (cK 177 0 RD)) := ((f43 126 (by omega)).trans m7)
            have h52 : w41 127 = .inl (gI g, 177, .inl (cK 177 0 KP)) := ((f43 127 (by omega)).trans m8)
            have h53 : w41 128 = .inl (gJ g, 7, .inr (.inl (cL 7 0 O))) := ((f43 128 (by omega)).trans m10)
            have h54 : w41 129 = .inl (gJ g, 7, .inr (.inl (cL 7 0 A))) := ((f43 129 (by omega)).trans m11)
            exact xret_i C hr hlk hW ⟨(by rw [itZ, if_pos (c := (in3 x ∧ in3 y) ∧ itW ln sz x y i = 0) ⟨⟨c4, c13⟩, by rw [hiw]; exact c30⟩, hx_k1, hx_a, cl_nI (by omega), cl_nI (by omega)]; exact ⟨_, _, _, _, _, _, _, _, _, _, _, _, h45, h46, h47, h44, h48, h49, h50, h51, h52, m9, h53, h54⟩), (fun j z0 => (f43 j (by omega))), (by rw [itS, if_pos (c := in3 x ∧ in3 y) ⟨c4, c13⟩, hiw, if_pos c30]; rfl)⟩ dX7_item_87
        · refine lv_lload C.1 C.2.1 dX7_item_50 (lv_at hl 5 rfl) ?_
          refine lv_l2i (v := v.toInt32) C.1 C.2.1 dX7_item_52 rfl ?_
          refine lv_i2b (v := v.toInt32.toInt8.toInt32) C.1 C.2.1 dX7_item_53 rfl ?_
          refine lv_i2l (v := v.toInt32.toInt8.toInt32.toInt64) C.1 C.2.1 dX7_item_54 rfl ?_
          refine lv_goto (tgt := 85) C.1 C.2.1 dX7_item_55 (by decide) ?_
          refine xlstR0 (v := v.toInt32.toInt8.toInt32.toInt64) C hK hW (by omega) m3 (by omega) (by decide) dX7_item_85 (fun w55 H locs e56 f57 hW => ?_)
          have h58 : w55 122 = .inl (gJ g, 96, .inr (.inl (kK 0 96 0 (va_up Z (24 * k1 + a) (cutL (ln k1 - 1) v))))) := e56.trans (by rw [cutL, if_pos (by omega)])
          refine lv_iconst (v := (nI 1)) C.1 C.2.1 dX7_item_86 (by decide) ?_
          have h59 : w55 119 = .inr (7, [.ref (gad g 120), .ref (gad g 121), .ref (gad g 122), .int (nI tn), .ref (gad g 123), .int (nI po), .int nu, .ref (gad g 124), .ref (gad g 125), .ref (gad g 126), .ref (gad g 127), .int (nI hk), .ref (gad g 128), .ref (gad g 129), .long (lN ao), .long (lN mu), .long (lN md), .long (lN bu), .long (lN bd)]) := ((f57 119 (by omega)).trans m0)
          have h60 : w55 120 = .inl (gI g, 4, .inl (kK 0 4 0 (laF ln))) := ((f57 120 (by omega)).trans m1)
          have h61 : w55 121 = .inl (gI g, 4, .inl (cK 4 0 sz)) := ((f57 121 (by omega)).trans m2)
          have h62 : w55 123 = .inl (gI g, 80, .inl (cK 80 0 T)) := ((f57 123 (by omega)).trans m4)
          have h63 : w55 124 = .inl (gI g, 177, .inl (cK 177 0 L)) := ((f57 124 (by omega)).trans m5)
          have h64 : w55 125 = .inl (gI g, 177, .inl (cK 177 0 TR)) := ((f57 125 (by omega)).trans m6)
          have h65 : w55 126 = .inl (gI g, 177, .inl (cK 177 0 RD)) := ((f57 126 (by omega)).trans m7)
          have h66 : w55 127 = .inl (gI g, 177, .inl (cK 177 0 KP)) := ((f57 127 (by omega)).trans m8)
          have h67 : w55 128 = .inl (gJ g, 7, .inr (.inl (cL 7 0 O))) := ((f57 128 (by omega)).trans m10)
          have h68 : w55 129 = .inl (gJ g, 7, .inr (.inl (cL 7 0 A))) := ((f57 129 (by omega)).trans m11)
          exact xret_i C hr hlk hW ⟨(by rw [itZ, if_pos (c := (in3 x ∧ in3 y) ∧ itW ln sz x y i = 0) ⟨⟨c4, c13⟩, by rw [hiw]; exact c30⟩, hx_k1, hx_a, cl_nI (by omega), cl_nI (by omega)]; exact ⟨_, _, _, _, _, _, _, _, _, _, _, _, h59, h60, h61, h58, h62, h63, h64, h65, h66, m9, h67, h68⟩), (fun j z0 => (f57 j (by omega))), (by rw [itS, if_pos (c := in3 x ∧ in3 y) ⟨c4, c13⟩, hiw, if_pos c30]; rfl)⟩ dX7_item_87
      · refine lv_iload C.1 C.2.1 dX7_item_33 (lv_at hl 0 rfl) ?_
        exact xret_i C hr hlk hW ⟨(by rw [itZ, if_neg (c := (in3 x ∧ in3 y) ∧ itW ln sz x y i = 0) (fun h => c30 (by rw [← hiw]; exact h.2))]; exact ⟨_, _, _, _, _, _, _, _, _, _, _, _, m0, m1, m2, m3, m4, m5, m6, m7, m8, m9, m10, m11⟩), (fun j z0 => rfl), (by rw [itS, if_pos (c := in3 x ∧ in3 y) ⟨c4, c13⟩, hiw, if_neg c30])⟩ dX7_item_35
    · refine lv_iconst (v := (-1 : Int32)) C.1 C.2.1 dX7_item_16 (by decide) ?_
      exact xret_i C hr hlk hW ⟨(by rw [itZ, if_neg (c := (in3 x ∧ in3 y) ∧ itW ln sz x y i = 0) (fun h => c13 h.1.2)]; exact ⟨_, _, _, _, _, _, _, _, _, _, _, _, m0, m1, m2, m3, m4, m5, m6, m7, m8, m9, m10, m11⟩), (fun j z0 => rfl), (by rw [itS, if_neg (c := in3 x ∧ in3 y) (fun h => c13 h.2)])⟩ dX7_item_17
