set_option maxHeartbeats 4000000 in
set_option maxRecDepth 100000 in
theorem c_X6_field (l : Launch) (g : GE) (w : Nat → va_E) (L K T ln sz : Nat → Nat) (hk tn : Nat) (Z : Nat → Int64) (x : Int32) (y : Int32) (hI : AdInj g) (hN : gN g = 130) (hS : OkS (L, K, hk, tn, T, ln, sz, Z)) (pr0 : XAll g (L, K, hk, tn, T, ln, sz, Z) w) : Met l yX6_field wsX6_field ({ frames := 2, cells := 0, slots := 0, locals := 42 } : Room) (XPc g w [.ref (gad g 0), .int x, .int y]) (XQi g (fun r w' => XAll g (fieldL L x y, K, hk, tn, T, ln, sz, Z) w' ∧ (∀ j : Nat, ¬ (0 ≤ j ∧ j < 119) → w' j = w j) ∧ r = fieldS L x y)) 0 0 (gA g) := by
  refine xmet (cc := cX6_field) (maxL := 4) (ret := (some .int)) (by decide) rfl hI (Nat.le_of_ble_eq_true rfl) ?_
  intro pG eG sG mG belowG methG cG ls C hr hlk hK hW hl
  have hl : lv_has ls 4 [(0, .ref (gad g 0)), (1, .int x), (2, .int y)] := hl
  have hinX1 : ∀ x ∈ u_ws RX1 TX1 8, x ∈ wsX6_field := by decide +kernel
  have hinX6 : ∀ x ∈ u_ws RX6 TX6 9, x ∈ wsX6_field := by decide +kernel
  obtain ⟨hXa, hXl, hXk, hXt, hXw, hXf, hXr, hXs⟩ := pr0
  have hXa : w 0 = cX0 g hk := hXa
  have hXl : XLand g 1 L w := hXl
  have hXk : XKept g hk K w := hXk
  have hXr : XRead g tn T w := hXr
  have hXs : XShs g ln sz Z w := hXs
  have hokL : OkL L := hS.1
  obtain ⟨hok, hs2, hdy, hdr, hcl, hkn, hcs, hps⟩ := hokL
  obtain ⟨π, P, CK, hG, hC, hCk, hPa, hPm, hPk⟩ := id hXl
  refine lv_iload_n C.1 C.2.1 dX6_field_0 rfl (lv_at hl 1 rfl) ?_
  refine xcS_i (n := 1) (As := [.int x]) C hK hW (c_X6_isField l g w x hI hN) gX6_field_X6_isField rfl ⟨rfl, rfl⟩ (by decide +kernel) ⟨Nat.le_of_ble_eq_true rfl, Nat.le_of_ble_eq_true rfl⟩ ⟨Nat.zero_le _, Nat.zero_le _⟩ rfl hl rfl (Nat.le_of_ble_eq_true rfl) dX6_field_1 (fun r3 w1 H locs q2 hW => ?_)
  obtain ⟨qw4, rfl⟩ := q2
  rw [qw4] at hW
  refine xBeq (tgt := 16) C dX6_field_4 (by decide) (fun c4 => ?_) (fun c4 => ?_)
  · refine lv_iconst (v := (-1 : Int32)) C.1 C.2.1 dX6_field_16 (by decide) ?_
    exact xret_i C hr hlk hW ⟨⟨hXa, (by rw [fieldL, if_neg (c := okField x y) (fun h => c4 h.1)]; exact ⟨π, P, CK, hG, hC, hCk, hPa, hPm, hPk⟩), hXk, hXt, hXw, hXf, hXr, hXs⟩, (fun j z0 => rfl), (by rw [fieldS, if_neg (c := okField x y) (fun h => c4 h.1)])⟩ dX6_field_17
  · obtain ⟨k1, ha_k1, hb_k1, hx_k1⟩ := inR_N (by omega) (by omega) c4
    rw [hx_k1] at hl
    refine lv_iload_n C.1 C.2.1 dX6_field_7 rfl (lv_at hl 2 rfl) ?_
    refine lv_iconst (v := (nI 0)) C.1 C.2.1 dX6_field_8 (by decide) ?_
    refine lv_iconst (v := (nI 4)) C.1 C.2.1 dX6_field_9 (by decide) ?_
    refine xcS_i (n := 3) (As := [.int y, .int (nI 0), .int (nI 4)]) C hK hW (c_X6_isWithin l g w y (nI 0) (nI 4) hI hN) gX6_field_X6_isWithin rfl ⟨rfl, rfl⟩ (by decide +kernel) ⟨Nat.le_of_ble_eq_true rfl, Nat.le_of_ble_eq_true rfl⟩ ⟨Nat.zero_le _, Nat.zero_le _⟩ rfl hl rfl (Nat.le_of_ble_eq_true rfl) dX6_field_10 (fun r7 w5 H locs q6 hW => ?_)
    obtain ⟨qw8, rfl⟩ := q6
    rw [qw8] at hW
    refine xBne (tgt := 18) C dX6_field_13 (by decide) (fun c13 => ?_) (fun c13 => ?_)
    · obtain ⟨k2, ha_k2, hb_k2, hx_k2⟩ := inR_N (by omega) (by omega) c13
      rw [hx_k2] at hl
      refine lv_aload_n C.1 C.2.1 dX6_field_18 rfl (lv_at hl 0 rfl) ?_
      refine xget C hK hW hinX6 rfl (by omega) hXa 0 (by decide) (List.mem_of_getElem? (i := 1) rfl) rfl dX6_field_19 ?_
      refine xget C hK hW hinX1 rfl (by omega) hG.1 0 (by decide) (List.mem_of_getElem? (i := 2) rfl) rfl dX6_field_22 ?_
      refine lv_iload_n C.1 C.2.1 dX6_field_25 rfl (lv_at hl 1 rfl) ?_
      refine xildK C hK hW (by omega) hG.2.1 (by omega) (by decide) dX6_field_26 ?_
      refine lv_istore_n (lv' := [(3, .int (nI (L (17 + k1)))), (0, .ref (gad g 0)), (1, .int (nI k1)), (2, .int (nI k2))]) C.1 C.2.1 dX6_field_27 rfl hl (by decide) rfl (fun ls hl => ?_)
      refine lv_aload_n C.1 C.2.1 dX6_field_28 rfl (lv_at hl 1 rfl) ?_
      refine xget C hK hW hinX6 rfl (by omega) hXa 0 (by decide) (List.mem_of_getElem? (i := 1) rfl) rfl dX6_field_29 ?_
      refine xget C hK hW hinX1 rfl (by omega) hG.1 0 (by decide) (List.mem_of_getElem? (i := 2) rfl) rfl dX6_field_32 ?_
      refine lv_iload_n C.1 C.2.1 dX6_field_35 rfl (lv_at hl 2 rfl) ?_
      refine lv_iload_n C.1 C.2.1 dX6_field_36 rfl (lv_at hl 3 rfl) ?_
      refine xistK (v := k2) C hK hW (by omega) hG.2.1 (by omega) (by decide) dX6_field_37 (fun w9 H locs e10 f11 hW => ?_)
      have h12 : GAt g 1 (nI (L 40)) (nI (L 24)) (va_up L (17 + k1) k2) w9 := GAt_kind hG (by omega) e10 f11
      refine lv_aload_n C.1 C.2.1 dX6_field_38 rfl (lv_at hl 1 rfl) ?_
      have h13 : w9 0 = .inr (6, [.ref (gad g 1), .ref (gad g 34), .ref (gad g 67), .ref (gad g 100), .ref (gad g 106), .ref (gad g 107), .ref (gad g 108), .ref (gad g 110), .int (nI hk)]) := ((f11 0 (by omega)).trans hXa)
      refine xget C hK hW hinX6 rfl (by omega) h13 0 (by decide) (List.mem_of_getElem? (i := 1) rfl) rfl dX6_field_39 ?_
      refine xcV_v (n := 0) (As := []) C hK hW (c_X1_forget l g w9 1 (nI (L 40)) (nI (L 24)) (va_up L (17 + k1) k2) hI hN (by omega) h12) gX6_field_X1_forget rfl ⟨rfl, rfl⟩ (by decide +kernel) ⟨Nat.le_of_ble_eq_true rfl, Nat.le_of_ble_eq_true rfl⟩ ⟨Nat.zero_le _, Nat.zero_le _⟩ rfl (by omega) h12.1 rfl hl rfl (Nat.le_of_ble_eq_true rfl) dX6_field_42 (fun w14 H locs q15 hW => ?_)
      obtain ⟨h17, f18⟩ := q15
      refine lv_iload_n C.1 C.2.1 dX6_field_45 rfl (lv_at hl 0 rfl) ?_
      have h19 : CAt g 1 CK w14 := (CAt.fr (CAt.fr hC (fun j h1 h2 => f11 j (by omega))) (fun j h1 h2 => f18 j (by omega)))
      have h20 : PArr g 1 π w14 := (PArr.fr (PArr.fr hPa (fun j h1 h2 => f11 j (by omega))) (fun j h1 h2 => f18 j (by omega)))
      have h21 : PMom g 1 π P w14 := (PMom.fr (PMom.fr hPm (fun j h1 h2 => f11 j (by omega))) (fun j h1 h2 => f18 j (by omega)))
      have h22 : w14 0 = .inr (6, [.ref (gad g 1), .ref (gad g 34), .ref (gad g 67), .ref (gad g 100), .ref (gad g 106), .ref (gad g 107), .ref (gad g 108), .ref (gad g 110), .int (nI hk)]) := ((f18 0 (by omega)).trans h13)
      have h23 : XKept g hk K w14 := (XKept.fr (XKept.fr hXk (fun j h1 h2 => f11 j (by omega))) (fun j h1 h2 => f18 j (by omega)))
      have h24 : XTrial g  w14 := (XTrial.fr (XTrial.fr hXt (fun j h1 h2 => f11 j (by omega))) (fun j h1 h2 => f18 j (by omega)))
      have h25 : XWays g  w14 := (XWays.fr (XWays.fr hXw (fun j h1 h2 => f11 j (by omega))) (fun j h1 h2 => f18 j (by omega)))
      have h26 : XFr g  w14 := (XFr.fr (XFr.fr hXf (fun j h1 h2 => f11 j (by omega))) (fun j h1 h2 => f18 j (by omega)))
      have h27 : XRead g tn T w14 := (XRead.fr (XRead.fr hXr (fun j h1 h2 => f11 j (by omega))) (fun j h1 h2 => f18 j (by omega)))
      have h28 : XShs g ln sz Z w14 := (XShs.fr (XShs.fr hXs (fun j h1 h2 => f11 j (by omega))) (fun j h1 h2 => f18 j (by omega)))
      exact xret_i C hr hlk hW ⟨⟨h22, (by rw [fieldL, if_pos (c := okField x y) ⟨c4, c13⟩, hx_k1, hx_k2, cl_nI (by omega), cl_nI (by omega)]; show XLand g 1 (va_up (va_up L (17 + k1) k2) 40 0) w14; exact XLand_0 (n := L 24) (va_up_self _ _ _) (by rw [va_up_ne _ _ (by omega), va_up_ne _ _ (by omega)]) (h17.congr (fun i hi => (va_up_ne _ _ (by omega)).symm)) h19 (fun c hc => by rw [va_up_ne _ _ (by omega), va_up_ne _ _ (by omega), va_up_ne _ _ (by omega), va_up_ne _ _ (by omega), va_up_ne _ _ (by omega), va_up_ne _ _ (by omega)]; exact hCk c hc) h20 h21), h23, h24, h25, h26, h27, h28⟩, (fun j z0 => ((f18 j (by omega)).trans (f11 j (by omega)))), (by rw [fieldS, if_pos (c := okField x y) ⟨c4, c13⟩, hx_k1, cl_nI (by omega)])⟩ dX6_field_46
    · refine lv_iconst (v := (-1 : Int32)) C.1 C.2.1 dX6_field_16 (by decide) ?_
      exact xret_i C hr hlk hW ⟨⟨hXa, (by rw [fieldL, if_neg (c := okField x y) (fun h => c13 h.2)]; exact ⟨π, P, CK, hG, hC, hCk, hPa, hPm, hPk⟩), hXk, hXt, hXw, hXf, hXr, hXs⟩, (fun j z0 => rfl), (by rw [fieldS, if_neg (c := okField x y) (fun h => c13 h.2)])⟩ dX6_field_17

set_option maxHeartbeats 4000000 in
set_option maxRecDepth 100000 in
theorem c_X6_claim (l : Launch) (g : GE) (w : Nat → va_E) (L K T ln sz : Nat → Nat) (hk tn : Nat) (Z : Nat → Int64) (x : Int32) (y : Int32) (z : Int32) (hI : AdInj g) (hN : gN g = 130) (hS : OkS (L, K, hk, tn, T, ln, sz, Z)) (pr0 : XAll g (L, K, hk, tn, T, ln, sz, Z) w) : Met l yX6_claim wsX6_claim ({ frames := 2, cells := 0, slots := 0, locals := 42 } : Room) (XPc g w [.ref (gad g 0), .int x, .int y, .int z]) (XQi g (fun r w' => XAll g (claimL L x y z, K, hk, tn, T, ln, sz, Z) w' ∧ (∀ j : Nat, ¬ (0 ≤ j ∧ j < 119) → w' j = w j) ∧ r = claimS L x y z)) 0 0 (gA g) := by
  refine xmet (cc := cX6_claim) (maxL := 4) (ret := (some .int)) (by decide) rfl hI (Nat.le_of_ble_eq_true rfl) ?_
  intro pG eG sG mG belowG methG cG ls C hr hlk hK hW hl
  have hl : lv_has ls 4 [(0, .ref (gad g 0)), (1, .int x), (2, .int y), (3, .int z)] := hl
  have hinX1 : ∀ x ∈ u_ws RX1 TX1 8, x ∈ wsX6_claim := by decide +kernel
  have hinX6 : ∀ x ∈ u_ws RX6 TX6 9, x ∈ wsX6_claim := by decide +kernel
  obtain ⟨hXa, hXl, hXk, hXt, hXw, hXf, hXr, hXs⟩ := pr0
  have hXa : w 0 = cX0 g hk := hXa
  have hXl : XLand g 1 L w := hXl
  have hXk : XKept g hk K w := hXk
  have hXr : XRead g tn T w := hXr
  have hXs : XShs g ln sz Z w := hXs
  have hokL : OkL L := hS.1
  obtain ⟨hok, hs2, hdy, hdr, hcl, hkn, hcs, hps⟩ := hokL
  obtain ⟨π, P, CK, hG, hC, hCk, hPa, hPm, hPk⟩ := id hXl
  refine lv_iload_n C.1 C.2.1 dX6_claim_0 rfl (lv_at hl 1 rfl) ?_
  refine xcS_i (n := 1) (As := [.int x]) C hK hW (c_X6_isField l g w x hI hN) gX6_claim_X6_isField rfl ⟨rfl, rfl⟩ (by decide +kernel) ⟨Nat.le_of_ble_eq_true rfl, Nat.le_of_ble_eq_true rfl⟩ ⟨Nat.zero_le _, Nat.zero_le _⟩ rfl hl rfl (Nat.le_of_ble_eq_true rfl) dX6_claim_1 (fun r3 w1 H locs q2 hW => ?_)
  obtain ⟨qw4, rfl⟩ := q2
  rw [qw4] at hW
  refine xBeq (tgt := 27) C dX6_claim_4 (by decide) (fun c4 => ?_) (fun c4 => ?_)
  · refine lv_iconst (v := (-1 : Int32)) C.1 C.2.1 dX6_claim_27 (by decide) ?_
    exact xret_i C hr hlk hW ⟨⟨hXa, (by rw [claimL, if_neg (c := okClaim x y z ∧ L 24 < 5) (fun h => c4 h.1.1)]; exact ⟨π, P, CK, hG, hC, hCk, hPa, hPm, hPk⟩), hXk, hXt, hXw, hXf, hXr, hXs⟩, (fun j z0 => rfl), (by rw [claimS, if_neg (c := okClaim x y z) (fun h => c4 h.1)])⟩ dX6_claim_28
  · obtain ⟨k1, ha_k1, hb_k1, hx_k1⟩ := inR_N (by omega) (by omega) c4
    rw [hx_k1] at hl
    refine lv_iload_n C.1 C.2.1 dX6_claim_7 rfl (lv_at hl 2 rfl) ?_
    refine lv_iload_n C.1 C.2.1 dX6_claim_8 rfl (lv_at hl 1 rfl) ?_
    refine lv_bipush (v := (nI 6)) C.1 C.2.1 dX6_claim_9 (by decide) ?_
    refine xcS_i (n := 3) (As := [.int y, .int (nI k1), .int (nI 6)]) C hK hW (c_X6_isWithin l g w y (nI k1) (nI 6) hI hN) gX6_claim_X6_isWithin rfl ⟨rfl, rfl⟩ (by decide +kernel) ⟨Nat.le_of_ble_eq_true rfl, Nat.le_of_ble_eq_true rfl⟩ ⟨Nat.zero_le _, Nat.zero_le _⟩ rfl hl rfl (Nat.le_of_ble_eq_true rfl) dX6_claim_11 (fun r7 w5 H locs q6 hW => ?_)
    obtain ⟨qw8, rfl⟩ := q6
    rw [qw8] at hW
    refine xBeq (tgt := 27) C dX6_claim_14 (by decide) (fun c14 => ?_) (fun c14 => ?_)
    · refine lv_iconst (v := (-1 : Int32)) C.1 C.2.1 dX6_claim_27 (by decide) ?_
      exact xret_i C hr hlk hW ⟨⟨hXa, (by rw [claimL, if_neg (c := okClaim x y z ∧ L 24 < 5) (fun h => c14 (by rw [← hx_k1]; exact h.1.2.1))]; exact ⟨π, P, CK, hG, hC, hCk, hPa, hPm, hPk⟩), hXk, hXt, hXw, hXf, hXr, hXs⟩, (fun j z0 => rfl), (by rw [claimS, if_neg (c := okClaim x y z) (fun h => c14 (by rw [← hx_k1]; exact h.2.1))])⟩ dX6_claim_28
    · obtain ⟨k2, ha_k2, hb_k2, hx_k2⟩ := inR_N (by omega) (by omega) c14
      rw [hx_k2] at hl
      have c14x : inR y x (nI 6) := by rw [hx_k1]; exact c14
      refine lv_iload_n C.1 C.2.1 dX6_claim_17 rfl (lv_at hl 3 rfl) ?_
      refine lv_iconst (v := (nI 1)) C.1 C.2.1 dX6_claim_18 (by decide) ?_
      refine lv_bipush (v := (nI 99)) C.1 C.2.1 dX6_claim_19 (by decide) ?_
      refine xcS_i (n := 3) (As := [.int z, .int (nI 1), .int (nI 99)]) C hK hW (c_X6_isWithin l g w z (nI 1) (nI 99) hI hN) gX6_claim_X6_isWithin rfl ⟨rfl, rfl⟩ (by decide +kernel) ⟨Nat.le_of_ble_eq_true rfl, Nat.le_of_ble_eq_true rfl⟩ ⟨Nat.zero_le _, Nat.zero_le _⟩ rfl hl rfl (Nat.le_of_ble_eq_true rfl) dX6_claim_21 (fun r11 w9 H locs q10 hW => ?_)
      obtain ⟨qw12, rfl⟩ := q10
      rw [qw12] at hW
      refine xBne (tgt := 29) C dX6_claim_24 (by decide) (fun c24 => ?_) (fun c24 => ?_)
      · obtain ⟨k3, ha_k3, hb_k3, hx_k3⟩ := inR_N (by omega) (by omega) c24
        rw [hx_k3] at hl
        refine lv_aload_n C.1 C.2.1 dX6_claim_29 rfl (lv_at hl 0 rfl) ?_
        refine xget C hK hW hinX6 rfl (by omega) hXa 0 (by decide) (List.mem_of_getElem? (i := 1) rfl) rfl dX6_claim_30 ?_
        refine lv_iload_n C.1 C.2.1 dX6_claim_33 rfl (lv_at hl 1 rfl) ?_
        refine lv_iload_n C.1 C.2.1 dX6_claim_34 rfl (lv_at hl 2 rfl) ?_
        refine lv_iload_n C.1 C.2.1 dX6_claim_35 rfl (lv_at hl 3 rfl) ?_
        refine xcV_i (n := 3) (As := [.int (nI k1), .int (nI k2), .int (nI k3)]) C hK hW (c_X1_addClaim l g w 1 (L 24) k1 k2 k3 (nI (L 40)) L CK hI hN (by omega) (by omega) hG hC) gX6_claim_X1_addClaim rfl ⟨rfl, rfl⟩ (by decide +kernel) ⟨Nat.le_of_ble_eq_true rfl, Nat.le_of_ble_eq_true rfl⟩ ⟨Nat.zero_le _, Nat.zero_le _⟩ rfl (by omega) hG.1 rfl hl rfl (Nat.le_of_ble_eq_true rfl) dX6_claim_36 (fun r15 w13 H locs q14 hW => ?_)
        obtain ⟨h16, h17, f18, rfl⟩ := q14
        refine xBne (tgt := 45) C dX6_claim_39 (by decide) (fun c39 => ?_) (fun c39 => ?_)
        · have h19 : GAt g 1 (nI (L 40)) (nI (L 24 + 1)) L w13 := (by have hh := h16; rw [if_pos c39] at hh; exact hh)
          have h20 : CAt g 1 (addC (L 24) k1 k2 k3 CK) w13 := (by have hh := h17; rw [if_pos c39] at hh; exact hh)
          refine lv_aload_n C.1 C.2.1 dX6_claim_45 rfl (lv_at hl 0 rfl) ?_
          have h21 : w13 0 = .inr (6, [.ref (gad g 1), .ref (gad g 34), .ref (gad g 67), .ref (gad g 100), .ref (gad g 106), .ref (gad g 107), .ref (gad g 108), .ref (gad g 110), .int (nI hk)]) := ((f18 0 (by omega) (by omega)).trans hXa)
          refine xget C hK hW hinX6 rfl (by omega) h21 0 (by decide) (List.mem_of_getElem? (i := 1) rfl) rfl dX6_claim_46 ?_
          refine xcV_v (n := 0) (As := []) C hK hW (c_X1_forget l g w13 1 (nI (L 40)) (nI (L 24 + 1)) L hI hN (by omega) h19) gX6_claim_X1_forget rfl ⟨rfl, rfl⟩ (by decide +kernel) ⟨Nat.le_of_ble_eq_true rfl, Nat.le_of_ble_eq_true rfl⟩ ⟨Nat.zero_le _, Nat.zero_le _⟩ rfl (by omega) h19.1 rfl hl rfl (Nat.le_of_ble_eq_true rfl) dX6_claim_49 (fun w22 H locs q23 hW => ?_)
          obtain ⟨h25, f26⟩ := q23
          refine lv_aload_n C.1 C.2.1 dX6_claim_52 rfl (lv_at hl 0 rfl) ?_
          have h27 : w22 0 = .inr (6, [.ref (gad g 1), .ref (gad g 34), .ref (gad g 67), .ref (gad g 100), .ref (gad g 106), .ref (gad g 107), .ref (gad g 108), .ref (gad g 110), .int (nI hk)]) := ((f26 0 (by omega)).trans h21)
          refine xget C hK hW hinX6 rfl (by omega) h27 0 (by decide) (List.mem_of_getElem? (i := 1) rfl) rfl dX6_claim_53 ?_
          refine xget C hK hW hinX1 rfl (by omega) h25.1 7 (by decide) (List.mem_of_getElem? (i := 2) rfl) rfl dX6_claim_56 ?_
          refine lv_iconst (v := (nI 1)) C.1 C.2.1 dX6_claim_59 (by decide) ?_
          refine xsub C (by omega) dX6_claim_60 ?_
          refine xtopN (b := L 24) (Nat.add_sub_cancel _ _) ?_
          have h28 : CAt g 1 (addC (L 24) k1 k2 k3 CK) w22 := (CAt.fr h20 (fun j h1 h2 => f26 j (by omega)))
          have h29 : PArr g 1 π w22 := (PArr.fr (PArr.fr hPa (fun j h1 h2 => f18 j (by omega) (by omega))) (fun j h1 h2 => f26 j (by omega)))
          have h30 : PMom g 1 π P w22 := (PMom.fr (PMom.fr hPm (fun j h1 h2 => f18 j (by omega) (by omega))) (fun j h1 h2 => f26 j (by omega)))
          have h31 : XKept g hk K w22 := (XKept.fr (XKept.fr hXk (fun j h1 h2 => f18 j (by omega) (by omega))) (fun j h1 h2 => f26 j (by omega)))
          have h32 : XTrial g  w22 := (XTrial.fr (XTrial.fr hXt (fun j h1 h2 => f18 j (by omega) (by omega))) (fun j h1 h2 => f26 j (by omega)))
          have h33 : XWays g  w22 := (XWays.fr (XWays.fr hXw (fun j h1 h2 => f18 j (by omega) (by omega))) (fun j h1 h2 => f26 j (by omega)))
          have h34 : XFr g  w22 := (XFr.fr (XFr.fr hXf (fun j h1 h2 => f18 j (by omega) (by omega))) (fun j h1 h2 => f26 j (by omega)))
          have h35 : XRead g tn T w22 := (XRead.fr (XRead.fr hXr (fun j h1 h2 => f18 j (by omega) (by omega))) (fun j h1 h2 => f26 j (by omega)))
          have h36 : XShs g ln sz Z w22 := (XShs.fr (XShs.fr hXs (fun j h1 h2 => f18 j (by omega) (by omega))) (fun j h1 h2 => f26 j (by omega)))
          exact xret_i C hr hlk hW ⟨⟨h27, (by rw [claimL, if_pos (c := okClaim x y z ∧ L 24 < 5) ⟨⟨c4, c14x, c24⟩, c39⟩, hx_k1, hx_k2, hx_k3, cl_nI (by omega), cl_nI (by omega), cl_nI (by omega)]; show XLand g 1 (addF L k1 k2 k3) w22; exact XLand_0 (n := L 24 + 1) (addF_40 c39) addF_24 (h25.congr (fun i hi => (addF_lo hi).symm)) h28 (addF_cl c39 hCk) h29 h30), h31, h32, h33, h34, h35, h36⟩, (fun j z0 => ((f26 j (by omega)).trans (f18 j (by omega) (by omega)))), (by rw [claimS, if_pos (c := okClaim x y z) ⟨c4, c14x, c24⟩, if_pos c39])⟩ dX6_claim_61
        · have h37 : GAt g 1 (nI (L 40)) (nI (L 24)) L w13 := (by have hh := h16; rw [if_neg c39] at hh; exact hh)
          have h38 : CAt g 1 CK w13 := (by have hh := h17; rw [if_neg c39] at hh; exact hh)
          refine lv_bipush (v := (-3 : Int32)) C.1 C.2.1 dX6_claim_42 (by decide) ?_
          have h39 : PArr g 1 π w13 := (PArr.fr hPa (fun j h1 h2 => f18 j (by omega) (by omega)))
          have h40 : PMom g 1 π P w13 := (PMom.fr hPm (fun j h1 h2 => f18 j (by omega) (by omega)))
          have h41 : w13 0 = .inr (6, [.ref (gad g 1), .ref (gad g 34), .ref (gad g 67), .ref (gad g 100), .ref (gad g 106), .ref (gad g 107), .ref (gad g 108), .ref (gad g 110), .int (nI hk)]) := ((f18 0 (by omega) (by omega)).trans hXa)
          have h42 : XKept g hk K w13 := (XKept.fr hXk (fun j h1 h2 => f18 j (by omega) (by omega)))
          have h43 : XTrial g  w13 := (XTrial.fr hXt (fun j h1 h2 => f18 j (by omega) (by omega)))
          have h44 : XWays g  w13 := (XWays.fr hXw (fun j h1 h2 => f18 j (by omega) (by omega)))
          have h45 : XFr g  w13 := (XFr.fr hXf (fun j h1 h2 => f18 j (by omega) (by omega)))
          have h46 : XRead g tn T w13 := (XRead.fr hXr (fun j h1 h2 => f18 j (by omega) (by omega)))
          have h47 : XShs g ln sz Z w13 := (XShs.fr hXs (fun j h1 h2 => f18 j (by omega) (by omega)))
          exact xret_i C hr hlk hW ⟨⟨h41, (by rw [claimL, if_neg (c := okClaim x y z ∧ L 24 < 5) (fun h => c39 h.2)]; exact ⟨π, P, CK, h37, h38, hCk, h39, h40, hPk⟩), h42, h43, h44, h45, h46, h47⟩, (fun j z0 => (f18 j (by omega) (by omega))), (by rw [claimS, if_pos (c := okClaim x y z) ⟨c4, c14x, c24⟩, if_neg c39])⟩ dX6_claim_44
      · refine lv_iconst (v := (-1 : Int32)) C.1 C.2.1 dX6_claim_27 (by decide) ?_
        exact xret_i C hr hlk hW ⟨⟨hXa, (by rw [claimL, if_neg (c := okClaim x y z ∧ L 24 < 5) (fun h => c24 h.1.2.2)]; exact ⟨π, P, CK, hG, hC, hCk, hPa, hPm, hPk⟩), hXk, hXt, hXw, hXf, hXr, hXs⟩, (fun j z0 => rfl), (by rw [claimS, if_neg (c := okClaim x y z) (fun h => c24 h.2.2)])⟩ dX6_claim_28

set_option maxHeartbeats 4000000 in
set_option maxRecDepth 100000 in
theorem c_X6_days (l : Launch) (g : GE) (w : Nat → va_E) (L K T ln sz : Nat → Nat) (hk tn : Nat) (Z : Nat → Int64) (x : Int32) (hI : AdInj g) (hN : gN g = 130) (hS : OkS (L, K, hk, tn, T, ln, sz, Z)) (pr0 : XAll g (L, K, hk, tn, T, ln, sz, Z) w) : Met l yX6_days wsX6_days ({ frames := 4, cells := 0, slots := 0, locals := 89 } : Room) (XPc g w [.ref (gad g 0), .int x]) (XQi g (fun r w' => XAll g (daysM L x, K, hk, tn, T, ln, sz, Z) w' ∧ (∀ j : Nat, ¬ (0 ≤ j ∧ j < 119) → w' j = w j) ∧ r = daysS L x)) 0 0 (gA g) := by
  refine xmet (cc := cX6_days) (maxL := 3) (ret := (some .int)) (by decide) rfl hI (Nat.le_of_ble_eq_true rfl) ?_
  intro pG eG sG mG belowG methG cG ls C hr hlk hK hW hl
  have hl : lv_has ls 3 [(0, .ref (gad g 0)), (1, .int x)] := hl
  have hinX1 : ∀ x ∈ u_ws RX1 TX1 8, x ∈ wsX6_days := by decide +kernel
  have hinX2 : ∀ x ∈ u_ws RX2 TX2 5, x ∈ wsX6_days := by decide +kernel
  have hinX6 : ∀ x ∈ u_ws RX6 TX6 9, x ∈ wsX6_days := by decide +kernel
  obtain ⟨hXa, hXl, hXk, hXt, hXw, hXf, hXr, hXs⟩ := pr0
  have hXa : w 0 = cX0 g hk := hXa
  have hXl : XLand g 1 L w := hXl
  have hXk : XKept g hk K w := hXk
  have hXr : XRead g tn T w := hXr
  have hXs : XShs g ln sz Z w := hXs
  have hokL : OkL L := hS.1
  obtain ⟨hok, hs2, hdy, hdr, hcl, hkn, hcs, hps⟩ := hokL
  refine lv_iload_n C.1 C.2.1 dX6_days_0 rfl (lv_at hl 1 rfl) ?_
  refine lv_iconst (v := (nI 1)) C.1 C.2.1 dX6_days_1 (by decide) ?_
  refine lv_bipush (v := (nI 40)) C.1 C.2.1 dX6_days_2 (by decide) ?_
  refine xcS_i (n := 3) (As := [.int x, .int (nI 1), .int (nI 40)]) C hK hW (c_X6_isWithin l g w x (nI 1) (nI 40) hI hN) gX6_days_X6_isWithin rfl ⟨rfl, rfl⟩ (by decide +kernel) ⟨Nat.le_of_ble_eq_true rfl, Nat.le_of_ble_eq_true rfl⟩ ⟨Nat.zero_le _, Nat.zero_le _⟩ rfl hl rfl (Nat.le_of_ble_eq_true rfl) dX6_days_4 (fun r3 w1 H locs q2 hW => ?_)
  obtain ⟨qw4, rfl⟩ := q2
  rw [qw4] at hW
  refine xBne (tgt := 12) C dX6_days_7 (by decide) (fun c7 => ?_) (fun c7 => ?_)
  · obtain ⟨k1, ha_k1, hb_k1, hx_k1⟩ := inR_N (by omega) (by omega) c7
    rw [hx_k1] at hl
    obtain ⟨π, P, CK, hG, hC, hCk, hPa, hPm, hPk⟩ := id hXl
    refine lv_aload_n C.1 C.2.1 dX6_days_12 rfl (lv_at hl 0 rfl) ?_
    refine xget C hK hW hinX6 rfl (by omega) hXa 0 (by decide) (List.mem_of_getElem? (i := 1) rfl) rfl dX6_days_13 ?_
    refine xget C hK hW hinX1 rfl (by omega) hG.1 1 (by decide) (List.mem_of_getElem? (i := 2) rfl) rfl dX6_days_16 ?_
    refine xget C hK hW hinX2 rfl (by omega) hG.2.2.1 1 (by decide) (List.mem_of_getElem? (i := 3) rfl) rfl dX6_days_19 ?_
    refine lv_sipush (v := (nI 9999)) C.1 C.2.1 dX6_days_22 (by decide) ?_
    refine lv_iload_n C.1 C.2.1 dX6_days_25 rfl (lv_at hl 1 rfl) ?_
    refine xsub C (by omega) dX6_days_26 ?_
    refine xle (tgt := 33) C (by omega) (by omega) dX6_days_27 (by decide) (fun c27 => ?_) (fun c27 => ?_)
    · refine lv_iconst (v := (nI 0)) C.1 C.2.1 dX6_days_33 (by decide) ?_
      refine lv_istore_n (lv' := [(2, .int (nI 0)), (0, .ref (gad g 0)), (1, .int (nI k1))]) C.1 C.2.1 dX6_days_34 rfl hl (by decide) rfl (fun ls hl => ?_)
      have loop35 : ∀ (kG : Nat) (d : Nat) (v35 : Nat → va_E) (H : Heap) (locs : List Loc) (ls : Array Slot), kG = k1 - d → (v35 0 = .inr (6, [.ref (gad g 1), .ref (gad g 34), .ref (gad g 67), .ref (gad g 100), .ref (gad g 106), .ref (gad g 107), .ref (gad g 108), .ref (gad g 110), .int (nI hk)])) → (XKept g hk K v35) → (XRead g tn T v35) → (XShs g ln sz Z v35) → (XTrial g  v35) → (XWays g  v35) → (XFr g  v35) → (XLand g 1 (daysL L d) v35) → (∀ j : Nat, ¬ (0 ≤ j ∧ j < 119) → v35 j = w j) → (d ≤ k1) → XW g v35 (gA g) sG.heap H locs → lv_has ls 3 [(2, .int (nI d)), (0, .ref (gad g 0)), (1, .int (nI k1))] → W pG l eG ({ frames := 4, cells := 0, slots := 0, locals := 89 } : Room) sG mG ([.ref (gad g 0), .int x] : List Value).toArray belowG methG cG H locs 0 0 (MQ belowG (XQi g (fun r w' => XAll g (daysM L x, K, hk, tn, T, ln, sz, Z) w' ∧ (∀ j : Nat, ¬ (0 ≤ j ∧ j < 119) → w' j = w j) ∧ r = daysS L x)) ([.ref (gad g 0), .int x] : List Value).toArray sG 0 0 (gA g)) (F0 mG 35 ls []) := by
        intro k35
        induction k35 using Nat.strongRecOn with
        | _ k35 ih35 =>
        intro d v35 H locs ls hk35 fa35_0 fa35_1 fa35_2 fa35_3 fa35_4 fa35_5 fa35_6 fa35_7 hfr35 hd hW hl
        refine lv_iload_n C.1 C.2.1 dX6_days_35 rfl (lv_at hl 0 rfl) ?_
        refine lv_iload_n C.1 C.2.1 dX6_days_36 rfl (lv_at hl 2 rfl) ?_
        refine xge (tgt := 60) C (by omega) (by omega) dX6_days_37 (by decide) (fun c37 => ?_) (fun c37 => ?_)
        · obtain ⟨π, P, CK, hG, hC, hCk, hPa, hPm, hPk⟩ := id fa35_7
          refine lv_aload_n C.1 C.2.1 dX6_days_60 rfl (lv_at hl 1 rfl) ?_
          refine xget C hK hW hinX6 rfl (by omega) fa35_0 0 (by decide) (List.mem_of_getElem? (i := 1) rfl) rfl dX6_days_61 ?_
          refine xget C hK hW hinX1 rfl (by omega) hG.1 1 (by decide) (List.mem_of_getElem? (i := 2) rfl) rfl dX6_days_64 ?_
          refine xget C hK hW hinX2 rfl (by omega) hG.2.2.1 0 (by decide) (List.mem_of_getElem? (i := 4) rfl) rfl dX6_days_67 ?_
          exact xret_i C hr hlk hW ⟨⟨fa35_0, (by rw [daysM, if_pos (c := okDays L x) ⟨c7, by rw [hx_k1, cl_nI (by omega)]; omega⟩, hx_k1, cl_nI (by omega), show k1 = d by omega]; exact fa35_7), fa35_1, fa35_4, fa35_5, fa35_6, fa35_2, fa35_3⟩, (fun j z0 => (hfr35 j z0)), (by rw [daysS, if_pos (c := inR x (nI 1) (nI 40)) c7, hx_k1, cl_nI (by omega), if_pos (by omega), show k1 = d by omega])⟩ dX6_days_70
        · obtain ⟨π, P, CK, hG, hC, hCk, hPa, hPm, hPk⟩ := id fa35_7
          have hW1 := OkW_days (OkL.w (L := L) hS.1) d
          have hW2 := OkW_note hW1
          refine lv_aload_n C.1 C.2.1 dX6_days_40 rfl (lv_at hl 1 rfl) ?_
          refine xget C hK hW hinX6 rfl (by omega) fa35_0 0 (by decide) (List.mem_of_getElem? (i := 1) rfl) rfl dX6_days_41 ?_
          refine xcV_v (n := 0) (As := []) C hK hW (c_X1_remember l g v35 1 (daysL L d 40) (nI (daysL L d 24)) (daysL L d) π P hI hN (by omega) hW1.2.2.2.2 hG hPa hPm) gX6_days_X1_remember rfl ⟨rfl, rfl⟩ (by decide +kernel) ⟨Nat.le_of_ble_eq_true rfl, Nat.le_of_ble_eq_true rfl⟩ ⟨Nat.zero_le _, Nat.zero_le _⟩ rfl (by omega) hG.1 rfl hl rfl (Nat.le_of_ble_eq_true rfl) dX6_days_44 (fun w5 H locs q6 hW => ?_)
          obtain ⟨π1_13, P1_14, h8, h9, h10, f11, x12⟩ := q6
          have h15 : CAt g 1 CK w5 := (CAt.fr hC (fun j h1 h2 => f11 j (by omega) (by omega) (by omega)))
          have h16 : XLand g 1 (noteF (daysL L d)) w5 := XLand_note hW1.2.2.2.2 h8 h15 hCk hW1.2.2.2.1 h9 h10 x12 hPk
          obtain ⟨π_n17, P_n17, K_n17, hG_n17, hC_n17, hCk_n17, hPa_n17, hPm_n17, hPk_n17⟩ := h16
          refine lv_aload_n C.1 C.2.1 dX6_days_47 rfl (lv_at hl 1 rfl) ?_
          have h18 : w5 0 = .inr (6, [.ref (gad g 1), .ref (gad g 34), .ref (gad g 67), .ref (gad g 100), .ref (gad g 106), .ref (gad g 107), .ref (gad g 108), .ref (gad g 110), .int (nI hk)]) := ((f11 0 (by omega) (by omega) (by omega)).trans fa35_0)
          refine xget C hK hW hinX6 rfl (by omega) h18 0 (by decide) (List.mem_of_getElem? (i := 1) rfl) rfl dX6_days_48 ?_
          refine xcV_v (n := 0) (As := []) C hK hW (c_X1_passDay l g w5 1 (nI (noteF (daysL L d) 40)) (nI (noteF (daysL L d) 24)) (noteF (daysL L d)) hI hN (by omega) hW2.1 hW2.2.1 hG_n17) gX6_days_X1_passDay rfl ⟨rfl, rfl⟩ (by decide +kernel) ⟨Nat.le_of_ble_eq_true rfl, Nat.le_of_ble_eq_true rfl⟩ ⟨Nat.zero_le _, Nat.zero_le _⟩ rfl (by omega) hG_n17.1 rfl hl rfl (Nat.le_of_ble_eq_true rfl) dX6_days_51 (fun w19 H locs q20 hW => ?_)
          obtain ⟨h22, f23⟩ := q20
          have h25 : CAt g 1 K_n17 w19 := (CAt.fr hC_n17 (fun j h1 h2 => f23 j (by omega)))
          have h26 : PArr g 1 π_n17 w19 := (PArr.fr hPa_n17 (fun j h1 h2 => f23 j (by omega)))
          have h27 : PMom g 1 π_n17 P_n17 w19 := (PMom.fr hPm_n17 (fun j h1 h2 => f23 j (by omega)))
          have h24 : XLand g 1 (daysL L (d + 1)) w19 := (XLand_g (fun i hi => dayF_hi hW2.2.1 (by omega)) h22 h25 hCk_n17 h26 h27 hPk_n17)
          refine lv_iinc (v := nI (d + 1)) (lv' := [(2, .int (nI (d + 1))), (0, .ref (gad g 0)), (1, .int (nI k1))]) C.1 C.2.1 dX6_days_54 hl (k := 0) rfl (nI_add _ 1) (by decide) rfl (fun ls hl => ?_)
          refine lv_goto (tgt := 35) C.1 C.2.1 dX6_days_57 (by decide) ?_
          have h28 : w19 0 = .inr (6, [.ref (gad g 1), .ref (gad g 34), .ref (gad g 67), .ref (gad g 100), .ref (gad g 106), .ref (gad g 107), .ref (gad g 108), .ref (gad g 110), .int (nI hk)]) := ((f23 0 (by omega)).trans h18)
          have h29 : XKept g hk K w19 := (XKept.fr (XKept.fr fa35_1 (fun j h1 h2 => f11 j (by omega) (by omega) (by omega))) (fun j h1 h2 => f23 j (by omega)))
          have h30 : XRead g tn T w19 := (XRead.fr (XRead.fr fa35_2 (fun j h1 h2 => f11 j (by omega) (by omega) (by omega))) (fun j h1 h2 => f23 j (by omega)))
          have h31 : XShs g ln sz Z w19 := (XShs.fr (XShs.fr fa35_3 (fun j h1 h2 => f11 j (by omega) (by omega) (by omega))) (fun j h1 h2 => f23 j (by omega)))
          have h32 : XTrial g  w19 := (XTrial.fr (XTrial.fr fa35_4 (fun j h1 h2 => f11 j (by omega) (by omega) (by omega))) (fun j h1 h2 => f23 j (by omega)))
          have h33 : XWays g  w19 := (XWays.fr (XWays.fr fa35_5 (fun j h1 h2 => f11 j (by omega) (by omega) (by omega))) (fun j h1 h2 => f23 j (by omega)))
          have h34 : XFr g  w19 := (XFr.fr (XFr.fr fa35_6 (fun j h1 h2 => f11 j (by omega) (by omega) (by omega))) (fun j h1 h2 => f23 j (by omega)))
          exact ih35 (k1 - (d + 1)) (by omega) (d + 1) w19 _ _ _ rfl h28 h29 h30 h31 h32 h33 h34 h24 (fun j z0 => ((f23 j (by omega)).trans ((f11 j (by omega) (by omega) (by omega)).trans (hfr35 j z0)))) (by omega) hW hl
      exact loop35 _ 0 w _ _ _ rfl hXa hXk hXr hXs hXt hXw hXf (by first | exact hXl | (rw [mixF_0]; exact hXl) | (rw [mixF_up]; exact hXl) | (refine (hXl).trans ?_; rw [cK_mixE (by omega)]; done) | (refine (hXl).trans ?_; rw [cL_mixE (by omega)]; done) | (refine (hXl).trans ?_; rw [cL_mixE (by omega)]; rfl)) (fun j z0 => rfl) (by omega) hW hl
    · refine lv_bipush (v := (-3 : Int32)) C.1 C.2.1 dX6_days_30 (by decide) ?_
      exact xret_i C hr hlk hW ⟨⟨hXa, (by rw [daysM, if_neg (c := okDays L x) (fun h => by have h2 := h.2; rw [hx_k1, cl_nI (by omega)] at h2; omega)]; exact hXl), hXk, hXt, hXw, hXf, hXr, hXs⟩, (fun j z0 => rfl), (by rw [daysS, if_pos (c := inR x (nI 1) (nI 40)) c7, hx_k1, cl_nI (by omega), if_neg (by omega)])⟩ dX6_days_32
  · refine lv_iconst (v := (-1 : Int32)) C.1 C.2.1 dX6_days_10 (by decide) ?_
    exact xret_i C hr hlk hW ⟨⟨hXa, (by rw [daysM, if_neg (c := okDays L x) (fun h => c7 h.1)]; exact hXl), hXk, hXt, hXw, hXf, hXr, hXs⟩, (fun j z0 => rfl), (by rw [daysS, if_neg (c := inR x (nI 1) (nI 40)) c7])⟩ dX6_days_11

set_option maxHeartbeats 4000000 in
set_option maxRecDepth 100000 in
theorem c_X6_carry (l : Launch) (g : GE) (w : Nat → va_E) (L K T ln sz : Nat → Nat) (hk tn : Nat) (Z : Nat → Int64) (x : Int32) (hI : AdInj g) (hN : gN g = 130) (hS : OkS (L, K, hk, tn, T, ln, sz, Z)) (pr0 : XAll g (L, K, hk, tn, T, ln, sz, Z) w) : Met l yX6_carry wsX6_carry ({ frames := 3, cells := 0, slots := 0, locals := 73 } : Room) (XPc g w [.ref (gad g 0), .int x]) (XQi g (fun r w' => XAll g (carryL L x, K, hk, tn, T, ln, sz, Z) w' ∧ (∀ j : Nat, ¬ (0 ≤ j ∧ j < 119) → w' j = w j) ∧ r = carryS L x)) 0 0 (gA g) := by
  refine xmet (cc := cX6_carry) (maxL := 3) (ret := (some .int)) (by decide) rfl hI (Nat.le_of_ble_eq_true rfl) ?_
  intro pG eG sG mG belowG methG cG ls C hr hlk hK hW hl
  have hl : lv_has ls 3 [(0, .ref (gad g 0)), (1, .int x)] := hl
  have hinX1 : ∀ x ∈ u_ws RX1 TX1 8, x ∈ wsX6_carry := by decide +kernel
  have hinX2 : ∀ x ∈ u_ws RX2 TX2 5, x ∈ wsX6_carry := by decide +kernel
  have hinX6 : ∀ x ∈ u_ws RX6 TX6 9, x ∈ wsX6_carry := by decide +kernel
  obtain ⟨hXa, hXl, hXk, hXt, hXw, hXf, hXr, hXs⟩ := pr0
  have hXa : w 0 = cX0 g hk := hXa
  have hXl : XLand g 1 L w := hXl
  have hXk : XKept g hk K w := hXk
  have hXr : XRead g tn T w := hXr
  have hXs : XShs g ln sz Z w := hXs
  have hokL : OkL L := hS.1
  obtain ⟨hok, hs2, hdy, hdr, hcl, hkn, hcs, hps⟩ := hokL
  obtain ⟨π, P, CK, hG, hC, hCk, hPa, hPm, hPk⟩ := id hXl
  refine lv_iload_n C.1 C.2.1 dX6_carry_0 rfl (lv_at hl 1 rfl) ?_
  refine xcS_i (n := 1) (As := [.int x]) C hK hW (c_X6_isField l g w x hI hN) gX6_carry_X6_isField rfl ⟨rfl, rfl⟩ (by decide +kernel) ⟨Nat.le_of_ble_eq_true rfl, Nat.le_of_ble_eq_true rfl⟩ ⟨Nat.zero_le _, Nat.zero_le _⟩ rfl hl rfl (Nat.le_of_ble_eq_true rfl) dX6_carry_1 (fun r3 w1 H locs q2 hW => ?_)
  obtain ⟨qw4, rfl⟩ := q2
  rw [qw4] at hW
  refine xBne (tgt := 9) C dX6_carry_4 (by decide) (fun c4 => ?_) (fun c4 => ?_)
  · obtain ⟨k1, ha_k1, hb_k1, hx_k1⟩ := inR_N (by omega) (by omega) c4
    rw [hx_k1] at hl
    refine lv_aload_n C.1 C.2.1 dX6_carry_9 rfl (lv_at hl 0 rfl) ?_
    refine xget C hK hW hinX6 rfl (by omega) hXa 0 (by decide) (List.mem_of_getElem? (i := 1) rfl) rfl dX6_carry_10 ?_
    refine xget C hK hW hinX1 rfl (by omega) hG.1 1 (by decide) (List.mem_of_getElem? (i := 2) rfl) rfl dX6_carry_13 ?_
    refine xget C hK hW hinX2 rfl (by omega) hG.2.2.1 0 (by decide) (List.mem_of_getElem? (i := 3) rfl) rfl dX6_carry_16 ?_
    refine lv_istore_n (lv' := [(2, .int (nI (L 2))), (0, .ref (gad g 0)), (1, .int (nI k1))]) C.1 C.2.1 dX6_carry_19 rfl hl (by decide) rfl (fun ls hl => ?_)
    refine lv_iload_n C.1 C.2.1 dX6_carry_20 rfl (lv_at hl 0 rfl) ?_
    refine lv_iload_n C.1 C.2.1 dX6_carry_21 rfl (lv_at hl 2 rfl) ?_
    refine xne (tgt := 28) C (by omega) (by omega) dX6_carry_22 (by decide) (fun c22 => ?_) (fun c22 => ?_)
    · refine lv_aload_n C.1 C.2.1 dX6_carry_28 rfl (lv_at hl 1 rfl) ?_
      refine xget C hK hW hinX6 rfl (by omega) hXa 0 (by decide) (List.mem_of_getElem? (i := 1) rfl) rfl dX6_carry_29 ?_
      refine xcV_v (n := 0) (As := []) C hK hW (c_X1_remember l g w 1 (L 40) (nI (L 24)) L π P hI hN (by omega) (by omega) hG hPa hPm) gX6_carry_X1_remember rfl ⟨rfl, rfl⟩ (by decide +kernel) ⟨Nat.le_of_ble_eq_true rfl, Nat.le_of_ble_eq_true rfl⟩ ⟨Nat.zero_le _, Nat.zero_le _⟩ rfl (by omega) hG.1 rfl hl rfl (Nat.le_of_ble_eq_true rfl) dX6_carry_32 (fun w5 H locs q6 hW => ?_)
      obtain ⟨π1_13, P1_14, h8, h9, h10, f11, x12⟩ := q6
      have h15 : CAt g 1 CK w5 := (CAt.fr hC (fun j h1 h2 => f11 j (by omega) (by omega) (by omega)))
      have h16 : XLand g 1 (noteF L) w5 := XLand_note hkn h8 h15 hCk hcl h9 h10 x12 hPk
      obtain ⟨π_n17, P_n17, K_n17, hG_n17, hC_n17, hCk_n17, hPa_n17, hPm_n17, hPk_n17⟩ := h16
      refine lv_aload_n C.1 C.2.1 dX6_carry_35 rfl (lv_at hl 1 rfl) ?_
      have h18 : w5 0 = .inr (6, [.ref (gad g 1), .ref (gad g 34), .ref (gad g 67), .ref (gad g 100), .ref (gad g 106), .ref (gad g 107), .ref (gad g 108), .ref (gad g 110), .int (nI hk)]) := ((f11 0 (by omega) (by omega) (by omega)).trans hXa)
      refine xget C hK hW hinX6 rfl (by omega) h18 0 (by decide) (List.mem_of_getElem? (i := 1) rfl) rfl dX6_carry_36 ?_
      refine xget C hK hW hinX1 rfl (by omega) hG_n17.1 1 (by decide) (List.mem_of_getElem? (i := 2) rfl) rfl dX6_carry_39 ?_
      refine lv_iload_n C.1 C.2.1 dX6_carry_42 rfl (lv_at hl 2 rfl) ?_
      refine xput (v := .int (nI k1)) C hK hW hinX2 tyX2_ok nmX2 rfl (by omega) hG_n17.2.2.1 0 (by decide) (List.mem_of_getElem? (i := 3) rfl) rfl rfl rfl (Nat.le_of_ble_eq_true rfl) dX6_carry_43 (fun w19 H locs e20 f21 hW => ?_)
      have h22 : GAt g 1 (nI (noteF L 40)) (nI (noteF L 24)) (va_up (noteF L) 2 k1) w19 := GAt_spot hG_n17 e20 f21
      refine lv_iload_n C.1 C.2.1 dX6_carry_46 rfl (lv_at hl 0 rfl) ?_
      have h23 : CAt g 1 K_n17 w19 := (CAt.fr hC_n17 (fun j h1 h2 => f21 j (by omega)))
      have h24 : PArr g 1 π_n17 w19 := (PArr.fr hPa_n17 (fun j h1 h2 => f21 j (by omega)))
      have h25 : PMom g 1 π_n17 P_n17 w19 := (PMom.fr hPm_n17 (fun j h1 h2 => f21 j (by omega)))
      have h26 : w19 0 = .inr (6, [.ref (gad g 1), .ref (gad g 34), .ref (gad g 67), .ref (gad g 100), .ref (gad g 106), .ref (gad g 107), .ref (gad g 108), .ref (gad g 110), .int (nI hk)]) := ((f21 0 (by omega)).trans h18)
      have h27 : XKept g hk K w19 := (XKept.fr (XKept.fr hXk (fun j h1 h2 => f11 j (by omega) (by omega) (by omega))) (fun j h1 h2 => f21 j (by omega)))
      have h28 : XTrial g  w19 := (XTrial.fr (XTrial.fr hXt (fun j h1 h2 => f11 j (by omega) (by omega) (by omega))) (fun j h1 h2 => f21 j (by omega)))
      have h29 : XWays g  w19 := (XWays.fr (XWays.fr hXw (fun j h1 h2 => f11 j (by omega) (by omega) (by omega))) (fun j h1 h2 => f21 j (by omega)))
      have h30 : XFr g  w19 := (XFr.fr (XFr.fr hXf (fun j h1 h2 => f11 j (by omega) (by omega) (by omega))) (fun j h1 h2 => f21 j (by omega)))
      have h31 : XRead g tn T w19 := (XRead.fr (XRead.fr hXr (fun j h1 h2 => f11 j (by omega) (by omega) (by omega))) (fun j h1 h2 => f21 j (by omega)))
      have h32 : XShs g ln sz Z w19 := (XShs.fr (XShs.fr hXs (fun j h1 h2 => f11 j (by omega) (by omega) (by omega))) (fun j h1 h2 => f21 j (by omega)))
      exact xret_i C hr hlk hW ⟨⟨h26, (by rw [carryL, if_pos (c := in6 x ∧ ¬ L 2 = cl x) ⟨c4, by rw [hx_k1, cl_nI (by omega)]; exact c22⟩, hx_k1, cl_nI (by omega)]; exact (XLand_g (fun i hi => va_up_ne _ _ (by omega)) h22 h23 hCk_n17 h24 h25 hPk_n17)), h27, h28, h29, h30, h31, h32⟩, (fun j z0 => ((f21 j (by omega)).trans (f11 j (by omega) (by omega) (by omega)))), (by rw [carryS, if_pos (c := in6 x) c4, hx_k1, cl_nI (by omega), if_neg c22])⟩ dX6_carry_47
    · refine lv_bipush (v := (-2 : Int32)) C.1 C.2.1 dX6_carry_25 (by decide) ?_
      exact xret_i C hr hlk hW ⟨⟨hXa, (by rw [carryL, if_neg (c := in6 x ∧ ¬ L 2 = cl x) (fun h => h.2 (by rw [hx_k1, cl_nI (by omega)]; exact c22))]; exact ⟨π, P, CK, hG, hC, hCk, hPa, hPm, hPk⟩), hXk, hXt, hXw, hXf, hXr, hXs⟩, (fun j z0 => rfl), (by rw [carryS, if_pos (c := in6 x) c4, hx_k1, cl_nI (by omega), if_pos c22])⟩ dX6_carry_27
  · refine lv_iconst (v := (-1 : Int32)) C.1 C.2.1 dX6_carry_7 (by decide) ?_
    exact xret_i C hr hlk hW ⟨⟨hXa, (by rw [carryL, if_neg (c := in6 x ∧ ¬ L 2 = cl x) (fun h => c4 h.1)]; exact ⟨π, P, CK, hG, hC, hCk, hPa, hPm, hPk⟩), hXk, hXt, hXw, hXf, hXr, hXs⟩, (fun j z0 => rfl), (by rw [carryS, if_neg (c := in6 x) c4])⟩ dX6_carry_8

set_option maxHeartbeats 4000000 in
set_option maxRecDepth 100000 in
theorem c_X6_lettuce (l : Launch) (g : GE) (w : Nat → va_E) (L K T ln sz : Nat → Nat) (hk tn : Nat) (Z : Nat → Int64) (x : Int32) (y : Int32) (hI : AdInj g) (hN : gN g = 130) (hS : OkS (L, K, hk, tn, T, ln, sz, Z)) (pr0 : XAll g (L, K, hk, tn, T, ln, sz, Z) w) : Met l yX6_lettuce wsX6_lettuce ({ frames := 3, cells := 0, slots := 0, locals := 73 } : Room) (XPc g w [.ref (gad g 0), .int x, .int y]) (XQi g (fun r w' => XAll g (letL L x y, K, hk, tn, T, ln, sz, Z) w' ∧ (∀ j : Nat, ¬ (0 ≤ j ∧ j < 119) → w' j = w j) ∧ r = letS L x y)) 0 0 (gA g) := by
  refine xmet (cc := cX6_lettuce) (maxL := 3) (ret := (some .int)) (by decide) rfl hI (Nat.le_of_ble_eq_true rfl) ?_
  intro pG eG sG mG belowG methG cG ls C hr hlk hK hW hl
  have hl : lv_has ls 3 [(0, .ref (gad g 0)), (1, .int x), (2, .int y)] := hl
  have hinX1 : ∀ x ∈ u_ws RX1 TX1 8, x ∈ wsX6_lettuce := by decide +kernel
  have hinX2 : ∀ x ∈ u_ws RX2 TX2 5, x ∈ wsX6_lettuce := by decide +kernel
  have hinX6 : ∀ x ∈ u_ws RX6 TX6 9, x ∈ wsX6_lettuce := by decide +kernel
  obtain ⟨hXa, hXl, hXk, hXt, hXw, hXf, hXr, hXs⟩ := pr0
  have hXa : w 0 = cX0 g hk := hXa
  have hXl : XLand g 1 L w := hXl
  have hXk : XKept g hk K w := hXk
  have hXr : XRead g tn T w := hXr
  have hXs : XShs g ln sz Z w := hXs
  have hokL : OkL L := hS.1
  obtain ⟨hok, hs2, hdy, hdr, hcl, hkn, hcs, hps⟩ := hokL
  obtain ⟨π, P, CK, hG, hC, hCk, hPa, hPm, hPk⟩ := id hXl
  refine lv_iload_n C.1 C.2.1 dX6_lettuce_0 rfl (lv_at hl 1 rfl) ?_
  refine xcS_i (n := 1) (As := [.int x]) C hK hW (c_X6_isField l g w x hI hN) gX6_lettuce_X6_isField rfl ⟨rfl, rfl⟩ (by decide +kernel) ⟨Nat.le_of_ble_eq_true rfl, Nat.le_of_ble_eq_true rfl⟩ ⟨Nat.zero_le _, Nat.zero_le _⟩ rfl hl rfl (Nat.le_of_ble_eq_true rfl) dX6_lettuce_1 (fun r3 w1 H locs q2 hW => ?_)
  obtain ⟨qw4, rfl⟩ := q2
  rw [qw4] at hW
  refine xBeq (tgt := 17) C dX6_lettuce_4 (by decide) (fun c4 => ?_) (fun c4 => ?_)
  · refine lv_iconst (v := (-1 : Int32)) C.1 C.2.1 dX6_lettuce_17 (by decide) ?_
    exact xret_i C hr hlk hW ⟨⟨hXa, (by rw [letL, if_neg (c := okLet x y ∧ ¬ L (3 + cl x) = 9) (fun h => c4 h.1.1)]; exact ⟨π, P, CK, hG, hC, hCk, hPa, hPm, hPk⟩), hXk, hXt, hXw, hXf, hXr, hXs⟩, (fun j z0 => rfl), (by rw [letS, if_neg (c := okLet x y) (fun h => c4 h.1)])⟩ dX6_lettuce_18
  · obtain ⟨k1, ha_k1, hb_k1, hx_k1⟩ := inR_N (by omega) (by omega) c4
    rw [hx_k1] at hl
    refine lv_iload_n C.1 C.2.1 dX6_lettuce_7 rfl (lv_at hl 2 rfl) ?_
    refine lv_iconst (v := (nI 1)) C.1 C.2.1 dX6_lettuce_8 (by decide) ?_
    refine lv_bipush (v := (nI 9)) C.1 C.2.1 dX6_lettuce_9 (by decide) ?_
    refine xcS_i (n := 3) (As := [.int y, .int (nI 1), .int (nI 9)]) C hK hW (c_X6_isWithin l g w y (nI 1) (nI 9) hI hN) gX6_lettuce_X6_isWithin rfl ⟨rfl, rfl⟩ (by decide +kernel) ⟨Nat.le_of_ble_eq_true rfl, Nat.le_of_ble_eq_true rfl⟩ ⟨Nat.zero_le _, Nat.zero_le _⟩ rfl hl rfl (Nat.le_of_ble_eq_true rfl) dX6_lettuce_11 (fun r7 w5 H locs q6 hW => ?_)
    obtain ⟨qw8, rfl⟩ := q6
    rw [qw8] at hW
    refine xBne (tgt := 19) C dX6_lettuce_14 (by decide) (fun c14 => ?_) (fun c14 => ?_)
    · obtain ⟨k2, ha_k2, hb_k2, hx_k2⟩ := inR_N (by omega) (by omega) c14
      rw [hx_k2] at hl
      have hfo := (hok k1 (by omega)).2.1
      refine lv_aload_n C.1 C.2.1 dX6_lettuce_19 rfl (lv_at hl 0 rfl) ?_
      refine xget C hK hW hinX6 rfl (by omega) hXa 0 (by decide) (List.mem_of_getElem? (i := 1) rfl) rfl dX6_lettuce_20 ?_
      refine xget C hK hW hinX1 rfl (by omega) hG.1 1 (by decide) (List.mem_of_getElem? (i := 2) rfl) rfl dX6_lettuce_23 ?_
      refine xget C hK hW hinX2 rfl (by omega) hG.2.2.1 3 (by decide) (List.mem_of_getElem? (i := 3) rfl) rfl dX6_lettuce_26 ?_
      refine lv_iload_n C.1 C.2.1 dX6_lettuce_29 rfl (lv_at hl 1 rfl) ?_
      refine xildK C hK hW (by omega) hG.2.2.2.1 (by omega) (by decide) dX6_lettuce_30 ?_
      refine lv_bipush (v := (nI 9)) C.1 C.2.1 dX6_lettuce_31 (by decide) ?_
      refine xlt (tgt := 39) C (by omega) (by omega) dX6_lettuce_33 (by decide) (fun c33 => ?_) (fun c33 => ?_)
      · refine lv_aload_n C.1 C.2.1 dX6_lettuce_39 rfl (lv_at hl 0 rfl) ?_
        refine xget C hK hW hinX6 rfl (by omega) hXa 0 (by decide) (List.mem_of_getElem? (i := 1) rfl) rfl dX6_lettuce_40 ?_
        refine xcV_v (n := 0) (As := []) C hK hW (c_X1_remember l g w 1 (L 40) (nI (L 24)) L π P hI hN (by omega) (by omega) hG hPa hPm) gX6_lettuce_X1_remember rfl ⟨rfl, rfl⟩ (by decide +kernel) ⟨Nat.le_of_ble_eq_true rfl, Nat.le_of_ble_eq_true rfl⟩ ⟨Nat.zero_le _, Nat.zero_le _⟩ rfl (by omega) hG.1 rfl hl rfl (Nat.le_of_ble_eq_true rfl) dX6_lettuce_43 (fun w9 H locs q10 hW => ?_)
        obtain ⟨π1_17, P1_18, h12, h13, h14, f15, x16⟩ := q10
        have h19 : CAt g 1 CK w9 := (CAt.fr hC (fun j h1 h2 => f15 j (by omega) (by omega) (by omega)))
        have h20 : XLand g 1 (noteF L) w9 := XLand_note hkn h12 h19 hCk hcl h13 h14 x16 hPk
        obtain ⟨π_n21, P_n21, K_n21, hG_n21, hC_n21, hCk_n21, hPa_n21, hPm_n21, hPk_n21⟩ := h20
        refine lv_aload_n C.1 C.2.1 dX6_lettuce_46 rfl (lv_at hl 0 rfl) ?_
        have h22 : w9 0 = .inr (6, [.ref (gad g 1), .ref (gad g 34), .ref (gad g 67), .ref (gad g 100), .ref (gad g 106), .ref (gad g 107), .ref (gad g 108), .ref (gad g 110), .int (nI hk)]) := ((f15 0 (by omega) (by omega) (by omega)).trans hXa)
        refine xget C hK hW hinX6 rfl (by omega) h22 0 (by decide) (List.mem_of_getElem? (i := 1) rfl) rfl dX6_lettuce_47 ?_
        refine xget C hK hW hinX1 rfl (by omega) hG_n21.1 1 (by decide) (List.mem_of_getElem? (i := 2) rfl) rfl dX6_lettuce_50 ?_
        refine xget C hK hW hinX2 rfl (by omega) hG_n21.2.2.1 3 (by decide) (List.mem_of_getElem? (i := 3) rfl) rfl dX6_lettuce_53 ?_
        refine lv_iload_n C.1 C.2.1 dX6_lettuce_56 rfl (lv_at hl 1 rfl) ?_
        refine lv_bipush (v := (nI 9)) C.1 C.2.1 dX6_lettuce_57 (by decide) ?_
        refine lv_aload_n C.1 C.2.1 dX6_lettuce_59 rfl (lv_at hl 0 rfl) ?_
        refine xget C hK hW hinX6 rfl (by omega) h22 0 (by decide) (List.mem_of_getElem? (i := 1) rfl) rfl dX6_lettuce_60 ?_
        refine xget C hK hW hinX1 rfl (by omega) hG_n21.1 1 (by decide) (List.mem_of_getElem? (i := 2) rfl) rfl dX6_lettuce_63 ?_
        refine xget C hK hW hinX2 rfl (by omega) hG_n21.2.2.1 3 (by decide) (List.mem_of_getElem? (i := 3) rfl) rfl dX6_lettuce_66 ?_
        refine lv_iload_n C.1 C.2.1 dX6_lettuce_69 rfl (lv_at hl 1 rfl) ?_
        refine xildK C hK hW (by omega) hG_n21.2.2.2.1 (by omega) (by decide) dX6_lettuce_70 ?_
        refine xtopN (b := L (3 + k1)) (noteF_lo (by omega)) ?_
        refine lv_iload_n C.1 C.2.1 dX6_lettuce_71 rfl (lv_at hl 2 rfl) ?_
        refine xadd C dX6_lettuce_72 ?_
        refine xminN C hl (by omega) (by omega) (List.mem_of_getElem? (i := 4) rfl) (List.mem_of_getElem? (i := 5) rfl) (List.mem_of_getElem? (i := 6) rfl) (List.mem_of_getElem? (i := 7) rfl) (Nat.le_of_ble_eq_true rfl) (Nat.le_of_ble_eq_true rfl) ⟨Nat.zero_le _, Nat.zero_le _⟩ dX6_lettuce_73 ?_
        refine xistK (v := min 9 ((L (3 + k1)) + k2)) C hK hW (by omega) hG_n21.2.2.2.1 (by omega) (by decide) dX6_lettuce_76 (fun w23 H locs e24 f25 hW => ?_)
        have h26 : GAt g 1 (nI (noteF L 40)) (nI (noteF L 24)) (va_up (noteF L) (3 + k1) (min 9 ((L (3 + k1)) + k2))) w23 := GAt_food hG_n21 (by omega) e24 f25
        refine lv_aload_n C.1 C.2.1 dX6_lettuce_77 rfl (lv_at hl 0 rfl) ?_
        have h27 : w23 0 = .inr (6, [.ref (gad g 1), .ref (gad g 34), .ref (gad g 67), .ref (gad g 100), .ref (gad g 106), .ref (gad g 107), .ref (gad g 108), .ref (gad g 110), .int (nI hk)]) := ((f25 0 (by omega)).trans h22)
        refine xget C hK hW hinX6 rfl (by omega) h27 0 (by decide) (List.mem_of_getElem? (i := 1) rfl) rfl dX6_lettuce_78 ?_
        refine xget C hK hW hinX1 rfl (by omega) h26.1 1 (by decide) (List.mem_of_getElem? (i := 2) rfl) rfl dX6_lettuce_81 ?_
        refine xget C hK hW hinX2 rfl (by omega) h26.2.2.1 3 (by decide) (List.mem_of_getElem? (i := 3) rfl) rfl dX6_lettuce_84 ?_
        refine lv_iload_n C.1 C.2.1 dX6_lettuce_87 rfl (lv_at hl 1 rfl) ?_
        refine xildK C hK hW (by omega) h26.2.2.2.1 (by omega) (by decide) dX6_lettuce_88 ?_
        refine xtopN (b := min 9 ((L (3 + k1)) + k2)) (va_up_self _ _ _) ?_
        have h28 : CAt g 1 K_n21 w23 := (CAt.fr hC_n21 (fun j h1 h2 => f25 j (by omega)))
        have h29 : PArr g 1 π_n21 w23 := (PArr.fr hPa_n21 (fun j h1 h2 => f25 j (by omega)))
        have h30 : PMom g 1 π_n21 P_n21 w23 := (PMom.fr hPm_n21 (fun j h1 h2 => f25 j (by omega)))
        have h31 : XKept g hk K w23 := (XKept.fr (XKept.fr hXk (fun j h1 h2 => f15 j (by omega) (by omega) (by omega))) (fun j h1 h2 => f25 j (by omega)))
        have h32 : XTrial g  w23 := (XTrial.fr (XTrial.fr hXt (fun j h1 h2 => f15 j (by omega) (by omega) (by omega))) (fun j h1 h2 => f25 j (by omega)))
        have h33 : XWays g  w23 := (XWays.fr (XWays.fr hXw (fun j h1 h2 => f15 j (by omega) (by omega) (by omega))) (fun j h1 h2 => f25 j (by omega)))
        have h34 : XFr g  w23 := (XFr.fr (XFr.fr hXf (fun j h1 h2 => f15 j (by omega) (by omega) (by omega))) (fun j h1 h2 => f25 j (by omega)))
        have h35 : XRead g tn T w23 := (XRead.fr (XRead.fr hXr (fun j h1 h2 => f15 j (by omega) (by omega) (by omega))) (fun j h1 h2 => f25 j (by omega)))
        have h36 : XShs g ln sz Z w23 := (XShs.fr (XShs.fr hXs (fun j h1 h2 => f15 j (by omega) (by omega) (by omega))) (fun j h1 h2 => f25 j (by omega)))
        exact xret_i C hr hlk hW ⟨⟨h27, (by rw [letL, if_pos (c := okLet x y ∧ ¬ L (3 + cl x) = 9) ⟨⟨c4, c14⟩, by rw [hx_k1, cl_nI (by omega)]; omega⟩, hx_k1, hx_k2, cl_nI (by omega), cl_nI (by omega)]; exact (XLand_g (fun i hi => va_up_ne _ _ (by omega)) h26 h28 hCk_n21 h29 h30 hPk_n21)), h31, h32, h33, h34, h35, h36⟩, (fun j z0 => ((f25 j (by omega)).trans (f15 j (by omega) (by omega) (by omega)))), (by rw [letS, if_pos (c := okLet x y) ⟨c4, c14⟩, hx_k1, cl_nI (by omega), if_neg (by omega), hx_k2, cl_nI (by omega)])⟩ dX6_lettuce_89
      · refine lv_bipush (v := (-2 : Int32)) C.1 C.2.1 dX6_lettuce_36 (by decide) ?_
        exact xret_i C hr hlk hW ⟨⟨hXa, (by rw [letL, if_neg (c := okLet x y ∧ ¬ L (3 + cl x) = 9) (fun h => h.2 (by rw [hx_k1, cl_nI (by omega)]; omega))]; exact ⟨π, P, CK, hG, hC, hCk, hPa, hPm, hPk⟩), hXk, hXt, hXw, hXf, hXr, hXs⟩, (fun j z0 => rfl), (by rw [letS, if_pos (c := okLet x y) ⟨c4, c14⟩, hx_k1, cl_nI (by omega), if_pos (by omega)])⟩ dX6_lettuce_38
    · refine lv_iconst (v := (-1 : Int32)) C.1 C.2.1 dX6_lettuce_17 (by decide) ?_
      exact xret_i C hr hlk hW ⟨⟨hXa, (by rw [letL, if_neg (c := okLet x y ∧ ¬ L (3 + cl x) = 9) (fun h => c14 h.1.2)]; exact ⟨π, P, CK, hG, hC, hCk, hPa, hPm, hPk⟩), hXk, hXt, hXw, hXf, hXr, hXs⟩, (fun j z0 => rfl), (by rw [letS, if_neg (c := okLet x y) (fun h => c14 h.2)])⟩ dX6_lettuce_18

set_option maxHeartbeats 4000000 in
set_option maxRecDepth 100000 in
theorem c_X6_lay (l : Launch) (g : GE) (w : Nat → va_E) (L K T ln sz : Nat → Nat) (hk tn : Nat) (Z : Nat → Int64) (x : Int32) (y : Int32) (hI : AdInj g) (hN : gN g = 130) (hS : OkS (L, K, hk, tn, T, ln, sz, Z)) (pr0 : XAll g (L, K, hk, tn, T, ln, sz, Z) w) : Met l yX6_lay wsX6_lay ({ frames := 3, cells := 0, slots := 0, locals := 73 } : Room) (XPc g w [.ref (gad g 0), .int x, .int y]) (XQi g (fun r w' => XAll g (layL L x y, K, hk, tn, T, ln, sz, Z) w' ∧ (∀ j : Nat, ¬ (0 ≤ j ∧ j < 119) → w' j = w j) ∧ r = layS L x y)) 0 0 (gA g) := by
  refine xmet (cc := cX6_lay) (maxL := 4) (ret := (some .int)) (by decide) rfl hI (Nat.le_of_ble_eq_true rfl) ?_
  intro pG eG sG mG belowG methG cG ls C hr hlk hK hW hl
  have hl : lv_has ls 4 [(0, .ref (gad g 0)), (1, .int x), (2, .int y)] := hl
  have hinX1 : ∀ x ∈ u_ws RX1 TX1 8, x ∈ wsX6_lay := by decide +kernel
  have hinX2 : ∀ x ∈ u_ws RX2 TX2 5, x ∈ wsX6_lay := by decide +kernel
  have hinX6 : ∀ x ∈ u_ws RX6 TX6 9, x ∈ wsX6_lay := by decide +kernel
  obtain ⟨hXa, hXl, hXk, hXt, hXw, hXf, hXr, hXs⟩ := pr0
  have hXa : w 0 = cX0 g hk := hXa
  have hXl : XLand g 1 L w := hXl
  have hXk : XKept g hk K w := hXk
  have hXr : XRead g tn T w := hXr
  have hXs : XShs g ln sz Z w := hXs
  have hokL : OkL L := hS.1
  obtain ⟨hok, hs2, hdy, hdr, hcl, hkn, hcs, hps⟩ := hokL
  obtain ⟨π, P, CK, hG, hC, hCk, hPa, hPm, hPk⟩ := id hXl
  refine lv_iload_n C.1 C.2.1 dX6_lay_0 rfl (lv_at hl 1 rfl) ?_
  refine xcS_i (n := 1) (As := [.int x]) C hK hW (c_X6_isField l g w x hI hN) gX6_lay_X6_isField rfl ⟨rfl, rfl⟩ (by decide +kernel) ⟨Nat.le_of_ble_eq_true rfl, Nat.le_of_ble_eq_true rfl⟩ ⟨Nat.zero_le _, Nat.zero_le _⟩ rfl hl rfl (Nat.le_of_ble_eq_true rfl) dX6_lay_1 (fun r3 w1 H locs q2 hW => ?_)
  obtain ⟨qw4, rfl⟩ := q2
  rw [qw4] at hW
  refine xBeq (tgt := 16) C dX6_lay_4 (by decide) (fun c4 => ?_) (fun c4 => ?_)
  · refine lv_iconst (v := (-1 : Int32)) C.1 C.2.1 dX6_lay_16 (by decide) ?_
    exact xret_i C hr hlk hW ⟨⟨hXa, (by rw [layL, if_neg (c := okField x y ∧ ¬ L (10 + cl x) = cl y) (fun h => c4 h.1.1)]; exact ⟨π, P, CK, hG, hC, hCk, hPa, hPm, hPk⟩), hXk, hXt, hXw, hXf, hXr, hXs⟩, (fun j z0 => rfl), (by rw [layS, if_neg (c := okField x y) (fun h => c4 h.1)])⟩ dX6_lay_17
  · obtain ⟨k1, ha_k1, hb_k1, hx_k1⟩ := inR_N (by omega) (by omega) c4
    rw [hx_k1] at hl
    refine lv_iload_n C.1 C.2.1 dX6_lay_7 rfl (lv_at hl 2 rfl) ?_
    refine lv_iconst (v := (nI 0)) C.1 C.2.1 dX6_lay_8 (by decide) ?_
    refine lv_iconst (v := (nI 4)) C.1 C.2.1 dX6_lay_9 (by decide) ?_
    refine xcS_i (n := 3) (As := [.int y, .int (nI 0), .int (nI 4)]) C hK hW (c_X6_isWithin l g w y (nI 0) (nI 4) hI hN) gX6_lay_X6_isWithin rfl ⟨rfl, rfl⟩ (by decide +kernel) ⟨Nat.le_of_ble_eq_true rfl, Nat.le_of_ble_eq_true rfl⟩ ⟨Nat.zero_le _, Nat.zero_le _⟩ rfl hl rfl (Nat.le_of_ble_eq_true rfl) dX6_lay_10 (fun r7 w5 H locs q6 hW => ?_)
    obtain ⟨qw8, rfl⟩ := q6
    rw [qw8] at hW
    refine xBne (tgt := 18) C dX6_lay_13 (by decide) (fun c13 => ?_) (fun c13 => ?_)
    · obtain ⟨k2, ha_k2, hb_k2, hx_k2⟩ := inR_N (by omega) (by omega) c13
      rw [hx_k2] at hl
      have hhe := (hok k1 (by omega)).2.2
      refine lv_aload_n C.1 C.2.1 dX6_lay_18 rfl (lv_at hl 0 rfl) ?_
      refine xget C hK hW hinX6 rfl (by omega) hXa 0 (by decide) (List.mem_of_getElem? (i := 1) rfl) rfl dX6_lay_19 ?_
      refine xget C hK hW hinX1 rfl (by omega) hG.1 1 (by decide) (List.mem_of_getElem? (i := 2) rfl) rfl dX6_lay_22 ?_
      refine xget C hK hW hinX2 rfl (by omega) hG.2.2.1 4 (by decide) (List.mem_of_getElem? (i := 3) rfl) rfl dX6_lay_25 ?_
      refine lv_iload_n C.1 C.2.1 dX6_lay_28 rfl (lv_at hl 1 rfl) ?_
      refine xildK C hK hW (by omega) hG.2.2.2.2 (by omega) (by decide) dX6_lay_29 ?_
      refine lv_istore_n (lv' := [(3, .int (nI (L (10 + k1)))), (0, .ref (gad g 0)), (1, .int (nI k1)), (2, .int (nI k2))]) C.1 C.2.1 dX6_lay_30 rfl hl (by decide) rfl (fun ls hl => ?_)
      refine lv_iload_n C.1 C.2.1 dX6_lay_31 rfl (lv_at hl 0 rfl) ?_
      refine lv_iload_n C.1 C.2.1 dX6_lay_32 rfl (lv_at hl 3 rfl) ?_
      refine xne (tgt := 39) C (by omega) (by omega) dX6_lay_33 (by decide) (fun c33 => ?_) (fun c33 => ?_)
      · refine lv_aload_n C.1 C.2.1 dX6_lay_39 rfl (lv_at hl 1 rfl) ?_
        refine xget C hK hW hinX6 rfl (by omega) hXa 0 (by decide) (List.mem_of_getElem? (i := 1) rfl) rfl dX6_lay_40 ?_
        refine xcV_v (n := 0) (As := []) C hK hW (c_X1_remember l g w 1 (L 40) (nI (L 24)) L π P hI hN (by omega) (by omega) hG hPa hPm) gX6_lay_X1_remember rfl ⟨rfl, rfl⟩ (by decide +kernel) ⟨Nat.le_of_ble_eq_true rfl, Nat.le_of_ble_eq_true rfl⟩ ⟨Nat.zero_le _, Nat.zero_le _⟩ rfl (by omega) hG.1 rfl hl rfl (Nat.le_of_ble_eq_true rfl) dX6_lay_43 (fun w9 H locs q10 hW => ?_)
        obtain ⟨π1_17, P1_18, h12, h13, h14, f15, x16⟩ := q10
        have h19 : CAt g 1 CK w9 := (CAt.fr hC (fun j h1 h2 => f15 j (by omega) (by omega) (by omega)))
        have h20 : XLand g 1 (noteF L) w9 := XLand_note hkn h12 h19 hCk hcl h13 h14 x16 hPk
        obtain ⟨π_n21, P_n21, K_n21, hG_n21, hC_n21, hCk_n21, hPa_n21, hPm_n21, hPk_n21⟩ := h20
        refine lv_aload_n C.1 C.2.1 dX6_lay_46 rfl (lv_at hl 1 rfl) ?_
        have h22 : w9 0 = .inr (6, [.ref (gad g 1), .ref (gad g 34), .ref (gad g 67), .ref (gad g 100), .ref (gad g 106), .ref (gad g 107), .ref (gad g 108), .ref (gad g 110), .int (nI hk)]) := ((f15 0 (by omega) (by omega) (by omega)).trans hXa)
        refine xget C hK hW hinX6 rfl (by omega) h22 0 (by decide) (List.mem_of_getElem? (i := 1) rfl) rfl dX6_lay_47 ?_
        refine xget C hK hW hinX1 rfl (by omega) hG_n21.1 1 (by decide) (List.mem_of_getElem? (i := 2) rfl) rfl dX6_lay_50 ?_
        refine xget C hK hW hinX2 rfl (by omega) hG_n21.2.2.1 4 (by decide) (List.mem_of_getElem? (i := 3) rfl) rfl dX6_lay_53 ?_
        refine lv_iload_n C.1 C.2.1 dX6_lay_56 rfl (lv_at hl 2 rfl) ?_
        refine lv_iload_n C.1 C.2.1 dX6_lay_57 rfl (lv_at hl 3 rfl) ?_
        refine xistK (v := k2) C hK hW (by omega) hG_n21.2.2.2.2 (by omega) (by decide) dX6_lay_58 (fun w23 H locs e24 f25 hW => ?_)
        have h26 : GAt g 1 (nI (noteF L 40)) (nI (noteF L 24)) (va_up (noteF L) (10 + k1) k2) w23 := GAt_hedge hG_n21 (by omega) e24 f25
        refine lv_iload_n C.1 C.2.1 dX6_lay_59 rfl (lv_at hl 0 rfl) ?_
        have h27 : CAt g 1 K_n21 w23 := (CAt.fr hC_n21 (fun j h1 h2 => f25 j (by omega)))
        have h28 : PArr g 1 π_n21 w23 := (PArr.fr hPa_n21 (fun j h1 h2 => f25 j (by omega)))
        have h29 : PMom g 1 π_n21 P_n21 w23 := (PMom.fr hPm_n21 (fun j h1 h2 => f25 j (by omega)))
        have h30 : w23 0 = .inr (6, [.ref (gad g 1), .ref (gad g 34), .ref (gad g 67), .ref (gad g 100), .ref (gad g 106), .ref (gad g 107), .ref (gad g 108), .ref (gad g 110), .int (nI hk)]) := ((f25 0 (by omega)).trans h22)
        have h31 : XKept g hk K w23 := (XKept.fr (XKept.fr hXk (fun j h1 h2 => f15 j (by omega) (by omega) (by omega))) (fun j h1 h2 => f25 j (by omega)))
        have h32 : XTrial g  w23 := (XTrial.fr (XTrial.fr hXt (fun j h1 h2 => f15 j (by omega) (by omega) (by omega))) (fun j h1 h2 => f25 j (by omega)))
        have h33 : XWays g  w23 := (XWays.fr (XWays.fr hXw (fun j h1 h2 => f15 j (by omega) (by omega) (by omega))) (fun j h1 h2 => f25 j (by omega)))
        have h34 : XFr g  w23 := (XFr.fr (XFr.fr hXf (fun j h1 h2 => f15 j (by omega) (by omega) (by omega))) (fun j h1 h2 => f25 j (by omega)))
        have h35 : XRead g tn T w23 := (XRead.fr (XRead.fr hXr (fun j h1 h2 => f15 j (by omega) (by omega) (by omega))) (fun j h1 h2 => f25 j (by omega)))
        have h36 : XShs g ln sz Z w23 := (XShs.fr (XShs.fr hXs (fun j h1 h2 => f15 j (by omega) (by omega) (by omega))) (fun j h1 h2 => f25 j (by omega)))
        exact xret_i C hr hlk hW ⟨⟨h30, (by rw [layL, if_pos (c := okField x y ∧ ¬ L (10 + cl x) = cl y) ⟨⟨c4, c13⟩, by rw [hx_k1, hx_k2, cl_nI (by omega), cl_nI (by omega)]; exact c33⟩, hx_k1, hx_k2, cl_nI (by omega), cl_nI (by omega)]; exact (XLand_g (fun i hi => va_up_ne _ _ (by omega)) h26 h27 hCk_n21 h28 h29 hPk_n21)), h31, h32, h33, h34, h35, h36⟩, (fun j z0 => ((f25 j (by omega)).trans (f15 j (by omega) (by omega) (by omega)))), (by rw [layS, if_pos (c := okField x y) ⟨c4, c13⟩, hx_k1, hx_k2, cl_nI (by omega), cl_nI (by omega), if_neg c33])⟩ dX6_lay_60
      · refine lv_bipush (v := (-2 : Int32)) C.1 C.2.1 dX6_lay_36 (by decide) ?_
        exact xret_i C hr hlk hW ⟨⟨hXa, (by rw [layL, if_neg (c := okField x y ∧ ¬ L (10 + cl x) = cl y) (fun h => h.2 (by rw [hx_k1, hx_k2, cl_nI (by omega), cl_nI (by omega)]; exact c33))]; exact ⟨π, P, CK, hG, hC, hCk, hPa, hPm, hPk⟩), hXk, hXt, hXw, hXf, hXr, hXs⟩, (fun j z0 => rfl), (by rw [layS, if_pos (c := okField x y) ⟨c4, c13⟩, hx_k1, hx_k2, cl_nI (by omega), cl_nI (by omega), if_pos c33])⟩ dX6_lay_38
    · refine lv_iconst (v := (-1 : Int32)) C.1 C.2.1 dX6_lay_16 (by decide) ?_
      exact xret_i C hr hlk hW ⟨⟨hXa, (by rw [layL, if_neg (c := okField x y ∧ ¬ L (10 + cl x) = cl y) (fun h => c13 h.1.2)]; exact ⟨π, P, CK, hG, hC, hCk, hPa, hPm, hPk⟩), hXk, hXt, hXw, hXf, hXr, hXs⟩, (fun j z0 => rfl), (by rw [layS, if_neg (c := okField x y) (fun h => c13 h.2)])⟩ dX6_lay_17

set_option maxHeartbeats 4000000 in
set_option maxRecDepth 100000 in
theorem c_X6_undo (l : Launch) (g : GE) (w : Nat → va_E) (L K T ln sz : Nat → Nat) (hk tn : Nat) (Z : Nat → Int64)  (hI : AdInj g) (hN : gN g = 130) (hS : OkS (L, K, hk, tn, T, ln, sz, Z)) (pr0 : XAll g (L, K, hk, tn, T, ln, sz, Z) w) : Met l yX6_undo wsX6_undo ({ frames := 3, cells := 0, slots := 0, locals := 73 } : Room) (XPc g w [.ref (gad g 0)]) (XQi g (fun r w' => XAll g (undoL L, K, hk, tn, T, ln, sz, Z) w' ∧ (∀ j : Nat, ¬ (0 ≤ j ∧ j < 119) → w' j = w j) ∧ r = undoS L)) 0 0 (gA g) := by
  refine xmet (cc := cX6_undo) (maxL := 1) (ret := (some .int)) (by decide) rfl hI (Nat.le_of_ble_eq_true rfl) ?_
  intro pG eG sG mG belowG methG cG ls C hr hlk hK hW hl
  have hl : lv_has ls 1 [(0, .ref (gad g 0))] := hl
  have hinX1 : ∀ x ∈ u_ws RX1 TX1 8, x ∈ wsX6_undo := by decide +kernel
  have hinX6 : ∀ x ∈ u_ws RX6 TX6 9, x ∈ wsX6_undo := by decide +kernel
  obtain ⟨hXa, hXl, hXk, hXt, hXw, hXf, hXr, hXs⟩ := pr0
  have hXa : w 0 = cX0 g hk := hXa
  have hXl : XLand g 1 L w := hXl
  have hXk : XKept g hk K w := hXk
  have hXr : XRead g tn T w := hXr
  have hXs : XShs g ln sz Z w := hXs
  have hokL : OkL L := hS.1
  obtain ⟨hok, hs2, hdy, hdr, hcl, hkn, hcs, hps⟩ := hokL
  obtain ⟨π, P, CK, hG, hC, hCk, hPa, hPm, hPk⟩ := id hXl
  refine lv_aload_n C.1 C.2.1 dX6_undo_0 rfl (lv_at hl 0 rfl) ?_
  refine xget C hK hW hinX6 rfl (by omega) hXa 0 (by decide) (List.mem_of_getElem? (i := 1) rfl) rfl dX6_undo_1 ?_
  refine xcV_i (n := 0) (As := []) C hK hW (c_X1_recall l g w 1 (L 40) (nI (L 24)) L π P hI hN (by omega) (by omega) hG hPa hPm) gX6_undo_X1_recall rfl ⟨rfl, rfl⟩ (by decide +kernel) ⟨Nat.le_of_ble_eq_true rfl, Nat.le_of_ble_eq_true rfl⟩ ⟨Nat.zero_le _, Nat.zero_le _⟩ rfl (by omega) hG.1 rfl hl rfl (Nat.le_of_ble_eq_true rfl) dX6_undo_4 (fun r3 w1 H locs q2 hW => ?_)
  obtain ⟨h4, f5, rfl⟩ := q2
  refine xBeq (tgt := 20) C dX6_undo_7 (by decide) (fun c7 => ?_) (fun c7 => ?_)
  · have h6 : GAt g 1 (nI (L 40)) (nI (L 24)) L w1 := (by have hh := h4; rw [if_neg c7, show L 40 - 1 = L 40 by omega] at hh; exact hh)
    refine lv_bipush (v := (-4 : Int32)) C.1 C.2.1 dX6_undo_20 (by decide) ?_
    have h7 : CAt g 1 CK w1 := (CAt.fr hC (fun j h1 h2 => f5 j (by omega)))
    have h8 : PArr g 1 π w1 := (PArr.fr hPa (fun j h1 h2 => f5 j (by omega)))
    have h9 : PMom g 1 π P w1 := (PMom.fr hPm (fun j h1 h2 => f5 j (by omega)))
    have h10 : w1 0 = .inr (6, [.ref (gad g 1), .ref (gad g 34), .ref (gad g 67), .ref (gad g 100), .ref (gad g 106), .ref (gad g 107), .ref (gad g 108), .ref (gad g 110), .int (nI hk)]) := ((f5 0 (by omega)).trans hXa)
    have h11 : XKept g hk K w1 := (XKept.fr hXk (fun j h1 h2 => f5 j (by omega)))
    have h12 : XTrial g  w1 := (XTrial.fr hXt (fun j h1 h2 => f5 j (by omega)))
    have h13 : XWays g  w1 := (XWays.fr hXw (fun j h1 h2 => f5 j (by omega)))
    have h14 : XFr g  w1 := (XFr.fr hXf (fun j h1 h2 => f5 j (by omega)))
    have h15 : XRead g tn T w1 := (XRead.fr hXr (fun j h1 h2 => f5 j (by omega)))
    have h16 : XShs g ln sz Z w1 := (XShs.fr hXs (fun j h1 h2 => f5 j (by omega)))
    exact xret_i C hr hlk hW ⟨⟨h10, (by rw [undoL, if_pos (by omega)]; exact ⟨π, P, CK, h6, h7, hCk, h8, h9, hPk⟩), h11, h12, h13, h14, h15, h16⟩, (fun j z0 => (f5 j (by omega))), (by rw [undoS, if_pos (by omega)])⟩ dX6_undo_22
  · have h17 : GAt g 1 (nI (L 40 - 1)) (nI (L 24)) (mixF 17 (P (L 40 - 1)) L) w1 := (by have hh := h4; rw [if_pos c7] at hh; exact hh)
    refine lv_aload_n C.1 C.2.1 dX6_undo_10 rfl (lv_at hl 0 rfl) ?_
    have h18 : w1 0 = .inr (6, [.ref (gad g 1), .ref (gad g 34), .ref (gad g 67), .ref (gad g 100), .ref (gad g 106), .ref (gad g 107), .ref (gad g 108), .ref (gad g 110), .int (nI hk)]) := ((f5 0 (by omega)).trans hXa)
    refine xget C hK hW hinX6 rfl (by omega) h18 0 (by decide) (List.mem_of_getElem? (i := 1) rfl) rfl dX6_undo_11 ?_
    refine xget C hK hW hinX1 rfl (by omega) h17.1 3 (by decide) (List.mem_of_getElem? (i := 2) rfl) rfl dX6_undo_14 ?_
    refine lv_goto (tgt := 22) C.1 C.2.1 dX6_undo_17 (by decide) ?_
    have h19 : CAt g 1 CK w1 := (CAt.fr hC (fun j h1 h2 => f5 j (by omega)))
    have h20 : PArr g 1 π w1 := (PArr.fr hPa (fun j h1 h2 => f5 j (by omega)))
    have h21 : PMom g 1 π P w1 := (PMom.fr hPm (fun j h1 h2 => f5 j (by omega)))
    have h22 : XKept g hk K w1 := (XKept.fr hXk (fun j h1 h2 => f5 j (by omega)))
    have h23 : XTrial g  w1 := (XTrial.fr hXt (fun j h1 h2 => f5 j (by omega)))
    have h24 : XWays g  w1 := (XWays.fr hXw (fun j h1 h2 => f5 j (by omega)))
    have h25 : XFr g  w1 := (XFr.fr hXf (fun j h1 h2 => f5 j (by omega)))
    have h26 : XRead g tn T w1 := (XRead.fr hXr (fun j h1 h2 => f5 j (by omega)))
    have h27 : XShs g ln sz Z w1 := (XShs.fr hXs (fun j h1 h2 => f5 j (by omega)))
    exact xret_i C hr hlk hW ⟨⟨h18, (by rw [undoL, if_neg (by omega)]; exact XLand_undo (by omega) h17 h19 hCk h20 h21 hPk hcl), h22, h23, h24, h25, h26, h27⟩, (fun j z0 => (f5 j (by omega))), (by rw [undoS, if_neg (by omega)])⟩ dX6_undo_22

set_option maxHeartbeats 4000000 in
set_option maxRecDepth 100000 in
theorem c_X6_seed (l : Launch) (g : GE) (w : Nat → va_E) (L K T ln sz : Nat → Nat) (hk tn : Nat) (Z : Nat → Int64) (x : Int32) (hI : AdInj g) (hN : gN g = 130) (hS : OkS (L, K, hk, tn, T, ln, sz, Z)) (pr0 : XAll g (L, K, hk, tn, T, ln, sz, Z) w) : Met l yX6_seed wsX6_seed ({ frames := 0, cells := 0, slots := 0, locals := 0 } : Room) (XPc g w [.ref (gad g 0), .int x]) (XQi g (fun r w' => XAll g (seedL L x, K, hk, tn, T, ln, sz, Z) w' ∧ (∀ j : Nat, ¬ (0 ≤ j ∧ j < 119) → w' j = w j) ∧ r = seedS L x)) 0 0 (gA g) := by
  refine xmet (cc := cX6_seed) (maxL := 3) (ret := (some .int)) (by decide) rfl hI (Nat.le_of_ble_eq_true rfl) ?_
  intro pG eG sG mG belowG methG cG ls C hr hlk hK hW hl
  have hl : lv_has ls 3 [(0, .ref (gad g 0)), (1, .int x)] := hl
  have hinX1 : ∀ x ∈ u_ws RX1 TX1 8, x ∈ wsX6_seed := by decide +kernel
  have hinX2 : ∀ x ∈ u_ws RX2 TX2 5, x ∈ wsX6_seed := by decide +kernel
  have hinX6 : ∀ x ∈ u_ws RX6 TX6 9, x ∈ wsX6_seed := by decide +kernel
  obtain ⟨hXa, hXl, hXk, hXt, hXw, hXf, hXr, hXs⟩ := pr0
  have hXa : w 0 = cX0 g hk := hXa
  have hXl : XLand g 1 L w := hXl
  have hXk : XKept g hk K w := hXk
  have hXr : XRead g tn T w := hXr
  have hXs : XShs g ln sz Z w := hXs
  have hokL : OkL L := hS.1
  obtain ⟨hok, hs2, hdy, hdr, hcl, hkn, hcs, hps⟩ := hokL
  obtain ⟨π, P, CK, hG, hC, hCk, hPa, hPm, hPk⟩ := id hXl
  refine lv_iload_n C.1 C.2.1 dX6_seed_0 rfl (lv_at hl 1 rfl) ?_
  refine lv_if_ge (tgt := 6) C.1 C.2.1 dX6_seed_1 (by decide) (fun c1 => ?_) (fun c1 => ?_)
  · obtain ⟨k1, hb_k1, hx_k1⟩ := not_neg (nlt_of_ge c1)
    rw [hx_k1] at hl
    refine lv_aload_n C.1 C.2.1 dX6_seed_6 rfl (lv_at hl 0 rfl) ?_
    refine xget C hK hW hinX6 rfl (by omega) hXa 0 (by decide) (List.mem_of_getElem? (i := 1) rfl) rfl dX6_seed_7 ?_
    refine xget C hK hW hinX1 rfl (by omega) hG.1 1 (by decide) (List.mem_of_getElem? (i := 2) rfl) rfl dX6_seed_10 ?_
    refine xget C hK hW hinX2 rfl (by omega) hG.2.2.1 2 (by decide) (List.mem_of_getElem? (i := 3) rfl) rfl dX6_seed_13 ?_
    refine lv_istore_n (lv' := [(2, .int (nI (L 1))), (0, .ref (gad g 0)), (1, .int (nI k1))]) C.1 C.2.1 dX6_seed_16 rfl hl (by decide) rfl (fun ls hl => ?_)
    refine lv_aload_n C.1 C.2.1 dX6_seed_17 rfl (lv_at hl 1 rfl) ?_
    refine xget C hK hW hinX6 rfl (by omega) hXa 0 (by decide) (List.mem_of_getElem? (i := 1) rfl) rfl dX6_seed_18 ?_
    refine xget C hK hW hinX1 rfl (by omega) hG.1 1 (by decide) (List.mem_of_getElem? (i := 2) rfl) rfl dX6_seed_21 ?_
    refine lv_iload_n C.1 C.2.1 dX6_seed_24 rfl (lv_at hl 2 rfl) ?_
    refine xput (v := .int (nI k1)) C hK hW hinX2 tyX2_ok nmX2 rfl (by omega) hG.2.2.1 2 (by decide) (List.mem_of_getElem? (i := 3) rfl) rfl rfl rfl (Nat.le_of_ble_eq_true rfl) dX6_seed_25 (fun w1 H locs e2 f3 hW => ?_)
    have h4 : GAt g 1 (nI (L 40)) (nI (L 24)) (va_up L 1 k1) w1 := GAt_draw hG e2 f3
    refine lv_iload_n C.1 C.2.1 dX6_seed_28 rfl (lv_at hl 0 rfl) ?_
    have h5 : CAt g 1 CK w1 := (CAt.fr hC (fun j h1 h2 => f3 j (by omega)))
    have h6 : PArr g 1 π w1 := (PArr.fr hPa (fun j h1 h2 => f3 j (by omega)))
    have h7 : PMom g 1 π P w1 := (PMom.fr hPm (fun j h1 h2 => f3 j (by omega)))
    have h8 : w1 0 = .inr (6, [.ref (gad g 1), .ref (gad g 34), .ref (gad g 67), .ref (gad g 100), .ref (gad g 106), .ref (gad g 107), .ref (gad g 108), .ref (gad g 110), .int (nI hk)]) := ((f3 0 (by omega)).trans hXa)
    have h9 : XKept g hk K w1 := (XKept.fr hXk (fun j h1 h2 => f3 j (by omega)))
    have h10 : XTrial g  w1 := (XTrial.fr hXt (fun j h1 h2 => f3 j (by omega)))
    have h11 : XWays g  w1 := (XWays.fr hXw (fun j h1 h2 => f3 j (by omega)))
    have h12 : XFr g  w1 := (XFr.fr hXf (fun j h1 h2 => f3 j (by omega)))
    have h13 : XRead g tn T w1 := (XRead.fr hXr (fun j h1 h2 => f3 j (by omega)))
    have h14 : XShs g ln sz Z w1 := (XShs.fr hXs (fun j h1 h2 => f3 j (by omega)))
    exact xret_i C hr hlk hW ⟨⟨h8, (by rw [seedL, if_neg (nlt_of_ge c1), hx_k1, cl_nI hb_k1]; exact (XLand_g (fun i hi => va_up_ne _ _ (by omega)) h4 h5 hCk h6 h7 hPk)), h9, h10, h11, h12, h13, h14⟩, (fun j z0 => (f3 j (by omega))), (by rw [seedS, if_neg (nlt_of_ge c1)])⟩ dX6_seed_29
  · refine lv_iconst (v := (-1 : Int32)) C.1 C.2.1 dX6_seed_4 (by decide) ?_
    exact xret_i C hr hlk hW ⟨⟨hXa, (by rw [seedL, if_pos (lt_of_nge c1)]; exact ⟨π, P, CK, hG, hC, hCk, hPa, hPm, hPk⟩), hXk, hXt, hXw, hXf, hXr, hXs⟩, (fun j z0 => rfl), (by rw [seedS, if_pos (lt_of_nge c1)])⟩ dX6_seed_5
