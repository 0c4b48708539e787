set_option maxHeartbeats 4000000 in
set_option maxRecDepth 100000 in
theorem c_X6_isClaim (l : Launch) (g : GE) (w : Nat → va_E) (c : Int32) (hk n : Nat) (x1 : Int32) (L : Nat → Nat) (hI : AdInj g) (hN : gN g = 130) (pr0 : w 0 = .inr (6, [.ref (gad g 1), .ref (gad g 34), .ref (gad g 67), .ref (gad g 100), .ref (gad g 106), .ref (gad g 107), .ref (gad g 108), .ref (gad g 110), .int (nI hk)])) (pr1 : GAt g 1 x1 (nI n) L w) : Met l yX6_isClaim wsX6_isClaim ({ frames := 1, cells := 0, slots := 0, locals := 22 } : Room) (XPc g w [.ref (gad g 0), .int c]) (XQi g (fun r w' => w' = w ∧ r = (bI (inR c (nI 0) (nI n - nI 1))))) 0 0 (gA g) := by
  refine xmet (cc := cX6_isClaim) (maxL := 2) (ret := (some .boolean)) (by decide) rfl hI (Nat.le_of_ble_eq_true rfl) ?_
  intro pG eG sG mG belowG methG cG ls C hr hlk hK hW hl
  have hl : lv_has ls 2 [(0, .ref (gad g 0)), (1, .int c)] := hl
  have hinX1 : ∀ x ∈ u_ws RX1 TX1 8, x ∈ wsX6_isClaim := by decide +kernel
  have hinX6 : ∀ x ∈ u_ws RX6 TX6 9, x ∈ wsX6_isClaim := by decide +kernel
  refine lv_iload_n C.1 C.2.1 dX6_isClaim_0 rfl (lv_at hl 1 rfl) ?_
  refine lv_iconst (v := (nI 0)) C.1 C.2.1 dX6_isClaim_1 (by decide) ?_
  refine lv_aload_n C.1 C.2.1 dX6_isClaim_2 rfl (lv_at hl 0 rfl) ?_
  refine xget C hK hW hinX6 rfl (by omega) pr0 0 (by decide) (List.mem_of_getElem? (i := 1) rfl) rfl dX6_isClaim_3 ?_
  refine xget C hK hW hinX1 rfl (by omega) pr1.1 7 (by decide) (List.mem_of_getElem? (i := 2) rfl) rfl dX6_isClaim_6 ?_
  refine lv_iconst (v := (nI 1)) C.1 C.2.1 dX6_isClaim_9 (by decide) ?_
  refine lv_isub C.1 C.2.1 dX6_isClaim_10 ?_
  refine xcS_i (n := 3) (As := [.int c, .int (nI 0), .int ((nI n) - (nI 1))]) C hK hW (c_X6_isWithin l g w c (nI 0) ((nI n) - (nI 1)) hI hN) gX6_isClaim_X6_isWithin rfl ⟨rfl, rfl⟩ (by decide +kernel) ⟨Nat.le_of_ble_eq_true rfl, Nat.le_of_ble_eq_true rfl⟩ ⟨Nat.zero_le _, Nat.zero_le _⟩ rfl hl rfl (Nat.le_of_ble_eq_true rfl) dX6_isClaim_11 (fun r3 w1 H locs q2 hW => ?_)
  obtain ⟨qw4, rfl⟩ := q2
  rw [qw4] at hW
  exact xret_z C hr hlk hW bI_nar ⟨rfl, rfl⟩ dX6_isClaim_14

set_option maxHeartbeats 4000000 in
set_option maxRecDepth 100000 in
theorem c_X6_isAhead (l : Launch) (g : GE) (w : Nat → va_E) (c : Int32) (hk : Nat) (x1 y1 : Int32) (L : Nat → Nat) (hI : AdInj g) (hN : gN g = 130) (pr0 : w 0 = .inr (6, [.ref (gad g 1), .ref (gad g 34), .ref (gad g 67), .ref (gad g 100), .ref (gad g 106), .ref (gad g 107), .ref (gad g 108), .ref (gad g 110), .int (nI hk)])) (pr1 : GAt g 1 x1 y1 L w) : Met l yX6_isAhead wsX6_isAhead ({ frames := 1, cells := 0, slots := 0, locals := 22 } : Room) (XPc g w [.ref (gad g 0), .int c]) (XQi g (fun r w' => w' = w ∧ r = (bI (inR c (nI (L 2)) (nI 6))))) 0 0 (gA g) := by
  refine xmet (cc := cX6_isAhead) (maxL := 2) (ret := (some .boolean)) (by decide) rfl hI (Nat.le_of_ble_eq_true rfl) ?_
  intro pG eG sG mG belowG methG cG ls C hr hlk hK hW hl
  have hl : lv_has ls 2 [(0, .ref (gad g 0)), (1, .int c)] := hl
  have hinX1 : ∀ x ∈ u_ws RX1 TX1 8, x ∈ wsX6_isAhead := by decide +kernel
  have hinX2 : ∀ x ∈ u_ws RX2 TX2 5, x ∈ wsX6_isAhead := by decide +kernel
  have hinX6 : ∀ x ∈ u_ws RX6 TX6 9, x ∈ wsX6_isAhead := by decide +kernel
  refine lv_iload_n C.1 C.2.1 dX6_isAhead_0 rfl (lv_at hl 1 rfl) ?_
  refine lv_aload_n C.1 C.2.1 dX6_isAhead_1 rfl (lv_at hl 0 rfl) ?_
  refine xget C hK hW hinX6 rfl (by omega) pr0 0 (by decide) (List.mem_of_getElem? (i := 1) rfl) rfl dX6_isAhead_2 ?_
  refine xget C hK hW hinX1 rfl (by omega) pr1.1 1 (by decide) (List.mem_of_getElem? (i := 2) rfl) rfl dX6_isAhead_5 ?_
  refine xget C hK hW hinX2 rfl (by omega) pr1.2.2.1 0 (by decide) (List.mem_of_getElem? (i := 3) rfl) rfl dX6_isAhead_8 ?_
  refine lv_bipush (v := (nI 6)) C.1 C.2.1 dX6_isAhead_11 (by decide) ?_
  refine xcS_i (n := 3) (As := [.int c, .int (nI (L 2)), .int (nI 6)]) C hK hW (c_X6_isWithin l g w c (nI (L 2)) (nI 6) hI hN) gX6_isAhead_X6_isWithin rfl ⟨rfl, rfl⟩ (by decide +kernel) ⟨Nat.le_of_ble_eq_true rfl, Nat.le_of_ble_eq_true rfl⟩ ⟨Nat.zero_le _, Nat.zero_le _⟩ rfl hl rfl (Nat.le_of_ble_eq_true rfl) dX6_isAhead_13 (fun r3 w1 H locs q2 hW => ?_)
  obtain ⟨qw4, rfl⟩ := q2
  rw [qw4] at hW
  exact xret_z C hr hlk hW bI_nar ⟨rfl, rfl⟩ dX6_isAhead_16

set_option maxHeartbeats 4000000 in
set_option maxRecDepth 100000 in
theorem c_X6_chance (l : Launch) (g : GE) (w : Nat → va_E) (L K T ln sz : Nat → Nat) (hk tn : Nat) (Z : Nat → Int64) (x : Int32) (y : Int32) (z : Int32) (hI : AdInj g) (hN : gN g = 130) (hS : OkS (L, K, hk, tn, T, ln, sz, Z)) (pr0 : XAll g (L, K, hk, tn, T, ln, sz, Z) w) : Met l yX6_chance wsX6_chance ({ frames := 6, cells := 0, slots := 0, locals := 130 } : Room) (XPc g w [.ref (gad g 0), .int x, .int y, .int z]) (XQi g (fun r w' => XAll g (L, K, hk, tn, T, ln, sz, Z) w' ∧ (∀ j : Nat, ¬ (0 ≤ j ∧ j < 119) → w' j = w j) ∧ r = chanceS L x y z)) 0 0 (gA g) := by
  refine xmet (cc := cX6_chance) (maxL := 4) (ret := (some .int)) (by decide) rfl hI (Nat.le_of_ble_eq_true rfl) ?_
  intro pG eG sG mG belowG methG cG ls C hr hlk hK hW hl
  have hl : lv_has ls 4 [(0, .ref (gad g 0)), (1, .int x), (2, .int y), (3, .int z)] := hl
  have hinX5 : ∀ x ∈ u_ws RX5 TX5 7, x ∈ wsX6_chance := by decide +kernel
  have hinX6 : ∀ x ∈ u_ws RX6 TX6 9, x ∈ wsX6_chance := by decide +kernel
  obtain ⟨hXa, hXl, hXk, hXt, hXw, hXf, hXr, hXs⟩ := pr0
  have hXa : w 0 = cX0 g hk := hXa
  have hXl : XLand g 1 L w := hXl
  have hXk : XKept g hk K w := hXk
  have hXr : XRead g tn T w := hXr
  have hXs : XShs g ln sz Z w := hXs
  have hokL : OkL L := hS.1
  obtain ⟨hok, hs2, hdy, hdr, hcl, hkn, hcs, hps⟩ := hokL
  obtain ⟨π, P, CK, hG, hC, hCk, hPa, hPm, hPk⟩ := id hXl
  obtain ⟨wh, al, sa, sb, on, bk, O, A, hw0, hw1, hw2, hw3, hw4, hw5⟩ := hXw
  obtain ⟨fa, fb, fc, fd, hf6, hf7⟩ := hXf
  refine lv_iload_n C.1 C.2.1 dX6_chance_0 rfl (lv_at hl 1 rfl) ?_
  refine xcS_i (n := 1) (As := [.int x]) C hK hW (c_X6_isField l g w x hI hN) gX6_chance_X6_isField rfl ⟨rfl, rfl⟩ (by decide +kernel) ⟨Nat.le_of_ble_eq_true rfl, Nat.le_of_ble_eq_true rfl⟩ ⟨Nat.zero_le _, Nat.zero_le _⟩ rfl hl rfl (Nat.le_of_ble_eq_true rfl) dX6_chance_1 (fun r3 w1 H locs q2 hW => ?_)
  obtain ⟨qw4, rfl⟩ := q2
  rw [qw4] at hW
  refine xBeq (tgt := 23) C dX6_chance_4 (by decide) (fun c4 => ?_) (fun c4 => ?_)
  · refine lv_iconst (v := (-1 : Int32)) C.1 C.2.1 dX6_chance_23 (by decide) ?_
    exact xret_i C hr hlk hW ⟨⟨hXa, hXl, hXk, hXt, ⟨_, _, _, _, _, _, _, _, hw0, hw1, hw2, hw3, hw4, hw5⟩, ⟨_, _, _, _, hf6, hf7⟩, hXr, hXs⟩, (fun j z0 => rfl), (by rw [chanceS, if_neg (c := in6 x ∧ in9 y ∧ inR z (nI 0) (nI 1)) (fun h => c4 h.1)])⟩ dX6_chance_24
  · obtain ⟨k1, ha_k1, hb_k1, hx_k1⟩ := inR_N (by omega) (by omega) c4
    rw [hx_k1] at hl
    refine lv_iload_n C.1 C.2.1 dX6_chance_7 rfl (lv_at hl 2 rfl) ?_
    refine xcS_i (n := 1) (As := [.int y]) C hK hW (c_X6_isForetold l g w y hI hN) gX6_chance_X6_isForetold rfl ⟨rfl, rfl⟩ (by decide +kernel) ⟨Nat.le_of_ble_eq_true rfl, Nat.le_of_ble_eq_true rfl⟩ ⟨Nat.zero_le _, Nat.zero_le _⟩ rfl hl rfl (Nat.le_of_ble_eq_true rfl) dX6_chance_8 (fun r7 w5 H locs q6 hW => ?_)
    obtain ⟨qw8, rfl⟩ := q6
    rw [qw8] at hW
    refine xBeq (tgt := 23) C dX6_chance_11 (by decide) (fun c11 => ?_) (fun c11 => ?_)
    · refine lv_iconst (v := (-1 : Int32)) C.1 C.2.1 dX6_chance_23 (by decide) ?_
      exact xret_i C hr hlk hW ⟨⟨hXa, hXl, hXk, hXt, ⟨_, _, _, _, _, _, _, _, hw0, hw1, hw2, hw3, hw4, hw5⟩, ⟨_, _, _, _, hf6, hf7⟩, hXr, hXs⟩, (fun j z0 => rfl), (by rw [chanceS, if_neg (c := in6 x ∧ in9 y ∧ inR z (nI 0) (nI 1)) (fun h => c11 h.2.1)])⟩ dX6_chance_24
    · obtain ⟨k2, ha_k2, hb_k2, hx_k2⟩ := inR_N (by omega) (by omega) c11
      rw [hx_k2] at hl
      refine lv_iload_n C.1 C.2.1 dX6_chance_14 rfl (lv_at hl 3 rfl) ?_
      refine lv_iconst (v := (nI 0)) C.1 C.2.1 dX6_chance_15 (by decide) ?_
      refine lv_iconst (v := (nI 1)) C.1 C.2.1 dX6_chance_16 (by decide) ?_
      refine xcS_i (n := 3) (As := [.int z, .int (nI 0), .int (nI 1)]) C hK hW (c_X6_isWithin l g w z (nI 0) (nI 1) hI hN) gX6_chance_X6_isWithin rfl ⟨rfl, rfl⟩ (by decide +kernel) ⟨Nat.le_of_ble_eq_true rfl, Nat.le_of_ble_eq_true rfl⟩ ⟨Nat.zero_le _, Nat.zero_le _⟩ rfl hl rfl (Nat.le_of_ble_eq_true rfl) dX6_chance_17 (fun r11 w9 H locs q10 hW => ?_)
      obtain ⟨qw12, rfl⟩ := q10
      rw [qw12] at hW
      refine xBne (tgt := 25) C dX6_chance_20 (by decide) (fun c20 => ?_) (fun c20 => ?_)
      · obtain ⟨k3, ha_k3, hb_k3, hx_k3⟩ := inR_N (by omega) (by omega) c20
        rw [hx_k3] at hl
        refine lv_aload_n C.1 C.2.1 dX6_chance_25 rfl (lv_at hl 0 rfl) ?_
        refine lv_aload_n C.1 C.2.1 dX6_chance_26 rfl (lv_at hl 0 rfl) ?_
        refine xget C hK hW hinX6 rfl (by omega) hXa 0 (by decide) (List.mem_of_getElem? (i := 1) rfl) rfl dX6_chance_27 ?_
        refine lv_iload_n C.1 C.2.1 dX6_chance_30 rfl (lv_at hl 2 rfl) ?_
        refine xcV_v (n := 2) (As := [.ref (gad g 1), .int (nI k2)]) C hK hW (c_X6_foretell l g w 1 k2 hk wh al (nI (L 40)) (nI (L 24)) L on bk O A hI hN (by omega) (by omega) hok (by omega) (by omega) hXa hw0 hw1 hw2 hw3 hw4 hG) gX6_chance_X6_foretell rfl ⟨rfl, rfl⟩ (by decide +kernel) ⟨Nat.le_of_ble_eq_true rfl, Nat.le_of_ble_eq_true rfl⟩ ⟨Nat.zero_le _, Nat.zero_le _⟩ rfl (by omega) hXa rfl hl rfl (Nat.le_of_ble_eq_true rfl) dX6_chance_31 (fun w13 H locs q14 hW => ?_)
        obtain ⟨A1_22, h16, h17, h18, h19, h20, f21⟩ := q14
        have h23 : w13 103 = .inl (gJ g, 7, .inr (.inl (cL 7 0 (odF L k2)))) := h19
        refine lv_aload_n C.1 C.2.1 dX6_chance_34 rfl (lv_at hl 0 rfl) ?_
        have h24 : w13 0 = .inr (6, [.ref (gad g 1), .ref (gad g 34), .ref (gad g 67), .ref (gad g 100), .ref (gad g 106), .ref (gad g 107), .ref (gad g 108), .ref (gad g 110), .int (nI hk)]) := ((f21 0 (by omega)).trans hXa)
        refine xget C hK hW hinX6 rfl (by omega) h24 4 (by decide) (List.mem_of_getElem? (i := 2) rfl) rfl dX6_chance_35 ?_
        refine lv_aload_n C.1 C.2.1 dX6_chance_38 rfl (lv_at hl 0 rfl) ?_
        refine xget C hK hW hinX6 rfl (by omega) h24 3 (by decide) (List.mem_of_getElem? (i := 3) rfl) rfl dX6_chance_39 ?_
        refine xget C hK hW hinX5 rfl (by omega) h16 3 (by decide) (List.mem_of_getElem? (i := 4) rfl) rfl dX6_chance_42 ?_
        refine lv_iload_n C.1 C.2.1 dX6_chance_45 rfl (lv_at hl 1 rfl) ?_
        refine xlldK0 C hK hW (by omega) h23 (by omega) (by decide) dX6_chance_46 ?_
        refine lv_aload_n C.1 C.2.1 dX6_chance_47 rfl (lv_at hl 0 rfl) ?_
        refine xget C hK hW hinX6 rfl (by omega) h24 3 (by decide) (List.mem_of_getElem? (i := 3) rfl) rfl dX6_chance_48 ?_
        refine xget C hK hW hinX5 rfl (by omega) h16 5 (by decide) (List.mem_of_getElem? (i := 5) rfl) rfl dX6_chance_51 ?_
        have hO := fun f (hf : f < 7) => odF_le (L := L) (n := k2) (f := f) (by omega) hf
        have hp := p10 (k := k2) (by omega)
        have hO1 := hO k1 (by omega)
        have h25 : w13 106 = .inr (0, [.long (lN fa), .long (lN fb)]) := ((f21 106 (by omega)).trans hf6)
        refine xcV_v (n := 2) (As := [.long (lN ((odF L k2) k1)), .long (lN (10 ^ k2))]) C hK hW (c_X0_become l g w13 106 ((odF L k2) k1) (10 ^ k2) (lN fa) (lN fb) hI hN (by omega) (by omega) (by omega) (by omega) h25) gX6_chance_X0_become rfl ⟨rfl, rfl⟩ (by decide +kernel) ⟨Nat.le_of_ble_eq_true rfl, Nat.le_of_ble_eq_true rfl⟩ ⟨Nat.zero_le _, Nat.zero_le _⟩ rfl (by omega) h25 rfl hl rfl (Nat.le_of_ble_eq_true rfl) dX6_chance_54 (fun w26 H locs q27 hW => ?_)
        obtain ⟨h29, f30⟩ := q27
        refine lv_aload_n C.1 C.2.1 dX6_chance_57 rfl (lv_at hl 0 rfl) ?_
        have h31 : w26 0 = .inr (6, [.ref (gad g 1), .ref (gad g 34), .ref (gad g 67), .ref (gad g 100), .ref (gad g 106), .ref (gad g 107), .ref (gad g 108), .ref (gad g 110), .int (nI hk)]) := ((f30 0 (by omega)).trans h24)
        refine xget C hK hW hinX6 rfl (by omega) h31 4 (by decide) (List.mem_of_getElem? (i := 2) rfl) rfl dX6_chance_58 ?_
        refine lv_iload_n C.1 C.2.1 dX6_chance_61 rfl (lv_at hl 3 rfl) ?_
        refine xcV_l (n := 1) (As := [.int (nI k3)]) C hK hW (c_X0_told l g w26 106 k3 (redU ((odF L k2) k1) (10 ^ k2)) (redD ((odF L k2) k1) (10 ^ k2)) hI hN (by omega) (by omega) h29) gX6_chance_X0_told rfl ⟨rfl, rfl⟩ (by decide +kernel) ⟨Nat.le_of_ble_eq_true rfl, Nat.le_of_ble_eq_true rfl⟩ ⟨Nat.zero_le _, Nat.zero_le _⟩ rfl (by omega) h29 rfl hl rfl (Nat.le_of_ble_eq_true rfl) dX6_chance_62 (fun r34 w32 H locs q33 hW => ?_)
        obtain ⟨qw35, rfl⟩ := q33
        rw [qw35] at hW
        refine xl2i C dX6_chance_65 ?_
        have h36 : XLand g 1 L w26 := (XLand.fr (XLand.fr hXl (fun j h1 h2 => f21 j (by omega))) (fun j h1 h2 => f30 j (by omega)))
        have h37 : XKept g hk K w26 := (XKept.fr (XKept.fr hXk (fun j h1 h2 => f21 j (by omega))) (fun j h1 h2 => f30 j (by omega)))
        have h38 : XTrial g  w26 := (XTrial.fr (XTrial.fr hXt (fun j h1 h2 => f21 j (by omega))) (fun j h1 h2 => f30 j (by omega)))
        have h39 : w26 100 = .inr (5, [.ref (gad g 101), .ref (gad g 102), .int (nI 10), .ref (gad g 103), .ref (gad g 104), .long (lN (10 ^ k2)), .ref (gad g 105)]) := ((f30 100 (by omega)).trans h16)
        have h40 : w26 101 = .inl (gI g, 7, .inl (cK 7 0 (onF L))) := ((f30 101 (by omega)).trans h17)
        have h41 : w26 102 = .inl (gI g, 7, .inl (cK 7 0 (backF L))) := ((f30 102 (by omega)).trans h18)
        have h42 : w26 103 = .inl (gJ g, 7, .inr (.inl (cL 7 0 (odF L k2)))) := ((f30 103 (by omega)).trans h23)
        have h43 : w26 104 = .inl (gJ g, 7, .inr (.inl (cL 7 0 A1_22))) := ((f30 104 (by omega)).trans h20)
        have h44 : w26 105 = .inr (0, [.long (lN sa), .long (lN sb)]) := ((f30 105 (by omega)).trans ((f21 105 (by omega)).trans hw5))
        have h45 : w26 107 = .inr (0, [.long (lN fc), .long (lN fd)]) := ((f30 107 (by omega)).trans ((f21 107 (by omega)).trans hf7))
        have h46 : XRead g tn T w26 := (XRead.fr (XRead.fr hXr (fun j h1 h2 => f21 j (by omega))) (fun j h1 h2 => f30 j (by omega)))
        have h47 : XShs g ln sz Z w26 := (XShs.fr (XShs.fr hXs (fun j h1 h2 => f21 j (by omega))) (fun j h1 h2 => f30 j (by omega)))
        exact xret_i C hr hlk hW ⟨⟨h31, h36, h37, h38, ⟨_, _, _, _, _, _, _, _, h39, h40, h41, h42, h43, h44⟩, ⟨_, _, _, _, h29, h45⟩, h46, h47⟩, (fun j z0 => ((f30 j (by omega)).trans (f21 j (by omega)))), (by rw [chanceS, if_pos (c := in6 x ∧ in9 y ∧ inR z (nI 0) (nI 1)) ⟨c4, c11, c20⟩, hx_k1, hx_k2, hx_k3, cl_nI (by omega), cl_nI (by omega), cl_nI (by omega)])⟩ dX6_chance_66
      · refine lv_iconst (v := (-1 : Int32)) C.1 C.2.1 dX6_chance_23 (by decide) ?_
        exact xret_i C hr hlk hW ⟨⟨hXa, hXl, hXk, hXt, ⟨_, _, _, _, _, _, _, _, hw0, hw1, hw2, hw3, hw4, hw5⟩, ⟨_, _, _, _, hf6, hf7⟩, hXr, hXs⟩, (fun j z0 => rfl), (by rw [chanceS, if_neg (c := in6 x ∧ in9 y ∧ inR z (nI 0) (nI 1)) (fun h => c20 h.2.2)])⟩ dX6_chance_24

set_option maxHeartbeats 4000000 in
set_option maxRecDepth 100000 in
theorem c_X6_likely (l : Launch) (g : GE) (w : Nat → va_E) (L K T ln sz : Nat → Nat) (hk tn : Nat) (Z : Nat → Int64) (y : Int32) (hI : AdInj g) (hN : gN g = 130) (hS : OkS (L, K, hk, tn, T, ln, sz, Z)) (pr0 : XAll g (L, K, hk, tn, T, ln, sz, Z) w) : Met l yX6_likely wsX6_likely ({ frames := 6, cells := 0, slots := 0, locals := 130 } : Room) (XPc g w [.ref (gad g 0), .int y]) (XQi g (fun r w' => XAll g (L, K, hk, tn, T, ln, sz, Z) w' ∧ (∀ j : Nat, ¬ (0 ≤ j ∧ j < 119) → w' j = w j) ∧ r = likelyS L y)) 0 0 (gA g) := by
  refine xmet (cc := cX6_likely) (maxL := 4) (ret := (some .int)) (by decide) rfl hI (Nat.le_of_ble_eq_true rfl) ?_
  intro pG eG sG mG belowG methG cG ls C hr hlk hK hW hl
  have hl : lv_has ls 4 [(0, .ref (gad g 0)), (1, .int y)] := hl
  have hinX5 : ∀ x ∈ u_ws RX5 TX5 7, x ∈ wsX6_likely := by decide +kernel
  have hinX6 : ∀ x ∈ u_ws RX6 TX6 9, x ∈ wsX6_likely := by decide +kernel
  obtain ⟨hXa, hXl, hXk, hXt, hXw, hXf, hXr, hXs⟩ := pr0
  have hXa : w 0 = cX0 g hk := hXa
  have hXl : XLand g 1 L w := hXl
  have hXk : XKept g hk K w := hXk
  have hXr : XRead g tn T w := hXr
  have hXs : XShs g ln sz Z w := hXs
  have hokL : OkL L := hS.1
  obtain ⟨hok, hs2, hdy, hdr, hcl, hkn, hcs, hps⟩ := hokL
  obtain ⟨π, P, CK, hG, hC, hCk, hPa, hPm, hPk⟩ := id hXl
  obtain ⟨wh, al, sa, sb, on, bk, O, A, hw0, hw1, hw2, hw3, hw4, hw5⟩ := hXw
  obtain ⟨fa, fb, fc, fd, hf6, hf7⟩ := hXf
  refine lv_iload_n C.1 C.2.1 dX6_likely_0 rfl (lv_at hl 1 rfl) ?_
  refine xcS_i (n := 1) (As := [.int y]) C hK hW (c_X6_isForetold l g w y hI hN) gX6_likely_X6_isForetold rfl ⟨rfl, rfl⟩ (by decide +kernel) ⟨Nat.le_of_ble_eq_true rfl, Nat.le_of_ble_eq_true rfl⟩ ⟨Nat.zero_le _, Nat.zero_le _⟩ rfl hl rfl (Nat.le_of_ble_eq_true rfl) dX6_likely_1 (fun r3 w1 H locs q2 hW => ?_)
  obtain ⟨qw4, rfl⟩ := q2
  rw [qw4] at hW
  refine xBne (tgt := 9) C dX6_likely_4 (by decide) (fun c4 => ?_) (fun c4 => ?_)
  · obtain ⟨k2, ha_k2, hb_k2, hx_k2⟩ := inR_N (by omega) (by omega) c4
    rw [hx_k2] at hl
    refine lv_aload_n C.1 C.2.1 dX6_likely_9 rfl (lv_at hl 0 rfl) ?_
    refine lv_aload_n C.1 C.2.1 dX6_likely_10 rfl (lv_at hl 0 rfl) ?_
    refine xget C hK hW hinX6 rfl (by omega) hXa 0 (by decide) (List.mem_of_getElem? (i := 1) rfl) rfl dX6_likely_11 ?_
    refine lv_iload_n C.1 C.2.1 dX6_likely_14 rfl (lv_at hl 1 rfl) ?_
    refine xcV_v (n := 2) (As := [.ref (gad g 1), .int (nI k2)]) C hK hW (c_X6_foretell l g w 1 k2 hk wh al (nI (L 40)) (nI (L 24)) L on bk O A hI hN (by omega) (by omega) hok (by omega) (by omega) hXa hw0 hw1 hw2 hw3 hw4 hG) gX6_likely_X6_foretell rfl ⟨rfl, rfl⟩ (by decide +kernel) ⟨Nat.le_of_ble_eq_true rfl, Nat.le_of_ble_eq_true rfl⟩ ⟨Nat.zero_le _, Nat.zero_le _⟩ rfl (by omega) hXa rfl hl rfl (Nat.le_of_ble_eq_true rfl) dX6_likely_15 (fun w5 H locs q6 hW => ?_)
    obtain ⟨A1_14, h8, h9, h10, h11, h12, f13⟩ := q6
    have h15 : w5 103 = .inl (gJ g, 7, .inr (.inl (cL 7 0 (odF L k2)))) := h11
    have hO := fun f (hf : f < 7) => odF_le (L := L) (n := k2) (f := f) (by omega) hf
    have hp := p10 (k := k2) (by omega)
    refine lv_iconst (v := (nI 0)) C.1 C.2.1 dX6_likely_18 (by decide) ?_
    refine lv_istore_n (lv' := [(2, .int (nI 0)), (0, .ref (gad g 0)), (1, .int (nI k2))]) C.1 C.2.1 dX6_likely_19 rfl hl (by decide) rfl (fun ls hl => ?_)
    refine lv_iconst (v := (nI 1)) C.1 C.2.1 dX6_likely_20 (by decide) ?_
    refine lv_istore_n (lv' := [(3, .int (nI 1)), (2, .int (nI 0)), (0, .ref (gad g 0)), (1, .int (nI k2))]) C.1 C.2.1 dX6_likely_21 rfl hl (by decide) rfl (fun ls hl => ?_)
    have h16 : w5 0 = .inr (6, [.ref (gad g 1), .ref (gad g 34), .ref (gad g 67), .ref (gad g 100), .ref (gad g 106), .ref (gad g 107), .ref (gad g 108), .ref (gad g 110), .int (nI hk)]) := ((f13 0 (by omega)).trans hXa)
    have h17 : XLand g 1 L w5 := (XLand.fr hXl (fun j h1 h2 => f13 j (by omega)))
    have h18 : XKept g hk K w5 := (XKept.fr hXk (fun j h1 h2 => f13 j (by omega)))
    have h19 : XRead g tn T w5 := (XRead.fr hXr (fun j h1 h2 => f13 j (by omega)))
    have h20 : XShs g ln sz Z w5 := (XShs.fr hXs (fun j h1 h2 => f13 j (by omega)))
    have h21 : GAt g 1 (nI (L 40)) (nI (L 24)) L w5 := (GAt.fr hG (fun j h1 h2 => f13 j (by omega)))
    have h22 : CAt g 1 CK w5 := (CAt.fr hC (fun j h1 h2 => f13 j (by omega)))
    have h23 : XTrial g  w5 := (XTrial.fr hXt (fun j h1 h2 => f13 j (by omega)))
    have h24 : w5 105 = .inr (0, [.long (lN sa), .long (lN sb)]) := ((f13 105 (by omega)).trans hw5)
    have h25 : w5 106 = .inr (0, [.long (lN fa), .long (lN fb)]) := ((f13 106 (by omega)).trans hf6)
    have h26 : w5 107 = .inr (0, [.long (lN fc), .long (lN fd)]) := ((f13 107 (by omega)).trans hf7)
    have loop22 : ∀ (kG : Nat) (i : Nat) (H : Heap) (locs : List Loc) (ls : Array Slot), kG = 6 - i → (i ≤ 6) → XW g w5 (gA g) sG.heap H locs → lv_has ls 4 [(3, .int (nI (i + 1))), (2, .int (nI (bestF (odF L k2) i))), (0, .ref (gad g 0)), (1, .int (nI k2))] → W pG l eG ({ frames := 6, cells := 0, slots := 0, locals := 130 } : Room) sG mG ([.ref (gad g 0), .int y] : List Value).toArray belowG methG cG H locs 0 0 (MQ belowG (XQi g (fun r w' => XAll g (L, K, hk, tn, T, ln, sz, Z) w' ∧ (∀ j : Nat, ¬ (0 ≤ j ∧ j < 119) → w' j = w j) ∧ r = likelyS L y)) ([.ref (gad g 0), .int y] : List Value).toArray sG 0 0 (gA g)) (F0 mG 22 ls []) := by
      intro k22
      induction k22 using Nat.strongRecOn with
      | _ k22 ih22 =>
      intro i H locs ls hk22 hi hW hl
      refine lv_iload_n C.1 C.2.1 dX6_likely_22 rfl (lv_at hl 0 rfl) ?_
      refine lv_bipush (v := (nI 7)) C.1 C.2.1 dX6_likely_23 (by decide) ?_
      refine xge (tgt := 58) C (by omega) (by omega) dX6_likely_25 (by decide) (fun c25 => ?_) (fun c25 => ?_)
      · refine lv_iload_n C.1 C.2.1 dX6_likely_58 rfl (lv_at hl 1 rfl) ?_
        exact xret_i C hr hlk hW ⟨⟨h16, h17, h18, h23, ⟨_, _, _, _, _, _, _, _, h8, h9, h10, h15, h12, h24⟩, ⟨_, _, _, _, h25, h26⟩, h19, h20⟩, (fun j z0 => (f13 j (by omega))), (by rw [likelyS, if_pos (c := in9 y) c4, hx_k2, cl_nI (by omega), show i = 6 by omega])⟩ dX6_likely_59
      · have hbi := bestF_le (odF L k2) i
        have hO1 := hO (i + 1) (by omega)
        have hO2 := hO (bestF (odF L k2) i) (by omega)
        refine lv_aload_n C.1 C.2.1 dX6_likely_28 rfl (lv_at hl 2 rfl) ?_
        refine xget C hK hW hinX6 rfl (by omega) h16 3 (by decide) (List.mem_of_getElem? (i := 2) rfl) rfl dX6_likely_29 ?_
        refine xget C hK hW hinX5 rfl (by omega) h8 3 (by decide) (List.mem_of_getElem? (i := 3) rfl) rfl dX6_likely_32 ?_
        refine lv_iload_n C.1 C.2.1 dX6_likely_35 rfl (lv_at hl 0 rfl) ?_
        refine xlldK0 C hK hW (by omega) h15 (by omega) (by decide) dX6_likely_36 ?_
        refine lv_aload_n C.1 C.2.1 dX6_likely_37 rfl (lv_at hl 2 rfl) ?_
        refine xget C hK hW hinX6 rfl (by omega) h16 3 (by decide) (List.mem_of_getElem? (i := 2) rfl) rfl dX6_likely_38 ?_
        refine xget C hK hW hinX5 rfl (by omega) h8 3 (by decide) (List.mem_of_getElem? (i := 3) rfl) rfl dX6_likely_41 ?_
        refine lv_iload_n C.1 C.2.1 dX6_likely_44 rfl (lv_at hl 1 rfl) ?_
        refine xlldK0 C hK hW (by omega) h15 (by omega) (by decide) dX6_likely_45 ?_
        refine xLle (tgt := 52) C (by omega) (by omega) dX6_likely_46 dX6_likely_47 (by decide) (fun c46 => ?_) (fun c46 => ?_)
        · have hl : lv_has ls 4 [(3, .int (nI (i + 1))), (2, .int (nI (bestF (odF L k2) (i + 1)))), (0, .ref (gad g 0)), (1, .int (nI k2))] := by rw [show bestF (odF L k2) (i + 1) = bestF (odF L k2) i from bestF_n (by omega)]; exact hl
          refine lv_iinc (v := nI (i + 2)) (lv' := [(3, .int (nI (i + 2))), (2, .int (nI (bestF (odF L k2) (i + 1)))), (0, .ref (gad g 0)), (1, .int (nI k2))]) C.1 C.2.1 dX6_likely_52 hl (k := 0) rfl (nI_add _ 1) (by decide) rfl (fun ls hl => ?_)
          refine lv_goto (tgt := 22) C.1 C.2.1 dX6_likely_55 (by decide) ?_
          exact ih22 (6 - (i + 1)) (by omega) (i + 1) _ _ _ rfl (by omega) hW hl
        · refine lv_iload_n C.1 C.2.1 dX6_likely_50 rfl (lv_at hl 0 rfl) ?_
          refine lv_istore_n (lv' := [(2, .int (nI (i + 1))), (3, .int (nI (i + 1))), (0, .ref (gad g 0)), (1, .int (nI k2))]) C.1 C.2.1 dX6_likely_51 rfl hl (by decide) rfl (fun ls hl => ?_)
          have hl : lv_has ls 4 [(2, .int (nI (bestF (odF L k2) (i + 1)))), (3, .int (nI (i + 1))), (0, .ref (gad g 0)), (1, .int (nI k2))] := by rw [show bestF (odF L k2) (i + 1) = i + 1 from bestF_y (by omega)]; exact hl
          refine lv_iinc (v := nI (i + 2)) (lv' := [(3, .int (nI (i + 2))), (2, .int (nI (bestF (odF L k2) (i + 1)))), (0, .ref (gad g 0)), (1, .int (nI k2))]) C.1 C.2.1 dX6_likely_52 hl (k := 1) rfl (nI_add _ 1) (by decide) rfl (fun ls hl => ?_)
          refine lv_goto (tgt := 22) C.1 C.2.1 dX6_likely_55 (by decide) ?_
          exact ih22 (6 - (i + 1)) (by omega) (i + 1) _ _ _ rfl (by omega) hW hl
    exact loop22 _ 0 _ _ _ rfl (by omega) hW hl
  · refine lv_iconst (v := (-1 : Int32)) C.1 C.2.1 dX6_likely_7 (by decide) ?_
    exact xret_i C hr hlk hW ⟨⟨hXa, hXl, hXk, hXt, ⟨_, _, _, _, _, _, _, _, hw0, hw1, hw2, hw3, hw4, hw5⟩, ⟨_, _, _, _, hf6, hf7⟩, hXr, hXs⟩, (fun j z0 => rfl), (by rw [likelyS, if_neg (c := in9 y) (fun h => c4 h)])⟩ dX6_likely_8

set_option maxHeartbeats 4000000 in
set_option maxRecDepth 100000 in
theorem c_X6_sure (l : Launch) (g : GE) (w : Nat → va_E) (L K T ln sz : Nat → Nat) (hk tn : Nat) (Z : Nat → Int64) (y : Int32) (hI : AdInj g) (hN : gN g = 130) (hS : OkS (L, K, hk, tn, T, ln, sz, Z)) (pr0 : XAll g (L, K, hk, tn, T, ln, sz, Z) w) : Met l yX6_sure wsX6_sure ({ frames := 6, cells := 0, slots := 0, locals := 130 } : Room) (XPc g w [.ref (gad g 0), .int y]) (XQi g (fun r w' => XAll g (L, K, hk, tn, T, ln, sz, Z) w' ∧ (∀ j : Nat, ¬ (0 ≤ j ∧ j < 119) → w' j = w j) ∧ r = sureS L y)) 0 0 (gA g) := by
  refine xmet (cc := cX6_sure) (maxL := 4) (ret := (some .int)) (by decide) rfl hI (Nat.le_of_ble_eq_true rfl) ?_
  intro pG eG sG mG belowG methG cG ls C hr hlk hK hW hl
  have hl : lv_has ls 4 [(0, .ref (gad g 0)), (1, .int y)] := hl
  have hinX5 : ∀ x ∈ u_ws RX5 TX5 7, x ∈ wsX6_sure := by decide +kernel
  have hinX6 : ∀ x ∈ u_ws RX6 TX6 9, x ∈ wsX6_sure := by decide +kernel
  obtain ⟨hXa, hXl, hXk, hXt, hXw, hXf, hXr, hXs⟩ := pr0
  have hXa : w 0 = cX0 g hk := hXa
  have hXl : XLand g 1 L w := hXl
  have hXk : XKept g hk K w := hXk
  have hXr : XRead g tn T w := hXr
  have hXs : XShs g ln sz Z w := hXs
  have hokL : OkL L := hS.1
  obtain ⟨hok, hs2, hdy, hdr, hcl, hkn, hcs, hps⟩ := hokL
  obtain ⟨π, P, CK, hG, hC, hCk, hPa, hPm, hPk⟩ := id hXl
  obtain ⟨wh, al, sa, sb, on, bk, O, A, hw0, hw1, hw2, hw3, hw4, hw5⟩ := hXw
  obtain ⟨fa, fb, fc, fd, hf6, hf7⟩ := hXf
  refine lv_iload_n C.1 C.2.1 dX6_sure_0 rfl (lv_at hl 1 rfl) ?_
  refine xcS_i (n := 1) (As := [.int y]) C hK hW (c_X6_isForetold l g w y hI hN) gX6_sure_X6_isForetold rfl ⟨rfl, rfl⟩ (by decide +kernel) ⟨Nat.le_of_ble_eq_true rfl, Nat.le_of_ble_eq_true rfl⟩ ⟨Nat.zero_le _, Nat.zero_le _⟩ rfl hl rfl (Nat.le_of_ble_eq_true rfl) dX6_sure_1 (fun r3 w1 H locs q2 hW => ?_)
  obtain ⟨qw4, rfl⟩ := q2
  rw [qw4] at hW
  refine xBne (tgt := 9) C dX6_sure_4 (by decide) (fun c4 => ?_) (fun c4 => ?_)
  · obtain ⟨k2, ha_k2, hb_k2, hx_k2⟩ := inR_N (by omega) (by omega) c4
    rw [hx_k2] at hl
    refine lv_aload_n C.1 C.2.1 dX6_sure_9 rfl (lv_at hl 0 rfl) ?_
    refine lv_aload_n C.1 C.2.1 dX6_sure_10 rfl (lv_at hl 0 rfl) ?_
    refine xget C hK hW hinX6 rfl (by omega) hXa 0 (by decide) (List.mem_of_getElem? (i := 1) rfl) rfl dX6_sure_11 ?_
    refine lv_iload_n C.1 C.2.1 dX6_sure_14 rfl (lv_at hl 1 rfl) ?_
    refine xcV_v (n := 2) (As := [.ref (gad g 1), .int (nI k2)]) C hK hW (c_X6_foretell l g w 1 k2 hk wh al (nI (L 40)) (nI (L 24)) L on bk O A hI hN (by omega) (by omega) hok (by omega) (by omega) hXa hw0 hw1 hw2 hw3 hw4 hG) gX6_sure_X6_foretell rfl ⟨rfl, rfl⟩ (by decide +kernel) ⟨Nat.le_of_ble_eq_true rfl, Nat.le_of_ble_eq_true rfl⟩ ⟨Nat.zero_le _, Nat.zero_le _⟩ rfl (by omega) hXa rfl hl rfl (Nat.le_of_ble_eq_true rfl) dX6_sure_15 (fun w5 H locs q6 hW => ?_)
    obtain ⟨A1_14, h8, h9, h10, h11, h12, f13⟩ := q6
    have h15 : w5 103 = .inl (gJ g, 7, .inr (.inl (cL 7 0 (odF L k2)))) := h11
    have hO := fun f (hf : f < 7) => odF_le (L := L) (n := k2) (f := f) (by omega) hf
    have hp := p10 (k := k2) (by omega)
    refine lv_iconst (v := (nI 0)) C.1 C.2.1 dX6_sure_18 (by decide) ?_
    refine lv_istore_n (lv' := [(2, .int (nI 0)), (0, .ref (gad g 0)), (1, .int (nI k2))]) C.1 C.2.1 dX6_sure_19 rfl hl (by decide) rfl (fun ls hl => ?_)
    refine lv_iconst (v := (nI 0)) C.1 C.2.1 dX6_sure_20 (by decide) ?_
    refine lv_istore_n (lv' := [(3, .int (nI 0)), (2, .int (nI 0)), (0, .ref (gad g 0)), (1, .int (nI k2))]) C.1 C.2.1 dX6_sure_21 rfl hl (by decide) rfl (fun ls hl => ?_)
    have h16 : w5 0 = .inr (6, [.ref (gad g 1), .ref (gad g 34), .ref (gad g 67), .ref (gad g 100), .ref (gad g 106), .ref (gad g 107), .ref (gad g 108), .ref (gad g 110), .int (nI hk)]) := ((f13 0 (by omega)).trans hXa)
    have h17 : XLand g 1 L w5 := (XLand.fr hXl (fun j h1 h2 => f13 j (by omega)))
    have h18 : XKept g hk K w5 := (XKept.fr hXk (fun j h1 h2 => f13 j (by omega)))
    have h19 : XRead g tn T w5 := (XRead.fr hXr (fun j h1 h2 => f13 j (by omega)))
    have h20 : XShs g ln sz Z w5 := (XShs.fr hXs (fun j h1 h2 => f13 j (by omega)))
    have h21 : GAt g 1 (nI (L 40)) (nI (L 24)) L w5 := (GAt.fr hG (fun j h1 h2 => f13 j (by omega)))
    have h22 : CAt g 1 CK w5 := (CAt.fr hC (fun j h1 h2 => f13 j (by omega)))
    have h23 : XTrial g  w5 := (XTrial.fr hXt (fun j h1 h2 => f13 j (by omega)))
    have h24 : w5 105 = .inr (0, [.long (lN sa), .long (lN sb)]) := ((f13 105 (by omega)).trans hw5)
    have h25 : w5 106 = .inr (0, [.long (lN fa), .long (lN fb)]) := ((f13 106 (by omega)).trans hf6)
    have h26 : w5 107 = .inr (0, [.long (lN fc), .long (lN fd)]) := ((f13 107 (by omega)).trans hf7)
    have loop22 : ∀ (kG : Nat) (i : Nat) (H : Heap) (locs : List Loc) (ls : Array Slot), kG = 7 - i → (i ≤ 7) → XW g w5 (gA g) sG.heap H locs → lv_has ls 4 [(3, .int (nI i)), (2, .int (setF (fun f => decide (0 < odF L k2 f)) i)), (0, .ref (gad g 0)), (1, .int (nI k2))] → W pG l eG ({ frames := 6, cells := 0, slots := 0, locals := 130 } : Room) sG mG ([.ref (gad g 0), .int y] : List Value).toArray belowG methG cG H locs 0 0 (MQ belowG (XQi g (fun r w' => XAll g (L, K, hk, tn, T, ln, sz, Z) w' ∧ (∀ j : Nat, ¬ (0 ≤ j ∧ j < 119) → w' j = w j) ∧ r = sureS L y)) ([.ref (gad g 0), .int y] : List Value).toArray sG 0 0 (gA g)) (F0 mG 22 ls []) := by
      intro k22
      induction k22 using Nat.strongRecOn with
      | _ k22 ih22 =>
      intro i H locs ls hk22 hi hW hl
      refine lv_iload_n C.1 C.2.1 dX6_sure_22 rfl (lv_at hl 0 rfl) ?_
      refine lv_bipush (v := (nI 7)) C.1 C.2.1 dX6_sure_23 (by decide) ?_
      refine xge (tgt := 54) C (by omega) (by omega) dX6_sure_25 (by decide) (fun c25 => ?_) (fun c25 => ?_)
      · refine lv_iload_n C.1 C.2.1 dX6_sure_54 rfl (lv_at hl 1 rfl) ?_
        exact xret_i C hr hlk hW ⟨⟨h16, h17, h18, h23, ⟨_, _, _, _, _, _, _, _, h8, h9, h10, h15, h12, h24⟩, ⟨_, _, _, _, h25, h26⟩, h19, h20⟩, (fun j z0 => (f13 j (by omega))), (by rw [sureS, if_pos (c := in9 y) c4, hx_k2, cl_nI (by omega), show i = 7 by omega])⟩ dX6_sure_55
      · have hO1 := hO i (by omega)
        refine lv_aload_n C.1 C.2.1 dX6_sure_28 rfl (lv_at hl 2 rfl) ?_
        refine xget C hK hW hinX6 rfl (by omega) h16 3 (by decide) (List.mem_of_getElem? (i := 2) rfl) rfl dX6_sure_29 ?_
        refine xget C hK hW hinX5 rfl (by omega) h8 3 (by decide) (List.mem_of_getElem? (i := 3) rfl) rfl dX6_sure_32 ?_
        refine lv_iload_n C.1 C.2.1 dX6_sure_35 rfl (lv_at hl 0 rfl) ?_
        refine xlldK0 C hK hW (by omega) h15 (by omega) (by decide) dX6_sure_36 ?_
        refine lv_lconst (v := lN 0) C.1 C.2.1 dX6_sure_37 (by decide) ?_
        refine xLle (tgt := 48) C (by omega) (by omega) dX6_sure_38 dX6_sure_39 (by decide) (fun c38 => ?_) (fun c38 => ?_)
        · have hl : lv_has ls 4 [(3, .int (nI i)), (2, .int (setF (fun f => decide (0 < odF L k2 f)) (i + 1))), (0, .ref (gad g 0)), (1, .int (nI k2))] := by rw [show (setF (fun f => decide (0 < odF L k2 f)) (i + 1)) = (setF (fun f => decide (0 < odF L k2 f)) i) from (setF_n (p := fun f => decide (0 < odF L k2 f)) (fun z => absurd (of_decide_eq_true z) (by omega)))]; exact hl
          refine lv_iinc (v := nI (i + 1)) (lv' := [(3, .int (nI (i + 1))), (2, .int (setF (fun f => decide (0 < odF L k2 f)) (i + 1))), (0, .ref (gad g 0)), (1, .int (nI k2))]) C.1 C.2.1 dX6_sure_48 hl (k := 0) rfl (nI_add _ 1) (by decide) rfl (fun ls hl => ?_)
          refine lv_goto (tgt := 22) C.1 C.2.1 dX6_sure_51 (by decide) ?_
          exact ih22 (7 - (i + 1)) (by omega) (i + 1) _ _ _ rfl (by omega) hW hl
        · refine lv_iload_n C.1 C.2.1 dX6_sure_42 rfl (lv_at hl 1 rfl) ?_
          refine lv_iconst (v := (nI 1)) C.1 C.2.1 dX6_sure_43 (by decide) ?_
          refine lv_iload_n C.1 C.2.1 dX6_sure_44 rfl (lv_at hl 0 rfl) ?_
          refine lv_ishl C.1 C.2.1 dX6_sure_45 ?_
          refine lv_ior C.1 C.2.1 dX6_sure_46 ?_
          refine lv_istore_n (lv' := [(2, .int ((setF (fun f => decide (0 < odF L k2 f)) i) ||| ((nI 1) <<< ((nI i) &&& 31)))), (3, .int (nI i)), (0, .ref (gad g 0)), (1, .int (nI k2))]) C.1 C.2.1 dX6_sure_47 rfl hl (by decide) rfl (fun ls hl => ?_)
          have hl : lv_has ls 4 [(2, .int (setF (fun f => decide (0 < odF L k2 f)) (i + 1))), (3, .int (nI i)), (0, .ref (gad g 0)), (1, .int (nI k2))] := by rw [show (setF (fun f => decide (0 < odF L k2 f)) (i + 1)) = ((setF (fun f => decide (0 < odF L k2 f)) i) ||| ((nI 1) <<< ((nI i) &&& 31))) from (setF_y (p := fun f => decide (0 < odF L k2 f)) (decide_eq_true (by omega)))]; exact hl
          refine lv_iinc (v := nI (i + 1)) (lv' := [(3, .int (nI (i + 1))), (2, .int (setF (fun f => decide (0 < odF L k2 f)) (i + 1))), (0, .ref (gad g 0)), (1, .int (nI k2))]) C.1 C.2.1 dX6_sure_48 hl (k := 1) rfl (nI_add _ 1) (by decide) rfl (fun ls hl => ?_)
          refine lv_goto (tgt := 22) C.1 C.2.1 dX6_sure_51 (by decide) ?_
          exact ih22 (7 - (i + 1)) (by omega) (i + 1) _ _ _ rfl (by omega) hW hl
    exact loop22 _ 0 _ _ _ rfl (by omega) hW hl
  · refine lv_iconst (v := (-1 : Int32)) C.1 C.2.1 dX6_sure_7 (by decide) ?_
    exact xret_i C hr hlk hW ⟨⟨hXa, hXl, hXk, hXt, ⟨_, _, _, _, _, _, _, _, hw0, hw1, hw2, hw3, hw4, hw5⟩, ⟨_, _, _, _, hf6, hf7⟩, hXr, hXs⟩, (fun j z0 => rfl), (by rw [sureS, if_neg (c := in9 y) (fun h => c4 h)])⟩ dX6_sure_8

set_option maxHeartbeats 4000000 in
set_option maxRecDepth 100000 in
theorem c_X6_mean (l : Launch) (g : GE) (w : Nat → va_E) (L K T ln sz : Nat → Nat) (hk tn : Nat) (Z : Nat → Int64) (x : Int32) (z : Int32) (hI : AdInj g) (hN : gN g = 130) (hS : OkS (L, K, hk, tn, T, ln, sz, Z)) (pr0 : XAll g (L, K, hk, tn, T, ln, sz, Z) w) : Met l yX6_mean wsX6_mean ({ frames := 4, cells := 0, slots := 0, locals := 97 } : Room) (XPc g w [.ref (gad g 0), .int x, .int z]) (XQl g (fun r w' => XAll g (L, K, hk, tn, T, ln, sz, Z) w' ∧ (∀ j : Nat, ¬ (0 ≤ j ∧ j < 119) → w' j = w j) ∧ r = meanS L x z)) 0 0 (gA g) := by
  refine xmet (cc := cX6_mean) (maxL := 3) (ret := (some .long)) (by decide) rfl hI (Nat.le_of_ble_eq_true rfl) ?_
  intro pG eG sG mG belowG methG cG ls C hr hlk hK hW hl
  have hl : lv_has ls 3 [(0, .ref (gad g 0)), (1, .int x), (2, .int z)] := hl
  have hinX1 : ∀ x ∈ u_ws RX1 TX1 8, x ∈ wsX6_mean := by decide +kernel
  have hinX2 : ∀ x ∈ u_ws RX2 TX2 5, x ∈ wsX6_mean := by decide +kernel
  have hinX6 : ∀ x ∈ u_ws RX6 TX6 9, x ∈ wsX6_mean := by decide +kernel
  obtain ⟨hXa, hXl, hXk, hXt, hXw, hXf, hXr, hXs⟩ := pr0
  have hXa : w 0 = cX0 g hk := hXa
  have hXl : XLand g 1 L w := hXl
  have hXk : XKept g hk K w := hXk
  have hXr : XRead g tn T w := hXr
  have hXs : XShs g ln sz Z w := hXs
  have hokL : OkL L := hS.1
  obtain ⟨hok, hs2, hdy, hdr, hcl, hkn, hcs, hps⟩ := hokL
  obtain ⟨π, P, CK, hG, hC, hCk, hPa, hPm, hPk⟩ := id hXl
  obtain ⟨wh, al, sa, sb, on, bk, O, A, hw0, hw1, hw2, hw3, hw4, hw5⟩ := hXw
  obtain ⟨fa, fb, fc, fd, hf6, hf7⟩ := hXf
  refine lv_aload_n C.1 C.2.1 dX6_mean_0 rfl (lv_at hl 0 rfl) ?_
  refine lv_iload_n C.1 C.2.1 dX6_mean_1 rfl (lv_at hl 1 rfl) ?_
  refine xcV_i (n := 1) (As := [.int x]) C hK hW (c_X6_isAhead l g w x hk (nI (L 40)) (nI (L 24)) L hI hN hXa hG) gX6_mean_X6_isAhead rfl ⟨rfl, rfl⟩ (by decide +kernel) ⟨Nat.le_of_ble_eq_true rfl, Nat.le_of_ble_eq_true rfl⟩ ⟨Nat.zero_le _, Nat.zero_le _⟩ rfl (by omega) hXa rfl hl rfl (Nat.le_of_ble_eq_true rfl) dX6_mean_2 (fun r3 w1 H locs q2 hW => ?_)
  obtain ⟨qw4, rfl⟩ := q2
  rw [qw4] at hW
  refine xBeq (tgt := 17) C dX6_mean_5 (by decide) (fun c5 => ?_) (fun c5 => ?_)
  · refine lv_ldc2 (v := (-1 : Int64)) C.1 C.2.1 C.2.2.2.1 (C.2.2.2.2 _ (List.mem_of_getElem? (i := 1) rfl)) dX6_mean_17 ?_
    exact xret_l C hr hlk hW ⟨⟨hXa, hXl, hXk, hXt, ⟨_, _, _, _, _, _, _, _, hw0, hw1, hw2, hw3, hw4, hw5⟩, ⟨_, _, _, _, hf6, hf7⟩, hXr, hXs⟩, (fun j z0 => rfl), (by rw [meanS, if_neg (c := inR x (nI (L 2)) (nI 6) ∧ inR z (nI 0) (nI 1)) (fun h => c5 h.1)])⟩ dX6_mean_20
  · obtain ⟨k1, ha_k1, hb_k1, hx_k1⟩ := inR_N (by omega) (by omega) c5
    rw [hx_k1] at hl
    refine lv_iload_n C.1 C.2.1 dX6_mean_8 rfl (lv_at hl 2 rfl) ?_
    refine lv_iconst (v := (nI 0)) C.1 C.2.1 dX6_mean_9 (by decide) ?_
    refine lv_iconst (v := (nI 1)) C.1 C.2.1 dX6_mean_10 (by decide) ?_
    refine xcS_i (n := 3) (As := [.int z, .int (nI 0), .int (nI 1)]) C hK hW (c_X6_isWithin l g w z (nI 0) (nI 1) hI hN) gX6_mean_X6_isWithin rfl ⟨rfl, rfl⟩ (by decide +kernel) ⟨Nat.le_of_ble_eq_true rfl, Nat.le_of_ble_eq_true rfl⟩ ⟨Nat.zero_le _, Nat.zero_le _⟩ rfl hl rfl (Nat.le_of_ble_eq_true rfl) dX6_mean_11 (fun r7 w5 H locs q6 hW => ?_)
    obtain ⟨qw8, rfl⟩ := q6
    rw [qw8] at hW
    refine xBne (tgt := 21) C dX6_mean_14 (by decide) (fun c14 => ?_) (fun c14 => ?_)
    · obtain ⟨k3, ha_k3, hb_k3, hx_k3⟩ := inR_N (by omega) (by omega) c14
      rw [hx_k3] at hl
      refine lv_aload_n C.1 C.2.1 dX6_mean_21 rfl (lv_at hl 0 rfl) ?_
      refine xget C hK hW hinX6 rfl (by omega) hXa 3 (by decide) (List.mem_of_getElem? (i := 2) rfl) rfl dX6_mean_22 ?_
      refine lv_aload_n C.1 C.2.1 dX6_mean_25 rfl (lv_at hl 0 rfl) ?_
      refine xget C hK hW hinX6 rfl (by omega) hXa 0 (by decide) (List.mem_of_getElem? (i := 3) rfl) rfl dX6_mean_26 ?_
      refine xcV_v (n := 1) (As := [.ref (gad g 1)]) C hK hW (c_X5_learn l g w 1 wh al (nI (L 40)) (nI (L 24)) L on bk hI hN (by omega) hok hw0 hw1 hw2 hG) gX6_mean_X5_learn rfl ⟨rfl, rfl⟩ (by decide +kernel) ⟨Nat.le_of_ble_eq_true rfl, Nat.le_of_ble_eq_true rfl⟩ ⟨Nat.zero_le _, Nat.zero_le _⟩ rfl (by omega) hw0 rfl hl rfl (Nat.le_of_ble_eq_true rfl) dX6_mean_29 (fun w9 H locs q10 hW => ?_)
      obtain ⟨h12, h13, h14, f15⟩ := q10
      refine lv_aload_n C.1 C.2.1 dX6_mean_32 rfl (lv_at hl 0 rfl) ?_
      have h16 : w9 0 = .inr (6, [.ref (gad g 1), .ref (gad g 34), .ref (gad g 67), .ref (gad g 100), .ref (gad g 106), .ref (gad g 107), .ref (gad g 108), .ref (gad g 110), .int (nI hk)]) := ((f15 0 (by omega)).trans hXa)
      refine xget C hK hW hinX6 rfl (by omega) h16 3 (by decide) (List.mem_of_getElem? (i := 2) rfl) rfl dX6_mean_33 ?_
      refine lv_aload_n C.1 C.2.1 dX6_mean_36 rfl (lv_at hl 0 rfl) ?_
      refine xget C hK hW hinX6 rfl (by omega) h16 0 (by decide) (List.mem_of_getElem? (i := 3) rfl) rfl dX6_mean_37 ?_
      have h17 : GAt g 1 (nI (L 40)) (nI (L 24)) L w9 := (GAt.fr hG (fun j h1 h2 => f15 j (by omega)))
      refine xget C hK hW hinX1 rfl (by omega) h17.1 1 (by decide) (List.mem_of_getElem? (i := 4) rfl) rfl dX6_mean_40 ?_
      refine xget C hK hW hinX2 rfl (by omega) h17.2.2.1 0 (by decide) (List.mem_of_getElem? (i := 5) rfl) rfl dX6_mean_43 ?_
      refine lv_iload_n C.1 C.2.1 dX6_mean_46 rfl (lv_at hl 1 rfl) ?_
      refine lv_aload_n C.1 C.2.1 dX6_mean_47 rfl (lv_at hl 0 rfl) ?_
      refine xget C hK hW hinX6 rfl (by omega) h16 4 (by decide) (List.mem_of_getElem? (i := 6) rfl) rfl dX6_mean_48 ?_
      have h18 : w9 105 = .inr (0, [.long (lN sa), .long (lN sb)]) := ((f15 105 (by omega)).trans hw5)
      have h19 : w9 106 = .inr (0, [.long (lN fa), .long (lN fb)]) := ((f15 106 (by omega)).trans hf6)
      refine xcV_v (n := 3) (As := [.int (nI (L 2)), .int (nI k1), .ref (gad g 106)]) C hK hW (c_X5_average l g w9 (L 2) k1 106 al (onF L) (backF L) (lN sa) (lN sb) (lN fa) (lN fb) hI hN (by omega) (by omega) (by omega) (by omega) (onF_9 hok) (backF_4 hok) h12 h13 h14 h18 h19) gX6_mean_X5_average rfl ⟨rfl, rfl⟩ (by decide +kernel) ⟨Nat.le_of_ble_eq_true rfl, Nat.le_of_ble_eq_true rfl⟩ ⟨Nat.zero_le _, Nat.zero_le _⟩ rfl (by omega) h12 rfl hl rfl (Nat.le_of_ble_eq_true rfl) dX6_mean_51 (fun w20 H locs q21 hW => ?_)
      obtain ⟨u1_26, v1_27, h23, h24, f25⟩ := q21
      refine lv_aload_n C.1 C.2.1 dX6_mean_54 rfl (lv_at hl 0 rfl) ?_
      have h28 : w20 0 = .inr (6, [.ref (gad g 1), .ref (gad g 34), .ref (gad g 67), .ref (gad g 100), .ref (gad g 106), .ref (gad g 107), .ref (gad g 108), .ref (gad g 110), .int (nI hk)]) := ((f25 0 (by omega) (by omega)).trans h16)
      refine xget C hK hW hinX6 rfl (by omega) h28 4 (by decide) (List.mem_of_getElem? (i := 6) rfl) rfl dX6_mean_55 ?_
      refine lv_iload_n C.1 C.2.1 dX6_mean_58 rfl (lv_at hl 2 rfl) ?_
      refine xcV_l (n := 1) (As := [.int (nI k3)]) C hK hW (c_X0_told l g w20 106 k3 (redU (mS (onF L) (backF L) (L 2) k1) (mP (onF L) k1)) (redD (mS (onF L) (backF L) (L 2) k1) (mP (onF L) k1)) hI hN (by omega) (by omega) h23) gX6_mean_X0_told rfl ⟨rfl, rfl⟩ (by decide +kernel) ⟨Nat.le_of_ble_eq_true rfl, Nat.le_of_ble_eq_true rfl⟩ ⟨Nat.zero_le _, Nat.zero_le _⟩ rfl (by omega) h23 rfl hl rfl (Nat.le_of_ble_eq_true rfl) dX6_mean_59 (fun r31 w29 H locs q30 hW => ?_)
      obtain ⟨qw32, rfl⟩ := q30
      rw [qw32] at hW
      have h33 : XLand g 1 L w20 := (XLand.fr (XLand.fr hXl (fun j h1 h2 => f15 j (by omega))) (fun j h1 h2 => f25 j (by omega) (by omega)))
      have h34 : XKept g hk K w20 := (XKept.fr (XKept.fr hXk (fun j h1 h2 => f15 j (by omega))) (fun j h1 h2 => f25 j (by omega) (by omega)))
      have h35 : XTrial g  w20 := (XTrial.fr (XTrial.fr hXt (fun j h1 h2 => f15 j (by omega))) (fun j h1 h2 => f25 j (by omega) (by omega)))
      have h36 : w20 100 = .inr (5, [.ref (gad g 101), .ref (gad g 102), .int (nI 10), .ref (gad g 103), .ref (gad g 104), .long (lN al), .ref (gad g 105)]) := ((f25 100 (by omega) (by omega)).trans h12)
      have h37 : w20 101 = .inl (gI g, 7, .inl (cK 7 0 (onF L))) := ((f25 101 (by omega) (by omega)).trans h13)
      have h38 : w20 102 = .inl (gI g, 7, .inl (cK 7 0 (backF L))) := ((f25 102 (by omega) (by omega)).trans h14)
      have h39 : w20 103 = .inl (gJ g, 7, .inr (.inl (cL 7 0 O))) := ((f25 103 (by omega) (by omega)).trans ((f15 103 (by omega)).trans hw3))
      have h40 : w20 104 = .inl (gJ g, 7, .inr (.inl (cL 7 0 A))) := ((f25 104 (by omega) (by omega)).trans ((f15 104 (by omega)).trans hw4))
      have h41 : w20 107 = .inr (0, [.long (lN fc), .long (lN fd)]) := ((f25 107 (by omega) (by omega)).trans ((f15 107 (by omega)).trans hf7))
      have h42 : XRead g tn T w20 := (XRead.fr (XRead.fr hXr (fun j h1 h2 => f15 j (by omega))) (fun j h1 h2 => f25 j (by omega) (by omega)))
      have h43 : XShs g ln sz Z w20 := (XShs.fr (XShs.fr hXs (fun j h1 h2 => f15 j (by omega))) (fun j h1 h2 => f25 j (by omega) (by omega)))
      exact xret_l C hr hlk hW ⟨⟨h28, h33, h34, h35, ⟨_, _, _, _, _, _, _, _, h36, h37, h38, h39, h40, h24⟩, ⟨_, _, _, _, h23, h41⟩, h42, h43⟩, (fun j z0 => ((f25 j (by omega) (by omega)).trans (f15 j (by omega)))), (by rw [meanS, if_pos (c := inR x (nI (L 2)) (nI 6) ∧ inR z (nI 0) (nI 1)) ⟨c5, c14⟩, hx_k1, hx_k3, cl_nI (by omega), cl_nI (by omega)]; rfl)⟩ dX6_mean_62
    · refine lv_ldc2 (v := (-1 : Int64)) C.1 C.2.1 C.2.2.2.1 (C.2.2.2.2 _ (List.mem_of_getElem? (i := 1) rfl)) dX6_mean_17 ?_
      exact xret_l C hr hlk hW ⟨⟨hXa, hXl, hXk, hXt, ⟨_, _, _, _, _, _, _, _, hw0, hw1, hw2, hw3, hw4, hw5⟩, ⟨_, _, _, _, hf6, hf7⟩, hXr, hXs⟩, (fun j z0 => rfl), (by rw [meanS, if_neg (c := inR x (nI (L 2)) (nI 6) ∧ inR z (nI 0) (nI 1)) (fun h => c14 h.2)])⟩ dX6_mean_20
