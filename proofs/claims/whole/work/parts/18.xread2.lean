set_option maxHeartbeats 4000000 in
set_option maxRecDepth 100000 in
theorem c_X6_right (l : Launch) (g : GE) (w : Nat → va_E) (L K T ln sz : Nat → Nat) (hk tn : Nat) (Z : Nat → Int64) (x : Int32) (y : Int32) (z : Int32) (hI : AdInj g) (hN : gN g = 130) (hS : OkS (L, K, hk, tn, T, ln, sz, Z)) (pr0 : XAll g (L, K, hk, tn, T, ln, sz, Z) w) : Met l yX6_right wsX6_right ({ frames := 6, cells := 0, slots := 0, locals := 130 } : Room) (XPc g w [.ref (gad g 0), .int x, .int y, .int z]) (XQi g (fun r w' => XAll g (L, K, hk, tn, T, ln, sz, Z) w' ∧ (∀ j : Nat, ¬ (0 ≤ j ∧ j < 119) → w' j = w j) ∧ r = rightS L x y z)) 0 0 (gA g) := by
  refine xmet (cc := cX6_right) (maxL := 7) (ret := (some .int)) (by decide) rfl hI (Nat.le_of_ble_eq_true rfl) ?_
  intro pG eG sG mG belowG methG cG ls C hr hlk hK hW hl
  have hl : lv_has ls 7 [(0, .ref (gad g 0)), (1, .int x), (2, .int y), (3, .int z)] := hl
  have hinX1 : ∀ x ∈ u_ws RX1 TX1 8, x ∈ wsX6_right := by decide +kernel
  have hinX5 : ∀ x ∈ u_ws RX5 TX5 7, x ∈ wsX6_right := by decide +kernel
  have hinX6 : ∀ x ∈ u_ws RX6 TX6 9, x ∈ wsX6_right := by decide +kernel
  obtain ⟨hXa, hXl, hXk, hXt, hXw, hXf, hXr, hXs⟩ := pr0
  have hXa : w 0 = cX0 g hk := hXa
  have hXl : XLand g 1 L w := hXl
  have hXk : XKept g hk K w := hXk
  have hXr : XRead g tn T w := hXr
  have hXs : XShs g ln sz Z w := hXs
  have hokL : OkL L := hS.1
  obtain ⟨hok, hs2, hdy, hdr, hcl, hkn, hcs, hps⟩ := hokL
  obtain ⟨π, P, CK, hG, hC, hCk, hPa, hPm, hPk⟩ := id hXl
  obtain ⟨wh, al, sa, sb, on, bk, O, A, hw0, hw1, hw2, hw3, hw4, hw5⟩ := hXw
  obtain ⟨fa, fb, fc, fd, hf6, hf7⟩ := hXf
  refine lv_aload_n C.1 C.2.1 dX6_right_0 rfl (lv_at hl 0 rfl) ?_
  refine lv_iload_n C.1 C.2.1 dX6_right_1 rfl (lv_at hl 1 rfl) ?_
  refine xcV_i (n := 1) (As := [.int x]) C hK hW (c_X6_isClaim l g w x hk (L 24) (nI (L 40)) L hI hN hXa hG) gX6_right_X6_isClaim rfl ⟨rfl, rfl⟩ (by decide +kernel) ⟨Nat.le_of_ble_eq_true rfl, Nat.le_of_ble_eq_true rfl⟩ ⟨Nat.zero_le _, Nat.zero_le _⟩ rfl (by omega) hXa rfl hl rfl (Nat.le_of_ble_eq_true rfl) dX6_right_2 (fun r3 w1 H locs q2 hW => ?_)
  obtain ⟨qw4, rfl⟩ := q2
  rw [qw4] at hW
  refine xBeq (tgt := 24) C dX6_right_5 (by decide) (fun c5 => ?_) (fun c5 => ?_)
  · refine lv_iconst (v := (-1 : Int32)) C.1 C.2.1 dX6_right_24 (by decide) ?_
    exact xret_i C hr hlk hW ⟨⟨hXa, hXl, hXk, hXt, ⟨_, _, _, _, _, _, _, _, hw0, hw1, hw2, hw3, hw4, hw5⟩, ⟨_, _, _, _, hf6, hf7⟩, hXr, hXs⟩, (fun j z0 => rfl), (by rw [rightS, if_neg (c := inR x (nI 0) (nI (L 24) - nI 1) ∧ in9 y ∧ inR z (nI 0) (nI 2)) (fun h => c5 h.1)])⟩ dX6_right_25
  · obtain ⟨k1, hb_k1, hx_k1⟩ := inR_claim hcl c5
    rw [hx_k1] at hl
    refine lv_iload_n C.1 C.2.1 dX6_right_8 rfl (lv_at hl 2 rfl) ?_
    refine xcS_i (n := 1) (As := [.int y]) C hK hW (c_X6_isForetold l g w y hI hN) gX6_right_X6_isForetold rfl ⟨rfl, rfl⟩ (by decide +kernel) ⟨Nat.le_of_ble_eq_true rfl, Nat.le_of_ble_eq_true rfl⟩ ⟨Nat.zero_le _, Nat.zero_le _⟩ rfl hl rfl (Nat.le_of_ble_eq_true rfl) dX6_right_9 (fun r7 w5 H locs q6 hW => ?_)
    obtain ⟨qw8, rfl⟩ := q6
    rw [qw8] at hW
    refine xBeq (tgt := 24) C dX6_right_12 (by decide) (fun c12 => ?_) (fun c12 => ?_)
    · refine lv_iconst (v := (-1 : Int32)) C.1 C.2.1 dX6_right_24 (by decide) ?_
      exact xret_i C hr hlk hW ⟨⟨hXa, hXl, hXk, hXt, ⟨_, _, _, _, _, _, _, _, hw0, hw1, hw2, hw3, hw4, hw5⟩, ⟨_, _, _, _, hf6, hf7⟩, hXr, hXs⟩, (fun j z0 => rfl), (by rw [rightS, if_neg (c := inR x (nI 0) (nI (L 24) - nI 1) ∧ in9 y ∧ inR z (nI 0) (nI 2)) (fun h => c12 h.2.1)])⟩ dX6_right_25
    · obtain ⟨k2, ha_k2, hb_k2, hx_k2⟩ := inR_N (by omega) (by omega) c12
      rw [hx_k2] at hl
      refine lv_iload_n C.1 C.2.1 dX6_right_15 rfl (lv_at hl 3 rfl) ?_
      refine lv_iconst (v := (nI 0)) C.1 C.2.1 dX6_right_16 (by decide) ?_
      refine lv_iconst (v := (nI 2)) C.1 C.2.1 dX6_right_17 (by decide) ?_
      refine xcS_i (n := 3) (As := [.int z, .int (nI 0), .int (nI 2)]) C hK hW (c_X6_isWithin l g w z (nI 0) (nI 2) hI hN) gX6_right_X6_isWithin rfl ⟨rfl, rfl⟩ (by decide +kernel) ⟨Nat.le_of_ble_eq_true rfl, Nat.le_of_ble_eq_true rfl⟩ ⟨Nat.zero_le _, Nat.zero_le _⟩ rfl hl rfl (Nat.le_of_ble_eq_true rfl) dX6_right_18 (fun r11 w9 H locs q10 hW => ?_)
      obtain ⟨qw12, rfl⟩ := q10
      rw [qw12] at hW
      refine xBne (tgt := 26) C dX6_right_21 (by decide) (fun c21 => ?_) (fun c21 => ?_)
      · obtain ⟨k3, ha_k3, hb_k3, hx_k3⟩ := inR_N (by omega) (by omega) c21
        rw [hx_k3] at hl
        refine lv_aload_n C.1 C.2.1 dX6_right_26 rfl (lv_at hl 0 rfl) ?_
        refine lv_aload_n C.1 C.2.1 dX6_right_27 rfl (lv_at hl 0 rfl) ?_
        refine xget C hK hW hinX6 rfl (by omega) hXa 0 (by decide) (List.mem_of_getElem? (i := 1) rfl) rfl dX6_right_28 ?_
        refine lv_iload_n C.1 C.2.1 dX6_right_31 rfl (lv_at hl 2 rfl) ?_
        refine xcV_v (n := 2) (As := [.ref (gad g 1), .int (nI k2)]) C hK hW (c_X6_foretell l g w 1 k2 hk wh al (nI (L 40)) (nI (L 24)) L on bk O A hI hN (by omega) (by omega) hok (by omega) (by omega) hXa hw0 hw1 hw2 hw3 hw4 hG) gX6_right_X6_foretell rfl ⟨rfl, rfl⟩ (by decide +kernel) ⟨Nat.le_of_ble_eq_true rfl, Nat.le_of_ble_eq_true rfl⟩ ⟨Nat.zero_le _, Nat.zero_le _⟩ rfl (by omega) hXa rfl hl rfl (Nat.le_of_ble_eq_true rfl) dX6_right_32 (fun w13 H locs q14 hW => ?_)
        obtain ⟨A1_22, h16, h17, h18, h19, h20, f21⟩ := q14
        have h23 : w13 103 = .inl (gJ g, 7, .inr (.inl (cL 7 0 (odF L k2)))) := h19
        have hO := fun f (hf : f < 7) => odF_le (L := L) (n := k2) (f := f) (by omega) hf
        have hp := p10 (k := k2) (by omega)
        have hc1 := hcs k1 (by omega)
        have hc2 := hCk k1 (by omega)
        refine lv_lconst (v := lN 0) C.1 C.2.1 dX6_right_35 (by decide) ?_
        refine lv_lstore (lv' := [(4, .long (lN 0)), (0, .ref (gad g 0)), (1, .int (nI k1)), (2, .int (nI k2)), (3, .int (nI k3))]) C.1 C.2.1 dX6_right_36 hl (by decide) rfl (fun ls hl => ?_)
        refine lv_aload_n C.1 C.2.1 dX6_right_38 rfl (lv_at hl 1 rfl) ?_
        have h24 : w13 0 = .inr (6, [.ref (gad g 1), .ref (gad g 34), .ref (gad g 67), .ref (gad g 100), .ref (gad g 106), .ref (gad g 107), .ref (gad g 108), .ref (gad g 110), .int (nI hk)]) := ((f21 0 (by omega)).trans hXa)
        refine xget C hK hW hinX6 rfl (by omega) h24 0 (by decide) (List.mem_of_getElem? (i := 1) rfl) rfl dX6_right_39 ?_
        have h25 : GAt g 1 (nI (L 40)) (nI (L 24)) L w13 := (GAt.fr hG (fun j h1 h2 => f21 j (by omega)))
        refine xget C hK hW hinX1 rfl (by omega) h25.1 4 (by decide) (List.mem_of_getElem? (i := 2) rfl) rfl dX6_right_42 ?_
        refine lv_iload_n C.1 C.2.1 dX6_right_45 rfl (lv_at hl 2 rfl) ?_
        have h26 : CAt g 1 CK w13 := (CAt.fr hC (fun j h1 h2 => f21 j (by omega)))
        refine xildK C hK hW (by omega) h26.1 (by omega) (by decide) dX6_right_46 ?_
        refine xtopN (b := L (25 + k1)) hc2.1 ?_
        refine lv_istore (lv' := [(6, .int (nI (L (25 + k1)))), (4, .long (lN 0)), (0, .ref (gad g 0)), (1, .int (nI k1)), (2, .int (nI k2)), (3, .int (nI k3))]) C.1 C.2.1 dX6_right_47 hl (by decide) rfl (fun ls hl => ?_)
        have h27 : XLand g 1 L w13 := (XLand.fr hXl (fun j h1 h2 => f21 j (by omega)))
        have h28 : XKept g hk K w13 := (XKept.fr hXk (fun j h1 h2 => f21 j (by omega)))
        have h29 : XRead g tn T w13 := (XRead.fr hXr (fun j h1 h2 => f21 j (by omega)))
        have h30 : XShs g ln sz Z w13 := (XShs.fr hXs (fun j h1 h2 => f21 j (by omega)))
        have h31 : XTrial g  w13 := (XTrial.fr hXt (fun j h1 h2 => f21 j (by omega)))
        have h32 : w13 105 = .inr (0, [.long (lN sa), .long (lN sb)]) := ((f21 105 (by omega)).trans hw5)
        have h33 : w13 106 = .inr (0, [.long (lN fa), .long (lN fb)]) := ((f21 106 (by omega)).trans hf6)
        have h34 : w13 107 = .inr (0, [.long (lN fc), .long (lN fd)]) := ((f21 107 (by omega)).trans hf7)
        have loop49 : ∀ (kG : Nat) (j : Nat) (H : Heap) (locs : List Loc) (ls : Array Slot), kG = L (30 + k1) + 1 - (L (25 + k1) + j) → (j ≤ L (30 + k1) + 1 - L (25 + k1)) → XW g w13 (gA g) sG.heap H locs → lv_has ls 7 [(6, .int (nI (L (25 + k1) + j))), (4, .long (lN (sumO (odF L k2) (L (25 + k1)) j))), (0, .ref (gad g 0)), (1, .int (nI k1)), (2, .int (nI k2)), (3, .int (nI k3))] → W pG l eG ({ frames := 6, cells := 0, slots := 0, locals := 130 } : Room) sG mG ([.ref (gad g 0), .int x, .int y, .int z] : List Value).toArray belowG methG cG H locs 0 0 (MQ belowG (XQi g (fun r w' => XAll g (L, K, hk, tn, T, ln, sz, Z) w' ∧ (∀ j : Nat, ¬ (0 ≤ j ∧ j < 119) → w' j = w j) ∧ r = rightS L x y z)) ([.ref (gad g 0), .int x, .int y, .int z] : List Value).toArray sG 0 0 (gA g)) (F0 mG 49 ls []) := by
          intro k49
          induction k49 using Nat.strongRecOn with
          | _ k49 ih49 =>
          intro j H locs ls hk49 hj hW hl
          refine lv_iload C.1 C.2.1 dX6_right_49 (lv_at hl 0 rfl) ?_
          refine lv_aload_n C.1 C.2.1 dX6_right_51 rfl (lv_at hl 2 rfl) ?_
          refine xget C hK hW hinX6 rfl (by omega) h24 0 (by decide) (List.mem_of_getElem? (i := 1) rfl) rfl dX6_right_52 ?_
          refine xget C hK hW hinX1 rfl (by omega) h25.1 5 (by decide) (List.mem_of_getElem? (i := 3) rfl) rfl dX6_right_55 ?_
          refine lv_iload_n C.1 C.2.1 dX6_right_58 rfl (lv_at hl 3 rfl) ?_
          refine xildK C hK hW (by omega) h26.2.1 (by omega) (by decide) dX6_right_59 ?_
          refine xtopN (b := L (30 + k1)) hc2.2.1 ?_
          refine xgt (tgt := 84) C (by omega) (by omega) dX6_right_60 (by decide) (fun c60 => ?_) (fun c60 => ?_)
          · have hsu := sumO_le (O := odF L k2) (a := L (25 + k1)) (n := j) (by omega) hO
            refine lv_aload_n C.1 C.2.1 dX6_right_84 rfl (lv_at hl 2 rfl) ?_
            refine xget C hK hW hinX6 rfl (by omega) h24 4 (by decide) (List.mem_of_getElem? (i := 6) rfl) rfl dX6_right_85 ?_
            refine lv_lload C.1 C.2.1 dX6_right_88 (lv_at hl 1 rfl) ?_
            refine lv_aload_n C.1 C.2.1 dX6_right_90 rfl (lv_at hl 2 rfl) ?_
            refine xget C hK hW hinX6 rfl (by omega) h24 3 (by decide) (List.mem_of_getElem? (i := 4) rfl) rfl dX6_right_91 ?_
            refine xget C hK hW hinX5 rfl (by omega) h16 5 (by decide) (List.mem_of_getElem? (i := 7) rfl) rfl dX6_right_94 ?_
            refine xcV_v (n := 2) (As := [.long (lN (sumO (odF L k2) (L (25 + k1)) j)), .long (lN (10 ^ k2))]) C hK hW (c_X0_become l g w13 106 (sumO (odF L k2) (L (25 + k1)) j) (10 ^ k2) (lN fa) (lN fb) hI hN (by omega) (by omega) (by omega) (by omega) h33) gX6_right_X0_become rfl ⟨rfl, rfl⟩ (by decide +kernel) ⟨Nat.le_of_ble_eq_true rfl, Nat.le_of_ble_eq_true rfl⟩ ⟨Nat.zero_le _, Nat.zero_le _⟩ rfl (by omega) h33 rfl hl rfl (Nat.le_of_ble_eq_true rfl) dX6_right_97 (fun w35 H locs q36 hW => ?_)
            obtain ⟨h38, f39⟩ := q36
            refine lv_iload_n C.1 C.2.1 dX6_right_100 rfl (lv_at hl 5 rfl) ?_
            refine lv_iconst (v := (nI 2)) C.1 C.2.1 dX6_right_101 (by decide) ?_
            refine xne (tgt := 125) C (by omega) (by omega) dX6_right_102 (by decide) (fun c102 => ?_) (fun c102 => ?_)
            · refine lv_aload_n C.1 C.2.1 dX6_right_125 rfl (lv_at hl 2 rfl) ?_
              have h40 : w35 0 = .inr (6, [.ref (gad g 1), .ref (gad g 34), .ref (gad g 67), .ref (gad g 100), .ref (gad g 106), .ref (gad g 107), .ref (gad g 108), .ref (gad g 110), .int (nI hk)]) := ((f39 0 (by omega)).trans h24)
              refine xget C hK hW hinX6 rfl (by omega) h40 4 (by decide) (List.mem_of_getElem? (i := 6) rfl) rfl dX6_right_126 ?_
              refine lv_iload_n C.1 C.2.1 dX6_right_129 rfl (lv_at hl 5 rfl) ?_
              refine xcV_l (n := 1) (As := [.int (nI k3)]) C hK hW (c_X0_told l g w35 106 k3 (redU (sumO (odF L k2) (L (25 + k1)) j) (10 ^ k2)) (redD (sumO (odF L k2) (L (25 + k1)) j) (10 ^ k2)) hI hN (by omega) (by omega) h38) gX6_right_X0_told rfl ⟨rfl, rfl⟩ (by decide +kernel) ⟨Nat.le_of_ble_eq_true rfl, Nat.le_of_ble_eq_true rfl⟩ ⟨Nat.zero_le _, Nat.zero_le _⟩ rfl (by omega) h38 rfl hl rfl (Nat.le_of_ble_eq_true rfl) dX6_right_130 (fun r43 w41 H locs q42 hW => ?_)
              obtain ⟨qw44, rfl⟩ := q42
              rw [qw44] at hW
              refine xl2i C dX6_right_133 ?_
              have h45 : XLand g 1 L w35 := (XLand.fr h27 (fun j h1 h2 => f39 j (by omega)))
              have h46 : XKept g hk K w35 := (XKept.fr h28 (fun j h1 h2 => f39 j (by omega)))
              have h47 : XTrial g  w35 := (XTrial.fr h31 (fun j h1 h2 => f39 j (by omega)))
              have h48 : w35 100 = .inr (5, [.ref (gad g 101), .ref (gad g 102), .int (nI 10), .ref (gad g 103), .ref (gad g 104), .long (lN (10 ^ k2)), .ref (gad g 105)]) := ((f39 100 (by omega)).trans h16)
              have h49 : w35 101 = .inl (gI g, 7, .inl (cK 7 0 (onF L))) := ((f39 101 (by omega)).trans h17)
              have h50 : w35 102 = .inl (gI g, 7, .inl (cK 7 0 (backF L))) := ((f39 102 (by omega)).trans h18)
              have h51 : w35 103 = .inl (gJ g, 7, .inr (.inl (cL 7 0 (odF L k2)))) := ((f39 103 (by omega)).trans h23)
              have h52 : w35 104 = .inl (gJ g, 7, .inr (.inl (cL 7 0 A1_22))) := ((f39 104 (by omega)).trans h20)
              have h53 : w35 105 = .inr (0, [.long (lN sa), .long (lN sb)]) := ((f39 105 (by omega)).trans h32)
              have h54 : w35 107 = .inr (0, [.long (lN fc), .long (lN fd)]) := ((f39 107 (by omega)).trans h34)
              have h55 : XRead g tn T w35 := (XRead.fr h29 (fun j h1 h2 => f39 j (by omega)))
              have h56 : XShs g ln sz Z w35 := (XShs.fr h30 (fun j h1 h2 => f39 j (by omega)))
              exact xret_i C hr hlk hW ⟨⟨h40, h45, h46, h47, ⟨_, _, _, _, _, _, _, _, h48, h49, h50, h51, h52, h53⟩, ⟨_, _, _, _, h38, h54⟩, h55, h56⟩, (fun j z0 => ((f39 j (by omega)).trans (f21 j (by omega)))), (by rw [rightS, if_pos (c := inR x (nI 0) (nI (L 24) - nI 1) ∧ in9 y ∧ inR z (nI 0) (nI 2)) ⟨c5, c12, c21⟩, hx_k1, hx_k2, hx_k3, cl_nI (by omega), cl_nI (by omega), cl_nI (by omega), rightN, if_neg c102, show L (30 + k1) + 1 - L (25 + k1) = j by omega])⟩ dX6_right_134
            · have hru := redU_le (sumO (odF L k2) (L (25 + k1)) j) (10 ^ k2)
              have hrd := redD_le (sumO (odF L k2) (L (25 + k1)) j) (10 ^ k2)
              have hrp := redD_pos (a := sumO (odF L k2) (L (25 + k1)) j) hp.1
              have hmm : L (35 + k1) * redU (sumO (odF L k2) (L (25 + k1)) j) (10 ^ k2) ≤ 99 * 7000000000 := Nat.mul_le_mul (by omega) (by omega)
              refine lv_aload_n C.1 C.2.1 dX6_right_105 rfl (lv_at hl 2 rfl) ?_
              have h57 : w35 0 = .inr (6, [.ref (gad g 1), .ref (gad g 34), .ref (gad g 67), .ref (gad g 100), .ref (gad g 106), .ref (gad g 107), .ref (gad g 108), .ref (gad g 110), .int (nI hk)]) := ((f39 0 (by omega)).trans h24)
              refine xget C hK hW hinX6 rfl (by omega) h57 4 (by decide) (List.mem_of_getElem? (i := 6) rfl) rfl dX6_right_106 ?_
              refine lv_aload_n C.1 C.2.1 dX6_right_109 rfl (lv_at hl 2 rfl) ?_
              refine xget C hK hW hinX6 rfl (by omega) h57 0 (by decide) (List.mem_of_getElem? (i := 1) rfl) rfl dX6_right_110 ?_
              have h58 : GAt g 1 (nI (L 40)) (nI (L 24)) L w35 := (GAt.fr h25 (fun j h1 h2 => f39 j (by omega)))
              refine xget C hK hW hinX1 rfl (by omega) h58.1 6 (by decide) (List.mem_of_getElem? (i := 8) rfl) rfl dX6_right_113 ?_
              refine lv_iload_n C.1 C.2.1 dX6_right_116 rfl (lv_at hl 3 rfl) ?_
              have h59 : CAt g 1 CK w35 := (CAt.fr h26 (fun j h1 h2 => f39 j (by omega)))
              refine xildK C hK hW (by omega) h59.2.2 (by omega) (by decide) dX6_right_117 ?_
              refine xtopN (b := L (35 + k1)) hc2.2.2 ?_
              refine xi2l C (by omega) dX6_right_118 ?_
              refine xcV_l (n := 1) (As := [.long (lN (L (35 + k1)))]) C hK hW (c_X0_partOf l g w35 106 (L (35 + k1)) (redU (sumO (odF L k2) (L (25 + k1)) j) (10 ^ k2)) (redD (sumO (odF L k2) (L (25 + k1)) j) (10 ^ k2)) hI hN (by omega) (by omega) (by omega) (by omega) h38) gX6_right_X0_partOf rfl ⟨rfl, rfl⟩ (by decide +kernel) ⟨Nat.le_of_ble_eq_true rfl, Nat.le_of_ble_eq_true rfl⟩ ⟨Nat.zero_le _, Nat.zero_le _⟩ rfl (by omega) h38 rfl hl rfl (Nat.le_of_ble_eq_true rfl) dX6_right_119 (fun r62 w60 H locs q61 hW => ?_)
              obtain ⟨qw63, rfl⟩ := q61
              rw [qw63] at hW
              refine lv_goto (tgt := 133) C.1 C.2.1 dX6_right_122 (by decide) ?_
              refine xl2i C dX6_right_133 ?_
              have h64 : XLand g 1 L w35 := (XLand.fr h27 (fun j h1 h2 => f39 j (by omega)))
              have h65 : XKept g hk K w35 := (XKept.fr h28 (fun j h1 h2 => f39 j (by omega)))
              have h66 : XTrial g  w35 := (XTrial.fr h31 (fun j h1 h2 => f39 j (by omega)))
              have h67 : w35 100 = .inr (5, [.ref (gad g 101), .ref (gad g 102), .int (nI 10), .ref (gad g 103), .ref (gad g 104), .long (lN (10 ^ k2)), .ref (gad g 105)]) := ((f39 100 (by omega)).trans h16)
              have h68 : w35 101 = .inl (gI g, 7, .inl (cK 7 0 (onF L))) := ((f39 101 (by omega)).trans h17)
              have h69 : w35 102 = .inl (gI g, 7, .inl (cK 7 0 (backF L))) := ((f39 102 (by omega)).trans h18)
              have h70 : w35 103 = .inl (gJ g, 7, .inr (.inl (cL 7 0 (odF L k2)))) := ((f39 103 (by omega)).trans h23)
              have h71 : w35 104 = .inl (gJ g, 7, .inr (.inl (cL 7 0 A1_22))) := ((f39 104 (by omega)).trans h20)
              have h72 : w35 105 = .inr (0, [.long (lN sa), .long (lN sb)]) := ((f39 105 (by omega)).trans h32)
              have h73 : w35 107 = .inr (0, [.long (lN fc), .long (lN fd)]) := ((f39 107 (by omega)).trans h34)
              have h74 : XRead g tn T w35 := (XRead.fr h29 (fun j h1 h2 => f39 j (by omega)))
              have h75 : XShs g ln sz Z w35 := (XShs.fr h30 (fun j h1 h2 => f39 j (by omega)))
              exact xret_i C hr hlk hW ⟨⟨h57, h64, h65, h66, ⟨_, _, _, _, _, _, _, _, h67, h68, h69, h70, h71, h72⟩, ⟨_, _, _, _, h38, h73⟩, h74, h75⟩, (fun j z0 => ((f39 j (by omega)).trans (f21 j (by omega)))), (by rw [rightS, if_pos (c := inR x (nI 0) (nI (L 24) - nI 1) ∧ in9 y ∧ inR z (nI 0) (nI 2)) ⟨c5, c12, c21⟩, hx_k1, hx_k2, hx_k3, cl_nI (by omega), cl_nI (by omega), cl_nI (by omega), rightN, if_pos c102, show L (30 + k1) + 1 - L (25 + k1) = j by omega, red_div hp.1])⟩ dX6_right_134
          · refine lv_lload C.1 C.2.1 dX6_right_63 (lv_at hl 1 rfl) ?_
            refine lv_aload_n C.1 C.2.1 dX6_right_65 rfl (lv_at hl 2 rfl) ?_
            refine xget C hK hW hinX6 rfl (by omega) h24 3 (by decide) (List.mem_of_getElem? (i := 4) rfl) rfl dX6_right_66 ?_
            refine xget C hK hW hinX5 rfl (by omega) h16 3 (by decide) (List.mem_of_getElem? (i := 5) rfl) rfl dX6_right_69 ?_
            refine lv_iload C.1 C.2.1 dX6_right_72 (lv_at hl 0 rfl) ?_
            refine xlldK0 C hK hW (by omega) h23 (by omega) (by decide) dX6_right_74 ?_
            refine xladd C dX6_right_75 ?_
            refine lv_lstore (lv' := [(4, .long (lN ((sumO (odF L k2) (L (25 + k1)) j) + ((odF L k2) (L (25 + k1) + j))))), (6, .int (nI (L (25 + k1) + j))), (0, .ref (gad g 0)), (1, .int (nI k1)), (2, .int (nI k2)), (3, .int (nI k3))]) C.1 C.2.1 dX6_right_76 hl (by decide) rfl (fun ls hl => ?_)
            refine lv_iinc (v := nI ((L (25 + k1) + j) + 1)) (lv' := [(6, .int (nI ((L (25 + k1) + j) + 1))), (4, .long (lN ((sumO (odF L k2) (L (25 + k1)) j) + ((odF L k2) (L (25 + k1) + j))))), (0, .ref (gad g 0)), (1, .int (nI k1)), (2, .int (nI k2)), (3, .int (nI k3))]) C.1 C.2.1 dX6_right_78 hl (k := 1) rfl (nI_add _ 1) (by decide) rfl (fun ls hl => ?_)
            refine lv_goto (tgt := 49) C.1 C.2.1 dX6_right_81 (by decide) ?_
            exact ih49 (L (30 + k1) + 1 - (L (25 + k1) + (j + 1))) (by omega) (j + 1) _ _ _ rfl (by omega) hW hl
        exact loop49 _ 0 _ _ _ rfl (by omega) hW hl
      · refine lv_iconst (v := (-1 : Int32)) C.1 C.2.1 dX6_right_24 (by decide) ?_
        exact xret_i C hr hlk hW ⟨⟨hXa, hXl, hXk, hXt, ⟨_, _, _, _, _, _, _, _, hw0, hw1, hw2, hw3, hw4, hw5⟩, ⟨_, _, _, _, hf6, hf7⟩, hXr, hXs⟩, (fun j z0 => rfl), (by rw [rightS, if_neg (c := inR x (nI 0) (nI (L 24) - nI 1) ∧ in9 y ∧ inR z (nI 0) (nI 2)) (fun h => c21 h.2.2)])⟩ dX6_right_25

set_option maxHeartbeats 4000000 in
set_option maxRecDepth 100000 in
theorem c_X6_early (l : Launch) (g : GE) (w : Nat → va_E) (L K T ln sz : Nat → Nat) (hk tn : Nat) (Z : Nat → Int64) (x : Int32) (z : Int32) (hI : AdInj g) (hN : gN g = 130) (hS : OkS (L, K, hk, tn, T, ln, sz, Z)) (pr0 : XAll g (L, K, hk, tn, T, ln, sz, Z) w) : Met l yX6_early wsX6_early ({ frames := 6, cells := 0, slots := 0, locals := 130 } : Room) (XPc g w [.ref (gad g 0), .int x, .int z]) (XQi g (fun r w' => XAll g (L, K, hk, tn, T, ln, sz, Z) w' ∧ (∀ j : Nat, ¬ (0 ≤ j ∧ j < 119) → w' j = w j) ∧ r = earlyS L x z)) 0 0 (gA g) := by
  refine xmet (cc := cX6_early) (maxL := 4) (ret := (some .int)) (by decide) rfl hI (Nat.le_of_ble_eq_true rfl) ?_
  intro pG eG sG mG belowG methG cG ls C hr hlk hK hW hl
  have hl : lv_has ls 4 [(0, .ref (gad g 0)), (1, .int x), (2, .int z)] := hl
  have hinX6 : ∀ x ∈ u_ws RX6 TX6 9, x ∈ wsX6_early := by decide +kernel
  obtain ⟨hXa, hXl, hXk, hXt, hXw, hXf, hXr, hXs⟩ := pr0
  have hXa : w 0 = cX0 g hk := hXa
  have hXl : XLand g 1 L w := hXl
  have hXk : XKept g hk K w := hXk
  have hXr : XRead g tn T w := hXr
  have hXs : XShs g ln sz Z w := hXs
  have hokL : OkL L := hS.1
  obtain ⟨hok, hs2, hdy, hdr, hcl, hkn, hcs, hps⟩ := hokL
  obtain ⟨π, P, CK, hG, hC, hCk, hPa, hPm, hPk⟩ := id hXl
  obtain ⟨wh, al, sa, sb, on, bk, O, A, hw0, hw1, hw2, hw3, hw4, hw5⟩ := hXw
  obtain ⟨fa, fb, fc, fd, hf6, hf7⟩ := hXf
  refine lv_iload_n C.1 C.2.1 dX6_early_0 rfl (lv_at hl 1 rfl) ?_
  refine xcS_i (n := 1) (As := [.int x]) C hK hW (c_X6_isField l g w x hI hN) gX6_early_X6_isField rfl ⟨rfl, rfl⟩ (by decide +kernel) ⟨Nat.le_of_ble_eq_true rfl, Nat.le_of_ble_eq_true rfl⟩ ⟨Nat.zero_le _, Nat.zero_le _⟩ rfl hl rfl (Nat.le_of_ble_eq_true rfl) dX6_early_1 (fun r3 w1 H locs q2 hW => ?_)
  obtain ⟨qw4, rfl⟩ := q2
  rw [qw4] at hW
  refine xBeq (tgt := 17) C dX6_early_4 (by decide) (fun c4 => ?_) (fun c4 => ?_)
  · refine lv_iconst (v := (-1 : Int32)) C.1 C.2.1 dX6_early_17 (by decide) ?_
    exact xret_i C hr hlk hW ⟨⟨hXa, hXl, hXk, hXt, ⟨_, _, _, _, _, _, _, _, hw0, hw1, hw2, hw3, hw4, hw5⟩, ⟨_, _, _, _, hf6, hf7⟩, hXr, hXs⟩, (fun j z0 => rfl), (by rw [earlyS, if_neg (c := in6 x ∧ inR z (nI 0) (nI 100)) (fun h => c4 h.1)])⟩ dX6_early_18
  · obtain ⟨k1, ha_k1, hb_k1, hx_k1⟩ := inR_N (by omega) (by omega) c4
    rw [hx_k1] at hl
    refine lv_iload_n C.1 C.2.1 dX6_early_7 rfl (lv_at hl 2 rfl) ?_
    refine lv_iconst (v := (nI 0)) C.1 C.2.1 dX6_early_8 (by decide) ?_
    refine lv_bipush (v := (nI 100)) C.1 C.2.1 dX6_early_9 (by decide) ?_
    refine xcS_i (n := 3) (As := [.int z, .int (nI 0), .int (nI 100)]) C hK hW (c_X6_isWithin l g w z (nI 0) (nI 100) hI hN) gX6_early_X6_isWithin rfl ⟨rfl, rfl⟩ (by decide +kernel) ⟨Nat.le_of_ble_eq_true rfl, Nat.le_of_ble_eq_true rfl⟩ ⟨Nat.zero_le _, Nat.zero_le _⟩ rfl hl rfl (Nat.le_of_ble_eq_true rfl) dX6_early_11 (fun r7 w5 H locs q6 hW => ?_)
    obtain ⟨qw8, rfl⟩ := q6
    rw [qw8] at hW
    refine xBne (tgt := 19) C dX6_early_14 (by decide) (fun c14 => ?_) (fun c14 => ?_)
    · obtain ⟨k3, ha_k3, hb_k3, hx_k3⟩ := inR_N (by omega) (by omega) c14
      rw [hx_k3] at hl
      refine lv_iconst (v := (nI 0)) C.1 C.2.1 dX6_early_19 (by decide) ?_
      refine lv_istore_n (lv' := [(3, .int (nI 0)), (0, .ref (gad g 0)), (1, .int (nI k1)), (2, .int (nI k3))]) C.1 C.2.1 dX6_early_20 rfl hl (by decide) rfl (fun ls hl => ?_)
      have loop21 : ∀ (kG : Nat) (n : Nat) (wh al : Nat) (on bk O A : Nat → Nat) (v21 : Nat → va_E) (H : Heap) (locs : List Loc) (ls : Array Slot), kG = 10 - n → (v21 100 = .inr (5, [.ref (gad g 101), .ref (gad g 102), .int (nI wh), .ref (gad g 103), .ref (gad g 104), .long (lN al), .ref (gad g 105)])) → (v21 101 = .inl (gI g, 7, .inl (cK 7 0 on))) → (v21 102 = .inl (gI g, 7, .inl (cK 7 0 bk))) → (v21 103 = .inl (gJ g, 7, .inr (.inl (cL 7 0 O)))) → (v21 104 = .inl (gJ g, 7, .inr (.inl (cL 7 0 A)))) → (v21 105 = .inr (0, [.long (lN sa), .long (lN sb)])) → (v21 106 = .inr (0, [.long (lN fa), .long (lN fb)])) → (v21 107 = .inr (0, [.long (lN fc), .long (lN fd)])) → (v21 0 = .inr (6, [.ref (gad g 1), .ref (gad g 34), .ref (gad g 67), .ref (gad g 100), .ref (gad g 106), .ref (gad g 107), .ref (gad g 108), .ref (gad g 110), .int (nI hk)])) → (XLand g 1 L v21) → (XKept g hk K v21) → (XRead g tn T v21) → (XShs g ln sz Z v21) → (GAt g 1 (nI (L 40)) (nI (L 24)) L v21) → (XTrial g  v21) → (∀ j : Nat, ¬ (0 ≤ j ∧ j < 119) → v21 j = w j) → (n ≤ 10) → (firstF (fun n => decide (10 ^ n * cl z ≤ odF L n (cl x) * 100)) 0 10 = firstF (fun n => decide (10 ^ n * cl z ≤ odF L n (cl x) * 100)) n (10 - n)) → XW g v21 (gA g) sG.heap H locs → lv_has ls 4 [(3, .int (nI n)), (0, .ref (gad g 0)), (1, .int (nI k1)), (2, .int (nI k3))] → W pG l eG ({ frames := 6, cells := 0, slots := 0, locals := 130 } : Room) sG mG ([.ref (gad g 0), .int x, .int z] : List Value).toArray belowG methG cG H locs 0 0 (MQ belowG (XQi g (fun r w' => XAll g (L, K, hk, tn, T, ln, sz, Z) w' ∧ (∀ j : Nat, ¬ (0 ≤ j ∧ j < 119) → w' j = w j) ∧ r = earlyS L x z)) ([.ref (gad g 0), .int x, .int z] : List Value).toArray sG 0 0 (gA g)) (F0 mG 21 ls []) := by
        intro k21
        induction k21 using Nat.strongRecOn with
        | _ k21 ih21 =>
        intro n wh al on bk O A v21 H locs ls hk21 fa21_0 fa21_1 fa21_2 fa21_3 fa21_4 fa21_5 fa21_6 fa21_7 fa21_8 fa21_9 fa21_10 fa21_11 fa21_12 fa21_13 fa21_14 hfr21 hn hq hW hl
        refine lv_iload_n C.1 C.2.1 dX6_early_21 rfl (lv_at hl 0 rfl) ?_
        refine lv_bipush (v := (nI 9)) C.1 C.2.1 dX6_early_22 (by decide) ?_
        refine xgt (tgt := 56) C (by omega) (by omega) dX6_early_24 (by decide) (fun c24 => ?_) (fun c24 => ?_)
        · refine lv_bipush (v := (-4 : Int32)) C.1 C.2.1 dX6_early_56 (by decide) ?_
          exact xret_i C hr hlk hW ⟨⟨fa21_8, fa21_9, fa21_10, fa21_14, ⟨_, _, _, _, _, _, _, _, fa21_0, fa21_1, fa21_2, fa21_3, fa21_4, fa21_5⟩, ⟨_, _, _, _, fa21_6, fa21_7⟩, fa21_11, fa21_12⟩, (fun j z0 => (hfr21 j z0)), (by rw [earlyS, if_pos (c := in6 x ∧ inR z (nI 0) (nI 100)) ⟨c4, c14⟩, hq, show n = 10 by omega]; rfl)⟩ dX6_early_58
        · refine lv_aload_n C.1 C.2.1 dX6_early_27 rfl (lv_at hl 1 rfl) ?_
          refine lv_aload_n C.1 C.2.1 dX6_early_28 rfl (lv_at hl 1 rfl) ?_
          refine xget C hK hW hinX6 rfl (by omega) fa21_8 0 (by decide) (List.mem_of_getElem? (i := 1) rfl) rfl dX6_early_29 ?_
          refine lv_iload_n C.1 C.2.1 dX6_early_32 rfl (lv_at hl 0 rfl) ?_
          refine xcV_v (n := 2) (As := [.ref (gad g 1), .int (nI n)]) C hK hW (c_X6_foretell l g v21 1 n hk wh al (nI (L 40)) (nI (L 24)) L on bk O A hI hN (by omega) (by omega) hok (by omega) (by omega) fa21_8 fa21_0 fa21_1 fa21_2 fa21_3 fa21_4 fa21_13) gX6_early_X6_foretell rfl ⟨rfl, rfl⟩ (by decide +kernel) ⟨Nat.le_of_ble_eq_true rfl, Nat.le_of_ble_eq_true rfl⟩ ⟨Nat.zero_le _, Nat.zero_le _⟩ rfl (by omega) fa21_8 rfl hl rfl (Nat.le_of_ble_eq_true rfl) dX6_early_33 (fun w9 H locs q10 hW => ?_)
          obtain ⟨A1_18, h12, h13, h14, h15, h16, f17⟩ := q10
          have h19 : w9 103 = .inl (gJ g, 7, .inr (.inl (cL 7 0 (odF L n)))) := h15
          have hO := fun f (hf : f < 7) => odF_le (L := L) (n := n) (f := f) (by omega) hf
          have hp := p10 (k := n) (by omega)
          have hO1 := hO k1 (by omega)
          have hm : 10 ^ n * k3 ≤ 1000000000 * 100 := Nat.mul_le_mul hp.2 (by omega)
          refine lv_aload_n C.1 C.2.1 dX6_early_36 rfl (lv_at hl 1 rfl) ?_
          have h20 : w9 0 = .inr (6, [.ref (gad g 1), .ref (gad g 34), .ref (gad g 67), .ref (gad g 100), .ref (gad g 106), .ref (gad g 107), .ref (gad g 108), .ref (gad g 110), .int (nI hk)]) := ((f17 0 (by omega)).trans fa21_8)
          refine xget C hK hW hinX6 rfl (by omega) h20 3 (by decide) (List.mem_of_getElem? (i := 2) rfl) rfl dX6_early_37 ?_
          refine lv_iload_n C.1 C.2.1 dX6_early_40 rfl (lv_at hl 2 rfl) ?_
          refine lv_iload_n C.1 C.2.1 dX6_early_41 rfl (lv_at hl 3 rfl) ?_
          refine xcV_i (n := 2) (As := [.int (nI k1), .int (nI k3)]) C hK hW (c_X5_isLikelyBy l g w9 k1 k3 10 (10 ^ n) (odF L n) hI hN (by omega) (by omega) (by omega) (by omega) h12 h19) gX6_early_X5_isLikelyBy rfl ⟨rfl, rfl⟩ (by decide +kernel) ⟨Nat.le_of_ble_eq_true rfl, Nat.le_of_ble_eq_true rfl⟩ ⟨Nat.zero_le _, Nat.zero_le _⟩ rfl (by omega) h12 rfl hl rfl (Nat.le_of_ble_eq_true rfl) dX6_early_42 (fun r23 w21 H locs q22 hW => ?_)
          obtain ⟨qw24, rfl⟩ := q22
          rw [qw24] at hW
          refine xBeq (tgt := 50) C dX6_early_45 (by decide) (fun c45 => ?_) (fun c45 => ?_)
          · have hq2 := hq.trans (firstF_n (p := fun n => decide (10 ^ n * cl z ≤ odF L n (cl x) * 100)) (by omega) (fun z9 => c45 (by have := of_decide_eq_true z9; rwa [hx_k1, hx_k3, cl_nI (by omega), cl_nI (by omega)] at this)))
            refine lv_iinc (v := nI (n + 1)) (lv' := [(3, .int (nI (n + 1))), (0, .ref (gad g 0)), (1, .int (nI k1)), (2, .int (nI k3))]) C.1 C.2.1 dX6_early_50 hl (k := 0) rfl (nI_add _ 1) (by decide) rfl (fun ls hl => ?_)
            refine lv_goto (tgt := 21) C.1 C.2.1 dX6_early_53 (by decide) ?_
            have h25 : w9 105 = .inr (0, [.long (lN sa), .long (lN sb)]) := ((f17 105 (by omega)).trans fa21_5)
            have h26 : w9 106 = .inr (0, [.long (lN fa), .long (lN fb)]) := ((f17 106 (by omega)).trans fa21_6)
            have h27 : w9 107 = .inr (0, [.long (lN fc), .long (lN fd)]) := ((f17 107 (by omega)).trans fa21_7)
            have h28 : XLand g 1 L w9 := (XLand.fr fa21_9 (fun j h1 h2 => f17 j (by omega)))
            have h29 : XKept g hk K w9 := (XKept.fr fa21_10 (fun j h1 h2 => f17 j (by omega)))
            have h30 : XRead g tn T w9 := (XRead.fr fa21_11 (fun j h1 h2 => f17 j (by omega)))
            have h31 : XShs g ln sz Z w9 := (XShs.fr fa21_12 (fun j h1 h2 => f17 j (by omega)))
            have h32 : GAt g 1 (nI (L 40)) (nI (L 24)) L w9 := (GAt.fr fa21_13 (fun j h1 h2 => f17 j (by omega)))
            have h33 : XTrial g  w9 := (XTrial.fr fa21_14 (fun j h1 h2 => f17 j (by omega)))
            exact ih21 (10 - (n + 1)) (by omega) (n + 1) 10 (10 ^ n) (onF L) (backF L) (odF L n) A1_18 w9 _ _ _ rfl h12 h13 h14 h19 h16 h25 h26 h27 h20 h28 h29 h30 h31 h32 h33 (fun j z0 => ((f17 j (by omega)).trans (hfr21 j z0))) (by omega) (hq2) hW hl
          · refine lv_iload_n C.1 C.2.1 dX6_early_48 rfl (lv_at hl 0 rfl) ?_
            have h34 : XLand g 1 L w9 := (XLand.fr fa21_9 (fun j h1 h2 => f17 j (by omega)))
            have h35 : XKept g hk K w9 := (XKept.fr fa21_10 (fun j h1 h2 => f17 j (by omega)))
            have h36 : XTrial g  w9 := (XTrial.fr fa21_14 (fun j h1 h2 => f17 j (by omega)))
            have h37 : w9 105 = .inr (0, [.long (lN sa), .long (lN sb)]) := ((f17 105 (by omega)).trans fa21_5)
            have h38 : w9 106 = .inr (0, [.long (lN fa), .long (lN fb)]) := ((f17 106 (by omega)).trans fa21_6)
            have h39 : w9 107 = .inr (0, [.long (lN fc), .long (lN fd)]) := ((f17 107 (by omega)).trans fa21_7)
            have h40 : XRead g tn T w9 := (XRead.fr fa21_11 (fun j h1 h2 => f17 j (by omega)))
            have h41 : XShs g ln sz Z w9 := (XShs.fr fa21_12 (fun j h1 h2 => f17 j (by omega)))
            exact xret_i C hr hlk hW ⟨⟨h20, h34, h35, h36, ⟨_, _, _, _, _, _, _, _, h12, h13, h14, h19, h16, h37⟩, ⟨_, _, _, _, h38, h39⟩, h40, h41⟩, (fun j z0 => ((f17 j (by omega)).trans (hfr21 j z0))), (by rw [earlyS, if_pos (c := in6 x ∧ inR z (nI 0) (nI 100)) ⟨c4, c14⟩, ← firstF_y (p := fun n => decide (10 ^ n * cl z ≤ odF L n (cl x) * 100)) (by omega) (decide_eq_true (by rw [hx_k1, hx_k3, cl_nI (by omega), cl_nI (by omega)]; exact c45)), hq])⟩ dX6_early_49
      exact loop21 _ 0 wh al on bk O A w _ _ _ rfl hw0 hw1 hw2 hw3 hw4 hw5 hf6 hf7 hXa hXl hXk hXr hXs hG hXt (fun j z0 => rfl) (by omega) (rfl) hW hl
    · refine lv_iconst (v := (-1 : Int32)) C.1 C.2.1 dX6_early_17 (by decide) ?_
      exact xret_i C hr hlk hW ⟨⟨hXa, hXl, hXk, hXt, ⟨_, _, _, _, _, _, _, _, hw0, hw1, hw2, hw3, hw4, hw5⟩, ⟨_, _, _, _, hf6, hf7⟩, hXr, hXs⟩, (fun j z0 => rfl), (by rw [earlyS, if_neg (c := in6 x ∧ inR z (nI 0) (nI 100)) (fun h => c14 h.2)])⟩ dX6_early_18

set_option maxHeartbeats 4000000 in
set_option maxRecDepth 100000 in
theorem c_X6_keep (l : Launch) (g : GE) (w : Nat → va_E) (L K T ln sz : Nat → Nat) (hk tn : Nat) (Z : Nat → Int64) (y : Int32) (z : Int32) (hI : AdInj g) (hN : gN g = 130) (hS : OkS (L, K, hk, tn, T, ln, sz, Z)) (pr0 : XAll g (L, K, hk, tn, T, ln, sz, Z) w) : Met l yX6_keep wsX6_keep ({ frames := 6, cells := 0, slots := 0, locals := 130 } : Room) (XPc g w [.ref (gad g 0), .int y, .int z]) (XQi g (fun r w' => XAll g (L, K, hk, tn, T, ln, sz, Z) w' ∧ (∀ j : Nat, ¬ (0 ≤ j ∧ j < 119) → w' j = w j) ∧ r = keepS L y z)) 0 0 (gA g) := by
  refine xmet (cc := cX6_keep) (maxL := 5) (ret := (some .int)) (by decide) rfl hI (Nat.le_of_ble_eq_true rfl) ?_
  intro pG eG sG mG belowG methG cG ls C hr hlk hK hW hl
  have hl : lv_has ls 5 [(0, .ref (gad g 0)), (1, .int y), (2, .int z)] := hl
  have hinX1 : ∀ x ∈ u_ws RX1 TX1 8, x ∈ wsX6_keep := by decide +kernel
  have hinX2 : ∀ x ∈ u_ws RX2 TX2 5, x ∈ wsX6_keep := by decide +kernel
  have hinX6 : ∀ x ∈ u_ws RX6 TX6 9, x ∈ wsX6_keep := by decide +kernel
  obtain ⟨hXa, hXl, hXk, hXt, hXw, hXf, hXr, hXs⟩ := pr0
  have hXa : w 0 = cX0 g hk := hXa
  have hXl : XLand g 1 L w := hXl
  have hXk : XKept g hk K w := hXk
  have hXr : XRead g tn T w := hXr
  have hXs : XShs g ln sz Z w := hXs
  have hokL : OkL L := hS.1
  obtain ⟨hok, hs2, hdy, hdr, hcl, hkn, hcs, hps⟩ := hokL
  obtain ⟨π, P, CK, hG, hC, hCk, hPa, hPm, hPk⟩ := id hXl
  obtain ⟨tx, ty, TL, TC, hT, hTC⟩ := hXt
  obtain ⟨wh, al, sa, sb, on, bk, O, A, hw0, hw1, hw2, hw3, hw4, hw5⟩ := hXw
  obtain ⟨fa, fb, fc, fd, hf6, hf7⟩ := hXf
  refine lv_iload_n C.1 C.2.1 dX6_keep_0 rfl (lv_at hl 1 rfl) ?_
  refine lv_iconst (v := (nI 1)) C.1 C.2.1 dX6_keep_1 (by decide) ?_
  refine lv_bipush (v := (nI 9)) C.1 C.2.1 dX6_keep_2 (by decide) ?_
  refine xcS_i (n := 3) (As := [.int y, .int (nI 1), .int (nI 9)]) C hK hW (c_X6_isWithin l g w y (nI 1) (nI 9) hI hN) gX6_keep_X6_isWithin rfl ⟨rfl, rfl⟩ (by decide +kernel) ⟨Nat.le_of_ble_eq_true rfl, Nat.le_of_ble_eq_true rfl⟩ ⟨Nat.zero_le _, Nat.zero_le _⟩ rfl hl rfl (Nat.le_of_ble_eq_true rfl) dX6_keep_4 (fun r3 w1 H locs q2 hW => ?_)
  obtain ⟨qw4, rfl⟩ := q2
  rw [qw4] at hW
  refine xBeq (tgt := 20) C dX6_keep_7 (by decide) (fun c7 => ?_) (fun c7 => ?_)
  · refine lv_iconst (v := (-1 : Int32)) C.1 C.2.1 dX6_keep_20 (by decide) ?_
    exact xret_i C hr hlk hW ⟨⟨hXa, hXl, hXk, ⟨_, _, _, _, hT, hTC⟩, ⟨_, _, _, _, _, _, _, _, hw0, hw1, hw2, hw3, hw4, hw5⟩, ⟨_, _, _, _, hf6, hf7⟩, hXr, hXs⟩, (fun j z0 => rfl), (by rw [keepS, if_neg (c := inR y (nI 1) (nI 9) ∧ inR z (nI 0) (nI 100)) (fun h => c7 h.1)])⟩ dX6_keep_21
  · obtain ⟨k2, ha_k2, hb_k2, hx_k2⟩ := inR_N (by omega) (by omega) c7
    rw [hx_k2] at hl
    refine lv_iload_n C.1 C.2.1 dX6_keep_10 rfl (lv_at hl 2 rfl) ?_
    refine lv_iconst (v := (nI 0)) C.1 C.2.1 dX6_keep_11 (by decide) ?_
    refine lv_bipush (v := (nI 100)) C.1 C.2.1 dX6_keep_12 (by decide) ?_
    refine xcS_i (n := 3) (As := [.int z, .int (nI 0), .int (nI 100)]) C hK hW (c_X6_isWithin l g w z (nI 0) (nI 100) hI hN) gX6_keep_X6_isWithin rfl ⟨rfl, rfl⟩ (by decide +kernel) ⟨Nat.le_of_ble_eq_true rfl, Nat.le_of_ble_eq_true rfl⟩ ⟨Nat.zero_le _, Nat.zero_le _⟩ rfl hl rfl (Nat.le_of_ble_eq_true rfl) dX6_keep_14 (fun r7 w5 H locs q6 hW => ?_)
    obtain ⟨qw8, rfl⟩ := q6
    rw [qw8] at hW
    refine xBne (tgt := 22) C dX6_keep_17 (by decide) (fun c17 => ?_) (fun c17 => ?_)
    · obtain ⟨k3, ha_k3, hb_k3, hx_k3⟩ := inR_N (by omega) (by omega) c17
      rw [hx_k3] at hl
      refine lv_aload_n C.1 C.2.1 dX6_keep_22 rfl (lv_at hl 0 rfl) ?_
      refine xget C hK hW hinX6 rfl (by omega) hXa 0 (by decide) (List.mem_of_getElem? (i := 1) rfl) rfl dX6_keep_23 ?_
      refine xget C hK hW hinX1 rfl (by omega) hG.1 1 (by decide) (List.mem_of_getElem? (i := 2) rfl) rfl dX6_keep_26 ?_
      refine xget C hK hW hinX2 rfl (by omega) hG.2.2.1 0 (by decide) (List.mem_of_getElem? (i := 3) rfl) rfl dX6_keep_29 ?_
      refine lv_istore_n (lv' := [(3, .int (nI (L 2))), (0, .ref (gad g 0)), (1, .int (nI k2)), (2, .int (nI k3))]) C.1 C.2.1 dX6_keep_32 rfl hl (by decide) rfl (fun ls hl => ?_)
      refine lv_aload_n C.1 C.2.1 dX6_keep_33 rfl (lv_at hl 1 rfl) ?_
      refine xget C hK hW hinX6 rfl (by omega) hXa 2 (by decide) (List.mem_of_getElem? (i := 4) rfl) rfl dX6_keep_34 ?_
      refine lv_aload_n C.1 C.2.1 dX6_keep_37 rfl (lv_at hl 1 rfl) ?_
      refine xget C hK hW hinX6 rfl (by omega) hXa 0 (by decide) (List.mem_of_getElem? (i := 1) rfl) rfl dX6_keep_38 ?_
      refine xcV_v (n := 1) (As := [.ref (gad g 1)]) C hK hW (c_X1_takeGround l g w 67 1 tx ty (nI (L 40)) (nI (L 24)) TL L hI hN (by omega) (by omega) (by omega) hT hG) gX6_keep_X1_takeGround rfl ⟨rfl, rfl⟩ (by decide +kernel) ⟨Nat.le_of_ble_eq_true rfl, Nat.le_of_ble_eq_true rfl⟩ ⟨Nat.zero_le _, Nat.zero_le _⟩ rfl (by omega) hT.1 rfl hl rfl (Nat.le_of_ble_eq_true rfl) dX6_keep_41 (fun w9 H locs q10 hW => ?_)
      obtain ⟨h12, f13⟩ := q10
      refine lv_iconst (v := (nI 0)) C.1 C.2.1 dX6_keep_44 (by decide) ?_
      refine lv_istore (lv' := [(4, .int (nI 0)), (3, .int (nI (L 2))), (0, .ref (gad g 0)), (1, .int (nI k2)), (2, .int (nI k3))]) C.1 C.2.1 dX6_keep_45 hl (by decide) rfl (fun ls hl => ?_)
      have loop47 : ∀ (kG : Nat) (v : Nat) (TL : Nat → Nat) (wh al : Nat) (on bk O A : Nat → Nat) (v47 : Nat → va_E) (H : Heap) (locs : List Loc) (ls : Array Slot), kG = 10 - v → (v47 100 = .inr (5, [.ref (gad g 101), .ref (gad g 102), .int (nI wh), .ref (gad g 103), .ref (gad g 104), .long (lN al), .ref (gad g 105)])) → (v47 101 = .inl (gI g, 7, .inl (cK 7 0 on))) → (v47 102 = .inl (gI g, 7, .inl (cK 7 0 bk))) → (v47 103 = .inl (gJ g, 7, .inr (.inl (cL 7 0 O)))) → (v47 104 = .inl (gJ g, 7, .inr (.inl (cL 7 0 A)))) → (v47 105 = .inr (0, [.long (lN sa), .long (lN sb)])) → (v47 106 = .inr (0, [.long (lN fa), .long (lN fb)])) → (v47 107 = .inr (0, [.long (lN fc), .long (lN fd)])) → (v47 0 = .inr (6, [.ref (gad g 1), .ref (gad g 34), .ref (gad g 67), .ref (gad g 100), .ref (gad g 106), .ref (gad g 107), .ref (gad g 108), .ref (gad g 110), .int (nI hk)])) → (XLand g 1 L v47) → (XKept g hk K v47) → (XRead g tn T v47) → (XShs g ln sz Z v47) → (GAt g 1 (nI (L 40)) (nI (L 24)) L v47) → (GAt g 67 tx ty TL v47) → (CAt g 67 TC v47) → (∀ j : Nat, ¬ (0 ≤ j ∧ j < 119) → v47 j = w j) → (v ≤ 10) → (∀ i, i < 24 → i ≠ 3 + L 2 → TL i = L i) → (firstF (fun v => decide (10 ^ cl y * cl z ≤ odF (va_up L (3 + L 2) v) (cl y) (L 2) * 100)) 0 10 = firstF (fun v => decide (10 ^ cl y * cl z ≤ odF (va_up L (3 + L 2) v) (cl y) (L 2) * 100)) v (10 - v)) → XW g v47 (gA g) sG.heap H locs → lv_has ls 5 [(4, .int (nI v)), (3, .int (nI (L 2))), (0, .ref (gad g 0)), (1, .int (nI k2)), (2, .int (nI k3))] → W pG l eG ({ frames := 6, cells := 0, slots := 0, locals := 130 } : Room) sG mG ([.ref (gad g 0), .int y, .int z] : List Value).toArray belowG methG cG H locs 0 0 (MQ belowG (XQi g (fun r w' => XAll g (L, K, hk, tn, T, ln, sz, Z) w' ∧ (∀ j : Nat, ¬ (0 ≤ j ∧ j < 119) → w' j = w j) ∧ r = keepS L y z)) ([.ref (gad g 0), .int y, .int z] : List Value).toArray sG 0 0 (gA g)) (F0 mG 47 ls []) := by
        intro k47
        induction k47 using Nat.strongRecOn with
        | _ k47 ih47 =>
        intro v TL wh al on bk O A v47 H locs ls hk47 fa47_0 fa47_1 fa47_2 fa47_3 fa47_4 fa47_5 fa47_6 fa47_7 fa47_8 fa47_9 fa47_10 fa47_11 fa47_12 fa47_13 fa47_14 fa47_15 hfr47 hn hTL hq hW hl
        refine lv_iload C.1 C.2.1 dX6_keep_47 (lv_at hl 0 rfl) ?_
        refine lv_bipush (v := (nI 9)) C.1 C.2.1 dX6_keep_49 (by decide) ?_
        refine xgt (tgt := 98) C (by omega) (by omega) dX6_keep_51 (by decide) (fun c51 => ?_) (fun c51 => ?_)
        · refine lv_bipush (v := (-4 : Int32)) C.1 C.2.1 dX6_keep_98 (by decide) ?_
          exact xret_i C hr hlk hW ⟨⟨fa47_8, fa47_9, fa47_10, ⟨_, _, _, _, fa47_14, fa47_15⟩, ⟨_, _, _, _, _, _, _, _, fa47_0, fa47_1, fa47_2, fa47_3, fa47_4, fa47_5⟩, ⟨_, _, _, _, fa47_6, fa47_7⟩, fa47_11, fa47_12⟩, (fun j z0 => (hfr47 j z0)), (by rw [keepS, if_pos (c := inR y (nI 1) (nI 9) ∧ inR z (nI 0) (nI 100)) ⟨c7, c17⟩, hq, show v = 10 by omega]; rfl)⟩ dX6_keep_100
        · refine lv_aload_n C.1 C.2.1 dX6_keep_54 rfl (lv_at hl 2 rfl) ?_
          refine xget C hK hW hinX6 rfl (by omega) fa47_8 2 (by decide) (List.mem_of_getElem? (i := 4) rfl) rfl dX6_keep_55 ?_
          refine xget C hK hW hinX1 rfl (by omega) fa47_14.1 1 (by decide) (List.mem_of_getElem? (i := 2) rfl) rfl dX6_keep_58 ?_
          refine xget C hK hW hinX2 rfl (by omega) fa47_14.2.2.1 3 (by decide) (List.mem_of_getElem? (i := 5) rfl) rfl dX6_keep_61 ?_
          refine lv_iload_n C.1 C.2.1 dX6_keep_64 rfl (lv_at hl 1 rfl) ?_
          refine lv_iload C.1 C.2.1 dX6_keep_65 (lv_at hl 0 rfl) ?_
          refine xistK (v := v) C hK hW (by omega) fa47_14.2.2.2.1 (by omega) (by decide) dX6_keep_67 (fun w14 H locs e15 f16 hW => ?_)
          have h17 : GAt g 67 tx ty (va_up TL (3 + (L 2)) v) w14 := GAt_food fa47_14 (by omega) e15 f16
          have h18 : GAt g 67 tx ty (va_up L (3 + L 2) v) w14 := (h17).congr (fun i hi => by
      by_cases e : i = 3 + L 2
      · rw [e, va_up_self, va_up_self]
      · rw [va_up_ne _ _ e, va_up_ne _ _ e, hTL i hi e])
          refine lv_aload_n C.1 C.2.1 dX6_keep_68 rfl (lv_at hl 2 rfl) ?_
          refine lv_aload_n C.1 C.2.1 dX6_keep_69 rfl (lv_at hl 2 rfl) ?_
          have h19 : w14 0 = .inr (6, [.ref (gad g 1), .ref (gad g 34), .ref (gad g 67), .ref (gad g 100), .ref (gad g 106), .ref (gad g 107), .ref (gad g 108), .ref (gad g 110), .int (nI hk)]) := ((f16 0 (by omega)).trans fa47_8)
          refine xget C hK hW hinX6 rfl (by omega) h19 2 (by decide) (List.mem_of_getElem? (i := 4) rfl) rfl dX6_keep_70 ?_
          refine lv_iload_n C.1 C.2.1 dX6_keep_73 rfl (lv_at hl 3 rfl) ?_
          have h20 : w14 100 = .inr (5, [.ref (gad g 101), .ref (gad g 102), .int (nI wh), .ref (gad g 103), .ref (gad g 104), .long (lN al), .ref (gad g 105)]) := ((f16 100 (by omega)).trans fa47_0)
          have h21 : w14 101 = .inl (gI g, 7, .inl (cK 7 0 on)) := ((f16 101 (by omega)).trans fa47_1)
          have h22 : w14 102 = .inl (gI g, 7, .inl (cK 7 0 bk)) := ((f16 102 (by omega)).trans fa47_2)
          have h23 : w14 103 = .inl (gJ g, 7, .inr (.inl (cL 7 0 O))) := ((f16 103 (by omega)).trans fa47_3)
          have h24 : w14 104 = .inl (gJ g, 7, .inr (.inl (cL 7 0 A))) := ((f16 104 (by omega)).trans fa47_4)
          refine xcV_v (n := 2) (As := [.ref (gad g 67), .int (nI k2)]) C hK hW (c_X6_foretell l g w14 67 k2 hk wh al tx ty (va_up L (3 + L 2) v) on bk O A hI hN (by omega) (by omega) (Okg_food hok hs2 (by omega)) (by rw [va_up_ne _ _ (by omega)]; omega) (by omega) h19 h20 h21 h22 h23 h24 h18) gX6_keep_X6_foretell rfl ⟨rfl, rfl⟩ (by decide +kernel) ⟨Nat.le_of_ble_eq_true rfl, Nat.le_of_ble_eq_true rfl⟩ ⟨Nat.zero_le _, Nat.zero_le _⟩ rfl (by omega) h19 rfl hl rfl (Nat.le_of_ble_eq_true rfl) dX6_keep_74 (fun w25 H locs q26 hW => ?_)
          obtain ⟨A1_34, h28, h29, h30, h31, h32, f33⟩ := q26
          have h35 : w25 103 = .inl (gJ g, 7, .inr (.inl (cL 7 0 (odF (va_up L (3 + L 2) v) k2)))) := h31
          have hO := odF_le (L := va_up L (3 + L 2) v) (n := k2) (f := L 2) (by omega) hs2
          have hp := p10 (k := k2) (by omega)
          have hm : 10 ^ k2 * k3 ≤ 1000000000 * 100 := Nat.mul_le_mul hp.2 (by omega)
          refine lv_aload_n C.1 C.2.1 dX6_keep_77 rfl (lv_at hl 2 rfl) ?_
          have h36 : w25 0 = .inr (6, [.ref (gad g 1), .ref (gad g 34), .ref (gad g 67), .ref (gad g 100), .ref (gad g 106), .ref (gad g 107), .ref (gad g 108), .ref (gad g 110), .int (nI hk)]) := ((f33 0 (by omega)).trans h19)
          refine xget C hK hW hinX6 rfl (by omega) h36 3 (by decide) (List.mem_of_getElem? (i := 6) rfl) rfl dX6_keep_78 ?_
          refine lv_iload_n C.1 C.2.1 dX6_keep_81 rfl (lv_at hl 1 rfl) ?_
          refine lv_iload_n C.1 C.2.1 dX6_keep_82 rfl (lv_at hl 4 rfl) ?_
          refine xcV_i (n := 2) (As := [.int (nI (L 2)), .int (nI k3)]) C hK hW (c_X5_isLikelyBy l g w25 (L 2) k3 10 (10 ^ k2) (odF (va_up L (3 + L 2) v) k2) hI hN (by omega) (by omega) (by omega) (by omega) h28 h35) gX6_keep_X5_isLikelyBy rfl ⟨rfl, rfl⟩ (by decide +kernel) ⟨Nat.le_of_ble_eq_true rfl, Nat.le_of_ble_eq_true rfl⟩ ⟨Nat.zero_le _, Nat.zero_le _⟩ rfl (by omega) h28 rfl hl rfl (Nat.le_of_ble_eq_true rfl) dX6_keep_83 (fun r39 w37 H locs q38 hW => ?_)
          obtain ⟨qw40, rfl⟩ := q38
          rw [qw40] at hW
          refine xBeq (tgt := 92) C dX6_keep_86 (by decide) (fun c86 => ?_) (fun c86 => ?_)
          · have hq2 := hq.trans (firstF_n (p := fun v => decide (10 ^ cl y * cl z ≤ odF (va_up L (3 + L 2) v) (cl y) (L 2) * 100)) (by omega) (fun z9 => c86 (by have := of_decide_eq_true z9; rwa [hx_k2, hx_k3, cl_nI (by omega), cl_nI (by omega)] at this)))
            refine lv_iinc (v := nI (v + 1)) (lv' := [(4, .int (nI (v + 1))), (3, .int (nI (L 2))), (0, .ref (gad g 0)), (1, .int (nI k2)), (2, .int (nI k3))]) C.1 C.2.1 dX6_keep_92 hl (k := 0) rfl (nI_add _ 1) (by decide) rfl (fun ls hl => ?_)
            refine lv_goto (tgt := 47) C.1 C.2.1 dX6_keep_95 (by decide) ?_
            have h41 : w25 105 = .inr (0, [.long (lN sa), .long (lN sb)]) := ((f33 105 (by omega)).trans ((f16 105 (by omega)).trans fa47_5))
            have h42 : w25 106 = .inr (0, [.long (lN fa), .long (lN fb)]) := ((f33 106 (by omega)).trans ((f16 106 (by omega)).trans fa47_6))
            have h43 : w25 107 = .inr (0, [.long (lN fc), .long (lN fd)]) := ((f33 107 (by omega)).trans ((f16 107 (by omega)).trans fa47_7))
            have h44 : XLand g 1 L w25 := (XLand.fr (XLand.fr fa47_9 (fun j h1 h2 => f16 j (by omega))) (fun j h1 h2 => f33 j (by omega)))
            have h45 : XKept g hk K w25 := (XKept.fr (XKept.fr fa47_10 (fun j h1 h2 => f16 j (by omega))) (fun j h1 h2 => f33 j (by omega)))
            have h46 : XRead g tn T w25 := (XRead.fr (XRead.fr fa47_11 (fun j h1 h2 => f16 j (by omega))) (fun j h1 h2 => f33 j (by omega)))
            have h47 : XShs g ln sz Z w25 := (XShs.fr (XShs.fr fa47_12 (fun j h1 h2 => f16 j (by omega))) (fun j h1 h2 => f33 j (by omega)))
            have h48 : GAt g 1 (nI (L 40)) (nI (L 24)) L w25 := (GAt.fr (GAt.fr fa47_13 (fun j h1 h2 => f16 j (by omega))) (fun j h1 h2 => f33 j (by omega)))
            have h49 : GAt g 67 tx ty (va_up L (3 + L 2) v) w25 := (GAt.fr h18 (fun j h1 h2 => f33 j (by omega)))
            have h50 : CAt g 67 TC w25 := (CAt.fr (CAt.fr fa47_15 (fun j h1 h2 => f16 j (by omega))) (fun j h1 h2 => f33 j (by omega)))
            exact ih47 (10 - (v + 1)) (by omega) (v + 1) (va_up L (3 + L 2) v) 10 (10 ^ k2) (onF (va_up L (3 + L 2) v)) (backF (va_up L (3 + L 2) v)) (odF (va_up L (3 + L 2) v) k2) A1_34 w25 _ _ _ rfl h28 h29 h30 h35 h32 h41 h42 h43 h36 h44 h45 h46 h47 h48 h49 h50 (fun j z0 => ((f33 j (by omega)).trans ((f16 j (by omega)).trans (hfr47 j z0)))) (by omega) ((fun i _ e => va_up_ne _ _ e)) (hq2) hW hl
          · refine lv_iload C.1 C.2.1 dX6_keep_89 (lv_at hl 0 rfl) ?_
            have h51 : XLand g 1 L w25 := (XLand.fr (XLand.fr fa47_9 (fun j h1 h2 => f16 j (by omega))) (fun j h1 h2 => f33 j (by omega)))
            have h52 : XKept g hk K w25 := (XKept.fr (XKept.fr fa47_10 (fun j h1 h2 => f16 j (by omega))) (fun j h1 h2 => f33 j (by omega)))
            have h53 : GAt g 67 tx ty (va_up L (3 + L 2) v) w25 := (GAt.fr h18 (fun j h1 h2 => f33 j (by omega)))
            have h54 : CAt g 67 TC w25 := (CAt.fr (CAt.fr fa47_15 (fun j h1 h2 => f16 j (by omega))) (fun j h1 h2 => f33 j (by omega)))
            have h55 : w25 105 = .inr (0, [.long (lN sa), .long (lN sb)]) := ((f33 105 (by omega)).trans ((f16 105 (by omega)).trans fa47_5))
            have h56 : w25 106 = .inr (0, [.long (lN fa), .long (lN fb)]) := ((f33 106 (by omega)).trans ((f16 106 (by omega)).trans fa47_6))
            have h57 : w25 107 = .inr (0, [.long (lN fc), .long (lN fd)]) := ((f33 107 (by omega)).trans ((f16 107 (by omega)).trans fa47_7))
            have h58 : XRead g tn T w25 := (XRead.fr (XRead.fr fa47_11 (fun j h1 h2 => f16 j (by omega))) (fun j h1 h2 => f33 j (by omega)))
            have h59 : XShs g ln sz Z w25 := (XShs.fr (XShs.fr fa47_12 (fun j h1 h2 => f16 j (by omega))) (fun j h1 h2 => f33 j (by omega)))
            exact xret_i C hr hlk hW ⟨⟨h36, h51, h52, ⟨_, _, _, _, h53, h54⟩, ⟨_, _, _, _, _, _, _, _, h28, h29, h30, h35, h32, h55⟩, ⟨_, _, _, _, h56, h57⟩, h58, h59⟩, (fun j z0 => ((f33 j (by omega)).trans ((f16 j (by omega)).trans (hfr47 j z0)))), (by rw [keepS, if_pos (c := inR y (nI 1) (nI 9) ∧ inR z (nI 0) (nI 100)) ⟨c7, c17⟩, ← firstF_y (p := fun v => decide (10 ^ cl y * cl z ≤ odF (va_up L (3 + L 2) v) (cl y) (L 2) * 100)) (by omega) (decide_eq_true (by rw [hx_k2, hx_k3, cl_nI (by omega), cl_nI (by omega)]; exact c86)), hq])⟩ dX6_keep_91
      have h60 : w9 100 = .inr (5, [.ref (gad g 101), .ref (gad g 102), .int (nI wh), .ref (gad g 103), .ref (gad g 104), .long (lN al), .ref (gad g 105)]) := ((f13 100 (by omega)).trans hw0)
      have h61 : w9 101 = .inl (gI g, 7, .inl (cK 7 0 on)) := ((f13 101 (by omega)).trans hw1)
      have h62 : w9 102 = .inl (gI g, 7, .inl (cK 7 0 bk)) := ((f13 102 (by omega)).trans hw2)
      have h63 : w9 103 = .inl (gJ g, 7, .inr (.inl (cL 7 0 O))) := ((f13 103 (by omega)).trans hw3)
      have h64 : w9 104 = .inl (gJ g, 7, .inr (.inl (cL 7 0 A))) := ((f13 104 (by omega)).trans hw4)
      have h65 : w9 105 = .inr (0, [.long (lN sa), .long (lN sb)]) := ((f13 105 (by omega)).trans hw5)
      have h66 : w9 106 = .inr (0, [.long (lN fa), .long (lN fb)]) := ((f13 106 (by omega)).trans hf6)
      have h67 : w9 107 = .inr (0, [.long (lN fc), .long (lN fd)]) := ((f13 107 (by omega)).trans hf7)
      have h68 : w9 0 = .inr (6, [.ref (gad g 1), .ref (gad g 34), .ref (gad g 67), .ref (gad g 100), .ref (gad g 106), .ref (gad g 107), .ref (gad g 108), .ref (gad g 110), .int (nI hk)]) := ((f13 0 (by omega)).trans hXa)
      have h69 : XLand g 1 L w9 := (XLand.fr hXl (fun j h1 h2 => f13 j (by omega)))
      have h70 : XKept g hk K w9 := (XKept.fr hXk (fun j h1 h2 => f13 j (by omega)))
      have h71 : XRead g tn T w9 := (XRead.fr hXr (fun j h1 h2 => f13 j (by omega)))
      have h72 : XShs g ln sz Z w9 := (XShs.fr hXs (fun j h1 h2 => f13 j (by omega)))
      have h73 : GAt g 1 (nI (L 40)) (nI (L 24)) L w9 := (GAt.fr hG (fun j h1 h2 => f13 j (by omega)))
      have h74 : CAt g 67 TC w9 := (CAt.fr hTC (fun j h1 h2 => f13 j (by omega)))
      exact loop47 _ 0 L wh al on bk O A w9 _ _ _ rfl h60 h61 h62 h63 h64 h65 h66 h67 h68 h69 h70 h71 h72 h73 h12 h74 (fun j z0 => (f13 j (by omega))) (by omega) ((fun _ _ _ => rfl)) (rfl) hW hl
    · refine lv_iconst (v := (-1 : Int32)) C.1 C.2.1 dX6_keep_20 (by decide) ?_
      exact xret_i C hr hlk hW ⟨⟨hXa, hXl, hXk, ⟨_, _, _, _, hT, hTC⟩, ⟨_, _, _, _, _, _, _, _, hw0, hw1, hw2, hw3, hw4, hw5⟩, ⟨_, _, _, _, hf6, hf7⟩, hXr, hXs⟩, (fun j z0 => rfl), (by rw [keepS, if_neg (c := inR y (nI 1) (nI 9) ∧ inR z (nI 0) (nI 100)) (fun h => c17 h.2)])⟩ dX6_keep_21

set_option maxHeartbeats 4000000 in
set_option maxRecDepth 100000 in
theorem c_X6_next (l : Launch) (g : GE) (w : Nat → va_E) (L K T ln sz : Nat → Nat) (hk tn : Nat) (Z : Nat → Int64) (x : Int32) (hI : AdInj g) (hN : gN g = 130) (hS : OkS (L, K, hk, tn, T, ln, sz, Z)) (pr0 : XAll g (L, K, hk, tn, T, ln, sz, Z) w) : Met l yX6_next wsX6_next ({ frames := 4, cells := 0, slots := 0, locals := 89 } : Room) (XPc g w [.ref (gad g 0), .int x]) (XQi g (fun r w' => XAll g (L, K, hk, tn, T, ln, sz, Z) w' ∧ (∀ j : Nat, ¬ (0 ≤ j ∧ j < 119) → w' j = w j) ∧ r = nextS L x)) 0 0 (gA g) := by
  refine xmet (cc := cX6_next) (maxL := 3) (ret := (some .int)) (by decide) rfl hI (Nat.le_of_ble_eq_true rfl) ?_
  intro pG eG sG mG belowG methG cG ls C hr hlk hK hW hl
  have hl : lv_has ls 3 [(0, .ref (gad g 0)), (1, .int x)] := hl
  have hinX1 : ∀ x ∈ u_ws RX1 TX1 8, x ∈ wsX6_next := by decide +kernel
  have hinX2 : ∀ x ∈ u_ws RX2 TX2 5, x ∈ wsX6_next := by decide +kernel
  have hinX6 : ∀ x ∈ u_ws RX6 TX6 9, x ∈ wsX6_next := by decide +kernel
  obtain ⟨hXa, hXl, hXk, hXt, hXw, hXf, hXr, hXs⟩ := pr0
  have hXa : w 0 = cX0 g hk := hXa
  have hXl : XLand g 1 L w := hXl
  have hXk : XKept g hk K w := hXk
  have hXr : XRead g tn T w := hXr
  have hXs : XShs g ln sz Z w := hXs
  have hokL : OkL L := hS.1
  obtain ⟨hok, hs2, hdy, hdr, hcl, hkn, hcs, hps⟩ := hokL
  obtain ⟨π, P, CK, hG, hC, hCk, hPa, hPm, hPk⟩ := id hXl
  obtain ⟨tx, ty, TL, TC, hT, hTC⟩ := hXt
  refine lv_iload_n C.1 C.2.1 dX6_next_0 rfl (lv_at hl 1 rfl) ?_
  refine lv_iconst (v := (nI 0)) C.1 C.2.1 dX6_next_1 (by decide) ?_
  refine lv_bipush (v := (nI 40)) C.1 C.2.1 dX6_next_2 (by decide) ?_
  refine xcS_i (n := 3) (As := [.int x, .int (nI 0), .int (nI 40)]) C hK hW (c_X6_isWithin l g w x (nI 0) (nI 40) hI hN) gX6_next_X6_isWithin rfl ⟨rfl, rfl⟩ (by decide +kernel) ⟨Nat.le_of_ble_eq_true rfl, Nat.le_of_ble_eq_true rfl⟩ ⟨Nat.zero_le _, Nat.zero_le _⟩ rfl hl rfl (Nat.le_of_ble_eq_true rfl) dX6_next_4 (fun r3 w1 H locs q2 hW => ?_)
  obtain ⟨qw4, rfl⟩ := q2
  rw [qw4] at hW
  refine xBne (tgt := 12) C dX6_next_7 (by decide) (fun c7 => ?_) (fun c7 => ?_)
  · obtain ⟨k1, ha_k1, hb_k1, hx_k1⟩ := inR_N (by omega) (by omega) c7
    rw [hx_k1] at hl
    refine lv_aload_n C.1 C.2.1 dX6_next_12 rfl (lv_at hl 0 rfl) ?_
    refine xget C hK hW hinX6 rfl (by omega) hXa 2 (by decide) (List.mem_of_getElem? (i := 1) rfl) rfl dX6_next_13 ?_
    refine lv_aload_n C.1 C.2.1 dX6_next_16 rfl (lv_at hl 0 rfl) ?_
    refine xget C hK hW hinX6 rfl (by omega) hXa 0 (by decide) (List.mem_of_getElem? (i := 2) rfl) rfl dX6_next_17 ?_
    refine xcV_v (n := 1) (As := [.ref (gad g 1)]) C hK hW (c_X1_takeGround l g w 67 1 tx ty (nI (L 40)) (nI (L 24)) TL L hI hN (by omega) (by omega) (by omega) hT hG) gX6_next_X1_takeGround rfl ⟨rfl, rfl⟩ (by decide +kernel) ⟨Nat.le_of_ble_eq_true rfl, Nat.le_of_ble_eq_true rfl⟩ ⟨Nat.zero_le _, Nat.zero_le _⟩ rfl (by omega) hT.1 rfl hl rfl (Nat.le_of_ble_eq_true rfl) dX6_next_20 (fun w5 H locs q6 hW => ?_)
    obtain ⟨h8, f9⟩ := q6
    refine lv_iconst (v := (nI 0)) C.1 C.2.1 dX6_next_23 (by decide) ?_
    refine lv_istore_n (lv' := [(2, .int (nI 0)), (0, .ref (gad g 0)), (1, .int (nI k1))]) C.1 C.2.1 dX6_next_24 rfl hl (by decide) rfl (fun ls hl => ?_)
    have loop25 : ∀ (kG : Nat) (d : Nat) (v25 : Nat → va_E) (H : Heap) (locs : List Loc) (ls : Array Slot), kG = k1 - d → (v25 0 = .inr (6, [.ref (gad g 1), .ref (gad g 34), .ref (gad g 67), .ref (gad g 100), .ref (gad g 106), .ref (gad g 107), .ref (gad g 108), .ref (gad g 110), .int (nI hk)])) → (XLand g 1 L v25) → (XKept g hk K v25) → (XRead g tn T v25) → (XShs g ln sz Z v25) → (GAt g 67 tx ty (daysF L d) v25) → (CAt g 67 TC v25) → (XWays g  v25) → (XFr g  v25) → (∀ j : Nat, ¬ (0 ≤ j ∧ j < 119) → v25 j = w j) → (d ≤ k1) → XW g v25 (gA g) sG.heap H locs → lv_has ls 3 [(2, .int (nI d)), (0, .ref (gad g 0)), (1, .int (nI k1))] → W pG l eG ({ frames := 4, cells := 0, slots := 0, locals := 89 } : Room) sG mG ([.ref (gad g 0), .int x] : List Value).toArray belowG methG cG H locs 0 0 (MQ belowG (XQi g (fun r w' => XAll g (L, K, hk, tn, T, ln, sz, Z) w' ∧ (∀ j : Nat, ¬ (0 ≤ j ∧ j < 119) → w' j = w j) ∧ r = nextS L x)) ([.ref (gad g 0), .int x] : List Value).toArray sG 0 0 (gA g)) (F0 mG 25 ls []) := by
      intro k25
      induction k25 using Nat.strongRecOn with
      | _ k25 ih25 =>
      intro d v25 H locs ls hk25 fa25_0 fa25_1 fa25_2 fa25_3 fa25_4 fa25_5 fa25_6 fa25_7 fa25_8 hfr25 hd hW hl
      refine lv_iload_n C.1 C.2.1 dX6_next_25 rfl (lv_at hl 0 rfl) ?_
      refine lv_iload_n C.1 C.2.1 dX6_next_26 rfl (lv_at hl 2 rfl) ?_
      refine xge (tgt := 43) C (by omega) (by omega) dX6_next_27 (by decide) (fun c27 => ?_) (fun c27 => ?_)
      · refine lv_aload_n C.1 C.2.1 dX6_next_43 rfl (lv_at hl 1 rfl) ?_
        refine xget C hK hW hinX6 rfl (by omega) fa25_0 2 (by decide) (List.mem_of_getElem? (i := 1) rfl) rfl dX6_next_44 ?_
        refine xget C hK hW hinX1 rfl (by omega) fa25_5.1 1 (by decide) (List.mem_of_getElem? (i := 3) rfl) rfl dX6_next_47 ?_
        refine xget C hK hW hinX2 rfl (by omega) fa25_5.2.2.1 0 (by decide) (List.mem_of_getElem? (i := 4) rfl) rfl dX6_next_50 ?_
        exact xret_i C hr hlk hW ⟨⟨fa25_0, fa25_1, fa25_2, ⟨_, _, _, _, fa25_5, fa25_6⟩, fa25_7, fa25_8, fa25_3, fa25_4⟩, (fun j z0 => (hfr25 j z0)), (by rw [nextS, if_pos (c := inR x (nI 0) (nI 40)) c7, hx_k1, cl_nI (by omega), show k1 = d by omega])⟩ dX6_next_53
      · have hdo := daysF_ok hok hs2 d
        refine lv_aload_n C.1 C.2.1 dX6_next_30 rfl (lv_at hl 1 rfl) ?_
        refine xget C hK hW hinX6 rfl (by omega) fa25_0 2 (by decide) (List.mem_of_getElem? (i := 1) rfl) rfl dX6_next_31 ?_
        refine xcV_v (n := 0) (As := []) C hK hW (c_X1_passDay l g v25 67 tx ty (daysF L d) hI hN (by omega) hdo.1 hdo.2 fa25_5) gX6_next_X1_passDay rfl ⟨rfl, rfl⟩ (by decide +kernel) ⟨Nat.le_of_ble_eq_true rfl, Nat.le_of_ble_eq_true rfl⟩ ⟨Nat.zero_le _, Nat.zero_le _⟩ rfl (by omega) fa25_5.1 rfl hl rfl (Nat.le_of_ble_eq_true rfl) dX6_next_34 (fun w10 H locs q11 hW => ?_)
        obtain ⟨h13, f14⟩ := q11
        refine lv_iinc (v := nI (d + 1)) (lv' := [(2, .int (nI (d + 1))), (0, .ref (gad g 0)), (1, .int (nI k1))]) C.1 C.2.1 dX6_next_37 hl (k := 0) rfl (nI_add _ 1) (by decide) rfl (fun ls hl => ?_)
        refine lv_goto (tgt := 25) C.1 C.2.1 dX6_next_40 (by decide) ?_
        have h15 : w10 0 = .inr (6, [.ref (gad g 1), .ref (gad g 34), .ref (gad g 67), .ref (gad g 100), .ref (gad g 106), .ref (gad g 107), .ref (gad g 108), .ref (gad g 110), .int (nI hk)]) := ((f14 0 (by omega)).trans fa25_0)
        have h16 : XLand g 1 L w10 := (XLand.fr fa25_1 (fun j h1 h2 => f14 j (by omega)))
        have h17 : XKept g hk K w10 := (XKept.fr fa25_2 (fun j h1 h2 => f14 j (by omega)))
        have h18 : XRead g tn T w10 := (XRead.fr fa25_3 (fun j h1 h2 => f14 j (by omega)))
        have h19 : XShs g ln sz Z w10 := (XShs.fr fa25_4 (fun j h1 h2 => f14 j (by omega)))
        have h20 : CAt g 67 TC w10 := (CAt.fr fa25_6 (fun j h1 h2 => f14 j (by omega)))
        have h21 : XWays g  w10 := (XWays.fr fa25_7 (fun j h1 h2 => f14 j (by omega)))
        have h22 : XFr g  w10 := (XFr.fr fa25_8 (fun j h1 h2 => f14 j (by omega)))
        exact ih25 (k1 - (d + 1)) (by omega) (d + 1) w10 _ _ _ rfl h15 h16 h17 h18 h19 (by first | exact h13 | (rw [mixF_0]; exact h13) | (rw [mixF_up]; exact h13) | (refine (h13).trans ?_; rw [cK_mixE (by omega)]; done) | (refine (h13).trans ?_; rw [cL_mixE (by omega)]; done) | (refine (h13).trans ?_; rw [cL_mixE (by omega)]; rfl)) h20 h21 h22 (fun j z0 => ((f14 j (by omega)).trans (hfr25 j z0))) (by omega) hW hl
    have h23 : w5 0 = .inr (6, [.ref (gad g 1), .ref (gad g 34), .ref (gad g 67), .ref (gad g 100), .ref (gad g 106), .ref (gad g 107), .ref (gad g 108), .ref (gad g 110), .int (nI hk)]) := ((f9 0 (by omega)).trans hXa)
    have h24 : XLand g 1 L w5 := (XLand.fr hXl (fun j h1 h2 => f9 j (by omega)))
    have h25 : XKept g hk K w5 := (XKept.fr hXk (fun j h1 h2 => f9 j (by omega)))
    have h26 : XRead g tn T w5 := (XRead.fr hXr (fun j h1 h2 => f9 j (by omega)))
    have h27 : XShs g ln sz Z w5 := (XShs.fr hXs (fun j h1 h2 => f9 j (by omega)))
    have h28 : CAt g 67 TC w5 := (CAt.fr hTC (fun j h1 h2 => f9 j (by omega)))
    have h29 : XWays g  w5 := (XWays.fr hXw (fun j h1 h2 => f9 j (by omega)))
    have h30 : XFr g  w5 := (XFr.fr hXf (fun j h1 h2 => f9 j (by omega)))
    exact loop25 _ 0 w5 _ _ _ rfl h23 h24 h25 h26 h27 (by first | exact h8 | (rw [mixF_0]; exact h8) | (rw [mixF_up]; exact h8) | (refine (h8).trans ?_; rw [cK_mixE (by omega)]; done) | (refine (h8).trans ?_; rw [cL_mixE (by omega)]; done) | (refine (h8).trans ?_; rw [cL_mixE (by omega)]; rfl)) h28 h29 h30 (fun j z0 => (f9 j (by omega))) (by omega) hW hl
  · refine lv_iconst (v := (-1 : Int32)) C.1 C.2.1 dX6_next_10 (by decide) ?_
    exact xret_i C hr hlk hW ⟨⟨hXa, hXl, hXk, ⟨_, _, _, _, hT, hTC⟩, hXw, hXf, hXr, hXs⟩, (fun j z0 => rfl), (by rw [nextS, if_neg (c := inR x (nI 0) (nI 40)) (fun h => c7 h)])⟩ dX6_next_11

set_option maxHeartbeats 4000000 in
set_option maxRecDepth 100000 in
theorem c_X6_winter (l : Launch) (g : GE) (w : Nat → va_E) (L K T ln sz : Nat → Nat) (hk tn : Nat) (Z : Nat → Int64) (x : Int32) (y : Int32) (c : Int32) (z : Int32) (hI : AdInj g) (hN : gN g = 130) (hS : OkS (L, K, hk, tn, T, ln, sz, Z)) (pr0 : XAll g (L, K, hk, tn, T, ln, sz, Z) w) : Met l yX6_winter wsX6_winter ({ frames := 5, cells := 0, slots := 0, locals := 108 } : Room) (XPc g w [.ref (gad g 0), .int x, .int y, .int c, .int z]) (XQi g (fun r w' => XAll g (L, K, hk, tn, T, ln, sz, Z) w' ∧ (∀ j : Nat, ¬ (0 ≤ j ∧ j < 119) → w' j = w j) ∧ r = winterS L x y c z)) 0 0 (gA g) := by
  refine xmet (cc := cX6_winter) (maxL := 5) (ret := (some .int)) (by decide) rfl hI (Nat.le_of_ble_eq_true rfl) ?_
  intro pG eG sG mG belowG methG cG ls C hr hlk hK hW hl
  have hl : lv_has ls 5 [(0, .ref (gad g 0)), (1, .int x), (2, .int y), (3, .int c), (4, .int z)] := hl
  have hinX1 : ∀ x ∈ u_ws RX1 TX1 8, x ∈ wsX6_winter := by decide +kernel
  have hinX2 : ∀ x ∈ u_ws RX2 TX2 5, x ∈ wsX6_winter := by decide +kernel
  have hinX5 : ∀ x ∈ u_ws RX5 TX5 7, x ∈ wsX6_winter := by decide +kernel
  have hinX6 : ∀ x ∈ u_ws RX6 TX6 9, x ∈ wsX6_winter := by decide +kernel
  obtain ⟨hXa, hXl, hXk, hXt, hXw, hXf, hXr, hXs⟩ := pr0
  have hXa : w 0 = cX0 g hk := hXa
  have hXl : XLand g 1 L w := hXl
  have hXk : XKept g hk K w := hXk
  have hXr : XRead g tn T w := hXr
  have hXs : XShs g ln sz Z w := hXs
  have hokL : OkL L := hS.1
  obtain ⟨hok, hs2, hdy, hdr, hcl, hkn, hcs, hps⟩ := hokL
  obtain ⟨π, P, CK, hG, hC, hCk, hPa, hPm, hPk⟩ := id hXl
  obtain ⟨wh, al, sa, sb, on, bk, O, A, hw0, hw1, hw2, hw3, hw4, hw5⟩ := hXw
  obtain ⟨fa, fb, fc, fd, hf6, hf7⟩ := hXf
  refine lv_iload_n C.1 C.2.1 dX6_winter_0 rfl (lv_at hl 1 rfl) ?_
  refine xcS_i (n := 1) (As := [.int x]) C hK hW (c_X6_isField l g w x hI hN) gX6_winter_X6_isField rfl ⟨rfl, rfl⟩ (by decide +kernel) ⟨Nat.le_of_ble_eq_true rfl, Nat.le_of_ble_eq_true rfl⟩ ⟨Nat.zero_le _, Nat.zero_le _⟩ rfl hl rfl (Nat.le_of_ble_eq_true rfl) dX6_winter_1 (fun r3 w1 H locs q2 hW => ?_)
  obtain ⟨qw4, rfl⟩ := q2
  rw [qw4] at hW
  refine xBeq (tgt := 16) C dX6_winter_4 (by decide) (fun c4 => ?_) (fun c4 => ?_)
  · refine lv_iconst (v := (-1 : Int32)) C.1 C.2.1 dX6_winter_16 (by decide) ?_
    exact xret_i C hr hlk hW ⟨⟨hXa, hXl, hXk, hXt, ⟨_, _, _, _, _, _, _, _, hw0, hw1, hw2, hw3, hw4, hw5⟩, ⟨_, _, _, _, hf6, hf7⟩, hXr, hXs⟩, (fun j z0 => rfl), (by rw [winterS, if_neg (c := in6 x ∧ inR y (nI 0) (nI 4) ∧ inR c (nI 0) (nI 10) ∧ inR z (nI 0) (nI 1)) (fun h => c4 h.1)])⟩ dX6_winter_17
  · obtain ⟨k1, ha_k1, hb_k1, hx_k1⟩ := inR_N (by omega) (by omega) c4
    rw [hx_k1] at hl
    refine lv_iload_n C.1 C.2.1 dX6_winter_7 rfl (lv_at hl 2 rfl) ?_
    refine lv_iconst (v := (nI 0)) C.1 C.2.1 dX6_winter_8 (by decide) ?_
    refine lv_iconst (v := (nI 4)) C.1 C.2.1 dX6_winter_9 (by decide) ?_
    refine xcS_i (n := 3) (As := [.int y, .int (nI 0), .int (nI 4)]) C hK hW (c_X6_isWithin l g w y (nI 0) (nI 4) hI hN) gX6_winter_X6_isWithin rfl ⟨rfl, rfl⟩ (by decide +kernel) ⟨Nat.le_of_ble_eq_true rfl, Nat.le_of_ble_eq_true rfl⟩ ⟨Nat.zero_le _, Nat.zero_le _⟩ rfl hl rfl (Nat.le_of_ble_eq_true rfl) dX6_winter_10 (fun r7 w5 H locs q6 hW => ?_)
    obtain ⟨qw8, rfl⟩ := q6
    rw [qw8] at hW
    refine xBne (tgt := 18) C dX6_winter_13 (by decide) (fun c13 => ?_) (fun c13 => ?_)
    · obtain ⟨k2, ha_k2, hb_k2, hx_k2⟩ := inR_N (by omega) (by omega) c13
      rw [hx_k2] at hl
      refine lv_iload_n C.1 C.2.1 dX6_winter_18 rfl (lv_at hl 3 rfl) ?_
      refine lv_iconst (v := (nI 0)) C.1 C.2.1 dX6_winter_19 (by decide) ?_
      refine lv_bipush (v := (nI 10)) C.1 C.2.1 dX6_winter_20 (by decide) ?_
      refine xcS_i (n := 3) (As := [.int c, .int (nI 0), .int (nI 10)]) C hK hW (c_X6_isWithin l g w c (nI 0) (nI 10) hI hN) gX6_winter_X6_isWithin rfl ⟨rfl, rfl⟩ (by decide +kernel) ⟨Nat.le_of_ble_eq_true rfl, Nat.le_of_ble_eq_true rfl⟩ ⟨Nat.zero_le _, Nat.zero_le _⟩ rfl hl rfl (Nat.le_of_ble_eq_true rfl) dX6_winter_22 (fun r11 w9 H locs q10 hW => ?_)
      obtain ⟨qw12, rfl⟩ := q10
      rw [qw12] at hW
      refine xBeq (tgt := 38) C dX6_winter_25 (by decide) (fun c25 => ?_) (fun c25 => ?_)
      · refine lv_iconst (v := (-1 : Int32)) C.1 C.2.1 dX6_winter_38 (by decide) ?_
        exact xret_i C hr hlk hW ⟨⟨hXa, hXl, hXk, hXt, ⟨_, _, _, _, _, _, _, _, hw0, hw1, hw2, hw3, hw4, hw5⟩, ⟨_, _, _, _, hf6, hf7⟩, hXr, hXs⟩, (fun j z0 => rfl), (by rw [winterS, if_neg (c := in6 x ∧ inR y (nI 0) (nI 4) ∧ inR c (nI 0) (nI 10) ∧ inR z (nI 0) (nI 1)) (fun h => c25 h.2.2.1)])⟩ dX6_winter_39
      · obtain ⟨kc, ha_kc, hb_kc, hx_kc⟩ := inR_N (by omega) (by omega) c25
        rw [hx_kc] at hl
        refine lv_iload C.1 C.2.1 dX6_winter_28 (lv_at hl 4 rfl) ?_
        refine lv_iconst (v := (nI 0)) C.1 C.2.1 dX6_winter_30 (by decide) ?_
        refine lv_iconst (v := (nI 1)) C.1 C.2.1 dX6_winter_31 (by decide) ?_
        refine xcS_i (n := 3) (As := [.int z, .int (nI 0), .int (nI 1)]) C hK hW (c_X6_isWithin l g w z (nI 0) (nI 1) hI hN) gX6_winter_X6_isWithin rfl ⟨rfl, rfl⟩ (by decide +kernel) ⟨Nat.le_of_ble_eq_true rfl, Nat.le_of_ble_eq_true rfl⟩ ⟨Nat.zero_le _, Nat.zero_le _⟩ rfl hl rfl (Nat.le_of_ble_eq_true rfl) dX6_winter_32 (fun r15 w13 H locs q14 hW => ?_)
        obtain ⟨qw16, rfl⟩ := q14
        rw [qw16] at hW
        refine xBne (tgt := 40) C dX6_winter_35 (by decide) (fun c35 => ?_) (fun c35 => ?_)
        · obtain ⟨k3, ha_k3, hb_k3, hx_k3⟩ := inR_N (by omega) (by omega) c35
          rw [hx_k3] at hl
          refine lv_aload_n C.1 C.2.1 dX6_winter_40 rfl (lv_at hl 0 rfl) ?_
          refine xget C hK hW hinX6 rfl (by omega) hXa 3 (by decide) (List.mem_of_getElem? (i := 1) rfl) rfl dX6_winter_41 ?_
          refine lv_aload_n C.1 C.2.1 dX6_winter_44 rfl (lv_at hl 0 rfl) ?_
          refine xget C hK hW hinX6 rfl (by omega) hXa 0 (by decide) (List.mem_of_getElem? (i := 2) rfl) rfl dX6_winter_45 ?_
          refine xcV_v (n := 1) (As := [.ref (gad g 1)]) C hK hW (c_X5_learn l g w 1 wh al (nI (L 40)) (nI (L 24)) L on bk hI hN (by omega) hok hw0 hw1 hw2 hG) gX6_winter_X5_learn rfl ⟨rfl, rfl⟩ (by decide +kernel) ⟨Nat.le_of_ble_eq_true rfl, Nat.le_of_ble_eq_true rfl⟩ ⟨Nat.zero_le _, Nat.zero_le _⟩ rfl (by omega) hw0 rfl hl rfl (Nat.le_of_ble_eq_true rfl) dX6_winter_48 (fun w17 H locs q18 hW => ?_)
          obtain ⟨h20, h21, h22, f23⟩ := q18
          refine lv_aload_n C.1 C.2.1 dX6_winter_51 rfl (lv_at hl 0 rfl) ?_
          have h24 : w17 0 = .inr (6, [.ref (gad g 1), .ref (gad g 34), .ref (gad g 67), .ref (gad g 100), .ref (gad g 106), .ref (gad g 107), .ref (gad g 108), .ref (gad g 110), .int (nI hk)]) := ((f23 0 (by omega)).trans hXa)
          refine xget C hK hW hinX6 rfl (by omega) h24 3 (by decide) (List.mem_of_getElem? (i := 1) rfl) rfl dX6_winter_52 ?_
          refine lv_iload_n C.1 C.2.1 dX6_winter_55 rfl (lv_at hl 3 rfl) ?_
          refine xcV_v (n := 1) (As := [.int (nI kc)]) C hK hW (c_X5_fallAsleep l g w17 kc 10 al (onF L) (backF L) hI hN (by omega) h20 h21 h22) gX6_winter_X5_fallAsleep rfl ⟨rfl, rfl⟩ (by decide +kernel) ⟨Nat.le_of_ble_eq_true rfl, Nat.le_of_ble_eq_true rfl⟩ ⟨Nat.zero_le _, Nat.zero_le _⟩ rfl (by omega) h20 rfl hl rfl (Nat.le_of_ble_eq_true rfl) dX6_winter_56 (fun w25 H locs q26 hW => ?_)
          obtain ⟨h28, h29, h30, f31⟩ := q26
          refine lv_aload_n C.1 C.2.1 dX6_winter_59 rfl (lv_at hl 0 rfl) ?_
          have h32 : w25 0 = .inr (6, [.ref (gad g 1), .ref (gad g 34), .ref (gad g 67), .ref (gad g 100), .ref (gad g 106), .ref (gad g 107), .ref (gad g 108), .ref (gad g 110), .int (nI hk)]) := ((f31 0 (by omega)).trans h24)
          refine xget C hK hW hinX6 rfl (by omega) h32 3 (by decide) (List.mem_of_getElem? (i := 1) rfl) rfl dX6_winter_60 ?_
          refine lv_aload_n C.1 C.2.1 dX6_winter_63 rfl (lv_at hl 0 rfl) ?_
          refine xget C hK hW hinX6 rfl (by omega) h32 0 (by decide) (List.mem_of_getElem? (i := 2) rfl) rfl dX6_winter_64 ?_
          have h33 : GAt g 1 (nI (L 40)) (nI (L 24)) L w25 := (GAt.fr (GAt.fr hG (fun j h1 h2 => f23 j (by omega))) (fun j h1 h2 => f31 j (by omega)))
          refine xget C hK hW hinX1 rfl (by omega) h33.1 1 (by decide) (List.mem_of_getElem? (i := 3) rfl) rfl dX6_winter_67 ?_
          refine xget C hK hW hinX2 rfl (by omega) h33.2.2.1 0 (by decide) (List.mem_of_getElem? (i := 4) rfl) rfl dX6_winter_70 ?_
          refine lv_iload_n C.1 C.2.1 dX6_winter_73 rfl (lv_at hl 2 rfl) ?_
          have h34 : w25 103 = .inl (gJ g, 7, .inr (.inl (cL 7 0 O))) := ((f31 103 (by omega)).trans ((f23 103 (by omega)).trans hw3))
          have h35 : w25 104 = .inl (gJ g, 7, .inr (.inl (cL 7 0 A))) := ((f31 104 (by omega)).trans ((f23 104 (by omega)).trans hw4))
          refine xcV_v (n := 2) (As := [.int (nI (L 2)), .int (nI k2)]) C hK hW (c_X5_spread l g w25 (L 2) k2 100 al (fun f => (onF L) f * (10 - kc)) (fun f => (backF L) f * (10 - kc)) O A hI hN (by omega) (by omega) (by omega) (fun f _ => onC_back (c := kc)) h28 h29 h30 h34 h35) gX6_winter_X5_spread rfl ⟨rfl, rfl⟩ (by decide +kernel) ⟨Nat.le_of_ble_eq_true rfl, Nat.le_of_ble_eq_true rfl⟩ ⟨Nat.zero_le _, Nat.zero_le _⟩ rfl (by omega) h28 rfl hl rfl (Nat.le_of_ble_eq_true rfl) dX6_winter_74 (fun w36 H locs q37 hW => ?_)
          obtain ⟨A1_43, h39, h40, h41, f42⟩ := q37
          have h44 : w36 103 = .inl (gJ g, 7, .inr (.inl (cL 7 0 (odC L kc k2)))) := h40
          have hO := odC_le (L := L) (c := kc) (n := k2) (f := k1) (by omega) (by omega)
          have hp := p100 (k := k2) (by omega)
          refine lv_aload_n C.1 C.2.1 dX6_winter_77 rfl (lv_at hl 0 rfl) ?_
          have h45 : w36 0 = .inr (6, [.ref (gad g 1), .ref (gad g 34), .ref (gad g 67), .ref (gad g 100), .ref (gad g 106), .ref (gad g 107), .ref (gad g 108), .ref (gad g 110), .int (nI hk)]) := ((f42 0 (by omega) (by omega)).trans h32)
          refine xget C hK hW hinX6 rfl (by omega) h45 4 (by decide) (List.mem_of_getElem? (i := 5) rfl) rfl dX6_winter_78 ?_
          refine lv_aload_n C.1 C.2.1 dX6_winter_81 rfl (lv_at hl 0 rfl) ?_
          refine xget C hK hW hinX6 rfl (by omega) h45 3 (by decide) (List.mem_of_getElem? (i := 1) rfl) rfl dX6_winter_82 ?_
          refine xget C hK hW hinX5 rfl (by omega) h39 3 (by decide) (List.mem_of_getElem? (i := 6) rfl) rfl dX6_winter_85 ?_
          refine lv_iload_n C.1 C.2.1 dX6_winter_88 rfl (lv_at hl 1 rfl) ?_
          refine xlldK0 C hK hW (by omega) h44 (by omega) (by decide) dX6_winter_89 ?_
          refine lv_aload_n C.1 C.2.1 dX6_winter_90 rfl (lv_at hl 0 rfl) ?_
          refine xget C hK hW hinX6 rfl (by omega) h45 3 (by decide) (List.mem_of_getElem? (i := 1) rfl) rfl dX6_winter_91 ?_
          refine xget C hK hW hinX5 rfl (by omega) h39 5 (by decide) (List.mem_of_getElem? (i := 7) rfl) rfl dX6_winter_94 ?_
          have h46 : w36 106 = .inr (0, [.long (lN fa), .long (lN fb)]) := ((f42 106 (by omega) (by omega)).trans ((f31 106 (by omega)).trans ((f23 106 (by omega)).trans hf6)))
          refine xcV_v (n := 2) (As := [.long (lN ((odC L kc k2) k1)), .long (lN (100 ^ k2))]) C hK hW (c_X0_become l g w36 106 ((odC L kc k2) k1) (100 ^ k2) (lN fa) (lN fb) hI hN (by omega) (by omega) (by omega) (by omega) h46) gX6_winter_X0_become rfl ⟨rfl, rfl⟩ (by decide +kernel) ⟨Nat.le_of_ble_eq_true rfl, Nat.le_of_ble_eq_true rfl⟩ ⟨Nat.zero_le _, Nat.zero_le _⟩ rfl (by omega) h46 rfl hl rfl (Nat.le_of_ble_eq_true rfl) dX6_winter_97 (fun w47 H locs q48 hW => ?_)
          obtain ⟨h50, f51⟩ := q48
          refine lv_aload_n C.1 C.2.1 dX6_winter_100 rfl (lv_at hl 0 rfl) ?_
          have h52 : w47 0 = .inr (6, [.ref (gad g 1), .ref (gad g 34), .ref (gad g 67), .ref (gad g 100), .ref (gad g 106), .ref (gad g 107), .ref (gad g 108), .ref (gad g 110), .int (nI hk)]) := ((f51 0 (by omega)).trans h45)
          refine xget C hK hW hinX6 rfl (by omega) h52 4 (by decide) (List.mem_of_getElem? (i := 5) rfl) rfl dX6_winter_101 ?_
          refine lv_iload C.1 C.2.1 dX6_winter_104 (lv_at hl 4 rfl) ?_
          refine xcV_l (n := 1) (As := [.int (nI k3)]) C hK hW (c_X0_told l g w47 106 k3 (redU ((odC L kc k2) k1) (100 ^ k2)) (redD ((odC L kc k2) k1) (100 ^ k2)) hI hN (by omega) (by omega) h50) gX6_winter_X0_told rfl ⟨rfl, rfl⟩ (by decide +kernel) ⟨Nat.le_of_ble_eq_true rfl, Nat.le_of_ble_eq_true rfl⟩ ⟨Nat.zero_le _, Nat.zero_le _⟩ rfl (by omega) h50 rfl hl rfl (Nat.le_of_ble_eq_true rfl) dX6_winter_106 (fun r55 w53 H locs q54 hW => ?_)
          obtain ⟨qw56, rfl⟩ := q54
          rw [qw56] at hW
          refine xl2i C dX6_winter_109 ?_
          have h57 : XLand g 1 L w47 := (XLand.fr (XLand.fr (XLand.fr (XLand.fr hXl (fun j h1 h2 => f23 j (by omega))) (fun j h1 h2 => f31 j (by omega))) (fun j h1 h2 => f42 j (by omega) (by omega))) (fun j h1 h2 => f51 j (by omega)))
          have h58 : XKept g hk K w47 := (XKept.fr (XKept.fr (XKept.fr (XKept.fr hXk (fun j h1 h2 => f23 j (by omega))) (fun j h1 h2 => f31 j (by omega))) (fun j h1 h2 => f42 j (by omega) (by omega))) (fun j h1 h2 => f51 j (by omega)))
          have h59 : XTrial g  w47 := (XTrial.fr (XTrial.fr (XTrial.fr (XTrial.fr hXt (fun j h1 h2 => f23 j (by omega))) (fun j h1 h2 => f31 j (by omega))) (fun j h1 h2 => f42 j (by omega) (by omega))) (fun j h1 h2 => f51 j (by omega)))
          have h60 : w47 100 = .inr (5, [.ref (gad g 101), .ref (gad g 102), .int (nI 100), .ref (gad g 103), .ref (gad g 104), .long (lN (100 ^ k2)), .ref (gad g 105)]) := ((f51 100 (by omega)).trans h39)
          have h61 : w47 101 = .inl (gI g, 7, .inl (cK 7 0 (fun f => (onF L) f * (10 - kc)))) := ((f51 101 (by omega)).trans ((f42 101 (by omega) (by omega)).trans h29))
          have h62 : w47 102 = .inl (gI g, 7, .inl (cK 7 0 (fun f => (backF L) f * (10 - kc)))) := ((f51 102 (by omega)).trans ((f42 102 (by omega) (by omega)).trans h30))
          have h63 : w47 103 = .inl (gJ g, 7, .inr (.inl (cL 7 0 (odC L kc k2)))) := ((f51 103 (by omega)).trans h44)
          have h64 : w47 104 = .inl (gJ g, 7, .inr (.inl (cL 7 0 A1_43))) := ((f51 104 (by omega)).trans h41)
          have h65 : w47 105 = .inr (0, [.long (lN sa), .long (lN sb)]) := ((f51 105 (by omega)).trans ((f42 105 (by omega) (by omega)).trans ((f31 105 (by omega)).trans ((f23 105 (by omega)).trans hw5))))
          have h66 : w47 107 = .inr (0, [.long (lN fc), .long (lN fd)]) := ((f51 107 (by omega)).trans ((f42 107 (by omega) (by omega)).trans ((f31 107 (by omega)).trans ((f23 107 (by omega)).trans hf7))))
          have h67 : XRead g tn T w47 := (XRead.fr (XRead.fr (XRead.fr (XRead.fr hXr (fun j h1 h2 => f23 j (by omega))) (fun j h1 h2 => f31 j (by omega))) (fun j h1 h2 => f42 j (by omega) (by omega))) (fun j h1 h2 => f51 j (by omega)))
          have h68 : XShs g ln sz Z w47 := (XShs.fr (XShs.fr (XShs.fr (XShs.fr hXs (fun j h1 h2 => f23 j (by omega))) (fun j h1 h2 => f31 j (by omega))) (fun j h1 h2 => f42 j (by omega) (by omega))) (fun j h1 h2 => f51 j (by omega)))
          exact xret_i C hr hlk hW ⟨⟨h52, h57, h58, h59, ⟨_, _, _, _, _, _, _, _, h60, h61, h62, h63, h64, h65⟩, ⟨_, _, _, _, h50, h66⟩, h67, h68⟩, (fun j z0 => ((f51 j (by omega)).trans ((f42 j (by omega) (by omega)).trans ((f31 j (by omega)).trans (f23 j (by omega)))))), (by rw [winterS, if_pos (c := in6 x ∧ inR y (nI 0) (nI 4) ∧ inR c (nI 0) (nI 10) ∧ inR z (nI 0) (nI 1)) ⟨c4, c13, c25, c35⟩, hx_k1, hx_k2, hx_kc, hx_k3, cl_nI (by omega), cl_nI (by omega), cl_nI (by omega), cl_nI (by omega)])⟩ dX6_winter_110
        · refine lv_iconst (v := (-1 : Int32)) C.1 C.2.1 dX6_winter_38 (by decide) ?_
          exact xret_i C hr hlk hW ⟨⟨hXa, hXl, hXk, hXt, ⟨_, _, _, _, _, _, _, _, hw0, hw1, hw2, hw3, hw4, hw5⟩, ⟨_, _, _, _, hf6, hf7⟩, hXr, hXs⟩, (fun j z0 => rfl), (by rw [winterS, if_neg (c := in6 x ∧ inR y (nI 0) (nI 4) ∧ inR c (nI 0) (nI 10) ∧ inR z (nI 0) (nI 1)) (fun h => c35 h.2.2.2)])⟩ dX6_winter_39
    · refine lv_iconst (v := (-1 : Int32)) C.1 C.2.1 dX6_winter_16 (by decide) ?_
      exact xret_i C hr hlk hW ⟨⟨hXa, hXl, hXk, hXt, ⟨_, _, _, _, _, _, _, _, hw0, hw1, hw2, hw3, hw4, hw5⟩, ⟨_, _, _, _, hf6, hf7⟩, hXr, hXs⟩, (fun j z0 => rfl), (by rw [winterS, if_neg (c := in6 x ∧ inR y (nI 0) (nI 4) ∧ inR c (nI 0) (nI 10) ∧ inR z (nI 0) (nI 1)) (fun h => c13 h.2.1)])⟩ dX6_winter_17
