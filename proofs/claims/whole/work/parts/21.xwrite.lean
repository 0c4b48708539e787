set_option maxHeartbeats 4000000 in
set_option maxRecDepth 100000 in
theorem c_X1_claimsOn (l : Launch) (g : GE) (w : Nat → va_E) (b f n : Nat) (x : Int32) (L K : Nat → Nat) (hI : AdInj g) (hN : gN g = 130) (hb : b + 33 ≤ 119) (hn : n ≤ 5) (hf : f < 7) (pr0 : GAt g b x (nI n) L w) (pr1 : CAt g b K w) : Met l yX1_claimsOn wsX1_claimsOn ({ frames := 1, cells := 0, slots := 0, locals := 22 } : Room) (XPc g w [.ref (gad g b), .int (nI f)]) (XQi g (fun r w' => w' = w ∧ r = (setF (fun c => decide (inR (nI f) (nI (K (25 + c))) (nI (K (30 + c))))) n))) 0 0 (gA g) := by
  refine xmet (cc := cX1_claimsOn) (maxL := 4) (ret := (some .int)) (by decide) rfl hI (Nat.le_of_ble_eq_true rfl) ?_
  intro pG eG sG mG belowG methG cG ls C hr hlk hK hW hl
  have hl : lv_has ls 4 [(0, .ref (gad g b)), (1, .int (nI f))] := hl
  have hinX1 : ∀ x ∈ u_ws RX1 TX1 8, x ∈ wsX1_claimsOn := by decide +kernel
  refine lv_iconst (v := (nI 0)) C.1 C.2.1 dX1_claimsOn_0 (by decide) ?_
  refine lv_istore_n (lv' := [(2, .int (nI 0)), (0, .ref (gad g b)), (1, .int (nI f))]) C.1 C.2.1 dX1_claimsOn_1 rfl hl (by decide) rfl (fun ls hl => ?_)
  refine lv_iconst (v := (nI 0)) C.1 C.2.1 dX1_claimsOn_2 (by decide) ?_
  refine lv_istore_n (lv' := [(3, .int (nI 0)), (2, .int (nI 0)), (0, .ref (gad g b)), (1, .int (nI f))]) C.1 C.2.1 dX1_claimsOn_3 rfl hl (by decide) rfl (fun ls hl => ?_)
  have loop4 : ∀ (kG : Nat) (c : Nat) (H : Heap) (locs : List Loc) (ls : Array Slot), kG = n - c → (c ≤ n) → XW g w (gA g) sG.heap H locs → lv_has ls 4 [(3, .int (nI c)), (2, .int (setF (fun c => decide (inR (nI f) (nI (K (25 + c))) (nI (K (30 + c))))) c)), (0, .ref (gad g b)), (1, .int (nI f))] → W pG l eG ({ frames := 1, cells := 0, slots := 0, locals := 22 } : Room) sG mG ([.ref (gad g b), .int (nI f)] : List Value).toArray belowG methG cG H locs 0 0 (MQ belowG (XQi g (fun r w' => w' = w ∧ r = (setF (fun c => decide (inR (nI f) (nI (K (25 + c))) (nI (K (30 + c))))) n))) ([.ref (gad g b), .int (nI f)] : List Value).toArray sG 0 0 (gA g)) (F0 mG 4 ls []) := by
    intro k4
    induction k4 using Nat.strongRecOn with
    | _ k4 ih4 =>
    intro c H locs ls hk4 hc hW hl
    refine lv_iload_n C.1 C.2.1 dX1_claimsOn_4 rfl (lv_at hl 0 rfl) ?_
    refine lv_aload_n C.1 C.2.1 dX1_claimsOn_5 rfl (lv_at hl 2 rfl) ?_
    refine xget C hK hW hinX1 rfl (by omega) pr0.1 7 (by decide) (List.mem_of_getElem? (i := 1) rfl) rfl dX1_claimsOn_6 ?_
    refine xge (tgt := 43) C (by omega) (by omega) dX1_claimsOn_9 (by decide) (fun c9 => ?_) (fun c9 => ?_)
    · refine lv_iload_n C.1 C.2.1 dX1_claimsOn_43 rfl (lv_at hl 1 rfl) ?_
      exact xret_i C hr hlk hW ⟨rfl, by rw [show c = n by omega]⟩ dX1_claimsOn_44
    · refine lv_iload_n C.1 C.2.1 dX1_claimsOn_12 rfl (lv_at hl 3 rfl) ?_
      refine lv_aload_n C.1 C.2.1 dX1_claimsOn_13 rfl (lv_at hl 2 rfl) ?_
      refine xget C hK hW hinX1 rfl (by omega) pr0.1 4 (by decide) (List.mem_of_getElem? (i := 2) rfl) rfl dX1_claimsOn_14 ?_
      refine lv_iload_n C.1 C.2.1 dX1_claimsOn_17 rfl (lv_at hl 0 rfl) ?_
      refine xildK C hK hW (by omega) pr1.1 (by omega) (by decide) dX1_claimsOn_18 ?_
      refine lv_aload_n C.1 C.2.1 dX1_claimsOn_19 rfl (lv_at hl 2 rfl) ?_
      refine xget C hK hW hinX1 rfl (by omega) pr0.1 5 (by decide) (List.mem_of_getElem? (i := 3) rfl) rfl dX1_claimsOn_20 ?_
      refine lv_iload_n C.1 C.2.1 dX1_claimsOn_23 rfl (lv_at hl 0 rfl) ?_
      refine xildK C hK hW (by omega) pr1.2.1 (by omega) (by decide) dX1_claimsOn_24 ?_
      refine xcN_i (n := 3) (As := [.int (nI f), .int (nI (K (25 + c))), .int (nI (K (30 + c)))]) C hK hW (c_X6_isWithin l g w (nI f) (nI (K (25 + c))) (nI (K (30 + c))) hI hN) gX1_claimsOn_X6_isWithin_n42 rfl ⟨rfl, rfl⟩ hK.2.1 (List.mem_of_getElem? (i := 5) rfl) (List.mem_of_getElem? (i := 4) rfl) (by decide +kernel) ⟨Nat.le_of_ble_eq_true rfl, Nat.le_of_ble_eq_true rfl⟩ ⟨Nat.zero_le _, Nat.zero_le _⟩ rfl hl rfl (Nat.le_of_ble_eq_true rfl) dX1_claimsOn_25 (fun r3 w1 H locs q2 hW => ?_)
      obtain ⟨qw4, rfl⟩ := q2
      rw [qw4] at hW
      refine xBeq (tgt := 37) C dX1_claimsOn_28 (by decide) (fun c28 => ?_) (fun c28 => ?_)
      · have hl : lv_has ls 4 [(3, .int (nI c)), (2, .int (setF (fun c => decide (inR (nI f) (nI (K (25 + c))) (nI (K (30 + c))))) (c + 1))), (0, .ref (gad g b)), (1, .int (nI f))] := by rw [show (setF (fun c => decide (inR (nI f) (nI (K (25 + c))) (nI (K (30 + c))))) (c + 1)) = (setF (fun c => decide (inR (nI f) (nI (K (25 + c))) (nI (K (30 + c))))) c) from (setF_n (p := fun c => decide (inR (nI f) (nI (K (25 + c))) (nI (K (30 + c))))) (fun z => c28 (of_decide_eq_true z)))]; exact hl
        refine lv_iinc (v := nI (c + 1)) (lv' := [(3, .int (nI (c + 1))), (2, .int (setF (fun c => decide (inR (nI f) (nI (K (25 + c))) (nI (K (30 + c))))) (c + 1))), (0, .ref (gad g b)), (1, .int (nI f))]) C.1 C.2.1 dX1_claimsOn_37 hl (k := 0) rfl (nI_add _ 1) (by decide) rfl (fun ls hl => ?_)
        refine lv_goto (tgt := 4) C.1 C.2.1 dX1_claimsOn_40 (by decide) ?_
        exact ih4 (n - (c + 1)) (by omega) (c + 1) _ _ _ rfl (by omega) hW hl
      · refine lv_iload_n C.1 C.2.1 dX1_claimsOn_31 rfl (lv_at hl 1 rfl) ?_
        refine lv_iconst (v := (nI 1)) C.1 C.2.1 dX1_claimsOn_32 (by decide) ?_
        refine lv_iload_n C.1 C.2.1 dX1_claimsOn_33 rfl (lv_at hl 0 rfl) ?_
        refine lv_ishl C.1 C.2.1 dX1_claimsOn_34 ?_
        refine lv_ior C.1 C.2.1 dX1_claimsOn_35 ?_
        refine lv_istore_n (lv' := [(2, .int ((setF (fun c => decide (inR (nI f) (nI (K (25 + c))) (nI (K (30 + c))))) c) ||| ((nI 1) <<< ((nI c) &&& 31)))), (3, .int (nI c)), (0, .ref (gad g b)), (1, .int (nI f))]) C.1 C.2.1 dX1_claimsOn_36 rfl hl (by decide) rfl (fun ls hl => ?_)
        have hl : lv_has ls 4 [(2, .int (setF (fun c => decide (inR (nI f) (nI (K (25 + c))) (nI (K (30 + c))))) (c + 1))), (3, .int (nI c)), (0, .ref (gad g b)), (1, .int (nI f))] := by rw [show (setF (fun c => decide (inR (nI f) (nI (K (25 + c))) (nI (K (30 + c))))) (c + 1)) = ((setF (fun c => decide (inR (nI f) (nI (K (25 + c))) (nI (K (30 + c))))) c) ||| ((nI 1) <<< ((nI c) &&& 31))) from (setF_y (p := fun c => decide (inR (nI f) (nI (K (25 + c))) (nI (K (30 + c))))) (decide_eq_true c28))]; exact hl
        refine lv_iinc (v := nI (c + 1)) (lv' := [(3, .int (nI (c + 1))), (2, .int (setF (fun c => decide (inR (nI f) (nI (K (25 + c))) (nI (K (30 + c))))) (c + 1))), (0, .ref (gad g b)), (1, .int (nI f))]) C.1 C.2.1 dX1_claimsOn_37 hl (k := 1) rfl (nI_add _ 1) (by decide) rfl (fun ls hl => ?_)
        refine lv_goto (tgt := 4) C.1 C.2.1 dX1_claimsOn_40 (by decide) ?_
        exact ih4 (n - (c + 1)) (by omega) (c + 1) _ _ _ rfl (by omega) hW hl
  exact loop4 _ 0 _ _ _ rfl (by omega) hW hl

set_option maxHeartbeats 4000000 in
set_option maxRecDepth 100000 in
theorem c_X6_sum (l : Launch) (g : GE) (w : Nat → va_E) (i o : Nat) (M : Nat → Nat) (hI : AdInj g) (hN : gN g = 130) (hi : i < 119) (pr0 : w i = .inl (gI g, 7, .inl (cK 7 o M))) : Met l yX6_sum wsX6_sum ({ frames := 0, cells := 0, slots := 0, locals := 0 } : Room) (XPc g w [.ref (gad g i)]) (XQi g (fun r w' => w' = w ∧ r = (nI (sumO M o 7)))) 0 0 (gA g) := by
  refine xmet (cc := cX6_sum) (maxL := 6) (ret := (some .int)) (by decide) rfl hI (Nat.le_of_ble_eq_true rfl) ?_
  intro pG eG sG mG belowG methG cG ls C hr hlk hK hW hl
  have hl : lv_has ls 6 [(0, .ref (gad g i))] := hl
  refine lv_iconst (v := (nI 0)) C.1 C.2.1 dX6_sum_0 (by decide) ?_
  refine lv_istore_n (lv' := [(1, .int (nI 0)), (0, .ref (gad g i))]) C.1 C.2.1 dX6_sum_1 rfl hl (by decide) rfl (fun ls hl => ?_)
  refine lv_aload_n C.1 C.2.1 dX6_sum_2 rfl (lv_at hl 1 rfl) ?_
  refine lv_astore_n (lv' := [(2, .ref (gad g i)), (1, .int (nI 0)), (0, .ref (gad g i))]) C.1 C.2.1 dX6_sum_3 rfl hl (by decide) rfl (fun ls hl => ?_)
  refine lv_aload_n C.1 C.2.1 dX6_sum_4 rfl (lv_at hl 0 rfl) ?_
  refine xleni C hK hW (by omega) pr0 dX6_sum_5 ?_
  refine lv_istore_n (lv' := [(3, .int (nI 7)), (2, .ref (gad g i)), (1, .int (nI 0)), (0, .ref (gad g i))]) C.1 C.2.1 dX6_sum_6 rfl hl (by decide) rfl (fun ls hl => ?_)
  refine lv_iconst (v := (nI 0)) C.1 C.2.1 dX6_sum_7 (by decide) ?_
  refine lv_istore (lv' := [(4, .int (nI 0)), (3, .int (nI 7)), (2, .ref (gad g i)), (1, .int (nI 0)), (0, .ref (gad g i))]) C.1 C.2.1 dX6_sum_8 hl (by decide) rfl (fun ls hl => ?_)
  have loop10 : ∀ (kG : Nat) (j : Nat) (H : Heap) (locs : List Loc) (ls : Array Slot), kG = 7 - j → (j ≤ 7) → XW g w (gA g) sG.heap H locs → lv_has ls 6 [(4, .int (nI j)), (3, .int (nI 7)), (2, .ref (gad g i)), (1, .int (nI (sumO M o j))), (0, .ref (gad g i))] → W pG l eG ({ frames := 0, cells := 0, slots := 0, locals := 0 } : Room) sG mG ([.ref (gad g i)] : List Value).toArray belowG methG cG H locs 0 0 (MQ belowG (XQi g (fun r w' => w' = w ∧ r = (nI (sumO M o 7)))) ([.ref (gad g i)] : List Value).toArray sG 0 0 (gA g)) (F0 mG 10 ls []) := by
    intro k10
    induction k10 using Nat.strongRecOn with
    | _ k10 ih10 =>
    intro j H locs ls hk10 hj hW hl
    refine lv_iload C.1 C.2.1 dX6_sum_10 (lv_at hl 0 rfl) ?_
    refine lv_iload_n C.1 C.2.1 dX6_sum_12 rfl (lv_at hl 1 rfl) ?_
    refine xge (tgt := 33) C (by omega) (by omega) dX6_sum_13 (by decide) (fun c13 => ?_) (fun c13 => ?_)
    · refine lv_iload_n C.1 C.2.1 dX6_sum_33 rfl (lv_at hl 3 rfl) ?_
      exact xret_i C hr hlk hW ⟨rfl, by rw [show j = 7 by omega]⟩ dX6_sum_34
    · refine lv_aload_n C.1 C.2.1 dX6_sum_16 rfl (lv_at hl 2 rfl) ?_
      refine lv_iload C.1 C.2.1 dX6_sum_17 (lv_at hl 0 rfl) ?_
      refine xildK C hK hW (by omega) pr0 (by omega) (by decide) dX6_sum_19 ?_
      refine lv_istore (lv' := [(5, .int (nI (M (o + j)))), (4, .int (nI j)), (3, .int (nI 7)), (2, .ref (gad g i)), (1, .int (nI (sumO M o j))), (0, .ref (gad g i))]) C.1 C.2.1 dX6_sum_20 hl (by decide) rfl (fun ls hl => ?_)
      refine lv_iload_n C.1 C.2.1 dX6_sum_22 rfl (lv_at hl 4 rfl) ?_
      refine lv_iload C.1 C.2.1 dX6_sum_23 (lv_at hl 0 rfl) ?_
      refine xadd C dX6_sum_25 ?_
      refine lv_istore_n (lv' := [(1, .int (nI ((sumO M o j) + (M (o + j))))), (5, .int (nI (M (o + j)))), (4, .int (nI j)), (3, .int (nI 7)), (2, .ref (gad g i)), (0, .ref (gad g i))]) C.1 C.2.1 dX6_sum_26 rfl hl (by decide) rfl (fun ls hl => ?_)
      refine lv_iinc (v := nI (j + 1)) (lv' := [(4, .int (nI (j + 1))), (1, .int (nI ((sumO M o j) + (M (o + j))))), (5, .int (nI (M (o + j)))), (3, .int (nI 7)), (2, .ref (gad g i)), (0, .ref (gad g i))]) C.1 C.2.1 dX6_sum_27 hl (k := 2) rfl (nI_add _ 1) (by decide) rfl (fun ls hl => ?_)
      refine lv_goto (tgt := 10) C.1 C.2.1 dX6_sum_30 (by decide) ?_
      exact ih10 (7 - (j + 1)) (by omega) (j + 1) _ _ _ rfl (by omega) hW (lv_sub hl [0, 3, 4, 1, 5] rfl)
  exact loop10 _ 0 _ _ _ rfl (by omega) hW hl

set_option maxHeartbeats 4000000 in
set_option maxRecDepth 100000 in
theorem c_X6_of (l : Launch) (g : GE) (w : Nat → va_E) (L K T ln sz : Nat → Nat) (hk tn : Nat) (Z : Nat → Int64) (x : Int32) (y : Int32) (hI : AdInj g) (hN : gN g = 130) (hS : OkS (L, K, hk, tn, T, ln, sz, Z)) (pr0 : XAll g (L, K, hk, tn, T, ln, sz, Z) w) : Met l yX6_of wsX6_of ({ frames := 3, cells := 0, slots := 0, locals := 65 } : Room) (XPc g w [.ref (gad g 0), .int x, .int y]) (XQi g (fun r w' => XAll g (L, K, hk, tn, T, ln, sz, Z) w' ∧ (∀ j : Nat, ¬ (0 ≤ j ∧ j < 119) → w' j = w j) ∧ r = ofS L x y)) 0 0 (gA g) := by
  refine xmet (cc := cX6_of) (maxL := 3) (ret := (some .int)) (by decide) rfl hI (Nat.le_of_ble_eq_true rfl) ?_
  intro pG eG sG mG belowG methG cG ls C hr hlk hK hW hl
  have hl : lv_has ls 3 [(0, .ref (gad g 0)), (1, .int x), (2, .int y)] := hl
  have hinX1 : ∀ x ∈ u_ws RX1 TX1 8, x ∈ wsX6_of := by decide +kernel
  have hinX2 : ∀ x ∈ u_ws RX2 TX2 5, x ∈ wsX6_of := by decide +kernel
  have hinX6 : ∀ x ∈ u_ws RX6 TX6 9, x ∈ wsX6_of := by decide +kernel
  obtain ⟨hXa, hXl, hXk, hXt, hXw, hXf, hXr, hXs⟩ := pr0
  have hXa : w 0 = cX0 g hk := hXa
  have hXl : XLand g 1 L w := hXl
  have hXk : XKept g hk K w := hXk
  have hXr : XRead g tn T w := hXr
  have hXs : XShs g ln sz Z w := hXs
  have hokL : OkL L := hS.1
  obtain ⟨hok, hs2, hdy, hdr, hcl, hkn, hcs, hps⟩ := hokL
  obtain ⟨π, P, CK, hG, hC, hCk, hPa, hPm, hPk⟩ := id hXl
  refine lv_iload_n C.1 C.2.1 dX6_of_0 rfl (lv_at hl 1 rfl) ?_
  refine xcS_i (n := 1) (As := [.int x]) C hK hW (c_X6_isField l g w x hI hN) gX6_of_X6_isField rfl ⟨rfl, rfl⟩ (by decide +kernel) ⟨Nat.le_of_ble_eq_true rfl, Nat.le_of_ble_eq_true rfl⟩ ⟨Nat.zero_le _, Nat.zero_le _⟩ rfl hl rfl (Nat.le_of_ble_eq_true rfl) dX6_of_1 (fun r3 w1 H locs q2 hW => ?_)
  obtain ⟨qw4, rfl⟩ := q2
  rw [qw4] at hW
  refine xBne (tgt := 9) C dX6_of_4 (by decide) (fun c4 => ?_) (fun c4 => ?_)
  · obtain ⟨k1, ha_k1, hb_k1, hx_k1⟩ := inR_N (by omega) (by omega) c4
    rw [hx_k1] at hl
    refine lv_iload_n C.1 C.2.1 dX6_of_9 rfl (lv_at hl 2 rfl) ?_
    by_cases c5_0 : y = nI 0
    · refine lv_tableIn (off := 34) (tgt := 44) C.1 C.2.1 dX6_of_10 (by rw [c5_0]; decide) (by rw [c5_0]; decide) (by rw [c5_0]; decide) (by decide) ?_
      refine lv_aload_n C.1 C.2.1 dX6_of_44 rfl (lv_at hl 0 rfl) ?_
      refine xget C hK hW hinX6 rfl (by omega) hXa 0 (by decide) (List.mem_of_getElem? (i := 1) rfl) rfl dX6_of_45 ?_
      refine xget C hK hW hinX1 rfl (by omega) hG.1 0 (by decide) (List.mem_of_getElem? (i := 2) rfl) rfl dX6_of_48 ?_
      refine lv_iload_n C.1 C.2.1 dX6_of_51 rfl (lv_at hl 1 rfl) ?_
      refine xildK C hK hW (by omega) hG.2.1 (by omega) (by decide) dX6_of_52 ?_
      exact xret_i C hr hlk hW ⟨⟨hXa, hXl, hXk, hXt, hXw, hXf, hXr, hXs⟩, (fun j z0 => rfl), (by rw [ofS, if_pos (c := in6 x) c4, if_pos (c := y = nI 0) c5_0, hx_k1, cl_nI (by omega)])⟩ dX6_of_53
    · by_cases c5_1 : y = nI 1
      · refine lv_tableIn (off := 44) (tgt := 54) C.1 C.2.1 dX6_of_10 (by rw [c5_1]; decide) (by rw [c5_1]; decide) (by rw [c5_1]; decide) (by decide) ?_
        refine lv_aload_n C.1 C.2.1 dX6_of_54 rfl (lv_at hl 0 rfl) ?_
        refine xget C hK hW hinX6 rfl (by omega) hXa 0 (by decide) (List.mem_of_getElem? (i := 1) rfl) rfl dX6_of_55 ?_
        refine xget C hK hW hinX1 rfl (by omega) hG.1 1 (by decide) (List.mem_of_getElem? (i := 3) rfl) rfl dX6_of_58 ?_
        refine xget C hK hW hinX2 rfl (by omega) hG.2.2.1 3 (by decide) (List.mem_of_getElem? (i := 4) rfl) rfl dX6_of_61 ?_
        refine lv_iload_n C.1 C.2.1 dX6_of_64 rfl (lv_at hl 1 rfl) ?_
        refine xildK C hK hW (by omega) hG.2.2.2.1 (by omega) (by decide) dX6_of_65 ?_
        exact xret_i C hr hlk hW ⟨⟨hXa, hXl, hXk, hXt, hXw, hXf, hXr, hXs⟩, (fun j z0 => rfl), (by rw [ofS, if_pos (c := in6 x) c4, if_neg (c := y = nI 0) c5_0, if_pos (c := y = nI 1) c5_1, hx_k1, cl_nI (by omega)])⟩ dX6_of_66
      · by_cases c5_2 : y = nI 2
        · refine lv_tableIn (off := 57) (tgt := 67) C.1 C.2.1 dX6_of_10 (by rw [c5_2]; decide) (by rw [c5_2]; decide) (by rw [c5_2]; decide) (by decide) ?_
          refine lv_aload_n C.1 C.2.1 dX6_of_67 rfl (lv_at hl 0 rfl) ?_
          refine xget C hK hW hinX6 rfl (by omega) hXa 0 (by decide) (List.mem_of_getElem? (i := 1) rfl) rfl dX6_of_68 ?_
          refine xget C hK hW hinX1 rfl (by omega) hG.1 1 (by decide) (List.mem_of_getElem? (i := 3) rfl) rfl dX6_of_71 ?_
          refine xget C hK hW hinX2 rfl (by omega) hG.2.2.1 4 (by decide) (List.mem_of_getElem? (i := 5) rfl) rfl dX6_of_74 ?_
          refine lv_iload_n C.1 C.2.1 dX6_of_77 rfl (lv_at hl 1 rfl) ?_
          refine xildK C hK hW (by omega) hG.2.2.2.2 (by omega) (by decide) dX6_of_78 ?_
          exact xret_i C hr hlk hW ⟨⟨hXa, hXl, hXk, hXt, hXw, hXf, hXr, hXs⟩, (fun j z0 => rfl), (by rw [ofS, if_pos (c := in6 x) c4, if_neg (c := y = nI 0) c5_0, if_neg (c := y = nI 1) c5_1, if_pos (c := y = nI 2) c5_2, hx_k1, cl_nI (by omega)])⟩ dX6_of_79
        · by_cases c5_3 : y = nI 3
          · refine lv_tableIn (off := 70) (tgt := 80) C.1 C.2.1 dX6_of_10 (by rw [c5_3]; decide) (by rw [c5_3]; decide) (by rw [c5_3]; decide) (by decide) ?_
            refine lv_aload_n C.1 C.2.1 dX6_of_80 rfl (lv_at hl 0 rfl) ?_
            refine xget C hK hW hinX6 rfl (by omega) hXa 0 (by decide) (List.mem_of_getElem? (i := 1) rfl) rfl dX6_of_81 ?_
            refine lv_iload_n C.1 C.2.1 dX6_of_84 rfl (lv_at hl 1 rfl) ?_
            refine xcV_i (n := 1) (As := [.int (nI k1)]) C hK hW (c_X1_onFrom l g w 1 k1 (nI (L 40)) (nI (L 24)) L hI hN (by omega) (by omega) hok hG) gX6_of_X1_onFrom rfl ⟨rfl, rfl⟩ (by decide +kernel) ⟨Nat.le_of_ble_eq_true rfl, Nat.le_of_ble_eq_true rfl⟩ ⟨Nat.zero_le _, Nat.zero_le _⟩ rfl (by omega) hG.1 rfl hl rfl (Nat.le_of_ble_eq_true rfl) dX6_of_85 (fun r8 w6 H locs q7 hW => ?_)
            obtain ⟨qw9, rfl⟩ := q7
            rw [qw9] at hW
            exact xret_i C hr hlk hW ⟨⟨hXa, hXl, hXk, hXt, hXw, hXf, hXr, hXs⟩, (fun j z0 => rfl), (by rw [ofS, if_pos (c := in6 x) c4, if_neg (c := y = nI 0) c5_0, if_neg (c := y = nI 1) c5_1, if_neg (c := y = nI 2) c5_2, if_pos (c := y = nI 3) c5_3, hx_k1, cl_nI (by omega)])⟩ dX6_of_88
          · by_cases c5_4 : y = nI 4
            · refine lv_tableIn (off := 79) (tgt := 89) C.1 C.2.1 dX6_of_10 (by rw [c5_4]; decide) (by rw [c5_4]; decide) (by rw [c5_4]; decide) (by decide) ?_
              refine lv_aload_n C.1 C.2.1 dX6_of_89 rfl (lv_at hl 0 rfl) ?_
              refine xget C hK hW hinX6 rfl (by omega) hXa 0 (by decide) (List.mem_of_getElem? (i := 1) rfl) rfl dX6_of_90 ?_
              refine lv_iload_n C.1 C.2.1 dX6_of_93 rfl (lv_at hl 1 rfl) ?_
              refine xcV_i (n := 1) (As := [.int (nI k1)]) C hK hW (c_X1_backFrom l g w 1 k1 (nI (L 40)) (nI (L 24)) L hI hN (by omega) (by omega) hok hG) gX6_of_X1_backFrom rfl ⟨rfl, rfl⟩ (by decide +kernel) ⟨Nat.le_of_ble_eq_true rfl, Nat.le_of_ble_eq_true rfl⟩ ⟨Nat.zero_le _, Nat.zero_le _⟩ rfl (by omega) hG.1 rfl hl rfl (Nat.le_of_ble_eq_true rfl) dX6_of_94 (fun r12 w10 H locs q11 hW => ?_)
              obtain ⟨qw13, rfl⟩ := q11
              rw [qw13] at hW
              exact xret_i C hr hlk hW ⟨⟨hXa, hXl, hXk, hXt, hXw, hXf, hXr, hXs⟩, (fun j z0 => rfl), (by rw [ofS, if_pos (c := in6 x) c4, if_neg (c := y = nI 0) c5_0, if_neg (c := y = nI 1) c5_1, if_neg (c := y = nI 2) c5_2, if_neg (c := y = nI 3) c5_3, if_pos (c := y = nI 4) c5_4, hx_k1, cl_nI (by omega)])⟩ dX6_of_97
            · refine lv_tableOut (tgt := 98) C.1 C.2.1 dX6_of_10 (by exact sw_out5 c5_0 c5_1 c5_2 c5_3 c5_4) (by decide) ?_
              refine lv_iconst (v := (-1 : Int32)) C.1 C.2.1 dX6_of_98 (by decide) ?_
              exact xret_i C hr hlk hW ⟨⟨hXa, hXl, hXk, hXt, hXw, hXf, hXr, hXs⟩, (fun j z0 => rfl), (by rw [ofS, if_pos (c := in6 x) c4, if_neg (c := y = nI 0) c5_0, if_neg (c := y = nI 1) c5_1, if_neg (c := y = nI 2) c5_2, if_neg (c := y = nI 3) c5_3, if_neg (c := y = nI 4) c5_4])⟩ dX6_of_99
  · refine lv_iconst (v := (-1 : Int32)) C.1 C.2.1 dX6_of_7 (by decide) ?_
    exact xret_i C hr hlk hW ⟨⟨hXa, hXl, hXk, hXt, hXw, hXf, hXr, hXs⟩, (fun j z0 => rfl), (by rw [ofS, if_neg (c := in6 x) c4])⟩ dX6_of_8

set_option maxHeartbeats 4000000 in
set_option maxRecDepth 100000 in
theorem c_X6_at (l : Launch) (g : GE) (w : Nat → va_E) (L K T ln sz : Nat → Nat) (hk tn : Nat) (Z : Nat → Int64) (x : Int32) (y : Int32) (hI : AdInj g) (hN : gN g = 130) (hS : OkS (L, K, hk, tn, T, ln, sz, Z)) (pr0 : XAll g (L, K, hk, tn, T, ln, sz, Z) w) : Met l yX6_at wsX6_at ({ frames := 2, cells := 0, slots := 0, locals := 43 } : Room) (XPc g w [.ref (gad g 0), .int x, .int y]) (XQi g (fun r w' => XAll g (L, K, hk, tn, T, ln, sz, Z) w' ∧ (∀ j : Nat, ¬ (0 ≤ j ∧ j < 119) → w' j = w j) ∧ r = atS L x y)) 0 0 (gA g) := by
  refine xmet (cc := cX6_at) (maxL := 3) (ret := (some .int)) (by decide) rfl hI (Nat.le_of_ble_eq_true rfl) ?_
  intro pG eG sG mG belowG methG cG ls C hr hlk hK hW hl
  have hl : lv_has ls 3 [(0, .ref (gad g 0)), (1, .int x), (2, .int y)] := hl
  have hinX1 : ∀ x ∈ u_ws RX1 TX1 8, x ∈ wsX6_at := by decide +kernel
  have hinX6 : ∀ x ∈ u_ws RX6 TX6 9, x ∈ wsX6_at := by decide +kernel
  obtain ⟨hXa, hXl, hXk, hXt, hXw, hXf, hXr, hXs⟩ := pr0
  have hXa : w 0 = cX0 g hk := hXa
  have hXl : XLand g 1 L w := hXl
  have hXk : XKept g hk K w := hXk
  have hXr : XRead g tn T w := hXr
  have hXs : XShs g ln sz Z w := hXs
  have hokL : OkL L := hS.1
  obtain ⟨hok, hs2, hdy, hdr, hcl, hkn, hcs, hps⟩ := hokL
  obtain ⟨π, P, CK, hG, hC, hCk, hPa, hPm, hPk⟩ := id hXl
  refine lv_aload_n C.1 C.2.1 dX6_at_0 rfl (lv_at hl 0 rfl) ?_
  refine lv_iload_n C.1 C.2.1 dX6_at_1 rfl (lv_at hl 1 rfl) ?_
  refine xcV_i (n := 1) (As := [.int x]) C hK hW (c_X6_isClaim l g w x hk (L 24) (nI (L 40)) L hI hN hXa hG) gX6_at_X6_isClaim rfl ⟨rfl, rfl⟩ (by decide +kernel) ⟨Nat.le_of_ble_eq_true rfl, Nat.le_of_ble_eq_true rfl⟩ ⟨Nat.zero_le _, Nat.zero_le _⟩ rfl (by omega) hXa rfl hl rfl (Nat.le_of_ble_eq_true rfl) dX6_at_2 (fun r3 w1 H locs q2 hW => ?_)
  obtain ⟨qw4, rfl⟩ := q2
  rw [qw4] at hW
  refine xBne (tgt := 10) C dX6_at_5 (by decide) (fun c5 => ?_) (fun c5 => ?_)
  · obtain ⟨k1, hb_k1, hx_k1⟩ := inR_claim hcl c5
    rw [hx_k1] at hl
    have hc2 := hCk k1 (by omega)
    refine lv_iload_n C.1 C.2.1 dX6_at_10 rfl (lv_at hl 2 rfl) ?_
    by_cases c5_0 : y = nI 0
    · refine lv_tableIn (off := 25) (tgt := 36) C.1 C.2.1 dX6_at_11 (by rw [c5_0]; decide) (by rw [c5_0]; decide) (by rw [c5_0]; decide) (by decide) ?_
      refine lv_aload_n C.1 C.2.1 dX6_at_36 rfl (lv_at hl 0 rfl) ?_
      refine xget C hK hW hinX6 rfl (by omega) hXa 0 (by decide) (List.mem_of_getElem? (i := 1) rfl) rfl dX6_at_37 ?_
      refine xget C hK hW hinX1 rfl (by omega) hG.1 4 (by decide) (List.mem_of_getElem? (i := 2) rfl) rfl dX6_at_40 ?_
      refine lv_iload_n C.1 C.2.1 dX6_at_43 rfl (lv_at hl 1 rfl) ?_
      refine xildK C hK hW (by omega) hC.1 (by omega) (by decide) dX6_at_44 ?_
      refine xtopN (b := L (25 + k1)) hc2.1 ?_
      exact xret_i C hr hlk hW ⟨⟨hXa, hXl, hXk, hXt, hXw, hXf, hXr, hXs⟩, (fun j z0 => rfl), (by rw [atS, if_pos (c := inR x (nI 0) (nI (L 24) - nI 1)) c5, if_pos (c := y = nI 0) c5_0, hx_k1, cl_nI (by omega)])⟩ dX6_at_45
    · by_cases c5_1 : y = nI 1
      · refine lv_tableIn (off := 35) (tgt := 46) C.1 C.2.1 dX6_at_11 (by rw [c5_1]; decide) (by rw [c5_1]; decide) (by rw [c5_1]; decide) (by decide) ?_
        refine lv_aload_n C.1 C.2.1 dX6_at_46 rfl (lv_at hl 0 rfl) ?_
        refine xget C hK hW hinX6 rfl (by omega) hXa 0 (by decide) (List.mem_of_getElem? (i := 1) rfl) rfl dX6_at_47 ?_
        refine xget C hK hW hinX1 rfl (by omega) hG.1 5 (by decide) (List.mem_of_getElem? (i := 3) rfl) rfl dX6_at_50 ?_
        refine lv_iload_n C.1 C.2.1 dX6_at_53 rfl (lv_at hl 1 rfl) ?_
        refine xildK C hK hW (by omega) hC.2.1 (by omega) (by decide) dX6_at_54 ?_
        refine xtopN (b := L (30 + k1)) hc2.2.1 ?_
        exact xret_i C hr hlk hW ⟨⟨hXa, hXl, hXk, hXt, hXw, hXf, hXr, hXs⟩, (fun j z0 => rfl), (by rw [atS, if_pos (c := inR x (nI 0) (nI (L 24) - nI 1)) c5, if_neg (c := y = nI 0) c5_0, if_pos (c := y = nI 1) c5_1, hx_k1, cl_nI (by omega)])⟩ dX6_at_55
      · by_cases c5_2 : y = nI 2
        · refine lv_tableIn (off := 45) (tgt := 56) C.1 C.2.1 dX6_at_11 (by rw [c5_2]; decide) (by rw [c5_2]; decide) (by rw [c5_2]; decide) (by decide) ?_
          refine lv_aload_n C.1 C.2.1 dX6_at_56 rfl (lv_at hl 0 rfl) ?_
          refine xget C hK hW hinX6 rfl (by omega) hXa 0 (by decide) (List.mem_of_getElem? (i := 1) rfl) rfl dX6_at_57 ?_
          refine xget C hK hW hinX1 rfl (by omega) hG.1 6 (by decide) (List.mem_of_getElem? (i := 4) rfl) rfl dX6_at_60 ?_
          refine lv_iload_n C.1 C.2.1 dX6_at_63 rfl (lv_at hl 1 rfl) ?_
          refine xildK C hK hW (by omega) hC.2.2 (by omega) (by decide) dX6_at_64 ?_
          refine xtopN (b := L (35 + k1)) hc2.2.2 ?_
          exact xret_i C hr hlk hW ⟨⟨hXa, hXl, hXk, hXt, hXw, hXf, hXr, hXs⟩, (fun j z0 => rfl), (by rw [atS, if_pos (c := inR x (nI 0) (nI (L 24) - nI 1)) c5, if_neg (c := y = nI 0) c5_0, if_neg (c := y = nI 1) c5_1, if_pos (c := y = nI 2) c5_2, hx_k1, cl_nI (by omega)])⟩ dX6_at_65
        · refine lv_tableOut (tgt := 66) C.1 C.2.1 dX6_at_11 (by exact sw_out3 c5_0 c5_1 c5_2) (by decide) ?_
          refine lv_iconst (v := (-1 : Int32)) C.1 C.2.1 dX6_at_66 (by decide) ?_
          exact xret_i C hr hlk hW ⟨⟨hXa, hXl, hXk, hXt, hXw, hXf, hXr, hXs⟩, (fun j z0 => rfl), (by rw [atS, if_pos (c := inR x (nI 0) (nI (L 24) - nI 1)) c5, if_neg (c := y = nI 0) c5_0, if_neg (c := y = nI 1) c5_1, if_neg (c := y = nI 2) c5_2])⟩ dX6_at_67
  · refine lv_iconst (v := (-1 : Int32)) C.1 C.2.1 dX6_at_8 (by decide) ?_
    exact xret_i C hr hlk hW ⟨⟨hXa, hXl, hXk, hXt, hXw, hXf, hXr, hXs⟩, (fun j z0 => rfl), (by rw [atS, if_neg (c := inR x (nI 0) (nI (L 24) - nI 1)) c5])⟩ dX6_at_9

set_option maxHeartbeats 4000000 in
set_option maxRecDepth 100000 in
theorem c_X6_count (l : Launch) (g : GE) (w : Nat → va_E) (L K T ln sz : Nat → Nat) (hk tn : Nat) (Z : Nat → Int64) (y : Int32) (hI : AdInj g) (hN : gN g = 130) (hS : OkS (L, K, hk, tn, T, ln, sz, Z)) (pr0 : XAll g (L, K, hk, tn, T, ln, sz, Z) w) : Met l yX6_count wsX6_count ({ frames := 2, cells := 0, slots := 0, locals := 45 } : Room) (XPc g w [.ref (gad g 0), .int y]) (XQi g (fun r w' => XAll g (L, K, hk, tn, T, ln, sz, Z) w' ∧ (∀ j : Nat, ¬ (0 ≤ j ∧ j < 119) → w' j = w j) ∧ r = countS L y)) 0 0 (gA g) := by
  refine xmet (cc := cX6_count) (maxL := 2) (ret := (some .int)) (by decide) rfl hI (Nat.le_of_ble_eq_true rfl) ?_
  intro pG eG sG mG belowG methG cG ls C hr hlk hK hW hl
  have hl : lv_has ls 2 [(0, .ref (gad g 0)), (1, .int y)] := hl
  have hinX1 : ∀ x ∈ u_ws RX1 TX1 8, x ∈ wsX6_count := by decide +kernel
  have hinX2 : ∀ x ∈ u_ws RX2 TX2 5, x ∈ wsX6_count := by decide +kernel
  have hinX6 : ∀ x ∈ u_ws RX6 TX6 9, x ∈ wsX6_count := by decide +kernel
  obtain ⟨hXa, hXl, hXk, hXt, hXw, hXf, hXr, hXs⟩ := pr0
  have hXa : w 0 = cX0 g hk := hXa
  have hXl : XLand g 1 L w := hXl
  have hXk : XKept g hk K w := hXk
  have hXr : XRead g tn T w := hXr
  have hXs : XShs g ln sz Z w := hXs
  have hokL : OkL L := hS.1
  obtain ⟨hok, hs2, hdy, hdr, hcl, hkn, hcs, hps⟩ := hokL
  obtain ⟨π, P, CK, hG, hC, hCk, hPa, hPm, hPk⟩ := id hXl
  refine lv_iload_n C.1 C.2.1 dX6_count_0 rfl (lv_at hl 1 rfl) ?_
  by_cases c1_0 : y = nI 0
  · refine lv_tableIn (off := 43) (tgt := 44) C.1 C.2.1 dX6_count_1 (by rw [c1_0]; decide) (by rw [c1_0]; decide) (by rw [c1_0]; decide) (by decide) ?_
    refine lv_aload_n C.1 C.2.1 dX6_count_44 rfl (lv_at hl 0 rfl) ?_
    refine xget C hK hW hinX6 rfl (by omega) hXa 0 (by decide) (List.mem_of_getElem? (i := 1) rfl) rfl dX6_count_45 ?_
    refine xget C hK hW hinX1 rfl (by omega) hG.1 7 (by decide) (List.mem_of_getElem? (i := 2) rfl) rfl dX6_count_48 ?_
    exact xret_i C hr hlk hW ⟨⟨hXa, hXl, hXk, hXt, hXw, hXf, hXr, hXs⟩, (fun j z0 => rfl), (by rw [countS, if_pos (c := y = nI 0) c1_0])⟩ dX6_count_51
  · by_cases c1_1 : y = nI 1
    · refine lv_tableIn (off := 51) (tgt := 52) C.1 C.2.1 dX6_count_1 (by rw [c1_1]; decide) (by rw [c1_1]; decide) (by rw [c1_1]; decide) (by decide) ?_
      refine lv_aload_n C.1 C.2.1 dX6_count_52 rfl (lv_at hl 0 rfl) ?_
      refine xget C hK hW hinX6 rfl (by omega) hXa 0 (by decide) (List.mem_of_getElem? (i := 1) rfl) rfl dX6_count_53 ?_
      refine xget C hK hW hinX1 rfl (by omega) hG.1 1 (by decide) (List.mem_of_getElem? (i := 3) rfl) rfl dX6_count_56 ?_
      refine xget C hK hW hinX2 rfl (by omega) hG.2.2.1 0 (by decide) (List.mem_of_getElem? (i := 4) rfl) rfl dX6_count_59 ?_
      exact xret_i C hr hlk hW ⟨⟨hXa, hXl, hXk, hXt, hXw, hXf, hXr, hXs⟩, (fun j z0 => rfl), (by rw [countS, if_neg (c := y = nI 0) c1_0, if_pos (c := y = nI 1) c1_1])⟩ dX6_count_62
    · by_cases c1_2 : y = nI 2
      · refine lv_tableIn (off := 62) (tgt := 63) C.1 C.2.1 dX6_count_1 (by rw [c1_2]; decide) (by rw [c1_2]; decide) (by rw [c1_2]; decide) (by decide) ?_
        refine lv_aload_n C.1 C.2.1 dX6_count_63 rfl (lv_at hl 0 rfl) ?_
        refine xget C hK hW hinX6 rfl (by omega) hXa 0 (by decide) (List.mem_of_getElem? (i := 1) rfl) rfl dX6_count_64 ?_
        refine xget C hK hW hinX1 rfl (by omega) hG.1 1 (by decide) (List.mem_of_getElem? (i := 3) rfl) rfl dX6_count_67 ?_
        refine xget C hK hW hinX2 rfl (by omega) hG.2.2.1 1 (by decide) (List.mem_of_getElem? (i := 5) rfl) rfl dX6_count_70 ?_
        exact xret_i C hr hlk hW ⟨⟨hXa, hXl, hXk, hXt, hXw, hXf, hXr, hXs⟩, (fun j z0 => rfl), (by rw [countS, if_neg (c := y = nI 0) c1_0, if_neg (c := y = nI 1) c1_1, if_pos (c := y = nI 2) c1_2])⟩ dX6_count_73
      · by_cases c1_3 : y = nI 3
        · refine lv_tableIn (off := 73) (tgt := 74) C.1 C.2.1 dX6_count_1 (by rw [c1_3]; decide) (by rw [c1_3]; decide) (by rw [c1_3]; decide) (by decide) ?_
          refine lv_aload_n C.1 C.2.1 dX6_count_74 rfl (lv_at hl 0 rfl) ?_
          refine xget C hK hW hinX6 rfl (by omega) hXa 0 (by decide) (List.mem_of_getElem? (i := 1) rfl) rfl dX6_count_75 ?_
          refine xget C hK hW hinX1 rfl (by omega) hG.1 1 (by decide) (List.mem_of_getElem? (i := 3) rfl) rfl dX6_count_78 ?_
          refine xget C hK hW hinX2 rfl (by omega) hG.2.2.1 3 (by decide) (List.mem_of_getElem? (i := 6) rfl) rfl dX6_count_81 ?_
          refine xcS_i (n := 1) (As := [.ref (gad g 4)]) C hK hW (c_X6_sum l g w 4 3 L hI hN (by omega) hG.2.2.2.1) gX6_count_X6_sum rfl ⟨rfl, rfl⟩ (by decide +kernel) ⟨Nat.le_of_ble_eq_true rfl, Nat.le_of_ble_eq_true rfl⟩ ⟨Nat.zero_le _, Nat.zero_le _⟩ rfl hl rfl (Nat.le_of_ble_eq_true rfl) dX6_count_84 (fun r4 w2 H locs q3 hW => ?_)
          obtain ⟨qw5, rfl⟩ := q3
          rw [qw5] at hW
          exact xret_i C hr hlk hW ⟨⟨hXa, hXl, hXk, hXt, hXw, hXf, hXr, hXs⟩, (fun j z0 => rfl), (by rw [countS, if_neg (c := y = nI 0) c1_0, if_neg (c := y = nI 1) c1_1, if_neg (c := y = nI 2) c1_2, if_pos (c := y = nI 3) c1_3])⟩ dX6_count_87
        · by_cases c1_4 : y = nI 4
          · refine lv_tableIn (off := 87) (tgt := 88) C.1 C.2.1 dX6_count_1 (by rw [c1_4]; decide) (by rw [c1_4]; decide) (by rw [c1_4]; decide) (by decide) ?_
            refine lv_aload_n C.1 C.2.1 dX6_count_88 rfl (lv_at hl 0 rfl) ?_
            refine xget C hK hW hinX6 rfl (by omega) hXa 0 (by decide) (List.mem_of_getElem? (i := 1) rfl) rfl dX6_count_89 ?_
            refine xget C hK hW hinX1 rfl (by omega) hG.1 1 (by decide) (List.mem_of_getElem? (i := 3) rfl) rfl dX6_count_92 ?_
            refine xget C hK hW hinX2 rfl (by omega) hG.2.2.1 4 (by decide) (List.mem_of_getElem? (i := 7) rfl) rfl dX6_count_95 ?_
            refine xcS_i (n := 1) (As := [.ref (gad g 5)]) C hK hW (c_X6_sum l g w 5 10 L hI hN (by omega) hG.2.2.2.2) gX6_count_X6_sum rfl ⟨rfl, rfl⟩ (by decide +kernel) ⟨Nat.le_of_ble_eq_true rfl, Nat.le_of_ble_eq_true rfl⟩ ⟨Nat.zero_le _, Nat.zero_le _⟩ rfl hl rfl (Nat.le_of_ble_eq_true rfl) dX6_count_98 (fun r8 w6 H locs q7 hW => ?_)
            obtain ⟨qw9, rfl⟩ := q7
            rw [qw9] at hW
            exact xret_i C hr hlk hW ⟨⟨hXa, hXl, hXk, hXt, hXw, hXf, hXr, hXs⟩, (fun j z0 => rfl), (by rw [countS, if_neg (c := y = nI 0) c1_0, if_neg (c := y = nI 1) c1_1, if_neg (c := y = nI 2) c1_2, if_neg (c := y = nI 3) c1_3, if_pos (c := y = nI 4) c1_4])⟩ dX6_count_101
          · by_cases c1_5 : y = nI 5
            · refine lv_tableIn (off := 101) (tgt := 102) C.1 C.2.1 dX6_count_1 (by rw [c1_5]; decide) (by rw [c1_5]; decide) (by rw [c1_5]; decide) (by decide) ?_
              refine lv_aload_n C.1 C.2.1 dX6_count_102 rfl (lv_at hl 0 rfl) ?_
              refine xget C hK hW hinX6 rfl (by omega) hXa 0 (by decide) (List.mem_of_getElem? (i := 1) rfl) rfl dX6_count_103 ?_
              refine lv_aload_n C.1 C.2.1 dX6_count_106 rfl (lv_at hl 0 rfl) ?_
              refine xget C hK hW hinX6 rfl (by omega) hXa 0 (by decide) (List.mem_of_getElem? (i := 1) rfl) rfl dX6_count_107 ?_
              refine xget C hK hW hinX1 rfl (by omega) hG.1 1 (by decide) (List.mem_of_getElem? (i := 3) rfl) rfl dX6_count_110 ?_
              refine xget C hK hW hinX2 rfl (by omega) hG.2.2.1 0 (by decide) (List.mem_of_getElem? (i := 4) rfl) rfl dX6_count_113 ?_
              refine xcV_i (n := 1) (As := [.int (nI (L 2))]) C hK hW (c_X1_claimsOn l g w 1 (L 2) (L 24) (nI (L 40)) L CK hI hN (by omega) (by omega) (by omega) hG hC) gX6_count_X1_claimsOn rfl ⟨rfl, rfl⟩ (by decide +kernel) ⟨Nat.le_of_ble_eq_true rfl, Nat.le_of_ble_eq_true rfl⟩ ⟨Nat.zero_le _, Nat.zero_le _⟩ rfl (by omega) hG.1 rfl hl rfl (Nat.le_of_ble_eq_true rfl) dX6_count_116 (fun r12 w10 H locs q11 hW => ?_)
              obtain ⟨qw13, rfl⟩ := q11
              rw [qw13] at hW
              exact xret_i C hr hlk hW ⟨⟨hXa, hXl, hXk, hXt, hXw, hXf, hXr, hXs⟩, (fun j z0 => rfl), (by rw [countS, if_neg (c := y = nI 0) c1_0, if_neg (c := y = nI 1) c1_1, if_neg (c := y = nI 2) c1_2, if_neg (c := y = nI 3) c1_3, if_neg (c := y = nI 4) c1_4, if_pos (c := y = nI 5) c1_5]; exact setF_congr (fun c hc => by rw [(hCk c hc).1, (hCk c hc).2.1]))⟩ dX6_count_119
            · by_cases c1_6 : y = nI 6
              · refine lv_tableIn (off := 119) (tgt := 120) C.1 C.2.1 dX6_count_1 (by rw [c1_6]; decide) (by rw [c1_6]; decide) (by rw [c1_6]; decide) (by decide) ?_
                refine lv_aload_n C.1 C.2.1 dX6_count_120 rfl (lv_at hl 0 rfl) ?_
                refine xget C hK hW hinX6 rfl (by omega) hXa 0 (by decide) (List.mem_of_getElem? (i := 1) rfl) rfl dX6_count_121 ?_
                refine xget C hK hW hinX1 rfl (by omega) hG.1 3 (by decide) (List.mem_of_getElem? (i := 8) rfl) rfl dX6_count_124 ?_
                exact xret_i C hr hlk hW ⟨⟨hXa, hXl, hXk, hXt, hXw, hXf, hXr, hXs⟩, (fun j z0 => rfl), (by rw [countS, if_neg (c := y = nI 0) c1_0, if_neg (c := y = nI 1) c1_1, if_neg (c := y = nI 2) c1_2, if_neg (c := y = nI 3) c1_3, if_neg (c := y = nI 4) c1_4, if_neg (c := y = nI 5) c1_5, if_pos (c := y = nI 6) c1_6])⟩ dX6_count_127
              · refine lv_tableOut (tgt := 128) C.1 C.2.1 dX6_count_1 (by exact sw_out7 c1_0 c1_1 c1_2 c1_3 c1_4 c1_5 c1_6) (by decide) ?_
                refine lv_iconst (v := (-1 : Int32)) C.1 C.2.1 dX6_count_128 (by decide) ?_
                exact xret_i C hr hlk hW ⟨⟨hXa, hXl, hXk, hXt, hXw, hXf, hXr, hXs⟩, (fun j z0 => rfl), (by rw [countS, if_neg (c := y = nI 0) c1_0, if_neg (c := y = nI 1) c1_1, if_neg (c := y = nI 2) c1_2, if_neg (c := y = nI 3) c1_3, if_neg (c := y = nI 4) c1_4, if_neg (c := y = nI 5) c1_5, if_neg (c := y = nI 6) c1_6])⟩ dX6_count_129
