set_option maxHeartbeats 4000000 in
set_option maxRecDepth 100000 in
theorem c_X1_loseOldest (l : Launch) (g : GE) (w : Nat → va_E) (b : Nat) (x y : Int32) (L π : Nat → Nat) (P : Nat → Nat → Nat) (hI : AdInj g) (hN : gN g = 130) (hb : b + 33 ≤ 119) (pr0 : GAt g b x y L w) (pr1 : PArr g b π w) (pr2 : PMom g b π P w) : Met l yX1_loseOldest wsX1_loseOldest ({ frames := 0, cells := 0, slots := 0, locals := 0 } : Room) (XPc g w [.ref (gad g b)]) (XQv g (fun w' => GAt g b (nI 7) y L w' ∧ PArr g b (rotP π) w' ∧ (∀ j : Nat, ¬ (b ≤ j ∧ j < b + 1) → ¬ (b + 5 ≤ j ∧ j < b + 6) → w' j = w j))) 0 0 (gA g) := by
  refine xmet (cc := cX1_loseOldest) (maxL := 3) (ret := none) (by decide) rfl hI (Nat.le_of_ble_eq_true rfl) ?_
  intro pG eG sG mG belowG methG cG ls C hr hlk hK hW hl
  have hl : lv_has ls 3 [(0, .ref (gad g b))] := hl
  have hinX1 : ∀ x ∈ u_ws RX1 TX1 8, x ∈ wsX1_loseOldest := by decide +kernel
  have hpi := pr2.1.1
  have hp0 := hpi 0 (by omega)
  refine lv_aload_n C.1 C.2.1 dX1_loseOldest_0 rfl (lv_at hl 0 rfl) ?_
  refine xget C hK hW hinX1 rfl (by omega) pr0.1 2 (by decide) (List.mem_of_getElem? (i := 1) rfl) rfl dX1_loseOldest_1 ?_
  refine lv_iconst (v := (nI 0)) C.1 C.2.1 dX1_loseOldest_4 (by decide) ?_
  refine xaldM (q := gad g (b + 9 + 3 * π (0))) C hK hW (by omega) pr1 (vp_in_nI (by omega) (by decide)) (by rw [nI_clamp (by omega)]; exact PArr_at (by omega) rfl) dX1_loseOldest_5 ?_
  refine lv_astore_n (lv' := [(1, .ref (gad g (b + 9 + 3 * π (0)))), (0, .ref (gad g b))]) C.1 C.2.1 dX1_loseOldest_6 rfl hl (by decide) rfl (fun ls hl => ?_)
  refine lv_iconst (v := (nI 1)) C.1 C.2.1 dX1_loseOldest_7 (by decide) ?_
  refine lv_istore_n (lv' := [(2, .int (nI 1)), (1, .ref (gad g (b + 9 + 3 * π (0)))), (0, .ref (gad g b))]) C.1 C.2.1 dX1_loseOldest_8 rfl hl (by decide) rfl (fun ls hl => ?_)
  have loop9 : ∀ (kG : Nat) (t : Nat) (v9 : Nat → va_E) (H : Heap) (locs : List Loc) (ls : Array Slot), kG = 8 - t → (GAt g b x y L v9) → (PArr g b (mixF t (fun j => π (j + 1)) π) v9) → (PMom g b π P v9) → (∀ j : Nat, ¬ (b ≤ j ∧ j < b + 1) → ¬ (b + 5 ≤ j ∧ j < b + 6) → v9 j = w j) → (t ≤ 7) → XW g v9 (gA g) sG.heap H locs → lv_has ls 3 [(2, .int (nI (t + 1))), (1, .ref (gad g (b + 9 + 3 * (π 0)))), (0, .ref (gad g b))] → W pG l eG ({ frames := 0, cells := 0, slots := 0, locals := 0 } : Room) sG mG ([.ref (gad g b)] : List Value).toArray belowG methG cG H locs 0 0 (MQ belowG (XQv g (fun w' => GAt g b (nI 7) y L w' ∧ PArr g b (rotP π) w' ∧ (∀ j : Nat, ¬ (b ≤ j ∧ j < b + 1) → ¬ (b + 5 ≤ j ∧ j < b + 6) → w' j = w j))) ([.ref (gad g b)] : List Value).toArray sG 0 0 (gA g)) (F0 mG 9 ls []) := by
    intro k9
    induction k9 using Nat.strongRecOn with
    | _ k9 ih9 =>
    intro t v9 H locs ls hk9 fa9_0 fa9_1 fa9_2 hfr9 ht hW hl
    refine lv_iload_n C.1 C.2.1 dX1_loseOldest_9 rfl (lv_at hl 0 rfl) ?_
    refine lv_bipush (v := (nI 8)) C.1 C.2.1 dX1_loseOldest_10 (by decide) ?_
    refine xge (tgt := 35) C (by omega) (by omega) dX1_loseOldest_12 (by decide) (fun c12 => ?_) (fun c12 => ?_)
    · refine lv_aload_n C.1 C.2.1 dX1_loseOldest_35 rfl (lv_at hl 2 rfl) ?_
      refine xget C hK hW hinX1 rfl (by omega) fa9_0.1 2 (by decide) (List.mem_of_getElem? (i := 1) rfl) rfl dX1_loseOldest_36 ?_
      refine lv_bipush (v := (nI 7)) C.1 C.2.1 dX1_loseOldest_39 (by decide) ?_
      refine lv_aload_n C.1 C.2.1 dX1_loseOldest_41 rfl (lv_at hl 1 rfl) ?_
      refine xastM C hK hW (by omega) fa9_1 (vp_in_nI (by omega) (by decide)) (by omega) (fa9_2.2 (0) (by omega)).1 dX1_loseOldest_42 (fun w1 H locs e2 f3 hW => ?_)
      have h4 : PArr g b (va_up (mixF t (fun j => π (j + 1)) π) 7 (π 0)) w1 := PArr_up (by omega) e2
      refine lv_aload_n C.1 C.2.1 dX1_loseOldest_43 rfl (lv_at hl 2 rfl) ?_
      refine lv_bipush (v := (nI 7)) C.1 C.2.1 dX1_loseOldest_44 (by decide) ?_
      have h5 : GAt g b x y L w1 := (GAt.fr fa9_0 (fun j h1 h2 => f3 j (by omega)))
      refine xput (v := .int (nI 7)) C hK hW hinX1 tyX1_ok nmX1 rfl (by omega) h5.1 3 (by decide) (List.mem_of_getElem? (i := 2) rfl) rfl rfl rfl (Nat.le_of_ble_eq_true rfl) dX1_loseOldest_46 (fun w6 H locs e7 f8 hW => ?_)
      have h9 : GAt g b (nI 7) y L w6 := GAt_o h5 e7 f8
      have h10 : PArr g b (va_up (mixF t (fun j => π (j + 1)) π) 7 (π 0)) w6 := (PArr.fr h4 (fun j h1 h2 => f8 j (by omega)))
      exact xret_v C hr hlk hW ⟨h9, (by rw [show rotP π = va_up (mixF t (fun j => π (j + 1)) π) 7 (π 0) by rw [show t = 7 by omega]; rfl]; exact h10), (fun j z0 z1 => ((f8 j (by omega)).trans ((f3 j (by omega)).trans (hfr9 j z0 z1))))⟩ dX1_loseOldest_49
    · have hpt := hpi (t + 1) (by omega)
      refine lv_aload_n C.1 C.2.1 dX1_loseOldest_15 rfl (lv_at hl 2 rfl) ?_
      refine xget C hK hW hinX1 rfl (by omega) fa9_0.1 2 (by decide) (List.mem_of_getElem? (i := 1) rfl) rfl dX1_loseOldest_16 ?_
      refine lv_iload_n C.1 C.2.1 dX1_loseOldest_19 rfl (lv_at hl 0 rfl) ?_
      refine lv_iconst (v := (nI 1)) C.1 C.2.1 dX1_loseOldest_20 (by decide) ?_
      refine xsub C (by omega) dX1_loseOldest_21 ?_
      refine xtopN (b := t) (Nat.add_sub_cancel t 1) ?_
      refine lv_aload_n C.1 C.2.1 dX1_loseOldest_22 rfl (lv_at hl 2 rfl) ?_
      refine xget C hK hW hinX1 rfl (by omega) fa9_0.1 2 (by decide) (List.mem_of_getElem? (i := 1) rfl) rfl dX1_loseOldest_23 ?_
      refine lv_iload_n C.1 C.2.1 dX1_loseOldest_26 rfl (lv_at hl 0 rfl) ?_
      refine xaldM (q := gad g (b + 9 + 3 * (π (t + 1)))) C hK hW (by omega) fa9_1 (vp_in_nI (by omega) (by decide)) (by rw [nI_clamp (by omega)]; exact PArr_at (by omega) (mixF_ge (by omega))) dX1_loseOldest_27 ?_
      refine xastM C hK hW (by omega) fa9_1 (vp_in_nI (by omega) (by decide)) (by omega) (fa9_2.2 ((t + 1)) (by omega)).1 dX1_loseOldest_28 (fun w11 H locs e12 f13 hW => ?_)
      have h14 : PArr g b (va_up (mixF t (fun j => π (j + 1)) π) t (π (t + 1))) w11 := PArr_up (by omega) e12
      refine lv_iinc (v := nI (t + 2)) (lv' := [(2, .int (nI (t + 2))), (1, .ref (gad g (b + 9 + 3 * (π 0)))), (0, .ref (gad g b))]) C.1 C.2.1 dX1_loseOldest_29 hl (k := 0) rfl (nI_add _ 1) (by decide) rfl (fun ls hl => ?_)
      refine lv_goto (tgt := 9) C.1 C.2.1 dX1_loseOldest_32 (by decide) ?_
      have h15 : GAt g b x y L w11 := (GAt.fr fa9_0 (fun j h1 h2 => f13 j (by omega)))
      have h16 : PMom g b π P w11 := (PMom.fr fa9_2 (fun j h1 h2 => f13 j (by omega)))
      exact ih9 (8 - (t + 1)) (by omega) (t + 1) w11 _ _ _ rfl h15 (by first | exact h14 | (rw [mixF_0]; exact h14) | (rw [mixF_up]; exact h14) | (refine (h14).trans ?_; rw [cK_mixE (by omega)]; done) | (refine (h14).trans ?_; rw [cL_mixE (by omega)]; done) | (refine (h14).trans ?_; rw [cL_mixE (by omega)]; rfl)) h16 (fun j z0 z1 => ((f13 j (by omega)).trans (hfr9 j z0 z1))) (by omega) hW hl
  exact loop9 _ 0 w _ _ _ rfl pr0 (by first | exact pr1 | (rw [mixF_0]; exact pr1) | (rw [mixF_up]; exact pr1) | (refine (pr1).trans ?_; rw [cK_mixE (by omega)]; done) | (refine (pr1).trans ?_; rw [cL_mixE (by omega)]; done) | (refine (pr1).trans ?_; rw [cL_mixE (by omega)]; rfl)) pr2 (fun j z0 z1 => rfl) (by omega) hW hl

set_option maxHeartbeats 4000000 in
set_option maxRecDepth 100000 in
theorem c_X1_remember (l : Launch) (g : GE) (w : Nat → va_E) (b n : Nat) (y : Int32) (L π : Nat → Nat) (P : Nat → Nat → Nat) (hI : AdInj g) (hN : gN g = 130) (hb : b + 33 ≤ 119) (hn : n ≤ 8) (pr0 : GAt g b (nI n) y L w) (pr1 : PArr g b π w) (pr2 : PMom g b π P w) : Met l yX1_remember wsX1_remember ({ frames := 2, cells := 0, slots := 0, locals := 53 } : Room) (XPc g w [.ref (gad g b)]) (XQv g (fun w' => ∃ (π1 : Nat → Nat) (P1 : Nat → Nat → Nat), GAt g b (nI (if n < 8 then n + 1 else 8)) y L w' ∧ PArr g b π1 w' ∧ PMom g b π1 P1 w' ∧ (∀ j : Nat, ¬ (b ≤ j ∧ j < b + 1) → ¬ (b + 5 ≤ j ∧ j < b + 6) → ¬ (b + 9 ≤ j ∧ j < b + 33) → w' j = w j) ∧ P1 = pastUp n P L)) 0 0 (gA g) := by
  refine xmet (cc := cX1_remember) (maxL := 1) (ret := none) (by decide) rfl hI (Nat.le_of_ble_eq_true rfl) ?_
  intro pG eG sG mG belowG methG cG ls C hr hlk hK hW hl
  have hl : lv_has ls 1 [(0, .ref (gad g b))] := hl
  have hinX1 : ∀ x ∈ u_ws RX1 TX1 8, x ∈ wsX1_remember := by decide +kernel
  refine lv_aload_n C.1 C.2.1 dX1_remember_0 rfl (lv_at hl 0 rfl) ?_
  refine xget C hK hW hinX1 rfl (by omega) pr0.1 3 (by decide) (List.mem_of_getElem? (i := 1) rfl) rfl dX1_remember_1 ?_
  refine lv_bipush (v := (nI 8)) C.1 C.2.1 dX1_remember_4 (by decide) ?_
  refine xlt (tgt := 13) C (by omega) (by omega) dX1_remember_6 (by decide) (fun c6 => ?_) (fun c6 => ?_)
  · have hrk := pr2.1.1 n (by omega)
    refine lv_aload_n C.1 C.2.1 dX1_remember_13 rfl (lv_at hl 0 rfl) ?_
    refine xget C hK hW hinX1 rfl (by omega) pr0.1 2 (by decide) (List.mem_of_getElem? (i := 2) rfl) rfl dX1_remember_14 ?_
    refine lv_aload_n C.1 C.2.1 dX1_remember_17 rfl (lv_at hl 0 rfl) ?_
    refine xget C hK hW hinX1 rfl (by omega) pr0.1 3 (by decide) (List.mem_of_getElem? (i := 1) rfl) rfl dX1_remember_18 ?_
    refine xaldM (q := gad g (b + 9 + 3 * π (n))) C hK hW (by omega) pr1 (vp_in_nI (by omega) (by decide)) (by rw [nI_clamp (by omega)]; exact PArr_at (by omega) rfl) dX1_remember_21 ?_
    refine lv_aload_n C.1 C.2.1 dX1_remember_22 rfl (lv_at hl 0 rfl) ?_
    refine xget C hK hW hinX1 rfl (by omega) pr0.1 1 (by decide) (List.mem_of_getElem? (i := 3) rfl) rfl dX1_remember_23 ?_
    refine xcV_v (n := 1) (As := [.ref (gad g (b + 2))]) C hK hW (c_X2_take l g w (b + 9 + 3 * π (n)) (b + 2) (P n) L hI hN (by omega) (by omega) (by omega) (pr2.2 n (by omega)) pr0.mom) gX1_remember_X2_take rfl ⟨rfl, rfl⟩ (by decide +kernel) ⟨Nat.le_of_ble_eq_true rfl, Nat.le_of_ble_eq_true rfl⟩ ⟨Nat.zero_le _, Nat.zero_le _⟩ rfl (by omega) (pr2.2 n (by omega)).1 rfl hl rfl (Nat.le_of_ble_eq_true rfl) dX1_remember_26 (fun w1 H locs q2 hW => ?_)
    obtain ⟨h4, f5⟩ := q2
    have h6 : PMom g b π (va_up P n L) w1 := PMom_take pr2 (by omega) h4 f5
    refine lv_aload_n C.1 C.2.1 dX1_remember_29 rfl (lv_at hl 0 rfl) ?_
    refine lv_dup C.1 C.2.1 dX1_remember_30 rfl ?_
    have h7 : GAt g b (nI n) y L w1 := (GAt.fr pr0 (fun j h1 h2 => f5 j (by omega)))
    refine xget C hK hW hinX1 rfl (by omega) h7.1 3 (by decide) (List.mem_of_getElem? (i := 1) rfl) rfl dX1_remember_31 ?_
    refine lv_iconst (v := (nI 1)) C.1 C.2.1 dX1_remember_34 (by decide) ?_
    refine xadd C dX1_remember_35 ?_
    refine xput (v := .int (nI (n + 1))) C hK hW hinX1 tyX1_ok nmX1 rfl (by omega) h7.1 3 (by decide) (List.mem_of_getElem? (i := 1) rfl) rfl rfl rfl (Nat.le_of_ble_eq_true rfl) dX1_remember_36 (fun w8 H locs e9 f10 hW => ?_)
    have h11 : GAt g b (nI (n + 1)) y L w8 := GAt_o h7 e9 f10
    have h12 : PArr g b π w8 := (PArr.fr (PArr.fr pr1 (fun j h1 h2 => f5 j (by omega))) (fun j h1 h2 => f10 j (by omega)))
    have h13 : PMom g b π (va_up P n L) w8 := (PMom.fr h6 (fun j h1 h2 => f10 j (by omega)))
    exact xret_v C hr hlk hW ⟨_, _, (by rw [if_pos c6]; exact h11), h12, h13, (fun j z0 z1 z2 => ((f10 j (by omega)).trans (f5 j (by omega)))), (by rw [pastUp, if_pos c6])⟩ dX1_remember_39
  · refine lv_aload_n C.1 C.2.1 dX1_remember_9 rfl (lv_at hl 0 rfl) ?_
    refine xcV_v (n := 0) (As := []) C hK hW (c_X1_loseOldest l g w b (nI n) y L π P hI hN (by omega) pr0 pr1 pr2) gX1_remember_X1_loseOldest rfl ⟨rfl, rfl⟩ (by decide +kernel) ⟨Nat.le_of_ble_eq_true rfl, Nat.le_of_ble_eq_true rfl⟩ ⟨Nat.zero_le _, Nat.zero_le _⟩ rfl (by omega) pr0.1 rfl hl rfl (Nat.le_of_ble_eq_true rfl) dX1_remember_10 (fun w14 H locs q15 hW => ?_)
    obtain ⟨h17, h18, f19⟩ := q15
    have h20 : PMom g b π P w14 := (PMom.fr pr2 (fun j h1 h2 => f19 j (by omega) (by omega)))
    have h21 : PMom g b (rotP π) (rotQ P) w14 := PMom_rot h20
    have hrk := h21.1.1 7 (by omega)
    refine lv_aload_n C.1 C.2.1 dX1_remember_13 rfl (lv_at hl 0 rfl) ?_
    refine xget C hK hW hinX1 rfl (by omega) h17.1 2 (by decide) (List.mem_of_getElem? (i := 2) rfl) rfl dX1_remember_14 ?_
    refine lv_aload_n C.1 C.2.1 dX1_remember_17 rfl (lv_at hl 0 rfl) ?_
    refine xget C hK hW hinX1 rfl (by omega) h17.1 3 (by decide) (List.mem_of_getElem? (i := 1) rfl) rfl dX1_remember_18 ?_
    refine xaldM (q := gad g (b + 9 + 3 * (rotP π) (7))) C hK hW (by omega) h18 (vp_in_nI (by omega) (by decide)) (by rw [nI_clamp (by omega)]; exact PArr_at (by omega) rfl) dX1_remember_21 ?_
    refine lv_aload_n C.1 C.2.1 dX1_remember_22 rfl (lv_at hl 0 rfl) ?_
    refine xget C hK hW hinX1 rfl (by omega) h17.1 1 (by decide) (List.mem_of_getElem? (i := 3) rfl) rfl dX1_remember_23 ?_
    refine xcV_v (n := 1) (As := [.ref (gad g (b + 2))]) C hK hW (c_X2_take l g w14 (b + 9 + 3 * (rotP π) (7)) (b + 2) ((rotQ P) 7) L hI hN (by omega) (by omega) (by omega) (h21.2 7 (by omega)) h17.mom) gX1_remember_X2_take rfl ⟨rfl, rfl⟩ (by decide +kernel) ⟨Nat.le_of_ble_eq_true rfl, Nat.le_of_ble_eq_true rfl⟩ ⟨Nat.zero_le _, Nat.zero_le _⟩ rfl (by omega) (h21.2 7 (by omega)).1 rfl hl rfl (Nat.le_of_ble_eq_true rfl) dX1_remember_26 (fun w22 H locs q23 hW => ?_)
    obtain ⟨h25, f26⟩ := q23
    have h27 : PMom g b (rotP π) (va_up (rotQ P) 7 L) w22 := PMom_take h21 (by omega) h25 f26
    refine lv_aload_n C.1 C.2.1 dX1_remember_29 rfl (lv_at hl 0 rfl) ?_
    refine lv_dup C.1 C.2.1 dX1_remember_30 rfl ?_
    have h28 : GAt g b (nI 7) y L w22 := (GAt.fr h17 (fun j h1 h2 => f26 j (by omega)))
    refine xget C hK hW hinX1 rfl (by omega) h28.1 3 (by decide) (List.mem_of_getElem? (i := 1) rfl) rfl dX1_remember_31 ?_
    refine lv_iconst (v := (nI 1)) C.1 C.2.1 dX1_remember_34 (by decide) ?_
    refine xadd C dX1_remember_35 ?_
    refine xput (v := .int (nI 8)) C hK hW hinX1 tyX1_ok nmX1 rfl (by omega) h28.1 3 (by decide) (List.mem_of_getElem? (i := 1) rfl) rfl rfl rfl (Nat.le_of_ble_eq_true rfl) dX1_remember_36 (fun w29 H locs e30 f31 hW => ?_)
    have h32 : GAt g b (nI 8) y L w29 := GAt_o h28 e30 f31
    have h33 : PArr g b (rotP π) w29 := (PArr.fr (PArr.fr h18 (fun j h1 h2 => f26 j (by omega))) (fun j h1 h2 => f31 j (by omega)))
    have h34 : PMom g b (rotP π) (va_up (rotQ P) 7 L) w29 := (PMom.fr h27 (fun j h1 h2 => f31 j (by omega)))
    exact xret_v C hr hlk hW ⟨_, _, (by rw [if_neg c6]; exact h32), h33, h34, (fun j z0 z1 z2 => ((f31 j (by omega)).trans ((f26 j (by omega)).trans (f19 j (by omega) (by omega))))), (by rw [pastUp, if_neg c6])⟩ dX1_remember_39

set_option maxHeartbeats 4000000 in
set_option maxRecDepth 100000 in
theorem c_X1_recall (l : Launch) (g : GE) (w : Nat → va_E) (b n : Nat) (y : Int32) (L π : Nat → Nat) (P : Nat → Nat → Nat) (hI : AdInj g) (hN : gN g = 130) (hb : b + 33 ≤ 119) (hn : n ≤ 8) (pr0 : GAt g b (nI n) y L w) (pr1 : PArr g b π w) (pr2 : PMom g b π P w) : Met l yX1_recall wsX1_recall ({ frames := 2, cells := 0, slots := 0, locals := 53 } : Room) (XPc g w [.ref (gad g b)]) (XQi g (fun r w' => GAt g b (nI (n - 1)) y (if 0 < n then mixF 17 (P (n - 1)) L else L) w' ∧ (∀ j : Nat, ¬ (b ≤ j ∧ j < b + 5) → w' j = w j) ∧ r = (bI (0 < n)))) 0 0 (gA g) := by
  refine xmet (cc := cX1_recall) (maxL := 1) (ret := (some .boolean)) (by decide) rfl hI (Nat.le_of_ble_eq_true rfl) ?_
  intro pG eG sG mG belowG methG cG ls C hr hlk hK hW hl
  have hl : lv_has ls 1 [(0, .ref (gad g b))] := hl
  have hinX1 : ∀ x ∈ u_ws RX1 TX1 8, x ∈ wsX1_recall := by decide +kernel
  refine lv_aload_n C.1 C.2.1 dX1_recall_0 rfl (lv_at hl 0 rfl) ?_
  refine xget C hK hW hinX1 rfl (by omega) pr0.1 3 (by decide) (List.mem_of_getElem? (i := 1) rfl) rfl dX1_recall_1 ?_
  refine x0gt (tgt := 9) C (by omega) dX1_recall_4 (by decide) (fun c4 => ?_) (fun c4 => ?_)
  · have hpn := pr2.1.1 (n - 1) (by omega)
    refine lv_aload_n C.1 C.2.1 dX1_recall_9 rfl (lv_at hl 0 rfl) ?_
    refine lv_dup C.1 C.2.1 dX1_recall_10 rfl ?_
    refine xget C hK hW hinX1 rfl (by omega) pr0.1 3 (by decide) (List.mem_of_getElem? (i := 1) rfl) rfl dX1_recall_11 ?_
    refine lv_iconst (v := (nI 1)) C.1 C.2.1 dX1_recall_14 (by decide) ?_
    refine xsub C (by omega) dX1_recall_15 ?_
    refine xput (v := .int (nI (n - 1))) C hK hW hinX1 tyX1_ok nmX1 rfl (by omega) pr0.1 3 (by decide) (List.mem_of_getElem? (i := 1) rfl) rfl rfl rfl (Nat.le_of_ble_eq_true rfl) dX1_recall_16 (fun w1 H locs e2 f3 hW => ?_)
    have h4 : GAt g b (nI (n - 1)) y L w1 := GAt_o pr0 e2 f3
    refine lv_aload_n C.1 C.2.1 dX1_recall_19 rfl (lv_at hl 0 rfl) ?_
    refine xget C hK hW hinX1 rfl (by omega) h4.1 1 (by decide) (List.mem_of_getElem? (i := 2) rfl) rfl dX1_recall_20 ?_
    refine lv_aload_n C.1 C.2.1 dX1_recall_23 rfl (lv_at hl 0 rfl) ?_
    refine xget C hK hW hinX1 rfl (by omega) h4.1 2 (by decide) (List.mem_of_getElem? (i := 3) rfl) rfl dX1_recall_24 ?_
    refine lv_aload_n C.1 C.2.1 dX1_recall_27 rfl (lv_at hl 0 rfl) ?_
    refine xget C hK hW hinX1 rfl (by omega) h4.1 3 (by decide) (List.mem_of_getElem? (i := 1) rfl) rfl dX1_recall_28 ?_
    have h5 : PArr g b π w1 := (PArr.fr pr1 (fun j h1 h2 => f3 j (by omega)))
    refine xaldM (q := gad g (b + 9 + 3 * π (n - 1))) C hK hW (by omega) h5 (vp_in_nI (by omega) (by decide)) (by rw [nI_clamp (by omega)]; exact PArr_at (by omega) rfl) dX1_recall_31 ?_
    have h6 : PMom g b π P w1 := (PMom.fr pr2 (fun j h1 h2 => f3 j (by omega)))
    refine xcV_v (n := 1) (As := [.ref (gad g (b + 9 + 3 * π (n - 1)))]) C hK hW (c_X2_take l g w1 (b + 2) (b + 9 + 3 * π (n - 1)) L (P (n - 1)) hI hN (by omega) (by omega) (by omega) h4.mom (h6.2 (n - 1) (by omega))) gX1_recall_X2_take rfl ⟨rfl, rfl⟩ (by decide +kernel) ⟨Nat.le_of_ble_eq_true rfl, Nat.le_of_ble_eq_true rfl⟩ ⟨Nat.zero_le _, Nat.zero_le _⟩ rfl (by omega) h4.2.2.1 rfl hl rfl (Nat.le_of_ble_eq_true rfl) dX1_recall_32 (fun w7 H locs q8 hW => ?_)
    obtain ⟨h10, f11⟩ := q8
    have h12 : GAt g b (nI (n - 1)) y (mixF 17 (P (n - 1)) L) w7 := GAt_mom h4 (h10.congr (fun i hi => (mixF_lt hi).symm)) (fun j h1 h2 => f11 j (by omega)) (fun i h1 h2 => mixF_ge (by omega))
    refine lv_iconst (v := (nI 1)) C.1 C.2.1 dX1_recall_35 (by decide) ?_
    exact xret_z C hr hlk hW rfl ⟨(by rw [if_pos (by omega)]; exact h12), (fun j z0 => ((f11 j (by omega)).trans (f3 j (by omega)))), (bI_t (by omega)).symm⟩ dX1_recall_36
  · refine lv_iconst (v := (nI 0)) C.1 C.2.1 dX1_recall_7 (by decide) ?_
    exact xret_z C hr hlk hW rfl ⟨(by rw [if_neg (by omega), show n - 1 = n by omega]; exact pr0), (fun j z0 => rfl), (bI_f (by omega)).symm⟩ dX1_recall_8
