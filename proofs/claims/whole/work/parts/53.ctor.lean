/-! the constructors -/
set_option maxHeartbeats 4000000 in
set_option maxRecDepth 100000 in
theorem n_X0_init (l : Launch) (g : GE) (ad : Nat → Nat) (w : Nat → va_E) (b a sz : Nat) (hI : AdInj (gx g ad (b + 1))) (ha0 : ad b = a) (hb0 : w b = .inr (0, [.long 0, .long 0])) : Met l yX0_init wsX0_init ({ frames := 1, cells := 0, slots := 0, locals := 12 } : Room) (XPn g (b + 1) ad w sz [.ref a]) (XQn g (b + 1) (fun ad' w' => (∀ i, i < b + 1 → ad' i = ad i) ∧ (∀ i, i < b → w' i = w i) ∧ w' b = cF0 0 1) (gB (b + 1) ad sz)) 0 0 (gB (b + 1) ad sz) := by
  refine ymet (cc := cX0_init) (maxL := 1) (by decide) rfl rfl hI (Nat.le_of_ble_eq_true rfl) ?_
  intro pG eG sG mG belowG methG cG ls C hr hlk hnm hK hA hW hl
  have hl : lv_has ls 1 [(0, .ref a)] := hl
  have hinX0 : ∀ x ∈ u_ws RX0 TX0 2, x ∈ wsX0_init := by decide +kernel
  refine lv_aload_n C.1 C.2.1 dX0_init_0 rfl (lv_at hl 0 rfl) ?_
  refine W.objInit C.1 C.2.1 C.2.2.2.1 (C.2.2.2.2 _ (List.mem_of_getElem? (i := 1) rfl)) (C.2.2.2.2 _ (List.mem_of_getElem? (i := 2) rfl)) (C.2.2.2.2 _ (List.mem_of_getElem? (i := 3) rfl)) rfl (hl.1.trans C.2.2.1.symm) rfl dX0_init_1 (Nat.le_of_ble_eq_true rfl) (Nat.le_of_ble_eq_true rfl) ?_
  show W _ _ _ _ _ _ _ _ _ _ _ _ _ _ _ (F0 mG 4 ls [])
  refine lv_aload_n C.1 C.2.1 dX0_init_4 rfl (lv_at hl 0 rfl) ?_
  refine lv_lconst (v := lN 0) C.1 C.2.1 dX0_init_5 (by decide) ?_
  refine yput (v := .long (lN 0)) C hK hW hinX0 tyX0_ok nmX0 rfl (by omega) ha0 hb0 0 (by decide) (List.mem_of_getElem? (i := 4) rfl) rfl rfl rfl (Nat.le_of_ble_eq_true rfl) dX0_init_6 (fun w1 H locs e2 f3 hW => ?_)
  refine lv_aload_n C.1 C.2.1 dX0_init_9 rfl (lv_at hl 0 rfl) ?_
  refine lv_lconst (v := lN 1) C.1 C.2.1 dX0_init_10 (by decide) ?_
  refine yput (v := .long (lN 1)) C hK hW hinX0 tyX0_ok nmX0 rfl (by omega) ha0 e2 1 (by decide) (List.mem_of_getElem? (i := 5) rfl) rfl rfl rfl (Nat.le_of_ble_eq_true rfl) dX0_init_11 (fun w4 H locs e5 f6 hW => ?_)
  exact yret C hr hlk hW (Nat.le_of_ble_eq_true rfl) (Nat.le_of_ble_eq_true rfl) ⟨(fun i hi => rfl), (fun i hi => ((f6 i (by omega)).trans (f3 i (by omega)))), e5⟩ dX0_init_14

set_option maxHeartbeats 4000000 in
set_option maxRecDepth 100000 in
theorem n_X2_init (l : Launch) (g : GE) (ad : Nat → Nat) (w : Nat → va_E) (b a sz : Nat) (hI : AdInj (gx g ad (b + 1))) (ha0 : ad b = a) (hb0 : w b = .inr (2, [.int 0, .int 0, .int 0, .null, .null])) : Met l yX2_init wsX2_init ({ frames := 1, cells := 2, slots := 14, locals := 12 } : Room) (XPn g (b + 1) ad w sz [.ref a]) (XQn g (b + 3) (fun ad' w' => (∀ i, i < b + 1 → ad' i = ad i) ∧ (∀ i, i < b → w' i = w i) ∧ MomAt (gx g ad' (b + 3)) b (zD 1) w') (gB (b + 1) ad sz)) 2 14 (gB (b + 1) ad sz) := by
  refine ymet (cc := cX2_init) (maxL := 1) (by decide) rfl rfl hI (Nat.le_of_ble_eq_true rfl) ?_
  intro pG eG sG mG belowG methG cG ls C hr hlk hnm hK hA hW hl
  have hl : lv_has ls 1 [(0, .ref a)] := hl
  have hinX2 : ∀ x ∈ u_ws RX2 TX2 5, x ∈ wsX2_init := by decide +kernel
  refine lv_aload_n C.1 C.2.1 dX2_init_0 rfl (lv_at hl 0 rfl) ?_
  refine W.objInit C.1 C.2.1 C.2.2.2.1 (C.2.2.2.2 _ (List.mem_of_getElem? (i := 1) rfl)) (C.2.2.2.2 _ (List.mem_of_getElem? (i := 2) rfl)) (C.2.2.2.2 _ (List.mem_of_getElem? (i := 3) rfl)) rfl (hl.1.trans C.2.2.1.symm) rfl dX2_init_1 (Nat.le_of_ble_eq_true rfl) (Nat.le_of_ble_eq_true rfl) ?_
  show W _ _ _ _ _ _ _ _ _ _ _ _ _ _ _ (F0 mG 4 ls [])
  refine lv_aload_n C.1 C.2.1 dX2_init_4 rfl (lv_at hl 0 rfl) ?_
  refine lv_iconst (v := (nI 0)) C.1 C.2.1 dX2_init_5 (by decide) ?_
  refine yput (v := .int (nI 0)) C hK hW hinX2 tyX2_ok nmX2 rfl (by omega) ha0 hb0 0 (by decide) (List.mem_of_getElem? (i := 4) rfl) rfl rfl rfl (Nat.le_of_ble_eq_true rfl) dX2_init_6 (fun w1 H locs e2 f3 hW => ?_)
  refine lv_aload_n C.1 C.2.1 dX2_init_9 rfl (lv_at hl 0 rfl) ?_
  refine lv_iconst (v := (nI 0)) C.1 C.2.1 dX2_init_10 (by decide) ?_
  refine yput (v := .int (nI 0)) C hK hW hinX2 tyX2_ok nmX2 rfl (by omega) ha0 e2 1 (by decide) (List.mem_of_getElem? (i := 5) rfl) rfl rfl rfl (Nat.le_of_ble_eq_true rfl) dX2_init_11 (fun w4 H locs e5 f6 hW => ?_)
  refine lv_aload_n C.1 C.2.1 dX2_init_14 rfl (lv_at hl 0 rfl) ?_
  refine lv_iconst (v := (nI 1)) C.1 C.2.1 dX2_init_15 (by decide) ?_
  refine yput (v := .int (nI 1)) C hK hW hinX2 tyX2_ok nmX2 rfl (by omega) ha0 e5 2 (by decide) (List.mem_of_getElem? (i := 6) rfl) rfl rfl rfl (Nat.le_of_ble_eq_true rfl) dX2_init_16 (fun w7 H locs e8 f9 hW => ?_)
  refine lv_aload_n C.1 C.2.1 dX2_init_19 rfl (lv_at hl 0 rfl) ?_
  refine lv_bipush (v := (nI 7)) C.1 C.2.1 dX2_init_20 (by decide) ?_
  refine ynewI C hK hW hA (List.mem_of_getElem? (i := 7) rfl) (n := 7) (by decide) (Nat.le_of_ble_eq_true rfl) (Nat.le_of_ble_eq_true rfl) dX2_init_22 (fun q10 ad11 w12 H ha13 hg14 hb15 hv16 hW => ?_)
  refine W.widen (k := 1) (n := 7) (Nat.le_of_ble_eq_true rfl) (Nat.le_of_ble_eq_true rfl) ?_
  have a17 : ad11 b = a := (hg14 b (by omega)).trans ha0
  have h18 : w12 b = .inr (2, [.int (nI 0), .int (nI 0), .int (nI 1), .null, .null]) := (hv16 b (by omega)).trans e8
  refine yputF (v := .ref q10) C hnm hK hW hinX2 tyX2_ok nmX2 rfl (by omega) a17 h18 3 (by decide) (List.mem_of_getElem? (i := 8) rfl) rfl rfl rfl rfl (Nat.le_of_ble_eq_true rfl) dX2_init_24 (fun w19 H locs e20 f21 hW => ?_)
  refine lv_aload_n C.1 C.2.1 dX2_init_27 rfl (lv_at hl 0 rfl) ?_
  refine lv_bipush (v := (nI 7)) C.1 C.2.1 dX2_init_28 (by decide) ?_
  refine ynewI C hK hW hA (List.mem_of_getElem? (i := 7) rfl) (n := 7) (by decide) (Nat.le_of_ble_eq_true rfl) (Nat.le_of_ble_eq_true rfl) dX2_init_30 (fun q22 ad23 w24 H ha25 hg26 hb27 hv28 hW => ?_)
  refine W.widen (k := 2) (n := 14) (Nat.le_of_ble_eq_true rfl) (Nat.le_of_ble_eq_true rfl) ?_
  have a29 : ad23 b = a := (hg26 b (by omega)).trans a17
  have h30 : w24 b = .inr (2, [.int (nI 0), .int (nI 0), .int (nI 1), .ref q10, .null]) := (hv28 b (by omega)).trans e20
  refine yputF (v := .ref q22) C hnm hK hW hinX2 tyX2_ok nmX2 rfl (by omega) a29 h30 4 (by decide) (List.mem_of_getElem? (i := 9) rfl) rfl rfl rfl rfl (Nat.le_of_ble_eq_true rfl) dX2_init_32 (fun w31 H locs e32 f33 hW => ?_)
  have a34 : ad23 (b + 1) = q10 := (hg26 (b + 1) (by omega)).trans ha13
  have h35 : w31 (b + 1) = .inl (gI g, 7, .inl (fun _ => 0)) := ((f33 (b + 1) (by omega)).trans ((hv28 (b + 1) (by omega)).trans (f21 (b + 1) (by omega)))).trans hb15
  have h36 : w31 (b + 2) = .inl (gI g, 7, .inl (fun _ => 0)) := (f33 (b + 2) (by omega)).trans hb27
  exact yret C hr hlk hW (Nat.le_of_ble_eq_true rfl) (Nat.le_of_ble_eq_true rfl) ⟨(fun i hi => ((hg26 i (by omega)).trans (hg14 i (by omega)))), (fun i hi => ((f33 i (by omega)).trans ((hv28 i (by omega)).trans ((f21 i (by omega)).trans ((hv16 i (by omega)).trans ((f9 i (by omega)).trans ((f6 i (by omega)).trans (f3 i (by omega))))))))), ⟨e32.trans (by rw [← a34, ← ha25]; rfl), h35.trans (zI_c (o := 3) (L := zD 1) (fun j hj => zD_ne (by omega))), h36.trans (zI_c (o := 10) (L := zD 1) (fun j hj => zD_ne (by omega)))⟩⟩ dX2_init_35

set_option maxHeartbeats 4000000 in
set_option maxRecDepth 100000 in
theorem n_X3_init (l : Launch) (g : GE) (ad : Nat → Nat) (w : Nat → va_E) (b a sz : Nat) (hI : AdInj (gx g ad (b + 1))) (ha0 : ad b = a) (hb0 : w b = .inr (3, [.null, .int 0, .int 0])) : Met l yX3_init wsX3_init ({ frames := 1, cells := 1, slots := 80, locals := 12 } : Room) (XPn g (b + 1) ad w sz [.ref a]) (XQn g (b + 2) (fun ad' w' => (∀ i, i < b + 1 → ad' i = ad i) ∧ (∀ i, i < b → w' i = w i) ∧ ∃ q1 : Nat, ad' (b + 1) = q1 ∧ w' b = .inr (3, [.ref q1, .int (nI 0), .int (nI 0)]) ∧ w' (b + 1) = .inl (gI g, 80, .inl (fun _ => 0))) (gB (b + 1) ad sz)) 1 80 (gB (b + 1) ad sz) := by
  refine ymet (cc := cX3_init) (maxL := 1) (by decide) rfl rfl hI (Nat.le_of_ble_eq_true rfl) ?_
  intro pG eG sG mG belowG methG cG ls C hr hlk hnm hK hA hW hl
  have hl : lv_has ls 1 [(0, .ref a)] := hl
  have hinX3 : ∀ x ∈ u_ws RX3 TX3 3, x ∈ wsX3_init := by decide +kernel
  refine lv_aload_n C.1 C.2.1 dX3_init_0 rfl (lv_at hl 0 rfl) ?_
  refine W.objInit C.1 C.2.1 C.2.2.2.1 (C.2.2.2.2 _ (List.mem_of_getElem? (i := 1) rfl)) (C.2.2.2.2 _ (List.mem_of_getElem? (i := 2) rfl)) (C.2.2.2.2 _ (List.mem_of_getElem? (i := 3) rfl)) rfl (hl.1.trans C.2.2.1.symm) rfl dX3_init_1 (Nat.le_of_ble_eq_true rfl) (Nat.le_of_ble_eq_true rfl) ?_
  show W _ _ _ _ _ _ _ _ _ _ _ _ _ _ _ (F0 mG 4 ls [])
  refine lv_aload_n C.1 C.2.1 dX3_init_4 rfl (lv_at hl 0 rfl) ?_
  refine lv_bipush (v := (nI 80)) C.1 C.2.1 dX3_init_5 (by decide) ?_
  refine ynewI C hK hW hA (List.mem_of_getElem? (i := 4) rfl) (n := 80) (by decide) (Nat.le_of_ble_eq_true rfl) (Nat.le_of_ble_eq_true rfl) dX3_init_7 (fun q1 ad2 w3 H ha4 hg5 hb6 hv7 hW => ?_)
  refine W.widen (k := 1) (n := 80) (Nat.le_of_ble_eq_true rfl) (Nat.le_of_ble_eq_true rfl) ?_
  have a8 : ad2 b = a := (hg5 b (by omega)).trans ha0
  have h9 : w3 b = .inr (3, [.null, .int 0, .int 0]) := (hv7 b (by omega)).trans hb0
  refine yputF (v := .ref q1) C hnm hK hW hinX3 tyX3_ok nmX3 rfl (by omega) a8 h9 0 (by decide) (List.mem_of_getElem? (i := 5) rfl) rfl rfl rfl rfl (Nat.le_of_ble_eq_true rfl) dX3_init_9 (fun w10 H locs e11 f12 hW => ?_)
  refine lv_aload_n C.1 C.2.1 dX3_init_12 rfl (lv_at hl 0 rfl) ?_
  refine lv_iconst (v := (nI 0)) C.1 C.2.1 dX3_init_13 (by decide) ?_
  refine yput (v := .int (nI 0)) C hK hW hinX3 tyX3_ok nmX3 rfl (by omega) a8 e11 1 (by decide) (List.mem_of_getElem? (i := 6) rfl) rfl rfl rfl (Nat.le_of_ble_eq_true rfl) dX3_init_14 (fun w13 H locs e14 f15 hW => ?_)
  refine lv_aload_n C.1 C.2.1 dX3_init_17 rfl (lv_at hl 0 rfl) ?_
  refine lv_iconst (v := (nI 0)) C.1 C.2.1 dX3_init_18 (by decide) ?_
  refine yput (v := .int (nI 0)) C hK hW hinX3 tyX3_ok nmX3 rfl (by omega) a8 e14 2 (by decide) (List.mem_of_getElem? (i := 7) rfl) rfl rfl rfl (Nat.le_of_ble_eq_true rfl) dX3_init_19 (fun w16 H locs e17 f18 hW => ?_)
  have h19 : w16 (b + 1) = .inl (gI g, 80, .inl (fun _ => 0)) := ((f18 (b + 1) (by omega)).trans ((f15 (b + 1) (by omega)).trans (f12 (b + 1) (by omega)))).trans hb6
  exact yret C hr hlk hW (Nat.le_of_ble_eq_true rfl) (Nat.le_of_ble_eq_true rfl) ⟨(fun i hi => (hg5 i (by omega))), (fun i hi => ((f18 i (by omega)).trans ((f15 i (by omega)).trans ((f12 i (by omega)).trans (hv7 i (by omega)))))), ⟨_, ha4, e17, h19⟩⟩ dX3_init_22

set_option maxHeartbeats 4000000 in
set_option maxRecDepth 100000 in
theorem n_X4_init (l : Launch) (g : GE) (ad : Nat → Nat) (w : Nat → va_E) (b a sz : Nat) (hI : AdInj (gx g ad (b + 1))) (ha0 : ad b = a) (hb0 : w b = .inr (4, [.int 0, .int 0, .int 0, .null])) : Met l yX4_init wsX4_init ({ frames := 1, cells := 1, slots := 24, locals := 12 } : Room) (XPn g (b + 1) ad w sz [.ref a]) (XQn g (b + 2) (fun ad' w' => (∀ i, i < b + 1 → ad' i = ad i) ∧ (∀ i, i < b → w' i = w i) ∧ ∃ q1 : Nat, ad' (b + 1) = q1 ∧ w' b = .inr (4, [.int (nI 0), .int (nI 0), .int (nI 0), .ref q1]) ∧ w' (b + 1) = .inl (gJ g, 24, .inr (.inl (fun _ => 0)))) (gB (b + 1) ad sz)) 1 24 (gB (b + 1) ad sz) := by
  refine ymet (cc := cX4_init) (maxL := 1) (by decide) rfl rfl hI (Nat.le_of_ble_eq_true rfl) ?_
  intro pG eG sG mG belowG methG cG ls C hr hlk hnm hK hA hW hl
  have hl : lv_has ls 1 [(0, .ref a)] := hl
  have hinX4 : ∀ x ∈ u_ws RX4 TX4 4, x ∈ wsX4_init := by decide +kernel
  refine lv_aload_n C.1 C.2.1 dX4_init_0 rfl (lv_at hl 0 rfl) ?_
  refine W.objInit C.1 C.2.1 C.2.2.2.1 (C.2.2.2.2 _ (List.mem_of_getElem? (i := 1) rfl)) (C.2.2.2.2 _ (List.mem_of_getElem? (i := 2) rfl)) (C.2.2.2.2 _ (List.mem_of_getElem? (i := 3) rfl)) rfl (hl.1.trans C.2.2.1.symm) rfl dX4_init_1 (Nat.le_of_ble_eq_true rfl) (Nat.le_of_ble_eq_true rfl) ?_
  show W _ _ _ _ _ _ _ _ _ _ _ _ _ _ _ (F0 mG 4 ls [])
  refine lv_aload_n C.1 C.2.1 dX4_init_4 rfl (lv_at hl 0 rfl) ?_
  refine lv_iconst (v := (nI 0)) C.1 C.2.1 dX4_init_5 (by decide) ?_
  refine yput (v := .int (nI 0)) C hK hW hinX4 tyX4_ok nmX4 rfl (by omega) ha0 hb0 0 (by decide) (List.mem_of_getElem? (i := 4) rfl) rfl rfl rfl (Nat.le_of_ble_eq_true rfl) dX4_init_6 (fun w1 H locs e2 f3 hW => ?_)
  refine lv_aload_n C.1 C.2.1 dX4_init_9 rfl (lv_at hl 0 rfl) ?_
  refine lv_iconst (v := (nI 0)) C.1 C.2.1 dX4_init_10 (by decide) ?_
  refine yput (v := .int (nI 0)) C hK hW hinX4 tyX4_ok nmX4 rfl (by omega) ha0 e2 1 (by decide) (List.mem_of_getElem? (i := 5) rfl) rfl rfl rfl (Nat.le_of_ble_eq_true rfl) dX4_init_11 (fun w4 H locs e5 f6 hW => ?_)
  refine lv_aload_n C.1 C.2.1 dX4_init_14 rfl (lv_at hl 0 rfl) ?_
  refine lv_iconst (v := (nI 0)) C.1 C.2.1 dX4_init_15 (by decide) ?_
  refine yput (v := .int (nI 0)) C hK hW hinX4 tyX4_ok nmX4 rfl (by omega) ha0 e5 2 (by decide) (List.mem_of_getElem? (i := 6) rfl) rfl rfl rfl (Nat.le_of_ble_eq_true rfl) dX4_init_16 (fun w7 H locs e8 f9 hW => ?_)
  refine lv_aload_n C.1 C.2.1 dX4_init_19 rfl (lv_at hl 0 rfl) ?_
  refine lv_bipush (v := (nI 24)) C.1 C.2.1 dX4_init_20 (by decide) ?_
  refine ynewJ C hK hW hA (List.mem_of_getElem? (i := 7) rfl) (n := 24) (by decide) (Nat.le_of_ble_eq_true rfl) (Nat.le_of_ble_eq_true rfl) dX4_init_22 (fun q10 ad11 w12 H ha13 hg14 hb15 hv16 hW => ?_)
  refine W.widen (k := 1) (n := 24) (Nat.le_of_ble_eq_true rfl) (Nat.le_of_ble_eq_true rfl) ?_
  have a17 : ad11 b = a := (hg14 b (by omega)).trans ha0
  have h18 : w12 b = .inr (4, [.int (nI 0), .int (nI 0), .int (nI 0), .null]) := (hv16 b (by omega)).trans e8
  refine yputF (v := .ref q10) C hnm hK hW hinX4 tyX4_ok nmX4 rfl (by omega) a17 h18 3 (by decide) (List.mem_of_getElem? (i := 8) rfl) rfl rfl rfl rfl (Nat.le_of_ble_eq_true rfl) dX4_init_24 (fun w19 H locs e20 f21 hW => ?_)
  have h22 : w19 (b + 1) = .inl (gJ g, 24, .inr (.inl (fun _ => 0))) := (f21 (b + 1) (by omega)).trans hb15
  exact yret C hr hlk hW (Nat.le_of_ble_eq_true rfl) (Nat.le_of_ble_eq_true rfl) ⟨(fun i hi => (hg14 i (by omega))), (fun i hi => ((f21 i (by omega)).trans ((hv16 i (by omega)).trans ((f9 i (by omega)).trans ((f6 i (by omega)).trans (f3 i (by omega))))))), ⟨_, ha13, e20, h22⟩⟩ dX4_init_27

set_option maxHeartbeats 4000000 in
set_option maxRecDepth 100000 in
theorem n_X5_init (l : Launch) (g : GE) (ad : Nat → Nat) (w : Nat → va_E) (b a sz : Nat) (hI : AdInj (gx g ad (b + 1))) (ha0 : ad b = a) (hb0 : w b = .inr (5, [.null, .null, .int 0, .null, .null, .long 0, .null])) : Met l yX5_init wsX5_init ({ frames := 2, cells := 5, slots := 30, locals := 32 } : Room) (XPn g (b + 1) ad w sz [.ref a]) (XQn g (b + 6) (fun ad' w' => (∀ i, i < b + 1 → ad' i = ad i) ∧ (∀ i, i < b → w' i = w i) ∧ ∃ q1 q2 q3 q4 q5 : Nat, ad' (b + 1) = q1 ∧ ad' (b + 2) = q2 ∧ ad' (b + 3) = q3 ∧ ad' (b + 4) = q4 ∧ ad' (b + 5) = q5 ∧ w' b = .inr (5, [.ref q1, .ref q2, .int (nI 10), .ref q3, .ref q4, .long (lN 1), .ref q5]) ∧ w' (b + 1) = .inl (gI g, 7, .inl (fun _ => 0)) ∧ w' (b + 2) = .inl (gI g, 7, .inl (fun _ => 0)) ∧ w' (b + 3) = .inl (gJ g, 7, .inr (.inl (fun _ => 0))) ∧ w' (b + 4) = .inl (gJ g, 7, .inr (.inl (fun _ => 0))) ∧ w' (b + 5) = .inr (0, [.long (lN 0), .long (lN 1)])) (gB (b + 1) ad sz)) 5 30 (gB (b + 1) ad sz) := by
  refine ymet (cc := cX5_init) (maxL := 1) (by decide) rfl rfl hI (Nat.le_of_ble_eq_true rfl) ?_
  intro pG eG sG mG belowG methG cG ls C hr hlk hnm hK hA hW hl
  have hl : lv_has ls 1 [(0, .ref a)] := hl
  have hinX0 : ∀ x ∈ u_ws RX0 TX0 2, x ∈ wsX5_init := by decide +kernel
  have hinX5 : ∀ x ∈ u_ws RX5 TX5 7, x ∈ wsX5_init := by decide +kernel
  refine lv_aload_n C.1 C.2.1 dX5_init_0 rfl (lv_at hl 0 rfl) ?_
  refine W.objInit C.1 C.2.1 C.2.2.2.1 (C.2.2.2.2 _ (List.mem_of_getElem? (i := 1) rfl)) (C.2.2.2.2 _ (List.mem_of_getElem? (i := 2) rfl)) (C.2.2.2.2 _ (List.mem_of_getElem? (i := 3) rfl)) rfl (hl.1.trans C.2.2.1.symm) rfl dX5_init_1 (Nat.le_of_ble_eq_true rfl) (Nat.le_of_ble_eq_true rfl) ?_
  show W _ _ _ _ _ _ _ _ _ _ _ _ _ _ _ (F0 mG 4 ls [])
  refine lv_aload_n C.1 C.2.1 dX5_init_4 rfl (lv_at hl 0 rfl) ?_
  refine lv_bipush (v := (nI 7)) C.1 C.2.1 dX5_init_5 (by decide) ?_
  refine ynewI C hK hW hA (List.mem_of_getElem? (i := 4) rfl) (n := 7) (by decide) (Nat.le_of_ble_eq_true rfl) (Nat.le_of_ble_eq_true rfl) dX5_init_7 (fun q1 ad2 w3 H ha4 hg5 hb6 hv7 hW => ?_)
  refine W.widen (k := 1) (n := 7) (Nat.le_of_ble_eq_true rfl) (Nat.le_of_ble_eq_true rfl) ?_
  have a8 : ad2 b = a := (hg5 b (by omega)).trans ha0
  have h9 : w3 b = .inr (5, [.null, .null, .int 0, .null, .null, .long 0, .null]) := (hv7 b (by omega)).trans hb0
  refine yputF (v := .ref q1) C hnm hK hW hinX5 tyX5_ok nmX5 rfl (by omega) a8 h9 0 (by decide) (List.mem_of_getElem? (i := 5) rfl) rfl rfl rfl rfl (Nat.le_of_ble_eq_true rfl) dX5_init_9 (fun w10 H locs e11 f12 hW => ?_)
  refine lv_aload_n C.1 C.2.1 dX5_init_12 rfl (lv_at hl 0 rfl) ?_
  refine lv_bipush (v := (nI 7)) C.1 C.2.1 dX5_init_13 (by decide) ?_
  refine ynewI C hK hW hA (List.mem_of_getElem? (i := 4) rfl) (n := 7) (by decide) (Nat.le_of_ble_eq_true rfl) (Nat.le_of_ble_eq_true rfl) dX5_init_15 (fun q13 ad14 w15 H ha16 hg17 hb18 hv19 hW => ?_)
  refine W.widen (k := 2) (n := 14) (Nat.le_of_ble_eq_true rfl) (Nat.le_of_ble_eq_true rfl) ?_
  have a20 : ad14 b = a := (hg17 b (by omega)).trans a8
  have h21 : w15 b = .inr (5, [.ref q1, .null, .int 0, .null, .null, .long 0, .null]) := (hv19 b (by omega)).trans e11
  refine yputF (v := .ref q13) C hnm hK hW hinX5 tyX5_ok nmX5 rfl (by omega) a20 h21 1 (by decide) (List.mem_of_getElem? (i := 6) rfl) rfl rfl rfl rfl (Nat.le_of_ble_eq_true rfl) dX5_init_17 (fun w22 H locs e23 f24 hW => ?_)
  refine lv_aload_n C.1 C.2.1 dX5_init_20 rfl (lv_at hl 0 rfl) ?_
  refine lv_bipush (v := (nI 10)) C.1 C.2.1 dX5_init_21 (by decide) ?_
  refine yput (v := .int (nI 10)) C hK hW hinX5 tyX5_ok nmX5 rfl (by omega) a20 e23 2 (by decide) (List.mem_of_getElem? (i := 7) rfl) rfl rfl rfl (Nat.le_of_ble_eq_true rfl) dX5_init_23 (fun w25 H locs e26 f27 hW => ?_)
  refine lv_aload_n C.1 C.2.1 dX5_init_26 rfl (lv_at hl 0 rfl) ?_
  refine lv_bipush (v := (nI 7)) C.1 C.2.1 dX5_init_27 (by decide) ?_
  refine ynewJ C hK hW hA (List.mem_of_getElem? (i := 8) rfl) (n := 7) (by decide) (Nat.le_of_ble_eq_true rfl) (Nat.le_of_ble_eq_true rfl) dX5_init_29 (fun q28 ad29 w30 H ha31 hg32 hb33 hv34 hW => ?_)
  refine W.widen (k := 3) (n := 21) (Nat.le_of_ble_eq_true rfl) (Nat.le_of_ble_eq_true rfl) ?_
  have a35 : ad29 b = a := (hg32 b (by omega)).trans a20
  have h36 : w30 b = .inr (5, [.ref q1, .ref q13, .int (nI 10), .null, .null, .long 0, .null]) := (hv34 b (by omega)).trans e26
  refine yputF (v := .ref q28) C hnm hK hW hinX5 tyX5_ok nmX5 rfl (by omega) a35 h36 3 (by decide) (List.mem_of_getElem? (i := 9) rfl) rfl rfl rfl rfl (Nat.le_of_ble_eq_true rfl) dX5_init_31 (fun w37 H locs e38 f39 hW => ?_)
  refine lv_aload_n C.1 C.2.1 dX5_init_34 rfl (lv_at hl 0 rfl) ?_
  refine lv_bipush (v := (nI 7)) C.1 C.2.1 dX5_init_35 (by decide) ?_
  refine ynewJ C hK hW hA (List.mem_of_getElem? (i := 8) rfl) (n := 7) (by decide) (Nat.le_of_ble_eq_true rfl) (Nat.le_of_ble_eq_true rfl) dX5_init_37 (fun q40 ad41 w42 H ha43 hg44 hb45 hv46 hW => ?_)
  refine W.widen (k := 4) (n := 28) (Nat.le_of_ble_eq_true rfl) (Nat.le_of_ble_eq_true rfl) ?_
  have a47 : ad41 b = a := (hg44 b (by omega)).trans a35
  have h48 : w42 b = .inr (5, [.ref q1, .ref q13, .int (nI 10), .ref q28, .null, .long 0, .null]) := (hv46 b (by omega)).trans e38
  refine yputF (v := .ref q40) C hnm hK hW hinX5 tyX5_ok nmX5 rfl (by omega) a47 h48 4 (by decide) (List.mem_of_getElem? (i := 10) rfl) rfl rfl rfl rfl (Nat.le_of_ble_eq_true rfl) dX5_init_39 (fun w49 H locs e50 f51 hW => ?_)
  refine lv_aload_n C.1 C.2.1 dX5_init_42 rfl (lv_at hl 0 rfl) ?_
  refine lv_lconst (v := lN 1) C.1 C.2.1 dX5_init_43 (by decide) ?_
  refine yput (v := .long (lN 1)) C hK hW hinX5 tyX5_ok nmX5 rfl (by omega) a47 e50 5 (by decide) (List.mem_of_getElem? (i := 11) rfl) rfl rfl rfl (Nat.le_of_ble_eq_true rfl) dX5_init_44 (fun w52 H locs e53 f54 hW => ?_)
  refine lv_aload_n C.1 C.2.1 dX5_init_47 rfl (lv_at hl 0 rfl) ?_
  refine ynew (ci := 0) (fs := [.long 0, .long 0]) (ty := tyX0) C hK hW hA hinX0 tyX0_ok rfl (List.mem_of_getElem? (i := 12) rfl) (List.mem_of_getElem? (i := 13) rfl) (List.mem_of_getElem? (i := 14) rfl) (fun j hj => by rcases (show j = 0 ∨ j = 1 by omega) with rfl | rfl <;> rfl) (Nat.le_of_ble_eq_true rfl) (Nat.le_of_ble_eq_true rfl) dX5_init_48 (fun q55 ad56 w57 H ha58 hg59 hb60 hv61 hW => ?_)
  refine W.widen (k := 5) (n := 30) (Nat.le_of_ble_eq_true rfl) (Nat.le_of_ble_eq_true rfl) ?_
  refine lv_dup C.1 C.2.1 dX5_init_51 rfl ?_
  refine ycN C hK hW hA (n_X0_init l g ad56 w57 (b + 5) q55 H.size hW.2.2.1 ha58 hb60) gX5_init_X0_init_n35 rfl rfl rfl hK.2.2.2.2.2.1 (List.mem_of_getElem? (i := 14) rfl) rfl (List.mem_of_getElem? (i := 16) rfl) (by decide +kernel) ⟨(Nat.le_of_ble_eq_true rfl), (Nat.le_of_ble_eq_true rfl)⟩ hl (Nat.le_of_ble_eq_true rfl) dX5_init_52 ⟨(Nat.le_of_ble_eq_true rfl), (Nat.le_of_ble_eq_true rfl)⟩ (fun ad62 w63 H locs p64 hW => ?_)
  obtain ⟨hg65, hv66, x67⟩ := p64
  refine W.widen (k := 5) (n := 30) (Nat.le_of_ble_eq_true rfl) (Nat.le_of_ble_eq_true rfl) ?_
  have a68 : ad62 b = a := ((hg65 b (by omega)).trans (hg59 b (by omega))).trans a47
  have h69 : w63 b = .inr (5, [.ref q1, .ref q13, .int (nI 10), .ref q28, .ref q40, .long (lN 1), .null]) := ((hv66 b (by omega)).trans (hv61 b (by omega))).trans e53
  refine yputF (v := .ref q55) C hnm hK hW hinX5 tyX5_ok nmX5 rfl (by omega) a68 h69 6 (by decide) (List.mem_of_getElem? (i := 15) rfl) rfl rfl rfl rfl (Nat.le_of_ble_eq_true rfl) dX5_init_55 (fun w70 H locs e71 f72 hW => ?_)
  have a73 : ad62 (b + 1) = q1 := ((hg65 (b + 1) (by omega)).trans ((hg59 (b + 1) (by omega)).trans ((hg44 (b + 1) (by omega)).trans ((hg32 (b + 1) (by omega)).trans (hg17 (b + 1) (by omega)))))).trans ha4
  have a74 : ad62 (b + 2) = q13 := ((hg65 (b + 2) (by omega)).trans ((hg59 (b + 2) (by omega)).trans ((hg44 (b + 2) (by omega)).trans (hg32 (b + 2) (by omega))))).trans ha16
  have a75 : ad62 (b + 3) = q28 := ((hg65 (b + 3) (by omega)).trans ((hg59 (b + 3) (by omega)).trans (hg44 (b + 3) (by omega)))).trans ha31
  have a76 : ad62 (b + 4) = q40 := ((hg65 (b + 4) (by omega)).trans (hg59 (b + 4) (by omega))).trans ha43
  have a77 : ad62 (b + 5) = q55 := (hg65 (b + 5) (by omega)).trans ha58
  have h78 : w70 (b + 1) = .inl (gI g, 7, .inl (fun _ => 0)) := ((f72 (b + 1) (by omega)).trans ((hv66 (b + 1) (by omega)).trans ((hv61 (b + 1) (by omega)).trans ((f54 (b + 1) (by omega)).trans ((f51 (b + 1) (by omega)).trans ((hv46 (b + 1) (by omega)).trans ((f39 (b + 1) (by omega)).trans ((hv34 (b + 1) (by omega)).trans ((f27 (b + 1) (by omega)).trans ((f24 (b + 1) (by omega)).trans ((hv19 (b + 1) (by omega)).trans (f12 (b + 1) (by omega))))))))))))).trans hb6
  have h79 : w70 (b + 2) = .inl (gI g, 7, .inl (fun _ => 0)) := ((f72 (b + 2) (by omega)).trans ((hv66 (b + 2) (by omega)).trans ((hv61 (b + 2) (by omega)).trans ((f54 (b + 2) (by omega)).trans ((f51 (b + 2) (by omega)).trans ((hv46 (b + 2) (by omega)).trans ((f39 (b + 2) (by omega)).trans ((hv34 (b + 2) (by omega)).trans ((f27 (b + 2) (by omega)).trans (f24 (b + 2) (by omega))))))))))).trans hb18
  have h80 : w70 (b + 3) = .inl (gJ g, 7, .inr (.inl (fun _ => 0))) := ((f72 (b + 3) (by omega)).trans ((hv66 (b + 3) (by omega)).trans ((hv61 (b + 3) (by omega)).trans ((f54 (b + 3) (by omega)).trans ((f51 (b + 3) (by omega)).trans ((hv46 (b + 3) (by omega)).trans (f39 (b + 3) (by omega)))))))).trans hb33
  have h81 : w70 (b + 4) = .inl (gJ g, 7, .inr (.inl (fun _ => 0))) := ((f72 (b + 4) (by omega)).trans ((hv66 (b + 4) (by omega)).trans ((hv61 (b + 4) (by omega)).trans ((f54 (b + 4) (by omega)).trans (f51 (b + 4) (by omega)))))).trans hb45
  have h82 : w70 (b + 5) = .inr (0, [.long (lN 0), .long (lN 1)]) := (f72 (b + 5) (by omega)).trans x67
  exact yret C hr hlk hW (Nat.le_of_ble_eq_true rfl) (Nat.le_of_ble_eq_true rfl) ⟨(fun i hi => ((hg65 i (by omega)).trans ((hg59 i (by omega)).trans ((hg44 i (by omega)).trans ((hg32 i (by omega)).trans ((hg17 i (by omega)).trans (hg5 i (by omega)))))))), (fun i hi => ((f72 i (by omega)).trans ((hv66 i (by omega)).trans ((hv61 i (by omega)).trans ((f54 i (by omega)).trans ((f51 i (by omega)).trans ((hv46 i (by omega)).trans ((f39 i (by omega)).trans ((hv34 i (by omega)).trans ((f27 i (by omega)).trans ((f24 i (by omega)).trans ((hv19 i (by omega)).trans ((f12 i (by omega)).trans (hv7 i (by omega))))))))))))))), ⟨_, _, _, _, _, a73, a74, a75, a76, a77, e71, h78, h79, h80, h81, h82⟩⟩ dX5_init_58

set_option maxHeartbeats 4000000 in
set_option maxRecDepth 100000 in
theorem n_X1_init (l : Launch) (g : GE) (ad : Nat → Nat) (w : Nat → va_E) (b a sz : Nat) (hI : AdInj (gx g ad (b + 1))) (ha0 : ad b = a) (hb0 : w b = .inr (1, [.null, .null, .null, .int 0, .null, .null, .null, .int 0])) : Met l yX1_init wsX1_init ({ frames := 2, cells := 32, slots := 201, locals := 32 } : Room) (XPn g (b + 1) ad w sz [.ref a]) (XQn g (b + 33) (fun ad' w' => (∀ i, i < b + 1 → ad' i = ad i) ∧ (∀ i, i < b → w' i = w i) ∧ NLand (gx g ad' (b + 33)) b w') (gB (b + 1) ad sz)) 32 201 (gB (b + 1) ad sz) := by
  refine ymet (cc := cX1_init) (maxL := 2) (by decide) rfl rfl hI (Nat.le_of_ble_eq_true rfl) ?_
  intro pG eG sG mG belowG methG cG ls C hr hlk hnm hK hA hW hl
  have hl : lv_has ls 2 [(0, .ref a)] := hl
  have hinX1 : ∀ x ∈ u_ws RX1 TX1 8, x ∈ wsX1_init := by decide +kernel
  have hinX2 : ∀ x ∈ u_ws RX2 TX2 5, x ∈ wsX1_init := by decide +kernel
  refine lv_aload_n C.1 C.2.1 dX1_init_0 rfl (lv_at hl 0 rfl) ?_
  refine W.objInit C.1 C.2.1 C.2.2.2.1 (C.2.2.2.2 _ (List.mem_of_getElem? (i := 1) rfl)) (C.2.2.2.2 _ (List.mem_of_getElem? (i := 2) rfl)) (C.2.2.2.2 _ (List.mem_of_getElem? (i := 3) rfl)) rfl (hl.1.trans C.2.2.1.symm) rfl dX1_init_1 (Nat.le_of_ble_eq_true rfl) (Nat.le_of_ble_eq_true rfl) ?_
  show W _ _ _ _ _ _ _ _ _ _ _ _ _ _ _ (F0 mG 4 ls [])
  refine lv_aload_n C.1 C.2.1 dX1_init_4 rfl (lv_at hl 0 rfl) ?_
  refine lv_bipush (v := (nI 7)) C.1 C.2.1 dX1_init_5 (by decide) ?_
  refine ynewI C hK hW hA (List.mem_of_getElem? (i := 4) rfl) (n := 7) (by decide) (Nat.le_of_ble_eq_true rfl) (Nat.le_of_ble_eq_true rfl) dX1_init_7 (fun q1 ad2 w3 H ha4 hg5 hb6 hv7 hW => ?_)
  refine W.widen (k := 1) (n := 7) (Nat.le_of_ble_eq_true rfl) (Nat.le_of_ble_eq_true rfl) ?_
  have a8 : ad2 b = a := (hg5 b (by omega)).trans ha0
  have h9 : w3 b = .inr (1, [.null, .null, .null, .int 0, .null, .null, .null, .int 0]) := (hv7 b (by omega)).trans hb0
  refine yputF (v := .ref q1) C hnm hK hW hinX1 tyX1_ok nmX1 rfl (by omega) a8 h9 0 (by decide) (List.mem_of_getElem? (i := 5) rfl) rfl rfl rfl rfl (Nat.le_of_ble_eq_true rfl) dX1_init_9 (fun w10 H locs e11 f12 hW => ?_)
  refine lv_aload_n C.1 C.2.1 dX1_init_12 rfl (lv_at hl 0 rfl) ?_
  refine ynew (ci := 2) (fs := [.int 0, .int 0, .int 0, .null, .null]) (ty := tyX2) C hK hW hA hinX2 tyX2_ok rfl (List.mem_of_getElem? (i := 6) rfl) (List.mem_of_getElem? (i := 7) rfl) (List.mem_of_getElem? (i := 8) rfl) (fun j hj => by rcases (show j = 0 ∨ j = 1 ∨ j = 2 ∨ j = 3 ∨ j = 4 by omega) with rfl | rfl | rfl | rfl | rfl <;> rfl) (Nat.le_of_ble_eq_true rfl) (Nat.le_of_ble_eq_true rfl) dX1_init_13 (fun q13 ad14 w15 H ha16 hg17 hb18 hv19 hW => ?_)
  refine W.widen (k := 2) (n := 12) (Nat.le_of_ble_eq_true rfl) (Nat.le_of_ble_eq_true rfl) ?_
  refine lv_dup C.1 C.2.1 dX1_init_16 rfl ?_
  refine ycN C hK hW hA (n_X2_init l g ad14 w15 (b + 2) q13 H.size hW.2.2.1 ha16 hb18) gX1_init_X2_init_n17 rfl rfl rfl hK.2.2.2.1 (List.mem_of_getElem? (i := 8) rfl) rfl (List.mem_of_getElem? (i := 16) rfl) (by decide +kernel) ⟨(Nat.le_of_ble_eq_true rfl), (Nat.le_of_ble_eq_true rfl)⟩ hl (Nat.le_of_ble_eq_true rfl) dX1_init_17 ⟨(Nat.le_of_ble_eq_true rfl), (Nat.le_of_ble_eq_true rfl)⟩ (fun ad20 w21 H locs p22 hW => ?_)
  obtain ⟨hg23, hv24, x25⟩ := p22
  refine W.widen (k := 4) (n := 26) (Nat.le_of_ble_eq_true rfl) (Nat.le_of_ble_eq_true rfl) ?_
  have a26 : ad20 b = a := ((hg23 b (by omega)).trans (hg17 b (by omega))).trans a8
  have h27 : w21 b = .inr (1, [.ref q1, .null, .null, .int 0, .null, .null, .null, .int 0]) := ((hv24 b (by omega)).trans (hv19 b (by omega))).trans e11
  refine yputF (v := .ref q13) C hnm hK hW hinX1 tyX1_ok nmX1 rfl (by omega) a26 h27 1 (by decide) (List.mem_of_getElem? (i := 9) rfl) rfl rfl rfl rfl (Nat.le_of_ble_eq_true rfl) dX1_init_20 (fun w28 H locs e29 f30 hW => ?_)
  refine lv_aload_n C.1 C.2.1 dX1_init_23 rfl (lv_at hl 0 rfl) ?_
  refine lv_bipush (v := (nI 8)) C.1 C.2.1 dX1_init_24 (by decide) ?_
  refine ynewQ (k := 2) (cQ := gM g) C hK hW hA hK.2.1 rfl (List.mem_of_getElem? (i := 6) rfl) (n := 8) (by decide) (Nat.le_of_ble_eq_true rfl) (Nat.le_of_ble_eq_true rfl) dX1_init_26 (fun q31 ad32 w33 H ha34 hg35 hb36 hv37 hW => ?_)
  refine W.widen (k := 5) (n := 34) (Nat.le_of_ble_eq_true rfl) (Nat.le_of_ble_eq_true rfl) ?_
  have a38 : ad32 b = a := (hg35 b (by omega)).trans a26
  have h39 : w33 b = .inr (1, [.ref q1, .ref q13, .null, .int 0, .null, .null, .null, .int 0]) := (hv37 b (by omega)).trans e29
  refine yputF (v := .ref q31) C hnm hK hW hinX1 tyX1_ok nmX1 rfl (by omega) a38 h39 2 (by decide) (List.mem_of_getElem? (i := 10) rfl) rfl rfl rfl rfl (Nat.le_of_ble_eq_true rfl) dX1_init_29 (fun w40 H locs e41 f42 hW => ?_)
  refine lv_aload_n C.1 C.2.1 dX1_init_32 rfl (lv_at hl 0 rfl) ?_
  refine lv_iconst (v := (nI 0)) C.1 C.2.1 dX1_init_33 (by decide) ?_
  refine yput (v := .int (nI 0)) C hK hW hinX1 tyX1_ok nmX1 rfl (by omega) a38 e41 3 (by decide) (List.mem_of_getElem? (i := 11) rfl) rfl rfl rfl (Nat.le_of_ble_eq_true rfl) dX1_init_34 (fun w43 H locs e44 f45 hW => ?_)
  refine lv_aload_n C.1 C.2.1 dX1_init_37 rfl (lv_at hl 0 rfl) ?_
  refine lv_iconst (v := (nI 5)) C.1 C.2.1 dX1_init_38 (by decide) ?_
  refine ynewI C hK hW hA (List.mem_of_getElem? (i := 4) rfl) (n := 5) (by decide) (Nat.le_of_ble_eq_true rfl) (Nat.le_of_ble_eq_true rfl) dX1_init_39 (fun q46 ad47 w48 H ha49 hg50 hb51 hv52 hW => ?_)
  refine W.widen (k := 6) (n := 39) (Nat.le_of_ble_eq_true rfl) (Nat.le_of_ble_eq_true rfl) ?_
  have a53 : ad47 b = a := (hg50 b (by omega)).trans a38
  have h54 : w48 b = .inr (1, [.ref q1, .ref q13, .ref q31, .int (nI 0), .null, .null, .null, .int 0]) := (hv52 b (by omega)).trans e44
  refine yputF (v := .ref q46) C hnm hK hW hinX1 tyX1_ok nmX1 rfl (by omega) a53 h54 4 (by decide) (List.mem_of_getElem? (i := 12) rfl) rfl rfl rfl rfl (Nat.le_of_ble_eq_true rfl) dX1_init_41 (fun w55 H locs e56 f57 hW => ?_)
  refine lv_aload_n C.1 C.2.1 dX1_init_44 rfl (lv_at hl 0 rfl) ?_
  refine lv_iconst (v := (nI 5)) C.1 C.2.1 dX1_init_45 (by decide) ?_
  refine ynewI C hK hW hA (List.mem_of_getElem? (i := 4) rfl) (n := 5) (by decide) (Nat.le_of_ble_eq_true rfl) (Nat.le_of_ble_eq_true rfl) dX1_init_46 (fun q58 ad59 w60 H ha61 hg62 hb63 hv64 hW => ?_)
  refine W.widen (k := 7) (n := 44) (Nat.le_of_ble_eq_true rfl) (Nat.le_of_ble_eq_true rfl) ?_
  have a65 : ad59 b = a := (hg62 b (by omega)).trans a53
  have h66 : w60 b = .inr (1, [.ref q1, .ref q13, .ref q31, .int (nI 0), .ref q46, .null, .null, .int 0]) := (hv64 b (by omega)).trans e56
  refine yputF (v := .ref q58) C hnm hK hW hinX1 tyX1_ok nmX1 rfl (by omega) a65 h66 5 (by decide) (List.mem_of_getElem? (i := 13) rfl) rfl rfl rfl rfl (Nat.le_of_ble_eq_true rfl) dX1_init_48 (fun w67 H locs e68 f69 hW => ?_)
  refine lv_aload_n C.1 C.2.1 dX1_init_51 rfl (lv_at hl 0 rfl) ?_
  refine lv_iconst (v := (nI 5)) C.1 C.2.1 dX1_init_52 (by decide) ?_
  refine ynewI C hK hW hA (List.mem_of_getElem? (i := 4) rfl) (n := 5) (by decide) (Nat.le_of_ble_eq_true rfl) (Nat.le_of_ble_eq_true rfl) dX1_init_53 (fun q70 ad71 w72 H ha73 hg74 hb75 hv76 hW => ?_)
  refine W.widen (k := 8) (n := 49) (Nat.le_of_ble_eq_true rfl) (Nat.le_of_ble_eq_true rfl) ?_
  have a77 : ad71 b = a := (hg74 b (by omega)).trans a65
  have h78 : w72 b = .inr (1, [.ref q1, .ref q13, .ref q31, .int (nI 0), .ref q46, .ref q58, .null, .int 0]) := (hv76 b (by omega)).trans e68
  refine yputF (v := .ref q70) C hnm hK hW hinX1 tyX1_ok nmX1 rfl (by omega) a77 h78 6 (by decide) (List.mem_of_getElem? (i := 14) rfl) rfl rfl rfl rfl (Nat.le_of_ble_eq_true rfl) dX1_init_55 (fun w79 H locs e80 f81 hW => ?_)
  refine lv_aload_n C.1 C.2.1 dX1_init_58 rfl (lv_at hl 0 rfl) ?_
  refine lv_iconst (v := (nI 0)) C.1 C.2.1 dX1_init_59 (by decide) ?_
  refine yput (v := .int (nI 0)) C hK hW hinX1 tyX1_ok nmX1 rfl (by omega) a77 e80 7 (by decide) (List.mem_of_getElem? (i := 15) rfl) rfl rfl rfl (Nat.le_of_ble_eq_true rfl) dX1_init_60 (fun w82 H locs e83 f84 hW => ?_)
  refine lv_iconst (v := (nI 0)) C.1 C.2.1 dX1_init_63 (by decide) ?_
  refine lv_istore_n (lv' := [(1, .int (nI 0)), (0, .ref a)]) C.1 C.2.1 dX1_init_64 rfl hl (by decide) rfl (fun ls hl => ?_)
  refine lv_iload_n C.1 C.2.1 dX1_init_65 rfl (lv_at hl 0 rfl) ?_
  refine lv_bipush (v := (nI 8)) C.1 C.2.1 dX1_init_66 (by decide) ?_
  refine xge (tgt := 90) C (by omega) (by omega) dX1_init_68 (by decide) (fun c68 => absurd c68 (by omega)) (fun c68 => ?_)
  refine lv_aload_n C.1 C.2.1 dX1_init_71 rfl (lv_at hl 1 rfl) ?_
  refine yget C hK hW hinX1 rfl (by omega) a77 e83 2 (by decide) (List.mem_of_getElem? (i := 10) rfl) rfl dX1_init_72 ?_
  refine lv_iload_n C.1 C.2.1 dX1_init_75 rfl (lv_at hl 0 rfl) ?_
  refine ynew (ci := 2) (fs := [.int 0, .int 0, .int 0, .null, .null]) (ty := tyX2) C hK hW hA hinX2 tyX2_ok rfl (List.mem_of_getElem? (i := 6) rfl) (List.mem_of_getElem? (i := 7) rfl) (List.mem_of_getElem? (i := 8) rfl) (fun j hj => by rcases (show j = 0 ∨ j = 1 ∨ j = 2 ∨ j = 3 ∨ j = 4 by omega) with rfl | rfl | rfl | rfl | rfl <;> rfl) (Nat.le_of_ble_eq_true rfl) (Nat.le_of_ble_eq_true rfl) dX1_init_76 (fun q85 ad86 w87 H ha88 hg89 hb90 hv91 hW => ?_)
  refine W.widen (k := 9) (n := 54) (Nat.le_of_ble_eq_true rfl) (Nat.le_of_ble_eq_true rfl) ?_
  refine lv_dup C.1 C.2.1 dX1_init_79 rfl ?_
  refine ycN C hK hW hA (n_X2_init l g ad86 w87 (b + 9) q85 H.size hW.2.2.1 ha88 hb90) gX1_init_X2_init_n17 rfl rfl rfl hK.2.2.2.1 (List.mem_of_getElem? (i := 8) rfl) rfl (List.mem_of_getElem? (i := 16) rfl) (by decide +kernel) ⟨(Nat.le_of_ble_eq_true rfl), (Nat.le_of_ble_eq_true rfl)⟩ hl (Nat.le_of_ble_eq_true rfl) dX1_init_80 ⟨(Nat.le_of_ble_eq_true rfl), (Nat.le_of_ble_eq_true rfl)⟩ (fun ad92 w93 H locs p94 hW => ?_)
  obtain ⟨hg95, hv96, x97⟩ := p94
  refine W.widen (k := 11) (n := 68) (Nat.le_of_ble_eq_true rfl) (Nat.le_of_ble_eq_true rfl) ?_
  have a98 : ad92 (b + 5) = q31 := ((hg95 (b + 5) (by omega)).trans ((hg89 (b + 5) (by omega)).trans ((hg74 (b + 5) (by omega)).trans ((hg62 (b + 5) (by omega)).trans (hg50 (b + 5) (by omega)))))).trans ha34
  have h99 : w93 (b + 5) = .inl (gM g, 8, .inr (.inr (.inr (.inr (fun _ => none))))) := ((hv96 (b + 5) (by omega)).trans ((hv91 (b + 5) (by omega)).trans ((f84 (b + 5) (by omega)).trans ((f81 (b + 5) (by omega)).trans ((hv76 (b + 5) (by omega)).trans ((f69 (b + 5) (by omega)).trans ((hv64 (b + 5) (by omega)).trans ((f57 (b + 5) (by omega)).trans ((hv52 (b + 5) (by omega)).trans ((f45 (b + 5) (by omega)).trans (f42 (b + 5) (by omega)))))))))))).trans hb36
  have a100 : ad92 (b + 9) = q85 := (hg95 (b + 9) (by omega)).trans ha88
  refine yastQ (t := 2) (ci := 2) (r := (RX2, TX2, 5)) C hK hW rfl rfl (by omega) a98 h99 (by omega) a100 x97.1 (j := 0) (by decide) (by decide) dX1_init_83 (fun w101 H locs e102 f103 hW => ?_)
  refine lv_iinc (v := nI 1) (lv' := [(1, .int (nI 1)), (0, .ref a)]) C.1 C.2.1 dX1_init_84 hl (k := 0) rfl (nI_add _ 1) (by decide) rfl (fun ls hl => ?_)
  refine lv_goto (tgt := 65) C.1 C.2.1 dX1_init_87 (by decide) ?_
  refine lv_iload_n C.1 C.2.1 dX1_init_65 rfl (lv_at hl 0 rfl) ?_
  refine lv_bipush (v := (nI 8)) C.1 C.2.1 dX1_init_66 (by decide) ?_
  refine xge (tgt := 90) C (by omega) (by omega) dX1_init_68 (by decide) (fun c68 => absurd c68 (by omega)) (fun c68 => ?_)
  refine lv_aload_n C.1 C.2.1 dX1_init_71 rfl (lv_at hl 1 rfl) ?_
  have a104 : ad92 b = a := ((hg95 b (by omega)).trans (hg89 b (by omega))).trans a77
  have h105 : w101 b = .inr (1, [.ref q1, .ref q13, .ref q31, .int (nI 0), .ref q46, .ref q58, .ref q70, .int (nI 0)]) := ((f103 b (by omega)).trans ((hv96 b (by omega)).trans (hv91 b (by omega)))).trans e83
  refine yget C hK hW hinX1 rfl (by omega) a104 h105 2 (by decide) (List.mem_of_getElem? (i := 10) rfl) rfl dX1_init_72 ?_
  refine lv_iload_n C.1 C.2.1 dX1_init_75 rfl (lv_at hl 0 rfl) ?_
  refine ynew (ci := 2) (fs := [.int 0, .int 0, .int 0, .null, .null]) (ty := tyX2) C hK hW hA hinX2 tyX2_ok rfl (List.mem_of_getElem? (i := 6) rfl) (List.mem_of_getElem? (i := 7) rfl) (List.mem_of_getElem? (i := 8) rfl) (fun j hj => by rcases (show j = 0 ∨ j = 1 ∨ j = 2 ∨ j = 3 ∨ j = 4 by omega) with rfl | rfl | rfl | rfl | rfl <;> rfl) (Nat.le_of_ble_eq_true rfl) (Nat.le_of_ble_eq_true rfl) dX1_init_76 (fun q106 ad107 w108 H ha109 hg110 hb111 hv112 hW => ?_)
  refine W.widen (k := 12) (n := 73) (Nat.le_of_ble_eq_true rfl) (Nat.le_of_ble_eq_true rfl) ?_
  refine lv_dup C.1 C.2.1 dX1_init_79 rfl ?_
  refine ycN C hK hW hA (n_X2_init l g ad107 w108 (b + 12) q106 H.size hW.2.2.1 ha109 hb111) gX1_init_X2_init_n17 rfl rfl rfl hK.2.2.2.1 (List.mem_of_getElem? (i := 8) rfl) rfl (List.mem_of_getElem? (i := 16) rfl) (by decide +kernel) ⟨(Nat.le_of_ble_eq_true rfl), (Nat.le_of_ble_eq_true rfl)⟩ hl (Nat.le_of_ble_eq_true rfl) dX1_init_80 ⟨(Nat.le_of_ble_eq_true rfl), (Nat.le_of_ble_eq_true rfl)⟩ (fun ad113 w114 H locs p115 hW => ?_)
  obtain ⟨hg116, hv117, x118⟩ := p115
  refine W.widen (k := 14) (n := 87) (Nat.le_of_ble_eq_true rfl) (Nat.le_of_ble_eq_true rfl) ?_
  have a119 : ad113 (b + 5) = q31 := ((hg116 (b + 5) (by omega)).trans (hg110 (b + 5) (by omega))).trans a98
  have h120 : w114 (b + 5) = .inl (gM g, 8, .inr (.inr (.inr (.inr (va_up (fun _ => none) 0 (some q85)))))) := ((hv117 (b + 5) (by omega)).trans (hv112 (b + 5) (by omega))).trans e102
  have a121 : ad113 (b + 12) = q106 := (hg116 (b + 12) (by omega)).trans ha109
  refine yastQ (t := 2) (ci := 2) (r := (RX2, TX2, 5)) C hK hW rfl rfl (by omega) a119 h120 (by omega) a121 x118.1 (j := 1) (by decide) (by decide) dX1_init_83 (fun w122 H locs e123 f124 hW => ?_)
  refine lv_iinc (v := nI 2) (lv' := [(1, .int (nI 2)), (0, .ref a)]) C.1 C.2.1 dX1_init_84 hl (k := 0) rfl (nI_add _ 1) (by decide) rfl (fun ls hl => ?_)
  refine lv_goto (tgt := 65) C.1 C.2.1 dX1_init_87 (by decide) ?_
  refine lv_iload_n C.1 C.2.1 dX1_init_65 rfl (lv_at hl 0 rfl) ?_
  refine lv_bipush (v := (nI 8)) C.1 C.2.1 dX1_init_66 (by decide) ?_
  refine xge (tgt := 90) C (by omega) (by omega) dX1_init_68 (by decide) (fun c68 => absurd c68 (by omega)) (fun c68 => ?_)
  refine lv_aload_n C.1 C.2.1 dX1_init_71 rfl (lv_at hl 1 rfl) ?_
  have a125 : ad113 b = a := ((hg116 b (by omega)).trans (hg110 b (by omega))).trans a104
  have h126 : w122 b = .inr (1, [.ref q1, .ref q13, .ref q31, .int (nI 0), .ref q46, .ref q58, .ref q70, .int (nI 0)]) := ((f124 b (by omega)).trans ((hv117 b (by omega)).trans (hv112 b (by omega)))).trans h105
  refine yget C hK hW hinX1 rfl (by omega) a125 h126 2 (by decide) (List.mem_of_getElem? (i := 10) rfl) rfl dX1_init_72 ?_
  refine lv_iload_n C.1 C.2.1 dX1_init_75 rfl (lv_at hl 0 rfl) ?_
  refine ynew (ci := 2) (fs := [.int 0, .int 0, .int 0, .null, .null]) (ty := tyX2) C hK hW hA hinX2 tyX2_ok rfl (List.mem_of_getElem? (i := 6) rfl) (List.mem_of_getElem? (i := 7) rfl) (List.mem_of_getElem? (i := 8) rfl) (fun j hj => by rcases (show j = 0 ∨ j = 1 ∨ j = 2 ∨ j = 3 ∨ j = 4 by omega) with rfl | rfl | rfl | rfl | rfl <;> rfl) (Nat.le_of_ble_eq_true rfl) (Nat.le_of_ble_eq_true rfl) dX1_init_76 (fun q127 ad128 w129 H ha130 hg131 hb132 hv133 hW => ?_)
  refine W.widen (k := 15) (n := 92) (Nat.le_of_ble_eq_true rfl) (Nat.le_of_ble_eq_true rfl) ?_
  refine lv_dup C.1 C.2.1 dX1_init_79 rfl ?_
  refine ycN C hK hW hA (n_X2_init l g ad128 w129 (b + 15) q127 H.size hW.2.2.1 ha130 hb132) gX1_init_X2_init_n17 rfl rfl rfl hK.2.2.2.1 (List.mem_of_getElem? (i := 8) rfl) rfl (List.mem_of_getElem? (i := 16) rfl) (by decide +kernel) ⟨(Nat.le_of_ble_eq_true rfl), (Nat.le_of_ble_eq_true rfl)⟩ hl (Nat.le_of_ble_eq_true rfl) dX1_init_80 ⟨(Nat.le_of_ble_eq_true rfl), (Nat.le_of_ble_eq_true rfl)⟩ (fun ad134 w135 H locs p136 hW => ?_)
  obtain ⟨hg137, hv138, x139⟩ := p136
  refine W.widen (k := 17) (n := 106) (Nat.le_of_ble_eq_true rfl) (Nat.le_of_ble_eq_true rfl) ?_
  have a140 : ad134 (b + 5) = q31 := ((hg137 (b + 5) (by omega)).trans (hg131 (b + 5) (by omega))).trans a119
  have h141 : w135 (b + 5) = .inl (gM g, 8, .inr (.inr (.inr (.inr (va_up (va_up (fun _ => none) 0 (some q85)) 1 (some q106)))))) := ((hv138 (b + 5) (by omega)).trans (hv133 (b + 5) (by omega))).trans e123
  have a142 : ad134 (b + 15) = q127 := (hg137 (b + 15) (by omega)).trans ha130
  refine yastQ (t := 2) (ci := 2) (r := (RX2, TX2, 5)) C hK hW rfl rfl (by omega) a140 h141 (by omega) a142 x139.1 (j := 2) (by decide) (by decide) dX1_init_83 (fun w143 H locs e144 f145 hW => ?_)
  refine lv_iinc (v := nI 3) (lv' := [(1, .int (nI 3)), (0, .ref a)]) C.1 C.2.1 dX1_init_84 hl (k := 0) rfl (nI_add _ 1) (by decide) rfl (fun ls hl => ?_)
  refine lv_goto (tgt := 65) C.1 C.2.1 dX1_init_87 (by decide) ?_
  refine lv_iload_n C.1 C.2.1 dX1_init_65 rfl (lv_at hl 0 rfl) ?_
  refine lv_bipush (v := (nI 8)) C.1 C.2.1 dX1_init_66 (by decide) ?_
  refine xge (tgt := 90) C (by omega) (by omega) dX1_init_68 (by decide) (fun c68 => absurd c68 (by omega)) (fun c68 => ?_)
  refine lv_aload_n C.1 C.2.1 dX1_init_71 rfl (lv_at hl 1 rfl) ?_
  have a146 : ad134 b = a := ((hg137 b (by omega)).trans (hg131 b (by omega))).trans a125
  have h147 : w143 b = .inr (1, [.ref q1, .ref q13, .ref q31, .int (nI 0), .ref q46, .ref q58, .ref q70, .int (nI 0)]) := ((f145 b (by omega)).trans ((hv138 b (by omega)).trans (hv133 b (by omega)))).trans h126
  refine yget C hK hW hinX1 rfl (by omega) a146 h147 2 (by decide) (List.mem_of_getElem? (i := 10) rfl) rfl dX1_init_72 ?_
  refine lv_iload_n C.1 C.2.1 dX1_init_75 rfl (lv_at hl 0 rfl) ?_
  refine ynew (ci := 2) (fs := [.int 0, .int 0, .int 0, .null, .null]) (ty := tyX2) C hK hW hA hinX2 tyX2_ok rfl (List.mem_of_getElem? (i := 6) rfl) (List.mem_of_getElem? (i := 7) rfl) (List.mem_of_getElem? (i := 8) rfl) (fun j hj => by rcases (show j = 0 ∨ j = 1 ∨ j = 2 ∨ j = 3 ∨ j = 4 by omega) with rfl | rfl | rfl | rfl | rfl <;> rfl) (Nat.le_of_ble_eq_true rfl) (Nat.le_of_ble_eq_true rfl) dX1_init_76 (fun q148 ad149 w150 H ha151 hg152 hb153 hv154 hW => ?_)
  refine W.widen (k := 18) (n := 111) (Nat.le_of_ble_eq_true rfl) (Nat.le_of_ble_eq_true rfl) ?_
  refine lv_dup C.1 C.2.1 dX1_init_79 rfl ?_
  refine ycN C hK hW hA (n_X2_init l g ad149 w150 (b + 18) q148 H.size hW.2.2.1 ha151 hb153) gX1_init_X2_init_n17 rfl rfl rfl hK.2.2.2.1 (List.mem_of_getElem? (i := 8) rfl) rfl (List.mem_of_getElem? (i := 16) rfl) (by decide +kernel) ⟨(Nat.le_of_ble_eq_true rfl), (Nat.le_of_ble_eq_true rfl)⟩ hl (Nat.le_of_ble_eq_true rfl) dX1_init_80 ⟨(Nat.le_of_ble_eq_true rfl), (Nat.le_of_ble_eq_true rfl)⟩ (fun ad155 w156 H locs p157 hW => ?_)
  obtain ⟨hg158, hv159, x160⟩ := p157
  refine W.widen (k := 20) (n := 125) (Nat.le_of_ble_eq_true rfl) (Nat.le_of_ble_eq_true rfl) ?_
  have a161 : ad155 (b + 5) = q31 := ((hg158 (b + 5) (by omega)).trans (hg152 (b + 5) (by omega))).trans a140
  have h162 : w156 (b + 5) = .inl (gM g, 8, .inr (.inr (.inr (.inr (va_up (va_up (va_up (fun _ => none) 0 (some q85)) 1 (some q106)) 2 (some q127)))))) := ((hv159 (b + 5) (by omega)).trans (hv154 (b + 5) (by omega))).trans e144
  have a163 : ad155 (b + 18) = q148 := (hg158 (b + 18) (by omega)).trans ha151
  refine yastQ (t := 2) (ci := 2) (r := (RX2, TX2, 5)) C hK hW rfl rfl (by omega) a161 h162 (by omega) a163 x160.1 (j := 3) (by decide) (by decide) dX1_init_83 (fun w164 H locs e165 f166 hW => ?_)
  refine lv_iinc (v := nI 4) (lv' := [(1, .int (nI 4)), (0, .ref a)]) C.1 C.2.1 dX1_init_84 hl (k := 0) rfl (nI_add _ 1) (by decide) rfl (fun ls hl => ?_)
  refine lv_goto (tgt := 65) C.1 C.2.1 dX1_init_87 (by decide) ?_
  refine lv_iload_n C.1 C.2.1 dX1_init_65 rfl (lv_at hl 0 rfl) ?_
  refine lv_bipush (v := (nI 8)) C.1 C.2.1 dX1_init_66 (by decide) ?_
  refine xge (tgt := 90) C (by omega) (by omega) dX1_init_68 (by decide) (fun c68 => absurd c68 (by omega)) (fun c68 => ?_)
  refine lv_aload_n C.1 C.2.1 dX1_init_71 rfl (lv_at hl 1 rfl) ?_
  have a167 : ad155 b = a := ((hg158 b (by omega)).trans (hg152 b (by omega))).trans a146
  have h168 : w164 b = .inr (1, [.ref q1, .ref q13, .ref q31, .int (nI 0), .ref q46, .ref q58, .ref q70, .int (nI 0)]) := ((f166 b (by omega)).trans ((hv159 b (by omega)).trans (hv154 b (by omega)))).trans h147
  refine yget C hK hW hinX1 rfl (by omega) a167 h168 2 (by decide) (List.mem_of_getElem? (i := 10) rfl) rfl dX1_init_72 ?_
  refine lv_iload_n C.1 C.2.1 dX1_init_75 rfl (lv_at hl 0 rfl) ?_
  refine ynew (ci := 2) (fs := [.int 0, .int 0, .int 0, .null, .null]) (ty := tyX2) C hK hW hA hinX2 tyX2_ok rfl (List.mem_of_getElem? (i := 6) rfl) (List.mem_of_getElem? (i := 7) rfl) (List.mem_of_getElem? (i := 8) rfl) (fun j hj => by rcases (show j = 0 ∨ j = 1 ∨ j = 2 ∨ j = 3 ∨ j = 4 by omega) with rfl | rfl | rfl | rfl | rfl <;> rfl) (Nat.le_of_ble_eq_true rfl) (Nat.le_of_ble_eq_true rfl) dX1_init_76 (fun q169 ad170 w171 H ha172 hg173 hb174 hv175 hW => ?_)
  refine W.widen (k := 21) (n := 130) (Nat.le_of_ble_eq_true rfl) (Nat.le_of_ble_eq_true rfl) ?_
  refine lv_dup C.1 C.2.1 dX1_init_79 rfl ?_
  refine ycN C hK hW hA (n_X2_init l g ad170 w171 (b + 21) q169 H.size hW.2.2.1 ha172 hb174) gX1_init_X2_init_n17 rfl rfl rfl hK.2.2.2.1 (List.mem_of_getElem? (i := 8) rfl) rfl (List.mem_of_getElem? (i := 16) rfl) (by decide +kernel) ⟨(Nat.le_of_ble_eq_true rfl), (Nat.le_of_ble_eq_true rfl)⟩ hl (Nat.le_of_ble_eq_true rfl) dX1_init_80 ⟨(Nat.le_of_ble_eq_true rfl), (Nat.le_of_ble_eq_true rfl)⟩ (fun ad176 w177 H locs p178 hW => ?_)
  obtain ⟨hg179, hv180, x181⟩ := p178
  refine W.widen (k := 23) (n := 144) (Nat.le_of_ble_eq_true rfl) (Nat.le_of_ble_eq_true rfl) ?_
  have a182 : ad176 (b + 5) = q31 := ((hg179 (b + 5) (by omega)).trans (hg173 (b + 5) (by omega))).trans a161
  have h183 : w177 (b + 5) = .inl (gM g, 8, .inr (.inr (.inr (.inr (va_up (va_up (va_up (va_up (fun _ => none) 0 (some q85)) 1 (some q106)) 2 (some q127)) 3 (some q148)))))) := ((hv180 (b + 5) (by omega)).trans (hv175 (b + 5) (by omega))).trans e165
  have a184 : ad176 (b + 21) = q169 := (hg179 (b + 21) (by omega)).trans ha172
  refine yastQ (t := 2) (ci := 2) (r := (RX2, TX2, 5)) C hK hW rfl rfl (by omega) a182 h183 (by omega) a184 x181.1 (j := 4) (by decide) (by decide) dX1_init_83 (fun w185 H locs e186 f187 hW => ?_)
  refine lv_iinc (v := nI 5) (lv' := [(1, .int (nI 5)), (0, .ref a)]) C.1 C.2.1 dX1_init_84 hl (k := 0) rfl (nI_add _ 1) (by decide) rfl (fun ls hl => ?_)
  refine lv_goto (tgt := 65) C.1 C.2.1 dX1_init_87 (by decide) ?_
  refine lv_iload_n C.1 C.2.1 dX1_init_65 rfl (lv_at hl 0 rfl) ?_
  refine lv_bipush (v := (nI 8)) C.1 C.2.1 dX1_init_66 (by decide) ?_
  refine xge (tgt := 90) C (by omega) (by omega) dX1_init_68 (by decide) (fun c68 => absurd c68 (by omega)) (fun c68 => ?_)
  refine lv_aload_n C.1 C.2.1 dX1_init_71 rfl (lv_at hl 1 rfl) ?_
  have a188 : ad176 b = a := ((hg179 b (by omega)).trans (hg173 b (by omega))).trans a167
  have h189 : w185 b = .inr (1, [.ref q1, .ref q13, .ref q31, .int (nI 0), .ref q46, .ref q58, .ref q70, .int (nI 0)]) := ((f187 b (by omega)).trans ((hv180 b (by omega)).trans (hv175 b (by omega)))).trans h168
  refine yget C hK hW hinX1 rfl (by omega) a188 h189 2 (by decide) (List.mem_of_getElem? (i := 10) rfl) rfl dX1_init_72 ?_
  refine lv_iload_n C.1 C.2.1 dX1_init_75 rfl (lv_at hl 0 rfl) ?_
  refine ynew (ci := 2) (fs := [.int 0, .int 0, .int 0, .null, .null]) (ty := tyX2) C hK hW hA hinX2 tyX2_ok rfl (List.mem_of_getElem? (i := 6) rfl) (List.mem_of_getElem? (i := 7) rfl) (List.mem_of_getElem? (i := 8) rfl) (fun j hj => by rcases (show j = 0 ∨ j = 1 ∨ j = 2 ∨ j = 3 ∨ j = 4 by omega) with rfl | rfl | rfl | rfl | rfl <;> rfl) (Nat.le_of_ble_eq_true rfl) (Nat.le_of_ble_eq_true rfl) dX1_init_76 (fun q190 ad191 w192 H ha193 hg194 hb195 hv196 hW => ?_)
  refine W.widen (k := 24) (n := 149) (Nat.le_of_ble_eq_true rfl) (Nat.le_of_ble_eq_true rfl) ?_
  refine lv_dup C.1 C.2.1 dX1_init_79 rfl ?_
  refine ycN C hK hW hA (n_X2_init l g ad191 w192 (b + 24) q190 H.size hW.2.2.1 ha193 hb195) gX1_init_X2_init_n17 rfl rfl rfl hK.2.2.2.1 (List.mem_of_getElem? (i := 8) rfl) rfl (List.mem_of_getElem? (i := 16) rfl) (by decide +kernel) ⟨(Nat.le_of_ble_eq_true rfl), (Nat.le_of_ble_eq_true rfl)⟩ hl (Nat.le_of_ble_eq_true rfl) dX1_init_80 ⟨(Nat.le_of_ble_eq_true rfl), (Nat.le_of_ble_eq_true rfl)⟩ (fun ad197 w198 H locs p199 hW => ?_)
  obtain ⟨hg200, hv201, x202⟩ := p199
  refine W.widen (k := 26) (n := 163) (Nat.le_of_ble_eq_true rfl) (Nat.le_of_ble_eq_true rfl) ?_
  have a203 : ad197 (b + 5) = q31 := ((hg200 (b + 5) (by omega)).trans (hg194 (b + 5) (by omega))).trans a182
  have h204 : w198 (b + 5) = .inl (gM g, 8, .inr (.inr (.inr (.inr (va_up (va_up (va_up (va_up (va_up (fun _ => none) 0 (some q85)) 1 (some q106)) 2 (some q127)) 3 (some q148)) 4 (some q169)))))) := ((hv201 (b + 5) (by omega)).trans (hv196 (b + 5) (by omega))).trans e186
  have a205 : ad197 (b + 24) = q190 := (hg200 (b + 24) (by omega)).trans ha193
  refine yastQ (t := 2) (ci := 2) (r := (RX2, TX2, 5)) C hK hW rfl rfl (by omega) a203 h204 (by omega) a205 x202.1 (j := 5) (by decide) (by decide) dX1_init_83 (fun w206 H locs e207 f208 hW => ?_)
  refine lv_iinc (v := nI 6) (lv' := [(1, .int (nI 6)), (0, .ref a)]) C.1 C.2.1 dX1_init_84 hl (k := 0) rfl (nI_add _ 1) (by decide) rfl (fun ls hl => ?_)
  refine lv_goto (tgt := 65) C.1 C.2.1 dX1_init_87 (by decide) ?_
  refine lv_iload_n C.1 C.2.1 dX1_init_65 rfl (lv_at hl 0 rfl) ?_
  refine lv_bipush (v := (nI 8)) C.1 C.2.1 dX1_init_66 (by decide) ?_
  refine xge (tgt := 90) C (by omega) (by omega) dX1_init_68 (by decide) (fun c68 => absurd c68 (by omega)) (fun c68 => ?_)
  refine lv_aload_n C.1 C.2.1 dX1_init_71 rfl (lv_at hl 1 rfl) ?_
  have a209 : ad197 b = a := ((hg200 b (by omega)).trans (hg194 b (by omega))).trans a188
  have h210 : w206 b = .inr (1, [.ref q1, .ref q13, .ref q31, .int (nI 0), .ref q46, .ref q58, .ref q70, .int (nI 0)]) := ((f208 b (by omega)).trans ((hv201 b (by omega)).trans (hv196 b (by omega)))).trans h189
  refine yget C hK hW hinX1 rfl (by omega) a209 h210 2 (by decide) (List.mem_of_getElem? (i := 10) rfl) rfl dX1_init_72 ?_
  refine lv_iload_n C.1 C.2.1 dX1_init_75 rfl (lv_at hl 0 rfl) ?_
  refine ynew (ci := 2) (fs := [.int 0, .int 0, .int 0, .null, .null]) (ty := tyX2) C hK hW hA hinX2 tyX2_ok rfl (List.mem_of_getElem? (i := 6) rfl) (List.mem_of_getElem? (i := 7) rfl) (List.mem_of_getElem? (i := 8) rfl) (fun j hj => by rcases (show j = 0 ∨ j = 1 ∨ j = 2 ∨ j = 3 ∨ j = 4 by omega) with rfl | rfl | rfl | rfl | rfl <;> rfl) (Nat.le_of_ble_eq_true rfl) (Nat.le_of_ble_eq_true rfl) dX1_init_76 (fun q211 ad212 w213 H ha214 hg215 hb216 hv217 hW => ?_)
  refine W.widen (k := 27) (n := 168) (Nat.le_of_ble_eq_true rfl) (Nat.le_of_ble_eq_true rfl) ?_
  refine lv_dup C.1 C.2.1 dX1_init_79 rfl ?_
  refine ycN C hK hW hA (n_X2_init l g ad212 w213 (b + 27) q211 H.size hW.2.2.1 ha214 hb216) gX1_init_X2_init_n17 rfl rfl rfl hK.2.2.2.1 (List.mem_of_getElem? (i := 8) rfl) rfl (List.mem_of_getElem? (i := 16) rfl) (by decide +kernel) ⟨(Nat.le_of_ble_eq_true rfl), (Nat.le_of_ble_eq_true rfl)⟩ hl (Nat.le_of_ble_eq_true rfl) dX1_init_80 ⟨(Nat.le_of_ble_eq_true rfl), (Nat.le_of_ble_eq_true rfl)⟩ (fun ad218 w219 H locs p220 hW => ?_)
  obtain ⟨hg221, hv222, x223⟩ := p220
  refine W.widen (k := 29) (n := 182) (Nat.le_of_ble_eq_true rfl) (Nat.le_of_ble_eq_true rfl) ?_
  have a224 : ad218 (b + 5) = q31 := ((hg221 (b + 5) (by omega)).trans (hg215 (b + 5) (by omega))).trans a203
  have h225 : w219 (b + 5) = .inl (gM g, 8, .inr (.inr (.inr (.inr (va_up (va_up (va_up (va_up (va_up (va_up (fun _ => none) 0 (some q85)) 1 (some q106)) 2 (some q127)) 3 (some q148)) 4 (some q169)) 5 (some q190)))))) := ((hv222 (b + 5) (by omega)).trans (hv217 (b + 5) (by omega))).trans e207
  have a226 : ad218 (b + 27) = q211 := (hg221 (b + 27) (by omega)).trans ha214
  refine yastQ (t := 2) (ci := 2) (r := (RX2, TX2, 5)) C hK hW rfl rfl (by omega) a224 h225 (by omega) a226 x223.1 (j := 6) (by decide) (by decide) dX1_init_83 (fun w227 H locs e228 f229 hW => ?_)
  refine lv_iinc (v := nI 7) (lv' := [(1, .int (nI 7)), (0, .ref a)]) C.1 C.2.1 dX1_init_84 hl (k := 0) rfl (nI_add _ 1) (by decide) rfl (fun ls hl => ?_)
  refine lv_goto (tgt := 65) C.1 C.2.1 dX1_init_87 (by decide) ?_
  refine lv_iload_n C.1 C.2.1 dX1_init_65 rfl (lv_at hl 0 rfl) ?_
  refine lv_bipush (v := (nI 8)) C.1 C.2.1 dX1_init_66 (by decide) ?_
  refine xge (tgt := 90) C (by omega) (by omega) dX1_init_68 (by decide) (fun c68 => absurd c68 (by omega)) (fun c68 => ?_)
  refine lv_aload_n C.1 C.2.1 dX1_init_71 rfl (lv_at hl 1 rfl) ?_
  have a230 : ad218 b = a := ((hg221 b (by omega)).trans (hg215 b (by omega))).trans a209
  have h231 : w227 b = .inr (1, [.ref q1, .ref q13, .ref q31, .int (nI 0), .ref q46, .ref q58, .ref q70, .int (nI 0)]) := ((f229 b (by omega)).trans ((hv222 b (by omega)).trans (hv217 b (by omega)))).trans h210
  refine yget C hK hW hinX1 rfl (by omega) a230 h231 2 (by decide) (List.mem_of_getElem? (i := 10) rfl) rfl dX1_init_72 ?_
  refine lv_iload_n C.1 C.2.1 dX1_init_75 rfl (lv_at hl 0 rfl) ?_
  refine ynew (ci := 2) (fs := [.int 0, .int 0, .int 0, .null, .null]) (ty := tyX2) C hK hW hA hinX2 tyX2_ok rfl (List.mem_of_getElem? (i := 6) rfl) (List.mem_of_getElem? (i := 7) rfl) (List.mem_of_getElem? (i := 8) rfl) (fun j hj => by rcases (show j = 0 ∨ j = 1 ∨ j = 2 ∨ j = 3 ∨ j = 4 by omega) with rfl | rfl | rfl | rfl | rfl <;> rfl) (Nat.le_of_ble_eq_true rfl) (Nat.le_of_ble_eq_true rfl) dX1_init_76 (fun q232 ad233 w234 H ha235 hg236 hb237 hv238 hW => ?_)
  refine W.widen (k := 30) (n := 187) (Nat.le_of_ble_eq_true rfl) (Nat.le_of_ble_eq_true rfl) ?_
  refine lv_dup C.1 C.2.1 dX1_init_79 rfl ?_
  refine ycN C hK hW hA (n_X2_init l g ad233 w234 (b + 30) q232 H.size hW.2.2.1 ha235 hb237) gX1_init_X2_init_n17 rfl rfl rfl hK.2.2.2.1 (List.mem_of_getElem? (i := 8) rfl) rfl (List.mem_of_getElem? (i := 16) rfl) (by decide +kernel) ⟨(Nat.le_of_ble_eq_true rfl), (Nat.le_of_ble_eq_true rfl)⟩ hl (Nat.le_of_ble_eq_true rfl) dX1_init_80 ⟨(Nat.le_of_ble_eq_true rfl), (Nat.le_of_ble_eq_true rfl)⟩ (fun ad239 w240 H locs p241 hW => ?_)
  obtain ⟨hg242, hv243, x244⟩ := p241
  refine W.widen (k := 32) (n := 201) (Nat.le_of_ble_eq_true rfl) (Nat.le_of_ble_eq_true rfl) ?_
  have a245 : ad239 (b + 5) = q31 := ((hg242 (b + 5) (by omega)).trans (hg236 (b + 5) (by omega))).trans a224
  have h246 : w240 (b + 5) = .inl (gM g, 8, .inr (.inr (.inr (.inr (va_up (va_up (va_up (va_up (va_up (va_up (va_up (fun _ => none) 0 (some q85)) 1 (some q106)) 2 (some q127)) 3 (some q148)) 4 (some q169)) 5 (some q190)) 6 (some q211)))))) := ((hv243 (b + 5) (by omega)).trans (hv238 (b + 5) (by omega))).trans e228
  have a247 : ad239 (b + 30) = q232 := (hg242 (b + 30) (by omega)).trans ha235
  refine yastQ (t := 2) (ci := 2) (r := (RX2, TX2, 5)) C hK hW rfl rfl (by omega) a245 h246 (by omega) a247 x244.1 (j := 7) (by decide) (by decide) dX1_init_83 (fun w248 H locs e249 f250 hW => ?_)
  refine lv_iinc (v := nI 8) (lv' := [(1, .int (nI 8)), (0, .ref a)]) C.1 C.2.1 dX1_init_84 hl (k := 0) rfl (nI_add _ 1) (by decide) rfl (fun ls hl => ?_)
  refine lv_goto (tgt := 65) C.1 C.2.1 dX1_init_87 (by decide) ?_
  refine lv_iload_n C.1 C.2.1 dX1_init_65 rfl (lv_at hl 0 rfl) ?_
  refine lv_bipush (v := (nI 8)) C.1 C.2.1 dX1_init_66 (by decide) ?_
  refine xge (tgt := 90) C (by omega) (by omega) dX1_init_68 (by decide) (fun c68 => ?_) (fun c68 => absurd c68 (by omega))
  have h251 : w248 b = .inr (1, [.ref q1, .ref q13, .ref q31, .int (nI 0), .ref q46, .ref q58, .ref q70, .int (nI 0)]) := ((f250 b (by omega)).trans ((hv243 b (by omega)).trans (hv238 b (by omega)))).trans h231
  have h252 : w248 (b + 1) = .inl (gI g, 7, .inl (fun _ => 0)) := ((f250 (b + 1) (by omega)).trans ((hv243 (b + 1) (by omega)).trans ((hv238 (b + 1) (by omega)).trans ((f229 (b + 1) (by omega)).trans ((hv222 (b + 1) (by omega)).trans ((hv217 (b + 1) (by omega)).trans ((f208 (b + 1) (by omega)).trans ((hv201 (b + 1) (by omega)).trans ((hv196 (b + 1) (by omega)).trans ((f187 (b + 1) (by omega)).trans ((hv180 (b + 1) (by omega)).trans ((hv175 (b + 1) (by omega)).trans ((f166 (b + 1) (by omega)).trans ((hv159 (b + 1) (by omega)).trans ((hv154 (b + 1) (by omega)).trans ((f145 (b + 1) (by omega)).trans ((hv138 (b + 1) (by omega)).trans ((hv133 (b + 1) (by omega)).trans ((f124 (b + 1) (by omega)).trans ((hv117 (b + 1) (by omega)).trans ((hv112 (b + 1) (by omega)).trans ((f103 (b + 1) (by omega)).trans ((hv96 (b + 1) (by omega)).trans ((hv91 (b + 1) (by omega)).trans ((f84 (b + 1) (by omega)).trans ((f81 (b + 1) (by omega)).trans ((hv76 (b + 1) (by omega)).trans ((f69 (b + 1) (by omega)).trans ((hv64 (b + 1) (by omega)).trans ((f57 (b + 1) (by omega)).trans ((hv52 (b + 1) (by omega)).trans ((f45 (b + 1) (by omega)).trans ((f42 (b + 1) (by omega)).trans ((hv37 (b + 1) (by omega)).trans ((f30 (b + 1) (by omega)).trans ((hv24 (b + 1) (by omega)).trans ((hv19 (b + 1) (by omega)).trans (f12 (b + 1) (by omega))))))))))))))))))))))))))))))))))))))).trans hb6
  have h253 : w248 (b + 6) = .inl (gI g, 5, .inl (fun _ => 0)) := ((f250 (b + 6) (by omega)).trans ((hv243 (b + 6) (by omega)).trans ((hv238 (b + 6) (by omega)).trans ((f229 (b + 6) (by omega)).trans ((hv222 (b + 6) (by omega)).trans ((hv217 (b + 6) (by omega)).trans ((f208 (b + 6) (by omega)).trans ((hv201 (b + 6) (by omega)).trans ((hv196 (b + 6) (by omega)).trans ((f187 (b + 6) (by omega)).trans ((hv180 (b + 6) (by omega)).trans ((hv175 (b + 6) (by omega)).trans ((f166 (b + 6) (by omega)).trans ((hv159 (b + 6) (by omega)).trans ((hv154 (b + 6) (by omega)).trans ((f145 (b + 6) (by omega)).trans ((hv138 (b + 6) (by omega)).trans ((hv133 (b + 6) (by omega)).trans ((f124 (b + 6) (by omega)).trans ((hv117 (b + 6) (by omega)).trans ((hv112 (b + 6) (by omega)).trans ((f103 (b + 6) (by omega)).trans ((hv96 (b + 6) (by omega)).trans ((hv91 (b + 6) (by omega)).trans ((f84 (b + 6) (by omega)).trans ((f81 (b + 6) (by omega)).trans ((hv76 (b + 6) (by omega)).trans ((f69 (b + 6) (by omega)).trans ((hv64 (b + 6) (by omega)).trans (f57 (b + 6) (by omega))))))))))))))))))))))))))))))).trans hb51
  have h254 : w248 (b + 7) = .inl (gI g, 5, .inl (fun _ => 0)) := ((f250 (b + 7) (by omega)).trans ((hv243 (b + 7) (by omega)).trans ((hv238 (b + 7) (by omega)).trans ((f229 (b + 7) (by omega)).trans ((hv222 (b + 7) (by omega)).trans ((hv217 (b + 7) (by omega)).trans ((f208 (b + 7) (by omega)).trans ((hv201 (b + 7) (by omega)).trans ((hv196 (b + 7) (by omega)).trans ((f187 (b + 7) (by omega)).trans ((hv180 (b + 7) (by omega)).trans ((hv175 (b + 7) (by omega)).trans ((f166 (b + 7) (by omega)).trans ((hv159 (b + 7) (by omega)).trans ((hv154 (b + 7) (by omega)).trans ((f145 (b + 7) (by omega)).trans ((hv138 (b + 7) (by omega)).trans ((hv133 (b + 7) (by omega)).trans ((f124 (b + 7) (by omega)).trans ((hv117 (b + 7) (by omega)).trans ((hv112 (b + 7) (by omega)).trans ((f103 (b + 7) (by omega)).trans ((hv96 (b + 7) (by omega)).trans ((hv91 (b + 7) (by omega)).trans ((f84 (b + 7) (by omega)).trans ((f81 (b + 7) (by omega)).trans ((hv76 (b + 7) (by omega)).trans (f69 (b + 7) (by omega))))))))))))))))))))))))))))).trans hb63
  have h255 : w248 (b + 8) = .inl (gI g, 5, .inl (fun _ => 0)) := ((f250 (b + 8) (by omega)).trans ((hv243 (b + 8) (by omega)).trans ((hv238 (b + 8) (by omega)).trans ((f229 (b + 8) (by omega)).trans ((hv222 (b + 8) (by omega)).trans ((hv217 (b + 8) (by omega)).trans ((f208 (b + 8) (by omega)).trans ((hv201 (b + 8) (by omega)).trans ((hv196 (b + 8) (by omega)).trans ((f187 (b + 8) (by omega)).trans ((hv180 (b + 8) (by omega)).trans ((hv175 (b + 8) (by omega)).trans ((f166 (b + 8) (by omega)).trans ((hv159 (b + 8) (by omega)).trans ((hv154 (b + 8) (by omega)).trans ((f145 (b + 8) (by omega)).trans ((hv138 (b + 8) (by omega)).trans ((hv133 (b + 8) (by omega)).trans ((f124 (b + 8) (by omega)).trans ((hv117 (b + 8) (by omega)).trans ((hv112 (b + 8) (by omega)).trans ((f103 (b + 8) (by omega)).trans ((hv96 (b + 8) (by omega)).trans ((hv91 (b + 8) (by omega)).trans ((f84 (b + 8) (by omega)).trans (f81 (b + 8) (by omega))))))))))))))))))))))))))).trans hb75
  have a256 : ad239 (b + 1) = q1 := ((hg242 (b + 1) (by omega)).trans ((hg236 (b + 1) (by omega)).trans ((hg221 (b + 1) (by omega)).trans ((hg215 (b + 1) (by omega)).trans ((hg200 (b + 1) (by omega)).trans ((hg194 (b + 1) (by omega)).trans ((hg179 (b + 1) (by omega)).trans ((hg173 (b + 1) (by omega)).trans ((hg158 (b + 1) (by omega)).trans ((hg152 (b + 1) (by omega)).trans ((hg137 (b + 1) (by omega)).trans ((hg131 (b + 1) (by omega)).trans ((hg116 (b + 1) (by omega)).trans ((hg110 (b + 1) (by omega)).trans ((hg95 (b + 1) (by omega)).trans ((hg89 (b + 1) (by omega)).trans ((hg74 (b + 1) (by omega)).trans ((hg62 (b + 1) (by omega)).trans ((hg50 (b + 1) (by omega)).trans ((hg35 (b + 1) (by omega)).trans ((hg23 (b + 1) (by omega)).trans (hg17 (b + 1) (by omega))))))))))))))))))))))).trans ha4
  have a257 : ad239 (b + 2) = q13 := ((hg242 (b + 2) (by omega)).trans ((hg236 (b + 2) (by omega)).trans ((hg221 (b + 2) (by omega)).trans ((hg215 (b + 2) (by omega)).trans ((hg200 (b + 2) (by omega)).trans ((hg194 (b + 2) (by omega)).trans ((hg179 (b + 2) (by omega)).trans ((hg173 (b + 2) (by omega)).trans ((hg158 (b + 2) (by omega)).trans ((hg152 (b + 2) (by omega)).trans ((hg137 (b + 2) (by omega)).trans ((hg131 (b + 2) (by omega)).trans ((hg116 (b + 2) (by omega)).trans ((hg110 (b + 2) (by omega)).trans ((hg95 (b + 2) (by omega)).trans ((hg89 (b + 2) (by omega)).trans ((hg74 (b + 2) (by omega)).trans ((hg62 (b + 2) (by omega)).trans ((hg50 (b + 2) (by omega)).trans ((hg35 (b + 2) (by omega)).trans (hg23 (b + 2) (by omega)))))))))))))))))))))).trans ha16
  have a258 : ad239 (b + 6) = q46 := ((hg242 (b + 6) (by omega)).trans ((hg236 (b + 6) (by omega)).trans ((hg221 (b + 6) (by omega)).trans ((hg215 (b + 6) (by omega)).trans ((hg200 (b + 6) (by omega)).trans ((hg194 (b + 6) (by omega)).trans ((hg179 (b + 6) (by omega)).trans ((hg173 (b + 6) (by omega)).trans ((hg158 (b + 6) (by omega)).trans ((hg152 (b + 6) (by omega)).trans ((hg137 (b + 6) (by omega)).trans ((hg131 (b + 6) (by omega)).trans ((hg116 (b + 6) (by omega)).trans ((hg110 (b + 6) (by omega)).trans ((hg95 (b + 6) (by omega)).trans ((hg89 (b + 6) (by omega)).trans ((hg74 (b + 6) (by omega)).trans (hg62 (b + 6) (by omega))))))))))))))))))).trans ha49
  have a259 : ad239 (b + 7) = q58 := ((hg242 (b + 7) (by omega)).trans ((hg236 (b + 7) (by omega)).trans ((hg221 (b + 7) (by omega)).trans ((hg215 (b + 7) (by omega)).trans ((hg200 (b + 7) (by omega)).trans ((hg194 (b + 7) (by omega)).trans ((hg179 (b + 7) (by omega)).trans ((hg173 (b + 7) (by omega)).trans ((hg158 (b + 7) (by omega)).trans ((hg152 (b + 7) (by omega)).trans ((hg137 (b + 7) (by omega)).trans ((hg131 (b + 7) (by omega)).trans ((hg116 (b + 7) (by omega)).trans ((hg110 (b + 7) (by omega)).trans ((hg95 (b + 7) (by omega)).trans ((hg89 (b + 7) (by omega)).trans (hg74 (b + 7) (by omega)))))))))))))))))).trans ha61
  have a260 : ad239 (b + 8) = q70 := ((hg242 (b + 8) (by omega)).trans ((hg236 (b + 8) (by omega)).trans ((hg221 (b + 8) (by omega)).trans ((hg215 (b + 8) (by omega)).trans ((hg200 (b + 8) (by omega)).trans ((hg194 (b + 8) (by omega)).trans ((hg179 (b + 8) (by omega)).trans ((hg173 (b + 8) (by omega)).trans ((hg158 (b + 8) (by omega)).trans ((hg152 (b + 8) (by omega)).trans ((hg137 (b + 8) (by omega)).trans ((hg131 (b + 8) (by omega)).trans ((hg116 (b + 8) (by omega)).trans ((hg110 (b + 8) (by omega)).trans ((hg95 (b + 8) (by omega)).trans (hg89 (b + 8) (by omega))))))))))))))))).trans ha73
  have k261 : MomAt (gx g ad239 (b + 33)) (b + 2) (zD 1) w248 := MomAt.ad x25 (fun j h1 h2 => ((hg242 j (by omega)).trans ((hg236 j (by omega)).trans ((hg221 j (by omega)).trans ((hg215 j (by omega)).trans ((hg200 j (by omega)).trans ((hg194 j (by omega)).trans ((hg179 j (by omega)).trans ((hg173 j (by omega)).trans ((hg158 j (by omega)).trans ((hg152 j (by omega)).trans ((hg137 j (by omega)).trans ((hg131 j (by omega)).trans ((hg116 j (by omega)).trans ((hg110 j (by omega)).trans ((hg95 j (by omega)).trans ((hg89 j (by omega)).trans ((hg74 j (by omega)).trans ((hg62 j (by omega)).trans ((hg50 j (by omega)).trans (hg35 j (by omega)))))))))))))))))))))) (fun j h1 h2 => ((f250 j (by omega)).trans ((hv243 j (by omega)).trans ((hv238 j (by omega)).trans ((f229 j (by omega)).trans ((hv222 j (by omega)).trans ((hv217 j (by omega)).trans ((f208 j (by omega)).trans ((hv201 j (by omega)).trans ((hv196 j (by omega)).trans ((f187 j (by omega)).trans ((hv180 j (by omega)).trans ((hv175 j (by omega)).trans ((f166 j (by omega)).trans ((hv159 j (by omega)).trans ((hv154 j (by omega)).trans ((f145 j (by omega)).trans ((hv138 j (by omega)).trans ((hv133 j (by omega)).trans ((f124 j (by omega)).trans ((hv117 j (by omega)).trans ((hv112 j (by omega)).trans ((f103 j (by omega)).trans ((hv96 j (by omega)).trans ((hv91 j (by omega)).trans ((f84 j (by omega)).trans ((f81 j (by omega)).trans ((hv76 j (by omega)).trans ((f69 j (by omega)).trans ((hv64 j (by omega)).trans ((f57 j (by omega)).trans ((hv52 j (by omega)).trans ((f45 j (by omega)).trans ((f42 j (by omega)).trans ((hv37 j (by omega)).trans (f30 j (by omega)))))))))))))))))))))))))))))))))))))
  have a262 : ad239 (b + 9) = q85 := ((hg242 (b + 9) (by omega)).trans ((hg236 (b + 9) (by omega)).trans ((hg221 (b + 9) (by omega)).trans ((hg215 (b + 9) (by omega)).trans ((hg200 (b + 9) (by omega)).trans ((hg194 (b + 9) (by omega)).trans ((hg179 (b + 9) (by omega)).trans ((hg173 (b + 9) (by omega)).trans ((hg158 (b + 9) (by omega)).trans ((hg152 (b + 9) (by omega)).trans ((hg137 (b + 9) (by omega)).trans ((hg131 (b + 9) (by omega)).trans ((hg116 (b + 9) (by omega)).trans (hg110 (b + 9) (by omega))))))))))))))).trans a100
  have a263 : ad239 (b + 12) = q106 := ((hg242 (b + 12) (by omega)).trans ((hg236 (b + 12) (by omega)).trans ((hg221 (b + 12) (by omega)).trans ((hg215 (b + 12) (by omega)).trans ((hg200 (b + 12) (by omega)).trans ((hg194 (b + 12) (by omega)).trans ((hg179 (b + 12) (by omega)).trans ((hg173 (b + 12) (by omega)).trans ((hg158 (b + 12) (by omega)).trans ((hg152 (b + 12) (by omega)).trans ((hg137 (b + 12) (by omega)).trans (hg131 (b + 12) (by omega))))))))))))).trans a121
  have a264 : ad239 (b + 15) = q127 := ((hg242 (b + 15) (by omega)).trans ((hg236 (b + 15) (by omega)).trans ((hg221 (b + 15) (by omega)).trans ((hg215 (b + 15) (by omega)).trans ((hg200 (b + 15) (by omega)).trans ((hg194 (b + 15) (by omega)).trans ((hg179 (b + 15) (by omega)).trans ((hg173 (b + 15) (by omega)).trans ((hg158 (b + 15) (by omega)).trans (hg152 (b + 15) (by omega))))))))))).trans a142
  have a265 : ad239 (b + 18) = q148 := ((hg242 (b + 18) (by omega)).trans ((hg236 (b + 18) (by omega)).trans ((hg221 (b + 18) (by omega)).trans ((hg215 (b + 18) (by omega)).trans ((hg200 (b + 18) (by omega)).trans ((hg194 (b + 18) (by omega)).trans ((hg179 (b + 18) (by omega)).trans (hg173 (b + 18) (by omega))))))))).trans a163
  have a266 : ad239 (b + 21) = q169 := ((hg242 (b + 21) (by omega)).trans ((hg236 (b + 21) (by omega)).trans ((hg221 (b + 21) (by omega)).trans ((hg215 (b + 21) (by omega)).trans ((hg200 (b + 21) (by omega)).trans (hg194 (b + 21) (by omega))))))).trans a184
  have a267 : ad239 (b + 24) = q190 := ((hg242 (b + 24) (by omega)).trans ((hg236 (b + 24) (by omega)).trans ((hg221 (b + 24) (by omega)).trans (hg215 (b + 24) (by omega))))).trans a205
  have a268 : ad239 (b + 27) = q211 := ((hg242 (b + 27) (by omega)).trans (hg236 (b + 27) (by omega))).trans a226
  have k269 : MomAt (gx g ad239 (b + 33)) (b + 9) (zD 1) w248 := MomAt.ad x97 (fun j h1 h2 => ((hg242 j (by omega)).trans ((hg236 j (by omega)).trans ((hg221 j (by omega)).trans ((hg215 j (by omega)).trans ((hg200 j (by omega)).trans ((hg194 j (by omega)).trans ((hg179 j (by omega)).trans ((hg173 j (by omega)).trans ((hg158 j (by omega)).trans ((hg152 j (by omega)).trans ((hg137 j (by omega)).trans ((hg131 j (by omega)).trans ((hg116 j (by omega)).trans (hg110 j (by omega)))))))))))))))) (fun j h1 h2 => ((f250 j (by omega)).trans ((hv243 j (by omega)).trans ((hv238 j (by omega)).trans ((f229 j (by omega)).trans ((hv222 j (by omega)).trans ((hv217 j (by omega)).trans ((f208 j (by omega)).trans ((hv201 j (by omega)).trans ((hv196 j (by omega)).trans ((f187 j (by omega)).trans ((hv180 j (by omega)).trans ((hv175 j (by omega)).trans ((f166 j (by omega)).trans ((hv159 j (by omega)).trans ((hv154 j (by omega)).trans ((f145 j (by omega)).trans ((hv138 j (by omega)).trans ((hv133 j (by omega)).trans ((f124 j (by omega)).trans ((hv117 j (by omega)).trans ((hv112 j (by omega)).trans (f103 j (by omega))))))))))))))))))))))))
  have k270 : MomAt (gx g ad239 (b + 33)) (b + 12) (zD 1) w248 := MomAt.ad x118 (fun j h1 h2 => ((hg242 j (by omega)).trans ((hg236 j (by omega)).trans ((hg221 j (by omega)).trans ((hg215 j (by omega)).trans ((hg200 j (by omega)).trans ((hg194 j (by omega)).trans ((hg179 j (by omega)).trans ((hg173 j (by omega)).trans ((hg158 j (by omega)).trans ((hg152 j (by omega)).trans ((hg137 j (by omega)).trans (hg131 j (by omega)))))))))))))) (fun j h1 h2 => ((f250 j (by omega)).trans ((hv243 j (by omega)).trans ((hv238 j (by omega)).trans ((f229 j (by omega)).trans ((hv222 j (by omega)).trans ((hv217 j (by omega)).trans ((f208 j (by omega)).trans ((hv201 j (by omega)).trans ((hv196 j (by omega)).trans ((f187 j (by omega)).trans ((hv180 j (by omega)).trans ((hv175 j (by omega)).trans ((f166 j (by omega)).trans ((hv159 j (by omega)).trans ((hv154 j (by omega)).trans ((f145 j (by omega)).trans ((hv138 j (by omega)).trans ((hv133 j (by omega)).trans (f124 j (by omega)))))))))))))))))))))
  have k271 : MomAt (gx g ad239 (b + 33)) (b + 15) (zD 1) w248 := MomAt.ad x139 (fun j h1 h2 => ((hg242 j (by omega)).trans ((hg236 j (by omega)).trans ((hg221 j (by omega)).trans ((hg215 j (by omega)).trans ((hg200 j (by omega)).trans ((hg194 j (by omega)).trans ((hg179 j (by omega)).trans ((hg173 j (by omega)).trans ((hg158 j (by omega)).trans (hg152 j (by omega)))))))))))) (fun j h1 h2 => ((f250 j (by omega)).trans ((hv243 j (by omega)).trans ((hv238 j (by omega)).trans ((f229 j (by omega)).trans ((hv222 j (by omega)).trans ((hv217 j (by omega)).trans ((f208 j (by omega)).trans ((hv201 j (by omega)).trans ((hv196 j (by omega)).trans ((f187 j (by omega)).trans ((hv180 j (by omega)).trans ((hv175 j (by omega)).trans ((f166 j (by omega)).trans ((hv159 j (by omega)).trans ((hv154 j (by omega)).trans (f145 j (by omega))))))))))))))))))
  have k272 : MomAt (gx g ad239 (b + 33)) (b + 18) (zD 1) w248 := MomAt.ad x160 (fun j h1 h2 => ((hg242 j (by omega)).trans ((hg236 j (by omega)).trans ((hg221 j (by omega)).trans ((hg215 j (by omega)).trans ((hg200 j (by omega)).trans ((hg194 j (by omega)).trans ((hg179 j (by omega)).trans (hg173 j (by omega)))))))))) (fun j h1 h2 => ((f250 j (by omega)).trans ((hv243 j (by omega)).trans ((hv238 j (by omega)).trans ((f229 j (by omega)).trans ((hv222 j (by omega)).trans ((hv217 j (by omega)).trans ((f208 j (by omega)).trans ((hv201 j (by omega)).trans ((hv196 j (by omega)).trans ((f187 j (by omega)).trans ((hv180 j (by omega)).trans ((hv175 j (by omega)).trans (f166 j (by omega)))))))))))))))
  have k273 : MomAt (gx g ad239 (b + 33)) (b + 21) (zD 1) w248 := MomAt.ad x181 (fun j h1 h2 => ((hg242 j (by omega)).trans ((hg236 j (by omega)).trans ((hg221 j (by omega)).trans ((hg215 j (by omega)).trans ((hg200 j (by omega)).trans (hg194 j (by omega)))))))) (fun j h1 h2 => ((f250 j (by omega)).trans ((hv243 j (by omega)).trans ((hv238 j (by omega)).trans ((f229 j (by omega)).trans ((hv222 j (by omega)).trans ((hv217 j (by omega)).trans ((f208 j (by omega)).trans ((hv201 j (by omega)).trans ((hv196 j (by omega)).trans (f187 j (by omega))))))))))))
  have k274 : MomAt (gx g ad239 (b + 33)) (b + 24) (zD 1) w248 := MomAt.ad x202 (fun j h1 h2 => ((hg242 j (by omega)).trans ((hg236 j (by omega)).trans ((hg221 j (by omega)).trans (hg215 j (by omega)))))) (fun j h1 h2 => ((f250 j (by omega)).trans ((hv243 j (by omega)).trans ((hv238 j (by omega)).trans ((f229 j (by omega)).trans ((hv222 j (by omega)).trans ((hv217 j (by omega)).trans (f208 j (by omega)))))))))
  have k275 : MomAt (gx g ad239 (b + 33)) (b + 27) (zD 1) w248 := MomAt.ad x223 (fun j h1 h2 => ((hg242 j (by omega)).trans (hg236 j (by omega)))) (fun j h1 h2 => ((f250 j (by omega)).trans ((hv243 j (by omega)).trans ((hv238 j (by omega)).trans (f229 j (by omega))))))
  have k276 : MomAt (gx g ad239 (b + 33)) (b + 30) (zD 1) w248 := MomAt.ad x244 (fun j h1 h2 => rfl) (fun j h1 h2 => (f250 j (by omega)))
  have hG : GAt (gx g ad239 (b + 33)) b (nI 0) (nI 0) (zD 1) w248 := ⟨h251.trans (by rw [← a256, ← a257, ← a245, ← a258, ← a259, ← a260]; rfl), h252.trans (zI_c (o := 17) (L := zD 1) (fun j hj => zD_ne (by omega))), k261.1, k261.2.1, k261.2.2⟩
  have hC : CAt (gx g ad239 (b + 33)) b zF w248 := ⟨h253.trans (zI_c (o := 25) (L := zF) (fun _ _ => rfl)), h254.trans (zI_c (o := 30) (L := zF) (fun _ _ => rfl)), h255.trans (zI_c (o := 35) (L := zF) (fun _ _ => rfl))⟩
  have hF : (va_up (va_up (va_up (va_up (va_up (va_up (va_up (va_up (fun _ => none) 0 (some q85)) 1 (some q106)) 2 (some q127)) 3 (some q148)) 4 (some q169)) 5 (some q190)) 6 (some q211)) 7 (some q232)) = kK none 8 0 (fun j => some (ad239 (b + 9 + 3 * j))) := by
    funext j
    by_cases hj : j < 8
    · rw [kK_at hj, Nat.zero_add]
      rcases (show j = 0 ∨ j = 1 ∨ j = 2 ∨ j = 3 ∨ j = 4 ∨ j = 5 ∨ j = 6 ∨ j = 7 by omega) with rfl | rfl | rfl | rfl | rfl | rfl | rfl | rfl
      · exact congrArg some a262.symm
      · exact congrArg some a263.symm
      · exact congrArg some a264.symm
      · exact congrArg some a265.symm
      · exact congrArg some a266.symm
      · exact congrArg some a267.symm
      · exact congrArg some a268.symm
      · exact congrArg some a247.symm
    · rw [va_up_ne _ _ (by omega), va_up_ne _ _ (by omega), va_up_ne _ _ (by omega), va_up_ne _ _ (by omega), va_up_ne _ _ (by omega), va_up_ne _ _ (by omega), va_up_ne _ _ (by omega), va_up_ne _ _ (by omega)]
      exact (if_neg hj).symm
  have hPa : PArr (gx g ad239 (b + 33)) b (fun j => j) w248 := e249.trans (by rw [hF]; rfl)
  have hPm : PMom (gx g ad239 (b + 33)) b (fun j => j) (fun _ => zD 1) w248 := by
    refine ⟨⟨fun j hj => hj, fun i j _ _ e => e⟩, fun p hp => ?_⟩
    rcases (show p = 0 ∨ p = 1 ∨ p = 2 ∨ p = 3 ∨ p = 4 ∨ p = 5 ∨ p = 6 ∨ p = 7 by omega) with rfl | rfl | rfl | rfl | rfl | rfl | rfl | rfl
    · exact k269
    · exact k270
    · exact k271
    · exact k272
    · exact k273
    · exact k274
    · exact k275
    · exact k276
  exact yret C hr hlk hW (Nat.le_of_ble_eq_true rfl) (Nat.le_of_ble_eq_true rfl) ⟨(fun i hi => ((hg242 i (by omega)).trans ((hg236 i (by omega)).trans ((hg221 i (by omega)).trans ((hg215 i (by omega)).trans ((hg200 i (by omega)).trans ((hg194 i (by omega)).trans ((hg179 i (by omega)).trans ((hg173 i (by omega)).trans ((hg158 i (by omega)).trans ((hg152 i (by omega)).trans ((hg137 i (by omega)).trans ((hg131 i (by omega)).trans ((hg116 i (by omega)).trans ((hg110 i (by omega)).trans ((hg95 i (by omega)).trans ((hg89 i (by omega)).trans ((hg74 i (by omega)).trans ((hg62 i (by omega)).trans ((hg50 i (by omega)).trans ((hg35 i (by omega)).trans ((hg23 i (by omega)).trans ((hg17 i (by omega)).trans (hg5 i (by omega))))))))))))))))))))))))), (fun i hi => ((f250 i (by omega)).trans ((hv243 i (by omega)).trans ((hv238 i (by omega)).trans ((f229 i (by omega)).trans ((hv222 i (by omega)).trans ((hv217 i (by omega)).trans ((f208 i (by omega)).trans ((hv201 i (by omega)).trans ((hv196 i (by omega)).trans ((f187 i (by omega)).trans ((hv180 i (by omega)).trans ((hv175 i (by omega)).trans ((f166 i (by omega)).trans ((hv159 i (by omega)).trans ((hv154 i (by omega)).trans ((f145 i (by omega)).trans ((hv138 i (by omega)).trans ((hv133 i (by omega)).trans ((f124 i (by omega)).trans ((hv117 i (by omega)).trans ((hv112 i (by omega)).trans ((f103 i (by omega)).trans ((hv96 i (by omega)).trans ((hv91 i (by omega)).trans ((f84 i (by omega)).trans ((f81 i (by omega)).trans ((hv76 i (by omega)).trans ((f69 i (by omega)).trans ((hv64 i (by omega)).trans ((f57 i (by omega)).trans ((hv52 i (by omega)).trans ((f45 i (by omega)).trans ((f42 i (by omega)).trans ((hv37 i (by omega)).trans ((f30 i (by omega)).trans ((hv24 i (by omega)).trans ((hv19 i (by omega)).trans ((f12 i (by omega)).trans (hv7 i (by omega))))))))))))))))))))))))))))))))))))))))), ⟨hG, hC, hPa, hPm⟩⟩ dX1_init_90

set_option maxHeartbeats 4000000 in
set_option maxRecDepth 100000 in
theorem n_X6_init (l : Launch) (g : GE) (ad : Nat → Nat) (w : Nat → va_E) (a sz : Nat) (hI : AdInj (gx g ad 1)) (ha0 : ad 0 = a) (hb0 : w 0 = .inr (6, [.null, .null, .null, .null, .null, .null, .null, .null, .int 0])) : Met l yX6_init wsX6_init ({ frames := 3, cells := 118, slots := 867, locals := 53 } : Room) (XPn g 1 ad w sz [.ref a]) (XQn g 119 (fun ad' w' => (∀ i, i < 1 → ad' i = ad i) ∧ (∀ i, i < 0 → w' i = w i) ∧ XAll (gx g ad' 119) (zD 1, zD 1, 0, 0, zF, zF, zF, fun _ => 0) w') (gB 1 ad sz)) 118 867 (gB 1 ad sz) := by
  refine ymet (cc := cX6_init) (maxL := 2) (by decide) rfl rfl hI (Nat.le_of_ble_eq_true rfl) ?_
  intro pG eG sG mG belowG methG cG ls C hr hlk hnm hK hA hW hl
  have hl : lv_has ls 2 [(0, .ref a)] := hl
  have hinX0 : ∀ x ∈ u_ws RX0 TX0 2, x ∈ wsX6_init := by decide +kernel
  have hinX1 : ∀ x ∈ u_ws RX1 TX1 8, x ∈ wsX6_init := by decide +kernel
  have hinX3 : ∀ x ∈ u_ws RX3 TX3 3, x ∈ wsX6_init := by decide +kernel
  have hinX4 : ∀ x ∈ u_ws RX4 TX4 4, x ∈ wsX6_init := by decide +kernel
  have hinX5 : ∀ x ∈ u_ws RX5 TX5 7, x ∈ wsX6_init := by decide +kernel
  have hinX6 : ∀ x ∈ u_ws RX6 TX6 9, x ∈ wsX6_init := by decide +kernel
  refine lv_aload_n C.1 C.2.1 dX6_init_0 rfl (lv_at hl 0 rfl) ?_
  refine W.objInit C.1 C.2.1 C.2.2.2.1 (C.2.2.2.2 _ (List.mem_of_getElem? (i := 1) rfl)) (C.2.2.2.2 _ (List.mem_of_getElem? (i := 2) rfl)) (C.2.2.2.2 _ (List.mem_of_getElem? (i := 3) rfl)) rfl (hl.1.trans C.2.2.1.symm) rfl dX6_init_1 (Nat.le_of_ble_eq_true rfl) (Nat.le_of_ble_eq_true rfl) ?_
  show W _ _ _ _ _ _ _ _ _ _ _ _ _ _ _ (F0 mG 4 ls [])
  refine lv_aload_n C.1 C.2.1 dX6_init_4 rfl (lv_at hl 0 rfl) ?_
  refine ynew (ci := 1) (fs := [.null, .null, .null, .int 0, .null, .null, .null, .int 0]) (ty := tyX1) C hK hW hA hinX1 tyX1_ok rfl (List.mem_of_getElem? (i := 4) rfl) (List.mem_of_getElem? (i := 5) rfl) (List.mem_of_getElem? (i := 6) rfl) (fun j hj => by rcases (show j = 0 ∨ j = 1 ∨ j = 2 ∨ j = 3 ∨ j = 4 ∨ j = 5 ∨ j = 6 ∨ j = 7 by omega) with rfl | rfl | rfl | rfl | rfl | rfl | rfl | rfl <;> rfl) (Nat.le_of_ble_eq_true rfl) (Nat.le_of_ble_eq_true rfl) dX6_init_5 (fun q1 ad2 w3 H ha4 hg5 hb6 hv7 hW => ?_)
  refine W.widen (k := 1) (n := 8) (Nat.le_of_ble_eq_true rfl) (Nat.le_of_ble_eq_true rfl) ?_
  refine lv_dup C.1 C.2.1 dX6_init_8 rfl ?_
  refine ycI C hK hW hA (n_X1_init l g ad2 w3 1 q1 H.size hW.2.2.1 ha4 hb6) gX6_init_X1_init rfl rfl rfl (List.mem_of_getElem? (i := 28) rfl) (List.mem_of_getElem? (i := 6) rfl) rfl (List.mem_of_getElem? (i := 29) rfl) (by decide +kernel) ⟨(Nat.le_of_ble_eq_true rfl), (Nat.le_of_ble_eq_true rfl)⟩ hl (Nat.le_of_ble_eq_true rfl) dX6_init_9 ⟨(Nat.le_of_ble_eq_true rfl), (Nat.le_of_ble_eq_true rfl)⟩ (fun ad8 w9 H locs p10 hW => ?_)
  obtain ⟨hg11, hv12, x13⟩ := p10
  refine W.widen (k := 33) (n := 209) (Nat.le_of_ble_eq_true rfl) (Nat.le_of_ble_eq_true rfl) ?_
  have a14 : ad8 0 = a := ((hg11 0 (by omega)).trans (hg5 0 (by omega))).trans ha0
  have h15 : w9 0 = .inr (6, [.null, .null, .null, .null, .null, .null, .null, .null, .int 0]) := ((hv12 0 (by omega)).trans (hv7 0 (by omega))).trans hb0
  refine yputF (v := .ref q1) C hnm hK hW hinX6 tyX6_ok nmX6 rfl (by omega) a14 h15 0 (by decide) (List.mem_of_getElem? (i := 7) rfl) rfl rfl rfl rfl (Nat.le_of_ble_eq_true rfl) dX6_init_12 (fun w16 H locs e17 f18 hW => ?_)
  refine lv_aload_n C.1 C.2.1 dX6_init_15 rfl (lv_at hl 0 rfl) ?_
  refine ynew (ci := 1) (fs := [.null, .null, .null, .int 0, .null, .null, .null, .int 0]) (ty := tyX1) C hK hW hA hinX1 tyX1_ok rfl (List.mem_of_getElem? (i := 4) rfl) (List.mem_of_getElem? (i := 5) rfl) (List.mem_of_getElem? (i := 6) rfl) (fun j hj => by rcases (show j = 0 ∨ j = 1 ∨ j = 2 ∨ j = 3 ∨ j = 4 ∨ j = 5 ∨ j = 6 ∨ j = 7 by omega) with rfl | rfl | rfl | rfl | rfl | rfl | rfl | rfl <;> rfl) (Nat.le_of_ble_eq_true rfl) (Nat.le_of_ble_eq_true rfl) dX6_init_16 (fun q19 ad20 w21 H ha22 hg23 hb24 hv25 hW => ?_)
  refine W.widen (k := 34) (n := 217) (Nat.le_of_ble_eq_true rfl) (Nat.le_of_ble_eq_true rfl) ?_
  refine lv_dup C.1 C.2.1 dX6_init_19 rfl ?_
  refine ycI C hK hW hA (n_X1_init l g ad20 w21 34 q19 H.size hW.2.2.1 ha22 hb24) gX6_init_X1_init rfl rfl rfl (List.mem_of_getElem? (i := 28) rfl) (List.mem_of_getElem? (i := 6) rfl) rfl (List.mem_of_getElem? (i := 29) rfl) (by decide +kernel) ⟨(Nat.le_of_ble_eq_true rfl), (Nat.le_of_ble_eq_true rfl)⟩ hl (Nat.le_of_ble_eq_true rfl) dX6_init_20 ⟨(Nat.le_of_ble_eq_true rfl), (Nat.le_of_ble_eq_true rfl)⟩ (fun ad26 w27 H locs p28 hW => ?_)
  obtain ⟨hg29, hv30, x31⟩ := p28
  refine W.widen (k := 66) (n := 418) (Nat.le_of_ble_eq_true rfl) (Nat.le_of_ble_eq_true rfl) ?_
  have a32 : ad26 0 = a := ((hg29 0 (by omega)).trans (hg23 0 (by omega))).trans a14
  have h33 : w27 0 = .inr (6, [.ref q1, .null, .null, .null, .null, .null, .null, .null, .int 0]) := ((hv30 0 (by omega)).trans (hv25 0 (by omega))).trans e17
  refine yputF (v := .ref q19) C hnm hK hW hinX6 tyX6_ok nmX6 rfl (by omega) a32 h33 1 (by decide) (List.mem_of_getElem? (i := 8) rfl) rfl rfl rfl rfl (Nat.le_of_ble_eq_true rfl) dX6_init_23 (fun w34 H locs e35 f36 hW => ?_)
  refine lv_aload_n C.1 C.2.1 dX6_init_26 rfl (lv_at hl 0 rfl) ?_
  refine ynew (ci := 1) (fs := [.null, .null, .null, .int 0, .null, .null, .null, .int 0]) (ty := tyX1) C hK hW hA hinX1 tyX1_ok rfl (List.mem_of_getElem? (i := 4) rfl) (List.mem_of_getElem? (i := 5) rfl) (List.mem_of_getElem? (i := 6) rfl) (fun j hj => by rcases (show j = 0 ∨ j = 1 ∨ j = 2 ∨ j = 3 ∨ j = 4 ∨ j = 5 ∨ j = 6 ∨ j = 7 by omega) with rfl | rfl | rfl | rfl | rfl | rfl | rfl | rfl <;> rfl) (Nat.le_of_ble_eq_true rfl) (Nat.le_of_ble_eq_true rfl) dX6_init_27 (fun q37 ad38 w39 H ha40 hg41 hb42 hv43 hW => ?_)
  refine W.widen (k := 67) (n := 426) (Nat.le_of_ble_eq_true rfl) (Nat.le_of_ble_eq_true rfl) ?_
  refine lv_dup C.1 C.2.1 dX6_init_30 rfl ?_
  refine ycI C hK hW hA (n_X1_init l g ad38 w39 67 q37 H.size hW.2.2.1 ha40 hb42) gX6_init_X1_init rfl rfl rfl (List.mem_of_getElem? (i := 28) rfl) (List.mem_of_getElem? (i := 6) rfl) rfl (List.mem_of_getElem? (i := 29) rfl) (by decide +kernel) ⟨(Nat.le_of_ble_eq_true rfl), (Nat.le_of_ble_eq_true rfl)⟩ hl (Nat.le_of_ble_eq_true rfl) dX6_init_31 ⟨(Nat.le_of_ble_eq_true rfl), (Nat.le_of_ble_eq_true rfl)⟩ (fun ad44 w45 H locs p46 hW => ?_)
  obtain ⟨hg47, hv48, x49⟩ := p46
  refine W.widen (k := 99) (n := 627) (Nat.le_of_ble_eq_true rfl) (Nat.le_of_ble_eq_true rfl) ?_
  have a50 : ad44 0 = a := ((hg47 0 (by omega)).trans (hg41 0 (by omega))).trans a32
  have h51 : w45 0 = .inr (6, [.ref q1, .ref q19, .null, .null, .null, .null, .null, .null, .int 0]) := ((hv48 0 (by omega)).trans (hv43 0 (by omega))).trans e35
  refine yputF (v := .ref q37) C hnm hK hW hinX6 tyX6_ok nmX6 rfl (by omega) a50 h51 2 (by decide) (List.mem_of_getElem? (i := 9) rfl) rfl rfl rfl rfl (Nat.le_of_ble_eq_true rfl) dX6_init_34 (fun w52 H locs e53 f54 hW => ?_)
  refine lv_aload_n C.1 C.2.1 dX6_init_37 rfl (lv_at hl 0 rfl) ?_
  refine ynew (ci := 5) (fs := [.null, .null, .int 0, .null, .null, .long 0, .null]) (ty := tyX5) C hK hW hA hinX5 tyX5_ok rfl (List.mem_of_getElem? (i := 10) rfl) (List.mem_of_getElem? (i := 11) rfl) (List.mem_of_getElem? (i := 12) rfl) (fun j hj => by rcases (show j = 0 ∨ j = 1 ∨ j = 2 ∨ j = 3 ∨ j = 4 ∨ j = 5 ∨ j = 6 by omega) with rfl | rfl | rfl | rfl | rfl | rfl | rfl <;> rfl) (Nat.le_of_ble_eq_true rfl) (Nat.le_of_ble_eq_true rfl) dX6_init_38 (fun q55 ad56 w57 H ha58 hg59 hb60 hv61 hW => ?_)
  refine W.widen (k := 100) (n := 634) (Nat.le_of_ble_eq_true rfl) (Nat.le_of_ble_eq_true rfl) ?_
  refine lv_dup C.1 C.2.1 dX6_init_41 rfl ?_
  refine ycN C hK hW hA (n_X5_init l g ad56 w57 100 q55 H.size hW.2.2.1 ha58 hb60) gX6_init_X5_init_n24 rfl rfl rfl hK.2.2.2.2.1 (List.mem_of_getElem? (i := 12) rfl) rfl (List.mem_of_getElem? (i := 52) rfl) (by decide +kernel) ⟨(Nat.le_of_ble_eq_true rfl), (Nat.le_of_ble_eq_true rfl)⟩ hl (Nat.le_of_ble_eq_true rfl) dX6_init_42 ⟨(Nat.le_of_ble_eq_true rfl), (Nat.le_of_ble_eq_true rfl)⟩ (fun ad62 w63 H locs p64 hW => ?_)
  obtain ⟨hg65, hv66, x67⟩ := p64
  refine W.widen (k := 105) (n := 664) (Nat.le_of_ble_eq_true rfl) (Nat.le_of_ble_eq_true rfl) ?_
  obtain ⟨q68, q69, q70, q71, q72, ha73, ha74, ha75, ha76, ha77, hb78, hb79, hb80, hb81, hb82, hb83⟩ := x67
  have a84 : ad62 0 = a := ((hg65 0 (by omega)).trans (hg59 0 (by omega))).trans a50
  have h85 : w63 0 = .inr (6, [.ref q1, .ref q19, .ref q37, .null, .null, .null, .null, .null, .int 0]) := ((hv66 0 (by omega)).trans (hv61 0 (by omega))).trans e53
  refine yputF (v := .ref q55) C hnm hK hW hinX6 tyX6_ok nmX6 rfl (by omega) a84 h85 3 (by decide) (List.mem_of_getElem? (i := 13) rfl) rfl rfl rfl rfl (Nat.le_of_ble_eq_true rfl) dX6_init_45 (fun w86 H locs e87 f88 hW => ?_)
  refine lv_aload_n C.1 C.2.1 dX6_init_48 rfl (lv_at hl 0 rfl) ?_
  refine ynew (ci := 0) (fs := [.long 0, .long 0]) (ty := tyX0) C hK hW hA hinX0 tyX0_ok rfl (List.mem_of_getElem? (i := 14) rfl) (List.mem_of_getElem? (i := 15) rfl) (List.mem_of_getElem? (i := 16) rfl) (fun j hj => by rcases (show j = 0 ∨ j = 1 by omega) with rfl | rfl <;> rfl) (Nat.le_of_ble_eq_true rfl) (Nat.le_of_ble_eq_true rfl) dX6_init_49 (fun q89 ad90 w91 H ha92 hg93 hb94 hv95 hW => ?_)
  refine W.widen (k := 106) (n := 666) (Nat.le_of_ble_eq_true rfl) (Nat.le_of_ble_eq_true rfl) ?_
  refine lv_dup C.1 C.2.1 dX6_init_52 rfl ?_
  refine ycN C hK hW hA (n_X0_init l g ad90 w91 106 q89 H.size hW.2.2.1 ha92 hb94) gX6_init_X0_init_n31 rfl rfl rfl hK.2.2.2.2.2.2.1 (List.mem_of_getElem? (i := 16) rfl) rfl (List.mem_of_getElem? (i := 64) rfl) (by decide +kernel) ⟨(Nat.le_of_ble_eq_true rfl), (Nat.le_of_ble_eq_true rfl)⟩ hl (Nat.le_of_ble_eq_true rfl) dX6_init_53 ⟨(Nat.le_of_ble_eq_true rfl), (Nat.le_of_ble_eq_true rfl)⟩ (fun ad96 w97 H locs p98 hW => ?_)
  obtain ⟨hg99, hv100, x101⟩ := p98
  refine W.widen (k := 106) (n := 666) (Nat.le_of_ble_eq_true rfl) (Nat.le_of_ble_eq_true rfl) ?_
  have a102 : ad96 0 = a := ((hg99 0 (by omega)).trans (hg93 0 (by omega))).trans a84
  have h103 : w97 0 = .inr (6, [.ref q1, .ref q19, .ref q37, .ref q55, .null, .null, .null, .null, .int 0]) := ((hv100 0 (by omega)).trans (hv95 0 (by omega))).trans e87
  refine yputF (v := .ref q89) C hnm hK hW hinX6 tyX6_ok nmX6 rfl (by omega) a102 h103 4 (by decide) (List.mem_of_getElem? (i := 17) rfl) rfl rfl rfl rfl (Nat.le_of_ble_eq_true rfl) dX6_init_56 (fun w104 H locs e105 f106 hW => ?_)
  refine lv_aload_n C.1 C.2.1 dX6_init_59 rfl (lv_at hl 0 rfl) ?_
  refine ynew (ci := 0) (fs := [.long 0, .long 0]) (ty := tyX0) C hK hW hA hinX0 tyX0_ok rfl (List.mem_of_getElem? (i := 14) rfl) (List.mem_of_getElem? (i := 15) rfl) (List.mem_of_getElem? (i := 16) rfl) (fun j hj => by rcases (show j = 0 ∨ j = 1 by omega) with rfl | rfl <;> rfl) (Nat.le_of_ble_eq_true rfl) (Nat.le_of_ble_eq_true rfl) dX6_init_60 (fun q107 ad108 w109 H ha110 hg111 hb112 hv113 hW => ?_)
  refine W.widen (k := 107) (n := 668) (Nat.le_of_ble_eq_true rfl) (Nat.le_of_ble_eq_true rfl) ?_
  refine lv_dup C.1 C.2.1 dX6_init_63 rfl ?_
  refine ycN C hK hW hA (n_X0_init l g ad108 w109 107 q107 H.size hW.2.2.1 ha110 hb112) gX6_init_X0_init_n31 rfl rfl rfl hK.2.2.2.2.2.2.1 (List.mem_of_getElem? (i := 16) rfl) rfl (List.mem_of_getElem? (i := 64) rfl) (by decide +kernel) ⟨(Nat.le_of_ble_eq_true rfl), (Nat.le_of_ble_eq_true rfl)⟩ hl (Nat.le_of_ble_eq_true rfl) dX6_init_64 ⟨(Nat.le_of_ble_eq_true rfl), (Nat.le_of_ble_eq_true rfl)⟩ (fun ad114 w115 H locs p116 hW => ?_)
  obtain ⟨hg117, hv118, x119⟩ := p116
  refine W.widen (k := 107) (n := 668) (Nat.le_of_ble_eq_true rfl) (Nat.le_of_ble_eq_true rfl) ?_
  have a120 : ad114 0 = a := ((hg117 0 (by omega)).trans (hg111 0 (by omega))).trans a102
  have h121 : w115 0 = .inr (6, [.ref q1, .ref q19, .ref q37, .ref q55, .ref q89, .null, .null, .null, .int 0]) := ((hv118 0 (by omega)).trans (hv113 0 (by omega))).trans e105
  refine yputF (v := .ref q107) C hnm hK hW hinX6 tyX6_ok nmX6 rfl (by omega) a120 h121 5 (by decide) (List.mem_of_getElem? (i := 18) rfl) rfl rfl rfl rfl (Nat.le_of_ble_eq_true rfl) dX6_init_67 (fun w122 H locs e123 f124 hW => ?_)
  refine lv_aload_n C.1 C.2.1 dX6_init_70 rfl (lv_at hl 0 rfl) ?_
  refine ynew (ci := 3) (fs := [.null, .int 0, .int 0]) (ty := tyX3) C hK hW hA hinX3 tyX3_ok rfl (List.mem_of_getElem? (i := 19) rfl) (List.mem_of_getElem? (i := 20) rfl) (List.mem_of_getElem? (i := 21) rfl) (fun j hj => by rcases (show j = 0 ∨ j = 1 ∨ j = 2 by omega) with rfl | rfl | rfl <;> rfl) (Nat.le_of_ble_eq_true rfl) (Nat.le_of_ble_eq_true rfl) dX6_init_71 (fun q125 ad126 w127 H ha128 hg129 hb130 hv131 hW => ?_)
  refine W.widen (k := 108) (n := 671) (Nat.le_of_ble_eq_true rfl) (Nat.le_of_ble_eq_true rfl) ?_
  refine lv_dup C.1 C.2.1 dX6_init_74 rfl ?_
  refine ycN C hK hW hA (n_X3_init l g ad126 w127 108 q125 H.size hW.2.2.1 ha128 hb130) gX6_init_X3_init_n41 rfl rfl rfl hK.2.2.2.2.2.2.2.1 (List.mem_of_getElem? (i := 21) rfl) rfl (List.mem_of_getElem? (i := 69) rfl) (by decide +kernel) ⟨(Nat.le_of_ble_eq_true rfl), (Nat.le_of_ble_eq_true rfl)⟩ hl (Nat.le_of_ble_eq_true rfl) dX6_init_75 ⟨(Nat.le_of_ble_eq_true rfl), (Nat.le_of_ble_eq_true rfl)⟩ (fun ad132 w133 H locs p134 hW => ?_)
  obtain ⟨hg135, hv136, x137⟩ := p134
  refine W.widen (k := 109) (n := 751) (Nat.le_of_ble_eq_true rfl) (Nat.le_of_ble_eq_true rfl) ?_
  obtain ⟨q138, ha139, hb140, hb141⟩ := x137
  have a142 : ad132 0 = a := ((hg135 0 (by omega)).trans (hg129 0 (by omega))).trans a120
  have h143 : w133 0 = .inr (6, [.ref q1, .ref q19, .ref q37, .ref q55, .ref q89, .ref q107, .null, .null, .int 0]) := ((hv136 0 (by omega)).trans (hv131 0 (by omega))).trans e123
  refine yputF (v := .ref q125) C hnm hK hW hinX6 tyX6_ok nmX6 rfl (by omega) a142 h143 6 (by decide) (List.mem_of_getElem? (i := 22) rfl) rfl rfl rfl rfl (Nat.le_of_ble_eq_true rfl) dX6_init_78 (fun w144 H locs e145 f146 hW => ?_)
  refine lv_aload_n C.1 C.2.1 dX6_init_81 rfl (lv_at hl 0 rfl) ?_
  refine lv_iconst (v := (nI 4)) C.1 C.2.1 dX6_init_82 (by decide) ?_
  refine ynewQ (k := 3) (cQ := gS g) C hK hW hA hK.2.2.1 rfl (List.mem_of_getElem? (i := 23) rfl) (n := 4) (by decide) (Nat.le_of_ble_eq_true rfl) (Nat.le_of_ble_eq_true rfl) dX6_init_83 (fun q147 ad148 w149 H ha150 hg151 hb152 hv153 hW => ?_)
  refine W.widen (k := 110) (n := 755) (Nat.le_of_ble_eq_true rfl) (Nat.le_of_ble_eq_true rfl) ?_
  have a154 : ad148 0 = a := (hg151 0 (by omega)).trans a142
  have h155 : w149 0 = .inr (6, [.ref q1, .ref q19, .ref q37, .ref q55, .ref q89, .ref q107, .ref q125, .null, .int 0]) := (hv153 0 (by omega)).trans e145
  refine yputF (v := .ref q147) C hnm hK hW hinX6 tyX6_ok nmX6 rfl (by omega) a154 h155 7 (by decide) (List.mem_of_getElem? (i := 24) rfl) rfl rfl rfl rfl (Nat.le_of_ble_eq_true rfl) dX6_init_86 (fun w156 H locs e157 f158 hW => ?_)
  refine lv_iconst (v := (nI 0)) C.1 C.2.1 dX6_init_89 (by decide) ?_
  refine lv_istore_n (lv' := [(1, .int (nI 0)), (0, .ref a)]) C.1 C.2.1 dX6_init_90 rfl hl (by decide) rfl (fun ls hl => ?_)
  refine lv_iload_n C.1 C.2.1 dX6_init_91 rfl (lv_at hl 0 rfl) ?_
  refine lv_iconst (v := (nI 4)) C.1 C.2.1 dX6_init_92 (by decide) ?_
  refine xge (tgt := 115) C (by omega) (by omega) dX6_init_93 (by decide) (fun c93 => absurd c93 (by omega)) (fun c93 => ?_)
  refine lv_aload_n C.1 C.2.1 dX6_init_96 rfl (lv_at hl 1 rfl) ?_
  refine yget C hK hW hinX6 rfl (by omega) a154 e157 7 (by decide) (List.mem_of_getElem? (i := 24) rfl) rfl dX6_init_97 ?_
  refine lv_iload_n C.1 C.2.1 dX6_init_100 rfl (lv_at hl 0 rfl) ?_
  refine ynew (ci := 4) (fs := [.int 0, .int 0, .int 0, .null]) (ty := tyX4) C hK hW hA hinX4 tyX4_ok rfl (List.mem_of_getElem? (i := 23) rfl) (List.mem_of_getElem? (i := 25) rfl) (List.mem_of_getElem? (i := 26) rfl) (fun j hj => by rcases (show j = 0 ∨ j = 1 ∨ j = 2 ∨ j = 3 by omega) with rfl | rfl | rfl | rfl <;> rfl) (Nat.le_of_ble_eq_true rfl) (Nat.le_of_ble_eq_true rfl) dX6_init_101 (fun q159 ad160 w161 H ha162 hg163 hb164 hv165 hW => ?_)
  refine W.widen (k := 111) (n := 759) (Nat.le_of_ble_eq_true rfl) (Nat.le_of_ble_eq_true rfl) ?_
  refine lv_dup C.1 C.2.1 dX6_init_104 rfl ?_
  refine ycN C hK hW hA (n_X4_init l g ad160 w161 111 q159 H.size hW.2.2.1 ha162 hb164) gX6_init_X4_init_n52 rfl rfl rfl hK.2.2.2.2.2.2.2.2 (List.mem_of_getElem? (i := 26) rfl) rfl (List.mem_of_getElem? (i := 75) rfl) (by decide +kernel) ⟨(Nat.le_of_ble_eq_true rfl), (Nat.le_of_ble_eq_true rfl)⟩ hl (Nat.le_of_ble_eq_true rfl) dX6_init_105 ⟨(Nat.le_of_ble_eq_true rfl), (Nat.le_of_ble_eq_true rfl)⟩ (fun ad166 w167 H locs p168 hW => ?_)
  obtain ⟨hg169, hv170, x171⟩ := p168
  refine W.widen (k := 112) (n := 783) (Nat.le_of_ble_eq_true rfl) (Nat.le_of_ble_eq_true rfl) ?_
  obtain ⟨q172, ha173, hb174, hb175⟩ := x171
  have a176 : ad166 110 = q147 := ((hg169 110 (by omega)).trans (hg163 110 (by omega))).trans ha150
  have h177 : w167 110 = .inl (gS g, 4, .inr (.inr (.inr (.inr (fun _ => none))))) := ((hv170 110 (by omega)).trans ((hv165 110 (by omega)).trans (f158 110 (by omega)))).trans hb152
  have a178 : ad166 111 = q159 := (hg169 111 (by omega)).trans ha162
  refine yastQ (t := 3) (ci := 4) (r := (RX4, TX4, 4)) C hK hW rfl rfl (by omega) a176 h177 (by omega) a178 hb174 (j := 0) (by decide) (by decide) dX6_init_108 (fun w179 H locs e180 f181 hW => ?_)
  refine lv_iinc (v := nI 1) (lv' := [(1, .int (nI 1)), (0, .ref a)]) C.1 C.2.1 dX6_init_109 hl (k := 0) rfl (nI_add _ 1) (by decide) rfl (fun ls hl => ?_)
  refine lv_goto (tgt := 91) C.1 C.2.1 dX6_init_112 (by decide) ?_
  refine lv_iload_n C.1 C.2.1 dX6_init_91 rfl (lv_at hl 0 rfl) ?_
  refine lv_iconst (v := (nI 4)) C.1 C.2.1 dX6_init_92 (by decide) ?_
  refine xge (tgt := 115) C (by omega) (by omega) dX6_init_93 (by decide) (fun c93 => absurd c93 (by omega)) (fun c93 => ?_)
  refine lv_aload_n C.1 C.2.1 dX6_init_96 rfl (lv_at hl 1 rfl) ?_
  have a182 : ad166 0 = a := ((hg169 0 (by omega)).trans (hg163 0 (by omega))).trans a154
  have h183 : w179 0 = .inr (6, [.ref q1, .ref q19, .ref q37, .ref q55, .ref q89, .ref q107, .ref q125, .ref q147, .int 0]) := ((f181 0 (by omega)).trans ((hv170 0 (by omega)).trans (hv165 0 (by omega)))).trans e157
  refine yget C hK hW hinX6 rfl (by omega) a182 h183 7 (by decide) (List.mem_of_getElem? (i := 24) rfl) rfl dX6_init_97 ?_
  refine lv_iload_n C.1 C.2.1 dX6_init_100 rfl (lv_at hl 0 rfl) ?_
  refine ynew (ci := 4) (fs := [.int 0, .int 0, .int 0, .null]) (ty := tyX4) C hK hW hA hinX4 tyX4_ok rfl (List.mem_of_getElem? (i := 23) rfl) (List.mem_of_getElem? (i := 25) rfl) (List.mem_of_getElem? (i := 26) rfl) (fun j hj => by rcases (show j = 0 ∨ j = 1 ∨ j = 2 ∨ j = 3 by omega) with rfl | rfl | rfl | rfl <;> rfl) (Nat.le_of_ble_eq_true rfl) (Nat.le_of_ble_eq_true rfl) dX6_init_101 (fun q184 ad185 w186 H ha187 hg188 hb189 hv190 hW => ?_)
  refine W.widen (k := 113) (n := 787) (Nat.le_of_ble_eq_true rfl) (Nat.le_of_ble_eq_true rfl) ?_
  refine lv_dup C.1 C.2.1 dX6_init_104 rfl ?_
  refine ycN C hK hW hA (n_X4_init l g ad185 w186 113 q184 H.size hW.2.2.1 ha187 hb189) gX6_init_X4_init_n52 rfl rfl rfl hK.2.2.2.2.2.2.2.2 (List.mem_of_getElem? (i := 26) rfl) rfl (List.mem_of_getElem? (i := 75) rfl) (by decide +kernel) ⟨(Nat.le_of_ble_eq_true rfl), (Nat.le_of_ble_eq_true rfl)⟩ hl (Nat.le_of_ble_eq_true rfl) dX6_init_105 ⟨(Nat.le_of_ble_eq_true rfl), (Nat.le_of_ble_eq_true rfl)⟩ (fun ad191 w192 H locs p193 hW => ?_)
  obtain ⟨hg194, hv195, x196⟩ := p193
  refine W.widen (k := 114) (n := 811) (Nat.le_of_ble_eq_true rfl) (Nat.le_of_ble_eq_true rfl) ?_
  obtain ⟨q197, ha198, hb199, hb200⟩ := x196
  have a201 : ad191 110 = q147 := ((hg194 110 (by omega)).trans (hg188 110 (by omega))).trans a176
  have h202 : w192 110 = .inl (gS g, 4, .inr (.inr (.inr (.inr (va_up (fun _ => none) 0 (some q159)))))) := ((hv195 110 (by omega)).trans (hv190 110 (by omega))).trans e180
  have a203 : ad191 113 = q184 := (hg194 113 (by omega)).trans ha187
  refine yastQ (t := 3) (ci := 4) (r := (RX4, TX4, 4)) C hK hW rfl rfl (by omega) a201 h202 (by omega) a203 hb199 (j := 1) (by decide) (by decide) dX6_init_108 (fun w204 H locs e205 f206 hW => ?_)
  refine lv_iinc (v := nI 2) (lv' := [(1, .int (nI 2)), (0, .ref a)]) C.1 C.2.1 dX6_init_109 hl (k := 0) rfl (nI_add _ 1) (by decide) rfl (fun ls hl => ?_)
  refine lv_goto (tgt := 91) C.1 C.2.1 dX6_init_112 (by decide) ?_
  refine lv_iload_n C.1 C.2.1 dX6_init_91 rfl (lv_at hl 0 rfl) ?_
  refine lv_iconst (v := (nI 4)) C.1 C.2.1 dX6_init_92 (by decide) ?_
  refine xge (tgt := 115) C (by omega) (by omega) dX6_init_93 (by decide) (fun c93 => absurd c93 (by omega)) (fun c93 => ?_)
  refine lv_aload_n C.1 C.2.1 dX6_init_96 rfl (lv_at hl 1 rfl) ?_
  have a207 : ad191 0 = a := ((hg194 0 (by omega)).trans (hg188 0 (by omega))).trans a182
  have h208 : w204 0 = .inr (6, [.ref q1, .ref q19, .ref q37, .ref q55, .ref q89, .ref q107, .ref q125, .ref q147, .int 0]) := ((f206 0 (by omega)).trans ((hv195 0 (by omega)).trans (hv190 0 (by omega)))).trans h183
  refine yget C hK hW hinX6 rfl (by omega) a207 h208 7 (by decide) (List.mem_of_getElem? (i := 24) rfl) rfl dX6_init_97 ?_
  refine lv_iload_n C.1 C.2.1 dX6_init_100 rfl (lv_at hl 0 rfl) ?_
  refine ynew (ci := 4) (fs := [.int 0, .int 0, .int 0, .null]) (ty := tyX4) C hK hW hA hinX4 tyX4_ok rfl (List.mem_of_getElem? (i := 23) rfl) (List.mem_of_getElem? (i := 25) rfl) (List.mem_of_getElem? (i := 26) rfl) (fun j hj => by rcases (show j = 0 ∨ j = 1 ∨ j = 2 ∨ j = 3 by omega) with rfl | rfl | rfl | rfl <;> rfl) (Nat.le_of_ble_eq_true rfl) (Nat.le_of_ble_eq_true rfl) dX6_init_101 (fun q209 ad210 w211 H ha212 hg213 hb214 hv215 hW => ?_)
  refine W.widen (k := 115) (n := 815) (Nat.le_of_ble_eq_true rfl) (Nat.le_of_ble_eq_true rfl) ?_
  refine lv_dup C.1 C.2.1 dX6_init_104 rfl ?_
  refine ycN C hK hW hA (n_X4_init l g ad210 w211 115 q209 H.size hW.2.2.1 ha212 hb214) gX6_init_X4_init_n52 rfl rfl rfl hK.2.2.2.2.2.2.2.2 (List.mem_of_getElem? (i := 26) rfl) rfl (List.mem_of_getElem? (i := 75) rfl) (by decide +kernel) ⟨(Nat.le_of_ble_eq_true rfl), (Nat.le_of_ble_eq_true rfl)⟩ hl (Nat.le_of_ble_eq_true rfl) dX6_init_105 ⟨(Nat.le_of_ble_eq_true rfl), (Nat.le_of_ble_eq_true rfl)⟩ (fun ad216 w217 H locs p218 hW => ?_)
  obtain ⟨hg219, hv220, x221⟩ := p218
  refine W.widen (k := 116) (n := 839) (Nat.le_of_ble_eq_true rfl) (Nat.le_of_ble_eq_true rfl) ?_
  obtain ⟨q222, ha223, hb224, hb225⟩ := x221
  have a226 : ad216 110 = q147 := ((hg219 110 (by omega)).trans (hg213 110 (by omega))).trans a201
  have h227 : w217 110 = .inl (gS g, 4, .inr (.inr (.inr (.inr (va_up (va_up (fun _ => none) 0 (some q159)) 1 (some q184)))))) := ((hv220 110 (by omega)).trans (hv215 110 (by omega))).trans e205
  have a228 : ad216 115 = q209 := (hg219 115 (by omega)).trans ha212
  refine yastQ (t := 3) (ci := 4) (r := (RX4, TX4, 4)) C hK hW rfl rfl (by omega) a226 h227 (by omega) a228 hb224 (j := 2) (by decide) (by decide) dX6_init_108 (fun w229 H locs e230 f231 hW => ?_)
  refine lv_iinc (v := nI 3) (lv' := [(1, .int (nI 3)), (0, .ref a)]) C.1 C.2.1 dX6_init_109 hl (k := 0) rfl (nI_add _ 1) (by decide) rfl (fun ls hl => ?_)
  refine lv_goto (tgt := 91) C.1 C.2.1 dX6_init_112 (by decide) ?_
  refine lv_iload_n C.1 C.2.1 dX6_init_91 rfl (lv_at hl 0 rfl) ?_
  refine lv_iconst (v := (nI 4)) C.1 C.2.1 dX6_init_92 (by decide) ?_
  refine xge (tgt := 115) C (by omega) (by omega) dX6_init_93 (by decide) (fun c93 => absurd c93 (by omega)) (fun c93 => ?_)
  refine lv_aload_n C.1 C.2.1 dX6_init_96 rfl (lv_at hl 1 rfl) ?_
  have a232 : ad216 0 = a := ((hg219 0 (by omega)).trans (hg213 0 (by omega))).trans a207
  have h233 : w229 0 = .inr (6, [.ref q1, .ref q19, .ref q37, .ref q55, .ref q89, .ref q107, .ref q125, .ref q147, .int 0]) := ((f231 0 (by omega)).trans ((hv220 0 (by omega)).trans (hv215 0 (by omega)))).trans h208
  refine yget C hK hW hinX6 rfl (by omega) a232 h233 7 (by decide) (List.mem_of_getElem? (i := 24) rfl) rfl dX6_init_97 ?_
  refine lv_iload_n C.1 C.2.1 dX6_init_100 rfl (lv_at hl 0 rfl) ?_
  refine ynew (ci := 4) (fs := [.int 0, .int 0, .int 0, .null]) (ty := tyX4) C hK hW hA hinX4 tyX4_ok rfl (List.mem_of_getElem? (i := 23) rfl) (List.mem_of_getElem? (i := 25) rfl) (List.mem_of_getElem? (i := 26) rfl) (fun j hj => by rcases (show j = 0 ∨ j = 1 ∨ j = 2 ∨ j = 3 by omega) with rfl | rfl | rfl | rfl <;> rfl) (Nat.le_of_ble_eq_true rfl) (Nat.le_of_ble_eq_true rfl) dX6_init_101 (fun q234 ad235 w236 H ha237 hg238 hb239 hv240 hW => ?_)
  refine W.widen (k := 117) (n := 843) (Nat.le_of_ble_eq_true rfl) (Nat.le_of_ble_eq_true rfl) ?_
  refine lv_dup C.1 C.2.1 dX6_init_104 rfl ?_
  refine ycN C hK hW hA (n_X4_init l g ad235 w236 117 q234 H.size hW.2.2.1 ha237 hb239) gX6_init_X4_init_n52 rfl rfl rfl hK.2.2.2.2.2.2.2.2 (List.mem_of_getElem? (i := 26) rfl) rfl (List.mem_of_getElem? (i := 75) rfl) (by decide +kernel) ⟨(Nat.le_of_ble_eq_true rfl), (Nat.le_of_ble_eq_true rfl)⟩ hl (Nat.le_of_ble_eq_true rfl) dX6_init_105 ⟨(Nat.le_of_ble_eq_true rfl), (Nat.le_of_ble_eq_true rfl)⟩ (fun ad241 w242 H locs p243 hW => ?_)
  obtain ⟨hg244, hv245, x246⟩ := p243
  refine W.widen (k := 118) (n := 867) (Nat.le_of_ble_eq_true rfl) (Nat.le_of_ble_eq_true rfl) ?_
  obtain ⟨q247, ha248, hb249, hb250⟩ := x246
  have a251 : ad241 110 = q147 := ((hg244 110 (by omega)).trans (hg238 110 (by omega))).trans a226
  have h252 : w242 110 = .inl (gS g, 4, .inr (.inr (.inr (.inr (va_up (va_up (va_up (fun _ => none) 0 (some q159)) 1 (some q184)) 2 (some q209)))))) := ((hv245 110 (by omega)).trans (hv240 110 (by omega))).trans e230
  have a253 : ad241 117 = q234 := (hg244 117 (by omega)).trans ha237
  refine yastQ (t := 3) (ci := 4) (r := (RX4, TX4, 4)) C hK hW rfl rfl (by omega) a251 h252 (by omega) a253 hb249 (j := 3) (by decide) (by decide) dX6_init_108 (fun w254 H locs e255 f256 hW => ?_)
  refine lv_iinc (v := nI 4) (lv' := [(1, .int (nI 4)), (0, .ref a)]) C.1 C.2.1 dX6_init_109 hl (k := 0) rfl (nI_add _ 1) (by decide) rfl (fun ls hl => ?_)
  refine lv_goto (tgt := 91) C.1 C.2.1 dX6_init_112 (by decide) ?_
  refine lv_iload_n C.1 C.2.1 dX6_init_91 rfl (lv_at hl 0 rfl) ?_
  refine lv_iconst (v := (nI 4)) C.1 C.2.1 dX6_init_92 (by decide) ?_
  refine xge (tgt := 115) C (by omega) (by omega) dX6_init_93 (by decide) (fun c93 => ?_) (fun c93 => absurd c93 (by omega))
  refine lv_aload_n C.1 C.2.1 dX6_init_115 rfl (lv_at hl 1 rfl) ?_
  refine lv_iconst (v := (nI 0)) C.1 C.2.1 dX6_init_116 (by decide) ?_
  have a257 : ad241 0 = a := ((hg244 0 (by omega)).trans (hg238 0 (by omega))).trans a232
  have h258 : w254 0 = .inr (6, [.ref q1, .ref q19, .ref q37, .ref q55, .ref q89, .ref q107, .ref q125, .ref q147, .int 0]) := ((f256 0 (by omega)).trans ((hv245 0 (by omega)).trans (hv240 0 (by omega)))).trans h233
  refine yput (v := .int (nI 0)) C hK hW hinX6 tyX6_ok nmX6 rfl (by omega) a257 h258 8 (by decide) (List.mem_of_getElem? (i := 27) rfl) rfl rfl rfl (Nat.le_of_ble_eq_true rfl) dX6_init_117 (fun w259 H locs e260 f261 hW => ?_)
  have k262 : NLand (gx g ad241 119) 1 w259 := NLand.ad x13 (fun j h1 h2 => ((hg244 j (by omega)).trans ((hg238 j (by omega)).trans ((hg219 j (by omega)).trans ((hg213 j (by omega)).trans ((hg194 j (by omega)).trans ((hg188 j (by omega)).trans ((hg169 j (by omega)).trans ((hg163 j (by omega)).trans ((hg151 j (by omega)).trans ((hg135 j (by omega)).trans ((hg129 j (by omega)).trans ((hg117 j (by omega)).trans ((hg111 j (by omega)).trans ((hg99 j (by omega)).trans ((hg93 j (by omega)).trans ((hg65 j (by omega)).trans ((hg59 j (by omega)).trans ((hg47 j (by omega)).trans ((hg41 j (by omega)).trans ((hg29 j (by omega)).trans (hg23 j (by omega))))))))))))))))))))))) (fun j h1 h2 => ((f261 j (by omega)).trans ((f256 j (by omega)).trans ((hv245 j (by omega)).trans ((hv240 j (by omega)).trans ((f231 j (by omega)).trans ((hv220 j (by omega)).trans ((hv215 j (by omega)).trans ((f206 j (by omega)).trans ((hv195 j (by omega)).trans ((hv190 j (by omega)).trans ((f181 j (by omega)).trans ((hv170 j (by omega)).trans ((hv165 j (by omega)).trans ((f158 j (by omega)).trans ((hv153 j (by omega)).trans ((f146 j (by omega)).trans ((hv136 j (by omega)).trans ((hv131 j (by omega)).trans ((f124 j (by omega)).trans ((hv118 j (by omega)).trans ((hv113 j (by omega)).trans ((f106 j (by omega)).trans ((hv100 j (by omega)).trans ((hv95 j (by omega)).trans ((f88 j (by omega)).trans ((hv66 j (by omega)).trans ((hv61 j (by omega)).trans ((f54 j (by omega)).trans ((hv48 j (by omega)).trans ((hv43 j (by omega)).trans ((f36 j (by omega)).trans ((hv30 j (by omega)).trans ((hv25 j (by omega)).trans (f18 j (by omega))))))))))))))))))))))))))))))))))))
  have k263 : NLand (gx g ad241 119) 34 w259 := NLand.ad x31 (fun j h1 h2 => ((hg244 j (by omega)).trans ((hg238 j (by omega)).trans ((hg219 j (by omega)).trans ((hg213 j (by omega)).trans ((hg194 j (by omega)).trans ((hg188 j (by omega)).trans ((hg169 j (by omega)).trans ((hg163 j (by omega)).trans ((hg151 j (by omega)).trans ((hg135 j (by omega)).trans ((hg129 j (by omega)).trans ((hg117 j (by omega)).trans ((hg111 j (by omega)).trans ((hg99 j (by omega)).trans ((hg93 j (by omega)).trans ((hg65 j (by omega)).trans ((hg59 j (by omega)).trans ((hg47 j (by omega)).trans (hg41 j (by omega))))))))))))))))))))) (fun j h1 h2 => ((f261 j (by omega)).trans ((f256 j (by omega)).trans ((hv245 j (by omega)).trans ((hv240 j (by omega)).trans ((f231 j (by omega)).trans ((hv220 j (by omega)).trans ((hv215 j (by omega)).trans ((f206 j (by omega)).trans ((hv195 j (by omega)).trans ((hv190 j (by omega)).trans ((f181 j (by omega)).trans ((hv170 j (by omega)).trans ((hv165 j (by omega)).trans ((f158 j (by omega)).trans ((hv153 j (by omega)).trans ((f146 j (by omega)).trans ((hv136 j (by omega)).trans ((hv131 j (by omega)).trans ((f124 j (by omega)).trans ((hv118 j (by omega)).trans ((hv113 j (by omega)).trans ((f106 j (by omega)).trans ((hv100 j (by omega)).trans ((hv95 j (by omega)).trans ((f88 j (by omega)).trans ((hv66 j (by omega)).trans ((hv61 j (by omega)).trans ((f54 j (by omega)).trans ((hv48 j (by omega)).trans ((hv43 j (by omega)).trans (f36 j (by omega)))))))))))))))))))))))))))))))))
  have k264 : NLand (gx g ad241 119) 67 w259 := NLand.ad x49 (fun j h1 h2 => ((hg244 j (by omega)).trans ((hg238 j (by omega)).trans ((hg219 j (by omega)).trans ((hg213 j (by omega)).trans ((hg194 j (by omega)).trans ((hg188 j (by omega)).trans ((hg169 j (by omega)).trans ((hg163 j (by omega)).trans ((hg151 j (by omega)).trans ((hg135 j (by omega)).trans ((hg129 j (by omega)).trans ((hg117 j (by omega)).trans ((hg111 j (by omega)).trans ((hg99 j (by omega)).trans ((hg93 j (by omega)).trans ((hg65 j (by omega)).trans (hg59 j (by omega))))))))))))))))))) (fun j h1 h2 => ((f261 j (by omega)).trans ((f256 j (by omega)).trans ((hv245 j (by omega)).trans ((hv240 j (by omega)).trans ((f231 j (by omega)).trans ((hv220 j (by omega)).trans ((hv215 j (by omega)).trans ((f206 j (by omega)).trans ((hv195 j (by omega)).trans ((hv190 j (by omega)).trans ((f181 j (by omega)).trans ((hv170 j (by omega)).trans ((hv165 j (by omega)).trans ((f158 j (by omega)).trans ((hv153 j (by omega)).trans ((f146 j (by omega)).trans ((hv136 j (by omega)).trans ((hv131 j (by omega)).trans ((f124 j (by omega)).trans ((hv118 j (by omega)).trans ((hv113 j (by omega)).trans ((f106 j (by omega)).trans ((hv100 j (by omega)).trans ((hv95 j (by omega)).trans ((f88 j (by omega)).trans ((hv66 j (by omega)).trans ((hv61 j (by omega)).trans (f54 j (by omega))))))))))))))))))))))))))))))
  have a265 : ad241 1 = q1 := ((hg244 1 (by omega)).trans ((hg238 1 (by omega)).trans ((hg219 1 (by omega)).trans ((hg213 1 (by omega)).trans ((hg194 1 (by omega)).trans ((hg188 1 (by omega)).trans ((hg169 1 (by omega)).trans ((hg163 1 (by omega)).trans ((hg151 1 (by omega)).trans ((hg135 1 (by omega)).trans ((hg129 1 (by omega)).trans ((hg117 1 (by omega)).trans ((hg111 1 (by omega)).trans ((hg99 1 (by omega)).trans ((hg93 1 (by omega)).trans ((hg65 1 (by omega)).trans ((hg59 1 (by omega)).trans ((hg47 1 (by omega)).trans ((hg41 1 (by omega)).trans ((hg29 1 (by omega)).trans ((hg23 1 (by omega)).trans (hg11 1 (by omega))))))))))))))))))))))).trans ha4
  have a266 : ad241 34 = q19 := ((hg244 34 (by omega)).trans ((hg238 34 (by omega)).trans ((hg219 34 (by omega)).trans ((hg213 34 (by omega)).trans ((hg194 34 (by omega)).trans ((hg188 34 (by omega)).trans ((hg169 34 (by omega)).trans ((hg163 34 (by omega)).trans ((hg151 34 (by omega)).trans ((hg135 34 (by omega)).trans ((hg129 34 (by omega)).trans ((hg117 34 (by omega)).trans ((hg111 34 (by omega)).trans ((hg99 34 (by omega)).trans ((hg93 34 (by omega)).trans ((hg65 34 (by omega)).trans ((hg59 34 (by omega)).trans ((hg47 34 (by omega)).trans ((hg41 34 (by omega)).trans (hg29 34 (by omega))))))))))))))))))))).trans ha22
  have a267 : ad241 67 = q37 := ((hg244 67 (by omega)).trans ((hg238 67 (by omega)).trans ((hg219 67 (by omega)).trans ((hg213 67 (by omega)).trans ((hg194 67 (by omega)).trans ((hg188 67 (by omega)).trans ((hg169 67 (by omega)).trans ((hg163 67 (by omega)).trans ((hg151 67 (by omega)).trans ((hg135 67 (by omega)).trans ((hg129 67 (by omega)).trans ((hg117 67 (by omega)).trans ((hg111 67 (by omega)).trans ((hg99 67 (by omega)).trans ((hg93 67 (by omega)).trans ((hg65 67 (by omega)).trans ((hg59 67 (by omega)).trans (hg47 67 (by omega))))))))))))))))))).trans ha40
  have a268 : ad241 100 = q55 := ((hg244 100 (by omega)).trans ((hg238 100 (by omega)).trans ((hg219 100 (by omega)).trans ((hg213 100 (by omega)).trans ((hg194 100 (by omega)).trans ((hg188 100 (by omega)).trans ((hg169 100 (by omega)).trans ((hg163 100 (by omega)).trans ((hg151 100 (by omega)).trans ((hg135 100 (by omega)).trans ((hg129 100 (by omega)).trans ((hg117 100 (by omega)).trans ((hg111 100 (by omega)).trans ((hg99 100 (by omega)).trans ((hg93 100 (by omega)).trans (hg65 100 (by omega))))))))))))))))).trans ha58
  have a269 : ad241 101 = q68 := ((hg244 101 (by omega)).trans ((hg238 101 (by omega)).trans ((hg219 101 (by omega)).trans ((hg213 101 (by omega)).trans ((hg194 101 (by omega)).trans ((hg188 101 (by omega)).trans ((hg169 101 (by omega)).trans ((hg163 101 (by omega)).trans ((hg151 101 (by omega)).trans ((hg135 101 (by omega)).trans ((hg129 101 (by omega)).trans ((hg117 101 (by omega)).trans ((hg111 101 (by omega)).trans ((hg99 101 (by omega)).trans (hg93 101 (by omega)))))))))))))))).trans ha73
  have a270 : ad241 102 = q69 := ((hg244 102 (by omega)).trans ((hg238 102 (by omega)).trans ((hg219 102 (by omega)).trans ((hg213 102 (by omega)).trans ((hg194 102 (by omega)).trans ((hg188 102 (by omega)).trans ((hg169 102 (by omega)).trans ((hg163 102 (by omega)).trans ((hg151 102 (by omega)).trans ((hg135 102 (by omega)).trans ((hg129 102 (by omega)).trans ((hg117 102 (by omega)).trans ((hg111 102 (by omega)).trans ((hg99 102 (by omega)).trans (hg93 102 (by omega)))))))))))))))).trans ha74
  have a271 : ad241 103 = q70 := ((hg244 103 (by omega)).trans ((hg238 103 (by omega)).trans ((hg219 103 (by omega)).trans ((hg213 103 (by omega)).trans ((hg194 103 (by omega)).trans ((hg188 103 (by omega)).trans ((hg169 103 (by omega)).trans ((hg163 103 (by omega)).trans ((hg151 103 (by omega)).trans ((hg135 103 (by omega)).trans ((hg129 103 (by omega)).trans ((hg117 103 (by omega)).trans ((hg111 103 (by omega)).trans ((hg99 103 (by omega)).trans (hg93 103 (by omega)))))))))))))))).trans ha75
  have a272 : ad241 104 = q71 := ((hg244 104 (by omega)).trans ((hg238 104 (by omega)).trans ((hg219 104 (by omega)).trans ((hg213 104 (by omega)).trans ((hg194 104 (by omega)).trans ((hg188 104 (by omega)).trans ((hg169 104 (by omega)).trans ((hg163 104 (by omega)).trans ((hg151 104 (by omega)).trans ((hg135 104 (by omega)).trans ((hg129 104 (by omega)).trans ((hg117 104 (by omega)).trans ((hg111 104 (by omega)).trans ((hg99 104 (by omega)).trans (hg93 104 (by omega)))))))))))))))).trans ha76
  have a273 : ad241 105 = q72 := ((hg244 105 (by omega)).trans ((hg238 105 (by omega)).trans ((hg219 105 (by omega)).trans ((hg213 105 (by omega)).trans ((hg194 105 (by omega)).trans ((hg188 105 (by omega)).trans ((hg169 105 (by omega)).trans ((hg163 105 (by omega)).trans ((hg151 105 (by omega)).trans ((hg135 105 (by omega)).trans ((hg129 105 (by omega)).trans ((hg117 105 (by omega)).trans ((hg111 105 (by omega)).trans ((hg99 105 (by omega)).trans (hg93 105 (by omega)))))))))))))))).trans ha77
  have a274 : ad241 106 = q89 := ((hg244 106 (by omega)).trans ((hg238 106 (by omega)).trans ((hg219 106 (by omega)).trans ((hg213 106 (by omega)).trans ((hg194 106 (by omega)).trans ((hg188 106 (by omega)).trans ((hg169 106 (by omega)).trans ((hg163 106 (by omega)).trans ((hg151 106 (by omega)).trans ((hg135 106 (by omega)).trans ((hg129 106 (by omega)).trans ((hg117 106 (by omega)).trans ((hg111 106 (by omega)).trans (hg99 106 (by omega))))))))))))))).trans ha92
  have a275 : ad241 107 = q107 := ((hg244 107 (by omega)).trans ((hg238 107 (by omega)).trans ((hg219 107 (by omega)).trans ((hg213 107 (by omega)).trans ((hg194 107 (by omega)).trans ((hg188 107 (by omega)).trans ((hg169 107 (by omega)).trans ((hg163 107 (by omega)).trans ((hg151 107 (by omega)).trans ((hg135 107 (by omega)).trans ((hg129 107 (by omega)).trans (hg117 107 (by omega))))))))))))).trans ha110
  have a276 : ad241 108 = q125 := ((hg244 108 (by omega)).trans ((hg238 108 (by omega)).trans ((hg219 108 (by omega)).trans ((hg213 108 (by omega)).trans ((hg194 108 (by omega)).trans ((hg188 108 (by omega)).trans ((hg169 108 (by omega)).trans ((hg163 108 (by omega)).trans ((hg151 108 (by omega)).trans (hg135 108 (by omega))))))))))).trans ha128
  have a277 : ad241 109 = q138 := ((hg244 109 (by omega)).trans ((hg238 109 (by omega)).trans ((hg219 109 (by omega)).trans ((hg213 109 (by omega)).trans ((hg194 109 (by omega)).trans ((hg188 109 (by omega)).trans ((hg169 109 (by omega)).trans ((hg163 109 (by omega)).trans (hg151 109 (by omega)))))))))).trans ha139
  have a278 : ad241 111 = q159 := ((hg244 111 (by omega)).trans ((hg238 111 (by omega)).trans ((hg219 111 (by omega)).trans ((hg213 111 (by omega)).trans ((hg194 111 (by omega)).trans (hg188 111 (by omega))))))).trans a178
  have a279 : ad241 112 = q172 := ((hg244 112 (by omega)).trans ((hg238 112 (by omega)).trans ((hg219 112 (by omega)).trans ((hg213 112 (by omega)).trans ((hg194 112 (by omega)).trans (hg188 112 (by omega))))))).trans ha173
  have a280 : ad241 113 = q184 := ((hg244 113 (by omega)).trans ((hg238 113 (by omega)).trans ((hg219 113 (by omega)).trans (hg213 113 (by omega))))).trans a203
  have a281 : ad241 114 = q197 := ((hg244 114 (by omega)).trans ((hg238 114 (by omega)).trans ((hg219 114 (by omega)).trans (hg213 114 (by omega))))).trans ha198
  have a282 : ad241 115 = q209 := ((hg244 115 (by omega)).trans (hg238 115 (by omega))).trans a228
  have a283 : ad241 116 = q222 := ((hg244 116 (by omega)).trans (hg238 116 (by omega))).trans ha223
  have h284 : w259 100 = .inr (5, [.ref q68, .ref q69, .int (nI 10), .ref q70, .ref q71, .long (lN 1), .ref q72]) := ((f261 100 (by omega)).trans ((f256 100 (by omega)).trans ((hv245 100 (by omega)).trans ((hv240 100 (by omega)).trans ((f231 100 (by omega)).trans ((hv220 100 (by omega)).trans ((hv215 100 (by omega)).trans ((f206 100 (by omega)).trans ((hv195 100 (by omega)).trans ((hv190 100 (by omega)).trans ((f181 100 (by omega)).trans ((hv170 100 (by omega)).trans ((hv165 100 (by omega)).trans ((f158 100 (by omega)).trans ((hv153 100 (by omega)).trans ((f146 100 (by omega)).trans ((hv136 100 (by omega)).trans ((hv131 100 (by omega)).trans ((f124 100 (by omega)).trans ((hv118 100 (by omega)).trans ((hv113 100 (by omega)).trans ((f106 100 (by omega)).trans ((hv100 100 (by omega)).trans ((hv95 100 (by omega)).trans (f88 100 (by omega)))))))))))))))))))))))))).trans hb78
  have h285 : w259 101 = .inl (gI g, 7, .inl (fun _ => 0)) := ((f261 101 (by omega)).trans ((f256 101 (by omega)).trans ((hv245 101 (by omega)).trans ((hv240 101 (by omega)).trans ((f231 101 (by omega)).trans ((hv220 101 (by omega)).trans ((hv215 101 (by omega)).trans ((f206 101 (by omega)).trans ((hv195 101 (by omega)).trans ((hv190 101 (by omega)).trans ((f181 101 (by omega)).trans ((hv170 101 (by omega)).trans ((hv165 101 (by omega)).trans ((f158 101 (by omega)).trans ((hv153 101 (by omega)).trans ((f146 101 (by omega)).trans ((hv136 101 (by omega)).trans ((hv131 101 (by omega)).trans ((f124 101 (by omega)).trans ((hv118 101 (by omega)).trans ((hv113 101 (by omega)).trans ((f106 101 (by omega)).trans ((hv100 101 (by omega)).trans ((hv95 101 (by omega)).trans (f88 101 (by omega)))))))))))))))))))))))))).trans hb79
  have h286 : w259 102 = .inl (gI g, 7, .inl (fun _ => 0)) := ((f261 102 (by omega)).trans ((f256 102 (by omega)).trans ((hv245 102 (by omega)).trans ((hv240 102 (by omega)).trans ((f231 102 (by omega)).trans ((hv220 102 (by omega)).trans ((hv215 102 (by omega)).trans ((f206 102 (by omega)).trans ((hv195 102 (by omega)).trans ((hv190 102 (by omega)).trans ((f181 102 (by omega)).trans ((hv170 102 (by omega)).trans ((hv165 102 (by omega)).trans ((f158 102 (by omega)).trans ((hv153 102 (by omega)).trans ((f146 102 (by omega)).trans ((hv136 102 (by omega)).trans ((hv131 102 (by omega)).trans ((f124 102 (by omega)).trans ((hv118 102 (by omega)).trans ((hv113 102 (by omega)).trans ((f106 102 (by omega)).trans ((hv100 102 (by omega)).trans ((hv95 102 (by omega)).trans (f88 102 (by omega)))))))))))))))))))))))))).trans hb80
  have h287 : w259 103 = .inl (gJ g, 7, .inr (.inl (fun _ => 0))) := ((f261 103 (by omega)).trans ((f256 103 (by omega)).trans ((hv245 103 (by omega)).trans ((hv240 103 (by omega)).trans ((f231 103 (by omega)).trans ((hv220 103 (by omega)).trans ((hv215 103 (by omega)).trans ((f206 103 (by omega)).trans ((hv195 103 (by omega)).trans ((hv190 103 (by omega)).trans ((f181 103 (by omega)).trans ((hv170 103 (by omega)).trans ((hv165 103 (by omega)).trans ((f158 103 (by omega)).trans ((hv153 103 (by omega)).trans ((f146 103 (by omega)).trans ((hv136 103 (by omega)).trans ((hv131 103 (by omega)).trans ((f124 103 (by omega)).trans ((hv118 103 (by omega)).trans ((hv113 103 (by omega)).trans ((f106 103 (by omega)).trans ((hv100 103 (by omega)).trans ((hv95 103 (by omega)).trans (f88 103 (by omega)))))))))))))))))))))))))).trans hb81
  have h288 : w259 104 = .inl (gJ g, 7, .inr (.inl (fun _ => 0))) := ((f261 104 (by omega)).trans ((f256 104 (by omega)).trans ((hv245 104 (by omega)).trans ((hv240 104 (by omega)).trans ((f231 104 (by omega)).trans ((hv220 104 (by omega)).trans ((hv215 104 (by omega)).trans ((f206 104 (by omega)).trans ((hv195 104 (by omega)).trans ((hv190 104 (by omega)).trans ((f181 104 (by omega)).trans ((hv170 104 (by omega)).trans ((hv165 104 (by omega)).trans ((f158 104 (by omega)).trans ((hv153 104 (by omega)).trans ((f146 104 (by omega)).trans ((hv136 104 (by omega)).trans ((hv131 104 (by omega)).trans ((f124 104 (by omega)).trans ((hv118 104 (by omega)).trans ((hv113 104 (by omega)).trans ((f106 104 (by omega)).trans ((hv100 104 (by omega)).trans ((hv95 104 (by omega)).trans (f88 104 (by omega)))))))))))))))))))))))))).trans hb82
  have h289 : w259 105 = .inr (0, [.long (lN 0), .long (lN 1)]) := ((f261 105 (by omega)).trans ((f256 105 (by omega)).trans ((hv245 105 (by omega)).trans ((hv240 105 (by omega)).trans ((f231 105 (by omega)).trans ((hv220 105 (by omega)).trans ((hv215 105 (by omega)).trans ((f206 105 (by omega)).trans ((hv195 105 (by omega)).trans ((hv190 105 (by omega)).trans ((f181 105 (by omega)).trans ((hv170 105 (by omega)).trans ((hv165 105 (by omega)).trans ((f158 105 (by omega)).trans ((hv153 105 (by omega)).trans ((f146 105 (by omega)).trans ((hv136 105 (by omega)).trans ((hv131 105 (by omega)).trans ((f124 105 (by omega)).trans ((hv118 105 (by omega)).trans ((hv113 105 (by omega)).trans ((f106 105 (by omega)).trans ((hv100 105 (by omega)).trans ((hv95 105 (by omega)).trans (f88 105 (by omega)))))))))))))))))))))))))).trans hb83
  have h290 : w259 106 = .inr (0, [.long (lN 0), .long (lN 1)]) := ((f261 106 (by omega)).trans ((f256 106 (by omega)).trans ((hv245 106 (by omega)).trans ((hv240 106 (by omega)).trans ((f231 106 (by omega)).trans ((hv220 106 (by omega)).trans ((hv215 106 (by omega)).trans ((f206 106 (by omega)).trans ((hv195 106 (by omega)).trans ((hv190 106 (by omega)).trans ((f181 106 (by omega)).trans ((hv170 106 (by omega)).trans ((hv165 106 (by omega)).trans ((f158 106 (by omega)).trans ((hv153 106 (by omega)).trans ((f146 106 (by omega)).trans ((hv136 106 (by omega)).trans ((hv131 106 (by omega)).trans ((f124 106 (by omega)).trans ((hv118 106 (by omega)).trans ((hv113 106 (by omega)).trans (f106 106 (by omega))))))))))))))))))))))).trans x101
  have h291 : w259 107 = .inr (0, [.long (lN 0), .long (lN 1)]) := ((f261 107 (by omega)).trans ((f256 107 (by omega)).trans ((hv245 107 (by omega)).trans ((hv240 107 (by omega)).trans ((f231 107 (by omega)).trans ((hv220 107 (by omega)).trans ((hv215 107 (by omega)).trans ((f206 107 (by omega)).trans ((hv195 107 (by omega)).trans ((hv190 107 (by omega)).trans ((f181 107 (by omega)).trans ((hv170 107 (by omega)).trans ((hv165 107 (by omega)).trans ((f158 107 (by omega)).trans ((hv153 107 (by omega)).trans ((f146 107 (by omega)).trans ((hv136 107 (by omega)).trans ((hv131 107 (by omega)).trans (f124 107 (by omega)))))))))))))))))))).trans x119
  have h292 : w259 108 = .inr (3, [.ref q138, .int (nI 0), .int (nI 0)]) := ((f261 108 (by omega)).trans ((f256 108 (by omega)).trans ((hv245 108 (by omega)).trans ((hv240 108 (by omega)).trans ((f231 108 (by omega)).trans ((hv220 108 (by omega)).trans ((hv215 108 (by omega)).trans ((f206 108 (by omega)).trans ((hv195 108 (by omega)).trans ((hv190 108 (by omega)).trans ((f181 108 (by omega)).trans ((hv170 108 (by omega)).trans ((hv165 108 (by omega)).trans ((f158 108 (by omega)).trans ((hv153 108 (by omega)).trans (f146 108 (by omega))))))))))))))))).trans hb140
  have h293 : w259 109 = .inl (gI g, 80, .inl (fun _ => 0)) := ((f261 109 (by omega)).trans ((f256 109 (by omega)).trans ((hv245 109 (by omega)).trans ((hv240 109 (by omega)).trans ((f231 109 (by omega)).trans ((hv220 109 (by omega)).trans ((hv215 109 (by omega)).trans ((f206 109 (by omega)).trans ((hv195 109 (by omega)).trans ((hv190 109 (by omega)).trans ((f181 109 (by omega)).trans ((hv170 109 (by omega)).trans ((hv165 109 (by omega)).trans ((f158 109 (by omega)).trans ((hv153 109 (by omega)).trans (f146 109 (by omega))))))))))))))))).trans hb141
  have h294 : w259 110 = .inl (gS g, 4, .inr (.inr (.inr (.inr (va_up (va_up (va_up (va_up (fun _ => none) 0 (some q159)) 1 (some q184)) 2 (some q209)) 3 (some q234)))))) := (f261 110 (by omega)).trans e255
  have h295 : w259 111 = .inr (4, [.int (nI 0), .int (nI 0), .int (nI 0), .ref q172]) := ((f261 111 (by omega)).trans ((f256 111 (by omega)).trans ((hv245 111 (by omega)).trans ((hv240 111 (by omega)).trans ((f231 111 (by omega)).trans ((hv220 111 (by omega)).trans ((hv215 111 (by omega)).trans ((f206 111 (by omega)).trans ((hv195 111 (by omega)).trans ((hv190 111 (by omega)).trans (f181 111 (by omega)))))))))))).trans hb174
  have h296 : w259 112 = .inl (gJ g, 24, .inr (.inl (fun _ => 0))) := ((f261 112 (by omega)).trans ((f256 112 (by omega)).trans ((hv245 112 (by omega)).trans ((hv240 112 (by omega)).trans ((f231 112 (by omega)).trans ((hv220 112 (by omega)).trans ((hv215 112 (by omega)).trans ((f206 112 (by omega)).trans ((hv195 112 (by omega)).trans ((hv190 112 (by omega)).trans (f181 112 (by omega)))))))))))).trans hb175
  have h297 : w259 113 = .inr (4, [.int (nI 0), .int (nI 0), .int (nI 0), .ref q197]) := ((f261 113 (by omega)).trans ((f256 113 (by omega)).trans ((hv245 113 (by omega)).trans ((hv240 113 (by omega)).trans ((f231 113 (by omega)).trans ((hv220 113 (by omega)).trans ((hv215 113 (by omega)).trans (f206 113 (by omega))))))))).trans hb199
  have h298 : w259 114 = .inl (gJ g, 24, .inr (.inl (fun _ => 0))) := ((f261 114 (by omega)).trans ((f256 114 (by omega)).trans ((hv245 114 (by omega)).trans ((hv240 114 (by omega)).trans ((f231 114 (by omega)).trans ((hv220 114 (by omega)).trans ((hv215 114 (by omega)).trans (f206 114 (by omega))))))))).trans hb200
  have h299 : w259 115 = .inr (4, [.int (nI 0), .int (nI 0), .int (nI 0), .ref q222]) := ((f261 115 (by omega)).trans ((f256 115 (by omega)).trans ((hv245 115 (by omega)).trans ((hv240 115 (by omega)).trans (f231 115 (by omega)))))).trans hb224
  have h300 : w259 116 = .inl (gJ g, 24, .inr (.inl (fun _ => 0))) := ((f261 116 (by omega)).trans ((f256 116 (by omega)).trans ((hv245 116 (by omega)).trans ((hv240 116 (by omega)).trans (f231 116 (by omega)))))).trans hb225
  have h301 : w259 117 = .inr (4, [.int (nI 0), .int (nI 0), .int (nI 0), .ref q247]) := ((f261 117 (by omega)).trans (f256 117 (by omega))).trans hb249
  have h302 : w259 118 = .inl (gJ g, 24, .inr (.inl (fun _ => 0))) := ((f261 118 (by omega)).trans (f256 118 (by omega))).trans hb250
  have hX : w259 0 = cX0 (gx g ad241 119) 0 := e260.trans (by rw [← a265, ← a266, ← a267, ← a268, ← a274, ← a275, ← a276, ← a251]; rfl)
  have hWy : XWays (gx g ad241 119) w259 := ⟨10, 1, 0, 1, zF, zF, zF, zF, h284.trans (by rw [← a269, ← a270, ← a271, ← a272, ← a273]; rfl), h285.trans (zI_c (o := 0) (L := zF) (fun _ _ => rfl)), h286.trans (zI_c (o := 0) (L := zF) (fun _ _ => rfl)), h287.trans (zJ_c (o := 0) (L := zF) (fun _ _ => rfl)), h288.trans (zJ_c (o := 0) (L := zF) (fun _ _ => rfl)), h289⟩
  have hRd : XRead (gx g ad241 119) 0 zF w259 := ⟨0, h292.trans (by rw [← a277]; rfl), h293.trans (zI_c (o := 0) (L := zF) (fun _ _ => rfl))⟩
  have hS0 : XSheet (gx g ad241 119) 0 0 0 (fun _ => 0) w259 := ⟨0, 0, 0, fun _ => 0, h295.trans (by rw [← a279]; rfl), h296.trans (by rw [← kK_z]; rfl), fun _ => rfl, fun h => absurd h (Nat.lt_irrefl 0)⟩
  have hS1 : XSheet (gx g ad241 119) 1 0 0 (fun _ => 0) w259 := ⟨0, 0, 0, fun _ => 0, h297.trans (by rw [← a281]; rfl), h298.trans (by rw [← kK_z]; rfl), fun _ => rfl, fun h => absurd h (Nat.lt_irrefl 0)⟩
  have hS2 : XSheet (gx g ad241 119) 2 0 0 (fun _ => 0) w259 := ⟨0, 0, 0, fun _ => 0, h299.trans (by rw [← a283]; rfl), h300.trans (by rw [← kK_z]; rfl), fun _ => rfl, fun h => absurd h (Nat.lt_irrefl 0)⟩
  have hS3 : XSheet (gx g ad241 119) 3 0 0 (fun _ => 0) w259 := ⟨0, 0, 0, fun _ => 0, h301.trans (by rw [← ha248]; rfl), h302.trans (by rw [← kK_z]; rfl), fun _ => rfl, fun h => absurd h (Nat.lt_irrefl 0)⟩
  have hF : (va_up (va_up (va_up (va_up (fun _ => none) 0 (some q159)) 1 (some q184)) 2 (some q209)) 3 (some q234)) = kK none 4 0 (fun s => some (ad241 (111 + 2 * s))) := by
    funext j
    by_cases hj : j < 4
    · rw [kK_at hj, Nat.zero_add]
      rcases (show j = 0 ∨ j = 1 ∨ j = 2 ∨ j = 3 by omega) with rfl | rfl | rfl | rfl
      · exact congrArg some a278.symm
      · exact congrArg some a280.symm
      · exact congrArg some a282.symm
      · exact congrArg some a253.symm
    · rw [va_up_ne _ _ (by omega), va_up_ne _ _ (by omega), va_up_ne _ _ (by omega), va_up_ne _ _ (by omega)]
      exact (if_neg hj).symm
  have hSh : XShs (gx g ad241 119) zF zF (fun _ => 0) w259 := by
    refine ⟨h294.trans (by rw [hF]; rfl), fun s hs => ?_⟩
    rcases (show s = 0 ∨ s = 1 ∨ s = 2 ∨ s = 3 by omega) with rfl | rfl | rfl | rfl
    · exact hS0
    · exact hS1
    · exact hS2
    · exact hS3
  exact yret C hr hlk hW (Nat.le_of_ble_eq_true rfl) (Nat.le_of_ble_eq_true rfl) ⟨(fun i hi => ((hg244 i (by omega)).trans ((hg238 i (by omega)).trans ((hg219 i (by omega)).trans ((hg213 i (by omega)).trans ((hg194 i (by omega)).trans ((hg188 i (by omega)).trans ((hg169 i (by omega)).trans ((hg163 i (by omega)).trans ((hg151 i (by omega)).trans ((hg135 i (by omega)).trans ((hg129 i (by omega)).trans ((hg117 i (by omega)).trans ((hg111 i (by omega)).trans ((hg99 i (by omega)).trans ((hg93 i (by omega)).trans ((hg65 i (by omega)).trans ((hg59 i (by omega)).trans ((hg47 i (by omega)).trans ((hg41 i (by omega)).trans ((hg29 i (by omega)).trans ((hg23 i (by omega)).trans ((hg11 i (by omega)).trans (hg5 i (by omega))))))))))))))))))))))))), (fun i hi => ((f261 i (by omega)).trans ((f256 i (by omega)).trans ((hv245 i (by omega)).trans ((hv240 i (by omega)).trans ((f231 i (by omega)).trans ((hv220 i (by omega)).trans ((hv215 i (by omega)).trans ((f206 i (by omega)).trans ((hv195 i (by omega)).trans ((hv190 i (by omega)).trans ((f181 i (by omega)).trans ((hv170 i (by omega)).trans ((hv165 i (by omega)).trans ((f158 i (by omega)).trans ((hv153 i (by omega)).trans ((f146 i (by omega)).trans ((hv136 i (by omega)).trans ((hv131 i (by omega)).trans ((f124 i (by omega)).trans ((hv118 i (by omega)).trans ((hv113 i (by omega)).trans ((f106 i (by omega)).trans ((hv100 i (by omega)).trans ((hv95 i (by omega)).trans ((f88 i (by omega)).trans ((hv66 i (by omega)).trans ((hv61 i (by omega)).trans ((f54 i (by omega)).trans ((hv48 i (by omega)).trans ((hv43 i (by omega)).trans ((f36 i (by omega)).trans ((hv30 i (by omega)).trans ((hv25 i (by omega)).trans ((f18 i (by omega)).trans ((hv12 i (by omega)).trans (hv7 i (by omega)))))))))))))))))))))))))))))))))))))), ⟨hX, NLand.x k262, ⟨zD 1, NLand.x k263, fun _ => rfl⟩, ⟨_, _, _, _, k264.1, k264.2.1⟩, hWy, ⟨0, 1, 0, 1, h290, h291⟩, hRd, hSh⟩⟩ dX6_init_120

set_option maxHeartbeats 4000000 in
set_option maxRecDepth 100000 in
theorem n_X7_init (l : Launch) (g : GE) (ad : Nat → Nat) (w : Nat → va_E) (a sz : Nat) (hI : AdInj (gx g ad 120)) (ha0 : ad 119 = a) (hb0 : w 119 = .inr (7, [.null, .null, .null, .int 0, .null, .int 0, .int 0, .null, .null, .null, .null, .int 0, .null, .null, .long 0, .long 0, .long 0, .long 0, .long 0])) : Met l yX7_init wsX7_init ({ frames := 1, cells := 10, slots := 906, locals := 12 } : Room) (XPn g 120 ad w sz [.ref a]) (XQn g 130 (fun ad' w' => (∀ i, i < 120 → ad' i = ad i) ∧ (∀ i, i < 119 → w' i = w i) ∧ MAll (gx g ad' 130) (zD 1, zD 1, 0, 0, zF, zF, zF, fun _ => 0) w') (gB 120 ad sz)) 10 906 (gB 120 ad sz) := by
  refine ymet (cc := cX7_init) (maxL := 2) (by decide) rfl rfl hI (Nat.le_of_ble_eq_true rfl) ?_
  intro pG eG sG mG belowG methG cG ls C hr hlk hnm hK hA hW hl
  have hl : lv_has ls 2 [(0, .ref a)] := hl
  have hinX7 : ∀ x ∈ u_ws RX7 TX7 19, x ∈ wsX7_init := by decide +kernel
  refine lv_aload_n C.1 C.2.1 dX7_init_0 rfl (lv_at hl 0 rfl) ?_
  refine W.objInit C.1 C.2.1 C.2.2.2.1 (C.2.2.2.2 _ (List.mem_of_getElem? (i := 1) rfl)) (C.2.2.2.2 _ (List.mem_of_getElem? (i := 2) rfl)) (C.2.2.2.2 _ (List.mem_of_getElem? (i := 3) rfl)) rfl (hl.1.trans C.2.2.1.symm) rfl dX7_init_1 (Nat.le_of_ble_eq_true rfl) (Nat.le_of_ble_eq_true rfl) ?_
  show W _ _ _ _ _ _ _ _ _ _ _ _ _ _ _ (F0 mG 4 ls [])
  refine lv_aload_n C.1 C.2.1 dX7_init_4 rfl (lv_at hl 0 rfl) ?_
  refine lv_iconst (v := (nI 4)) C.1 C.2.1 dX7_init_5 (by decide) ?_
  refine ynewI C hK hW hA (List.mem_of_getElem? (i := 4) rfl) (n := 4) (by decide) (Nat.le_of_ble_eq_true rfl) (Nat.le_of_ble_eq_true rfl) dX7_init_6 (fun q1 ad2 w3 H ha4 hg5 hb6 hv7 hW => ?_)
  refine W.widen (k := 1) (n := 4) (Nat.le_of_ble_eq_true rfl) (Nat.le_of_ble_eq_true rfl) ?_
  have a8 : ad2 119 = a := (hg5 119 (by omega)).trans ha0
  have h9 : w3 119 = .inr (7, [.null, .null, .null, .int 0, .null, .int 0, .int 0, .null, .null, .null, .null, .int 0, .null, .null, .long 0, .long 0, .long 0, .long 0, .long 0]) := (hv7 119 (by omega)).trans hb0
  refine yputF (v := .ref q1) C hnm hK hW hinX7 tyX7_ok nmX7 rfl (by omega) a8 h9 0 (by decide) (List.mem_of_getElem? (i := 5) rfl) rfl rfl rfl rfl (Nat.le_of_ble_eq_true rfl) dX7_init_8 (fun w10 H locs e11 f12 hW => ?_)
  refine lv_aload_n C.1 C.2.1 dX7_init_11 rfl (lv_at hl 0 rfl) ?_
  refine lv_iconst (v := (nI 4)) C.1 C.2.1 dX7_init_12 (by decide) ?_
  refine ynewI C hK hW hA (List.mem_of_getElem? (i := 4) rfl) (n := 4) (by decide) (Nat.le_of_ble_eq_true rfl) (Nat.le_of_ble_eq_true rfl) dX7_init_13 (fun q13 ad14 w15 H ha16 hg17 hb18 hv19 hW => ?_)
  refine W.widen (k := 2) (n := 8) (Nat.le_of_ble_eq_true rfl) (Nat.le_of_ble_eq_true rfl) ?_
  have a20 : ad14 119 = a := (hg17 119 (by omega)).trans a8
  have h21 : w15 119 = .inr (7, [.ref q1, .null, .null, .int 0, .null, .int 0, .int 0, .null, .null, .null, .null, .int 0, .null, .null, .long 0, .long 0, .long 0, .long 0, .long 0]) := (hv19 119 (by omega)).trans e11
  refine yputF (v := .ref q13) C hnm hK hW hinX7 tyX7_ok nmX7 rfl (by omega) a20 h21 1 (by decide) (List.mem_of_getElem? (i := 6) rfl) rfl rfl rfl rfl (Nat.le_of_ble_eq_true rfl) dX7_init_15 (fun w22 H locs e23 f24 hW => ?_)
  refine lv_aload_n C.1 C.2.1 dX7_init_18 rfl (lv_at hl 0 rfl) ?_
  refine lv_bipush (v := (nI 96)) C.1 C.2.1 dX7_init_19 (by decide) ?_
  refine ynewJ C hK hW hA (List.mem_of_getElem? (i := 7) rfl) (n := 96) (by decide) (Nat.le_of_ble_eq_true rfl) (Nat.le_of_ble_eq_true rfl) dX7_init_21 (fun q25 ad26 w27 H ha28 hg29 hb30 hv31 hW => ?_)
  refine W.widen (k := 3) (n := 104) (Nat.le_of_ble_eq_true rfl) (Nat.le_of_ble_eq_true rfl) ?_
  have a32 : ad26 119 = a := (hg29 119 (by omega)).trans a20
  have h33 : w27 119 = .inr (7, [.ref q1, .ref q13, .null, .int 0, .null, .int 0, .int 0, .null, .null, .null, .null, .int 0, .null, .null, .long 0, .long 0, .long 0, .long 0, .long 0]) := (hv31 119 (by omega)).trans e23
  refine yputF (v := .ref q25) C hnm hK hW hinX7 tyX7_ok nmX7 rfl (by omega) a32 h33 2 (by decide) (List.mem_of_getElem? (i := 8) rfl) rfl rfl rfl rfl (Nat.le_of_ble_eq_true rfl) dX7_init_23 (fun w34 H locs e35 f36 hW => ?_)
  refine lv_aload_n C.1 C.2.1 dX7_init_26 rfl (lv_at hl 0 rfl) ?_
  refine lv_bipush (v := (nI 80)) C.1 C.2.1 dX7_init_27 (by decide) ?_
  refine ynewI C hK hW hA (List.mem_of_getElem? (i := 4) rfl) (n := 80) (by decide) (Nat.le_of_ble_eq_true rfl) (Nat.le_of_ble_eq_true rfl) dX7_init_29 (fun q37 ad38 w39 H ha40 hg41 hb42 hv43 hW => ?_)
  refine W.widen (k := 4) (n := 184) (Nat.le_of_ble_eq_true rfl) (Nat.le_of_ble_eq_true rfl) ?_
  have a44 : ad38 119 = a := (hg41 119 (by omega)).trans a32
  have h45 : w39 119 = .inr (7, [.ref q1, .ref q13, .ref q25, .int 0, .null, .int 0, .int 0, .null, .null, .null, .null, .int 0, .null, .null, .long 0, .long 0, .long 0, .long 0, .long 0]) := (hv43 119 (by omega)).trans e35
  refine yputF (v := .ref q37) C hnm hK hW hinX7 tyX7_ok nmX7 rfl (by omega) a44 h45 4 (by decide) (List.mem_of_getElem? (i := 9) rfl) rfl rfl rfl rfl (Nat.le_of_ble_eq_true rfl) dX7_init_31 (fun w46 H locs e47 f48 hW => ?_)
  refine lv_aload_n C.1 C.2.1 dX7_init_34 rfl (lv_at hl 0 rfl) ?_
  refine lv_sipush (v := (nI 177)) C.1 C.2.1 dX7_init_35 (by decide) ?_
  refine ynewI C hK hW hA (List.mem_of_getElem? (i := 4) rfl) (n := 177) (by decide) (Nat.le_of_ble_eq_true rfl) (Nat.le_of_ble_eq_true rfl) dX7_init_38 (fun q49 ad50 w51 H ha52 hg53 hb54 hv55 hW => ?_)
  refine W.widen (k := 5) (n := 361) (Nat.le_of_ble_eq_true rfl) (Nat.le_of_ble_eq_true rfl) ?_
  have a56 : ad50 119 = a := (hg53 119 (by omega)).trans a44
  have h57 : w51 119 = .inr (7, [.ref q1, .ref q13, .ref q25, .int 0, .ref q37, .int 0, .int 0, .null, .null, .null, .null, .int 0, .null, .null, .long 0, .long 0, .long 0, .long 0, .long 0]) := (hv55 119 (by omega)).trans e47
  refine yputF (v := .ref q49) C hnm hK hW hinX7 tyX7_ok nmX7 rfl (by omega) a56 h57 7 (by decide) (List.mem_of_getElem? (i := 10) rfl) rfl rfl rfl rfl (Nat.le_of_ble_eq_true rfl) dX7_init_40 (fun w58 H locs e59 f60 hW => ?_)
  refine lv_aload_n C.1 C.2.1 dX7_init_43 rfl (lv_at hl 0 rfl) ?_
  refine lv_sipush (v := (nI 177)) C.1 C.2.1 dX7_init_44 (by decide) ?_
  refine ynewI C hK hW hA (List.mem_of_getElem? (i := 4) rfl) (n := 177) (by decide) (Nat.le_of_ble_eq_true rfl) (Nat.le_of_ble_eq_true rfl) dX7_init_47 (fun q61 ad62 w63 H ha64 hg65 hb66 hv67 hW => ?_)
  refine W.widen (k := 6) (n := 538) (Nat.le_of_ble_eq_true rfl) (Nat.le_of_ble_eq_true rfl) ?_
  have a68 : ad62 119 = a := (hg65 119 (by omega)).trans a56
  have h69 : w63 119 = .inr (7, [.ref q1, .ref q13, .ref q25, .int 0, .ref q37, .int 0, .int 0, .ref q49, .null, .null, .null, .int 0, .null, .null, .long 0, .long 0, .long 0, .long 0, .long 0]) := (hv67 119 (by omega)).trans e59
  refine yputF (v := .ref q61) C hnm hK hW hinX7 tyX7_ok nmX7 rfl (by omega) a68 h69 8 (by decide) (List.mem_of_getElem? (i := 11) rfl) rfl rfl rfl rfl (Nat.le_of_ble_eq_true rfl) dX7_init_49 (fun w70 H locs e71 f72 hW => ?_)
  refine lv_aload_n C.1 C.2.1 dX7_init_52 rfl (lv_at hl 0 rfl) ?_
  refine lv_sipush (v := (nI 177)) C.1 C.2.1 dX7_init_53 (by decide) ?_
  refine ynewI C hK hW hA (List.mem_of_getElem? (i := 4) rfl) (n := 177) (by decide) (Nat.le_of_ble_eq_true rfl) (Nat.le_of_ble_eq_true rfl) dX7_init_56 (fun q73 ad74 w75 H ha76 hg77 hb78 hv79 hW => ?_)
  refine W.widen (k := 7) (n := 715) (Nat.le_of_ble_eq_true rfl) (Nat.le_of_ble_eq_true rfl) ?_
  have a80 : ad74 119 = a := (hg77 119 (by omega)).trans a68
  have h81 : w75 119 = .inr (7, [.ref q1, .ref q13, .ref q25, .int 0, .ref q37, .int 0, .int 0, .ref q49, .ref q61, .null, .null, .int 0, .null, .null, .long 0, .long 0, .long 0, .long 0, .long 0]) := (hv79 119 (by omega)).trans e71
  refine yputF (v := .ref q73) C hnm hK hW hinX7 tyX7_ok nmX7 rfl (by omega) a80 h81 9 (by decide) (List.mem_of_getElem? (i := 12) rfl) rfl rfl rfl rfl (Nat.le_of_ble_eq_true rfl) dX7_init_58 (fun w82 H locs e83 f84 hW => ?_)
  refine lv_aload_n C.1 C.2.1 dX7_init_61 rfl (lv_at hl 0 rfl) ?_
  refine lv_sipush (v := (nI 177)) C.1 C.2.1 dX7_init_62 (by decide) ?_
  refine ynewI C hK hW hA (List.mem_of_getElem? (i := 4) rfl) (n := 177) (by decide) (Nat.le_of_ble_eq_true rfl) (Nat.le_of_ble_eq_true rfl) dX7_init_65 (fun q85 ad86 w87 H ha88 hg89 hb90 hv91 hW => ?_)
  refine W.widen (k := 8) (n := 892) (Nat.le_of_ble_eq_true rfl) (Nat.le_of_ble_eq_true rfl) ?_
  have a92 : ad86 119 = a := (hg89 119 (by omega)).trans a80
  have h93 : w87 119 = .inr (7, [.ref q1, .ref q13, .ref q25, .int 0, .ref q37, .int 0, .int 0, .ref q49, .ref q61, .ref q73, .null, .int 0, .null, .null, .long 0, .long 0, .long 0, .long 0, .long 0]) := (hv91 119 (by omega)).trans e83
  refine yputF (v := .ref q85) C hnm hK hW hinX7 tyX7_ok nmX7 rfl (by omega) a92 h93 10 (by decide) (List.mem_of_getElem? (i := 13) rfl) rfl rfl rfl rfl (Nat.le_of_ble_eq_true rfl) dX7_init_67 (fun w94 H locs e95 f96 hW => ?_)
  refine lv_aload_n C.1 C.2.1 dX7_init_70 rfl (lv_at hl 0 rfl) ?_
  refine lv_bipush (v := (nI 7)) C.1 C.2.1 dX7_init_71 (by decide) ?_
  refine ynewJ C hK hW hA (List.mem_of_getElem? (i := 7) rfl) (n := 7) (by decide) (Nat.le_of_ble_eq_true rfl) (Nat.le_of_ble_eq_true rfl) dX7_init_73 (fun q97 ad98 w99 H ha100 hg101 hb102 hv103 hW => ?_)
  refine W.widen (k := 9) (n := 899) (Nat.le_of_ble_eq_true rfl) (Nat.le_of_ble_eq_true rfl) ?_
  have a104 : ad98 119 = a := (hg101 119 (by omega)).trans a92
  have h105 : w99 119 = .inr (7, [.ref q1, .ref q13, .ref q25, .int 0, .ref q37, .int 0, .int 0, .ref q49, .ref q61, .ref q73, .ref q85, .int 0, .null, .null, .long 0, .long 0, .long 0, .long 0, .long 0]) := (hv103 119 (by omega)).trans e95
  refine yputF (v := .ref q97) C hnm hK hW hinX7 tyX7_ok nmX7 rfl (by omega) a104 h105 12 (by decide) (List.mem_of_getElem? (i := 14) rfl) rfl rfl rfl rfl (Nat.le_of_ble_eq_true rfl) dX7_init_75 (fun w106 H locs e107 f108 hW => ?_)
  refine lv_aload_n C.1 C.2.1 dX7_init_78 rfl (lv_at hl 0 rfl) ?_
  refine lv_bipush (v := (nI 7)) C.1 C.2.1 dX7_init_79 (by decide) ?_
  refine ynewJ C hK hW hA (List.mem_of_getElem? (i := 7) rfl) (n := 7) (by decide) (Nat.le_of_ble_eq_true rfl) (Nat.le_of_ble_eq_true rfl) dX7_init_81 (fun q109 ad110 w111 H ha112 hg113 hb114 hv115 hW => ?_)
  refine W.widen (k := 10) (n := 906) (Nat.le_of_ble_eq_true rfl) (Nat.le_of_ble_eq_true rfl) ?_
  have a116 : ad110 119 = a := (hg113 119 (by omega)).trans a104
  have h117 : w111 119 = .inr (7, [.ref q1, .ref q13, .ref q25, .int 0, .ref q37, .int 0, .int 0, .ref q49, .ref q61, .ref q73, .ref q85, .int 0, .ref q97, .null, .long 0, .long 0, .long 0, .long 0, .long 0]) := (hv115 119 (by omega)).trans e107
  refine yputF (v := .ref q109) C hnm hK hW hinX7 tyX7_ok nmX7 rfl (by omega) a116 h117 13 (by decide) (List.mem_of_getElem? (i := 15) rfl) rfl rfl rfl rfl (Nat.le_of_ble_eq_true rfl) dX7_init_83 (fun w118 H locs e119 f120 hW => ?_)
  refine lv_iconst (v := (nI 0)) C.1 C.2.1 dX7_init_86 (by decide) ?_
  refine lv_istore_n (lv' := [(1, .int (nI 0)), (0, .ref a)]) C.1 C.2.1 dX7_init_87 rfl hl (by decide) rfl (fun ls hl => ?_)
  refine lv_iload_n C.1 C.2.1 dX7_init_88 rfl (lv_at hl 0 rfl) ?_
  refine lv_iconst (v := (nI 4)) C.1 C.2.1 dX7_init_89 (by decide) ?_
  refine xge (tgt := 106) C (by omega) (by omega) dX7_init_90 (by decide) (fun c90 => absurd c90 (by omega)) (fun c90 => ?_)
  refine lv_aload_n C.1 C.2.1 dX7_init_93 rfl (lv_at hl 1 rfl) ?_
  refine yget C hK hW hinX7 rfl (by omega) a116 e119 0 (by decide) (List.mem_of_getElem? (i := 5) rfl) rfl dX7_init_94 ?_
  refine lv_iload_n C.1 C.2.1 dX7_init_97 rfl (lv_at hl 0 rfl) ?_
  refine lv_iconst (v := (-1 : Int32)) C.1 C.2.1 dX7_init_98 (by decide) ?_
  have a121 : ad110 120 = q1 := ((hg113 120 (by omega)).trans ((hg101 120 (by omega)).trans ((hg89 120 (by omega)).trans ((hg77 120 (by omega)).trans ((hg65 120 (by omega)).trans ((hg53 120 (by omega)).trans ((hg41 120 (by omega)).trans ((hg29 120 (by omega)).trans (hg17 120 (by omega)))))))))).trans ha4
  have h122 : w118 120 = .inl (gI g, 4, .inl (fun _ => 0)) := ((f120 120 (by omega)).trans ((hv115 120 (by omega)).trans ((f108 120 (by omega)).trans ((hv103 120 (by omega)).trans ((f96 120 (by omega)).trans ((hv91 120 (by omega)).trans ((f84 120 (by omega)).trans ((hv79 120 (by omega)).trans ((f72 120 (by omega)).trans ((hv67 120 (by omega)).trans ((f60 120 (by omega)).trans ((hv55 120 (by omega)).trans ((f48 120 (by omega)).trans ((hv43 120 (by omega)).trans ((f36 120 (by omega)).trans ((hv31 120 (by omega)).trans ((f24 120 (by omega)).trans ((hv19 120 (by omega)).trans (f12 120 (by omega)))))))))))))))))))).trans hb6
  refine yistI C hK hW (j := 0) (by omega) a121 h122 (by decide) (by decide) dX7_init_99 (fun w123 H locs e124 f125 hW => ?_)
  refine lv_iinc (v := nI 1) (lv' := [(1, .int (nI 1)), (0, .ref a)]) C.1 C.2.1 dX7_init_100 hl (k := 0) rfl (nI_add _ 1) (by decide) rfl (fun ls hl => ?_)
  refine lv_goto (tgt := 88) C.1 C.2.1 dX7_init_103 (by decide) ?_
  refine lv_iload_n C.1 C.2.1 dX7_init_88 rfl (lv_at hl 0 rfl) ?_
  refine lv_iconst (v := (nI 4)) C.1 C.2.1 dX7_init_89 (by decide) ?_
  refine xge (tgt := 106) C (by omega) (by omega) dX7_init_90 (by decide) (fun c90 => absurd c90 (by omega)) (fun c90 => ?_)
  refine lv_aload_n C.1 C.2.1 dX7_init_93 rfl (lv_at hl 1 rfl) ?_
  have h126 : w123 119 = .inr (7, [.ref q1, .ref q13, .ref q25, .int 0, .ref q37, .int 0, .int 0, .ref q49, .ref q61, .ref q73, .ref q85, .int 0, .ref q97, .ref q109, .long 0, .long 0, .long 0, .long 0, .long 0]) := (f125 119 (by omega)).trans e119
  refine yget C hK hW hinX7 rfl (by omega) a116 h126 0 (by decide) (List.mem_of_getElem? (i := 5) rfl) rfl dX7_init_94 ?_
  refine lv_iload_n C.1 C.2.1 dX7_init_97 rfl (lv_at hl 0 rfl) ?_
  refine lv_iconst (v := (-1 : Int32)) C.1 C.2.1 dX7_init_98 (by decide) ?_
  refine yistI C hK hW (j := 1) (by omega) a121 e124 (by decide) (by decide) dX7_init_99 (fun w127 H locs e128 f129 hW => ?_)
  refine lv_iinc (v := nI 2) (lv' := [(1, .int (nI 2)), (0, .ref a)]) C.1 C.2.1 dX7_init_100 hl (k := 0) rfl (nI_add _ 1) (by decide) rfl (fun ls hl => ?_)
  refine lv_goto (tgt := 88) C.1 C.2.1 dX7_init_103 (by decide) ?_
  refine lv_iload_n C.1 C.2.1 dX7_init_88 rfl (lv_at hl 0 rfl) ?_
  refine lv_iconst (v := (nI 4)) C.1 C.2.1 dX7_init_89 (by decide) ?_
  refine xge (tgt := 106) C (by omega) (by omega) dX7_init_90 (by decide) (fun c90 => absurd c90 (by omega)) (fun c90 => ?_)
  refine lv_aload_n C.1 C.2.1 dX7_init_93 rfl (lv_at hl 1 rfl) ?_
  have h130 : w127 119 = .inr (7, [.ref q1, .ref q13, .ref q25, .int 0, .ref q37, .int 0, .int 0, .ref q49, .ref q61, .ref q73, .ref q85, .int 0, .ref q97, .ref q109, .long 0, .long 0, .long 0, .long 0, .long 0]) := (f129 119 (by omega)).trans h126
  refine yget C hK hW hinX7 rfl (by omega) a116 h130 0 (by decide) (List.mem_of_getElem? (i := 5) rfl) rfl dX7_init_94 ?_
  refine lv_iload_n C.1 C.2.1 dX7_init_97 rfl (lv_at hl 0 rfl) ?_
  refine lv_iconst (v := (-1 : Int32)) C.1 C.2.1 dX7_init_98 (by decide) ?_
  refine yistI C hK hW (j := 2) (by omega) a121 e128 (by decide) (by decide) dX7_init_99 (fun w131 H locs e132 f133 hW => ?_)
  refine lv_iinc (v := nI 3) (lv' := [(1, .int (nI 3)), (0, .ref a)]) C.1 C.2.1 dX7_init_100 hl (k := 0) rfl (nI_add _ 1) (by decide) rfl (fun ls hl => ?_)
  refine lv_goto (tgt := 88) C.1 C.2.1 dX7_init_103 (by decide) ?_
  refine lv_iload_n C.1 C.2.1 dX7_init_88 rfl (lv_at hl 0 rfl) ?_
  refine lv_iconst (v := (nI 4)) C.1 C.2.1 dX7_init_89 (by decide) ?_
  refine xge (tgt := 106) C (by omega) (by omega) dX7_init_90 (by decide) (fun c90 => absurd c90 (by omega)) (fun c90 => ?_)
  refine lv_aload_n C.1 C.2.1 dX7_init_93 rfl (lv_at hl 1 rfl) ?_
  have h134 : w131 119 = .inr (7, [.ref q1, .ref q13, .ref q25, .int 0, .ref q37, .int 0, .int 0, .ref q49, .ref q61, .ref q73, .ref q85, .int 0, .ref q97, .ref q109, .long 0, .long 0, .long 0, .long 0, .long 0]) := (f133 119 (by omega)).trans h130
  refine yget C hK hW hinX7 rfl (by omega) a116 h134 0 (by decide) (List.mem_of_getElem? (i := 5) rfl) rfl dX7_init_94 ?_
  refine lv_iload_n C.1 C.2.1 dX7_init_97 rfl (lv_at hl 0 rfl) ?_
  refine lv_iconst (v := (-1 : Int32)) C.1 C.2.1 dX7_init_98 (by decide) ?_
  refine yistI C hK hW (j := 3) (by omega) a121 e132 (by decide) (by decide) dX7_init_99 (fun w135 H locs e136 f137 hW => ?_)
  refine lv_iinc (v := nI 4) (lv' := [(1, .int (nI 4)), (0, .ref a)]) C.1 C.2.1 dX7_init_100 hl (k := 0) rfl (nI_add _ 1) (by decide) rfl (fun ls hl => ?_)
  refine lv_goto (tgt := 88) C.1 C.2.1 dX7_init_103 (by decide) ?_
  refine lv_iload_n C.1 C.2.1 dX7_init_88 rfl (lv_at hl 0 rfl) ?_
  refine lv_iconst (v := (nI 4)) C.1 C.2.1 dX7_init_89 (by decide) ?_
  refine xge (tgt := 106) C (by omega) (by omega) dX7_init_90 (by decide) (fun c90 => ?_) (fun c90 => absurd c90 (by omega))
  refine lv_aload_n C.1 C.2.1 dX7_init_106 rfl (lv_at hl 1 rfl) ?_
  have h138 : w135 119 = .inr (7, [.ref q1, .ref q13, .ref q25, .int 0, .ref q37, .int 0, .int 0, .ref q49, .ref q61, .ref q73, .ref q85, .int 0, .ref q97, .ref q109, .long 0, .long 0, .long 0, .long 0, .long 0]) := (f137 119 (by omega)).trans h134
  refine yget C hK hW hinX7 rfl (by omega) a116 h138 7 (by decide) (List.mem_of_getElem? (i := 10) rfl) rfl dX7_init_107 ?_
  refine lv_iconst (v := (nI 1)) C.1 C.2.1 dX7_init_110 (by decide) ?_
  refine lv_iconst (v := (nI 1)) C.1 C.2.1 dX7_init_111 (by decide) ?_
  have a139 : ad110 124 = q49 := ((hg113 124 (by omega)).trans ((hg101 124 (by omega)).trans ((hg89 124 (by omega)).trans ((hg77 124 (by omega)).trans (hg65 124 (by omega)))))).trans ha52
  have h140 : w135 124 = .inl (gI g, 177, .inl (fun _ => 0)) := ((f137 124 (by omega)).trans ((f133 124 (by omega)).trans ((f129 124 (by omega)).trans ((f125 124 (by omega)).trans ((f120 124 (by omega)).trans ((hv115 124 (by omega)).trans ((f108 124 (by omega)).trans ((hv103 124 (by omega)).trans ((f96 124 (by omega)).trans ((hv91 124 (by omega)).trans ((f84 124 (by omega)).trans ((hv79 124 (by omega)).trans ((f72 124 (by omega)).trans ((hv67 124 (by omega)).trans (f60 124 (by omega)))))))))))))))).trans hb54
  refine yistI C hK hW (j := 1) (by omega) a139 h140 (by decide) (by decide) dX7_init_112 (fun w141 H locs e142 f143 hW => ?_)
  have h144 : w141 119 = .inr (7, [.ref q1, .ref q13, .ref q25, .int 0, .ref q37, .int 0, .int 0, .ref q49, .ref q61, .ref q73, .ref q85, .int 0, .ref q97, .ref q109, .long 0, .long 0, .long 0, .long 0, .long 0]) := (f143 119 (by omega)).trans h138
  have h145 : w141 120 = .inl (gI g, 4, .inl (va_up (va_up (va_up (va_up (fun _ => 0) 0 (-1 : Int32)) 1 (-1 : Int32)) 2 (-1 : Int32)) 3 (-1 : Int32))) := (f143 120 (by omega)).trans e136
  have h146 : w141 121 = .inl (gI g, 4, .inl (fun _ => 0)) := ((f143 121 (by omega)).trans ((f137 121 (by omega)).trans ((f133 121 (by omega)).trans ((f129 121 (by omega)).trans ((f125 121 (by omega)).trans ((f120 121 (by omega)).trans ((hv115 121 (by omega)).trans ((f108 121 (by omega)).trans ((hv103 121 (by omega)).trans ((f96 121 (by omega)).trans ((hv91 121 (by omega)).trans ((f84 121 (by omega)).trans ((hv79 121 (by omega)).trans ((f72 121 (by omega)).trans ((hv67 121 (by omega)).trans ((f60 121 (by omega)).trans ((hv55 121 (by omega)).trans ((f48 121 (by omega)).trans ((hv43 121 (by omega)).trans ((f36 121 (by omega)).trans ((hv31 121 (by omega)).trans (f24 121 (by omega))))))))))))))))))))))).trans hb18
  have h147 : w141 122 = .inl (gJ g, 96, .inr (.inl (fun _ => 0))) := ((f143 122 (by omega)).trans ((f137 122 (by omega)).trans ((f133 122 (by omega)).trans ((f129 122 (by omega)).trans ((f125 122 (by omega)).trans ((f120 122 (by omega)).trans ((hv115 122 (by omega)).trans ((f108 122 (by omega)).trans ((hv103 122 (by omega)).trans ((f96 122 (by omega)).trans ((hv91 122 (by omega)).trans ((f84 122 (by omega)).trans ((hv79 122 (by omega)).trans ((f72 122 (by omega)).trans ((hv67 122 (by omega)).trans ((f60 122 (by omega)).trans ((hv55 122 (by omega)).trans ((f48 122 (by omega)).trans ((hv43 122 (by omega)).trans (f36 122 (by omega))))))))))))))))))))).trans hb30
  have h148 : w141 123 = .inl (gI g, 80, .inl (fun _ => 0)) := ((f143 123 (by omega)).trans ((f137 123 (by omega)).trans ((f133 123 (by omega)).trans ((f129 123 (by omega)).trans ((f125 123 (by omega)).trans ((f120 123 (by omega)).trans ((hv115 123 (by omega)).trans ((f108 123 (by omega)).trans ((hv103 123 (by omega)).trans ((f96 123 (by omega)).trans ((hv91 123 (by omega)).trans ((f84 123 (by omega)).trans ((hv79 123 (by omega)).trans ((f72 123 (by omega)).trans ((hv67 123 (by omega)).trans ((f60 123 (by omega)).trans ((hv55 123 (by omega)).trans (f48 123 (by omega))))))))))))))))))).trans hb42
  have h149 : w141 125 = .inl (gI g, 177, .inl (fun _ => 0)) := ((f143 125 (by omega)).trans ((f137 125 (by omega)).trans ((f133 125 (by omega)).trans ((f129 125 (by omega)).trans ((f125 125 (by omega)).trans ((f120 125 (by omega)).trans ((hv115 125 (by omega)).trans ((f108 125 (by omega)).trans ((hv103 125 (by omega)).trans ((f96 125 (by omega)).trans ((hv91 125 (by omega)).trans ((f84 125 (by omega)).trans ((hv79 125 (by omega)).trans (f72 125 (by omega))))))))))))))).trans hb66
  have h150 : w141 126 = .inl (gI g, 177, .inl (fun _ => 0)) := ((f143 126 (by omega)).trans ((f137 126 (by omega)).trans ((f133 126 (by omega)).trans ((f129 126 (by omega)).trans ((f125 126 (by omega)).trans ((f120 126 (by omega)).trans ((hv115 126 (by omega)).trans ((f108 126 (by omega)).trans ((hv103 126 (by omega)).trans ((f96 126 (by omega)).trans ((hv91 126 (by omega)).trans (f84 126 (by omega))))))))))))).trans hb78
  have h151 : w141 127 = .inl (gI g, 177, .inl (fun _ => 0)) := ((f143 127 (by omega)).trans ((f137 127 (by omega)).trans ((f133 127 (by omega)).trans ((f129 127 (by omega)).trans ((f125 127 (by omega)).trans ((f120 127 (by omega)).trans ((hv115 127 (by omega)).trans ((f108 127 (by omega)).trans ((hv103 127 (by omega)).trans (f96 127 (by omega))))))))))).trans hb90
  have h152 : w141 128 = .inl (gJ g, 7, .inr (.inl (fun _ => 0))) := ((f143 128 (by omega)).trans ((f137 128 (by omega)).trans ((f133 128 (by omega)).trans ((f129 128 (by omega)).trans ((f125 128 (by omega)).trans ((f120 128 (by omega)).trans ((hv115 128 (by omega)).trans (f108 128 (by omega))))))))).trans hb102
  have h153 : w141 129 = .inl (gJ g, 7, .inr (.inl (fun _ => 0))) := ((f143 129 (by omega)).trans ((f137 129 (by omega)).trans ((f133 129 (by omega)).trans ((f129 129 (by omega)).trans ((f125 129 (by omega)).trans (f120 129 (by omega))))))).trans hb114
  have a154 : ad110 121 = q13 := ((hg113 121 (by omega)).trans ((hg101 121 (by omega)).trans ((hg89 121 (by omega)).trans ((hg77 121 (by omega)).trans ((hg65 121 (by omega)).trans ((hg53 121 (by omega)).trans ((hg41 121 (by omega)).trans (hg29 121 (by omega))))))))).trans ha16
  have a155 : ad110 122 = q25 := ((hg113 122 (by omega)).trans ((hg101 122 (by omega)).trans ((hg89 122 (by omega)).trans ((hg77 122 (by omega)).trans ((hg65 122 (by omega)).trans ((hg53 122 (by omega)).trans (hg41 122 (by omega)))))))).trans ha28
  have a156 : ad110 123 = q37 := ((hg113 123 (by omega)).trans ((hg101 123 (by omega)).trans ((hg89 123 (by omega)).trans ((hg77 123 (by omega)).trans ((hg65 123 (by omega)).trans (hg53 123 (by omega))))))).trans ha40
  have a157 : ad110 125 = q61 := ((hg113 125 (by omega)).trans ((hg101 125 (by omega)).trans ((hg89 125 (by omega)).trans (hg77 125 (by omega))))).trans ha64
  have a158 : ad110 126 = q73 := ((hg113 126 (by omega)).trans ((hg101 126 (by omega)).trans (hg89 126 (by omega)))).trans ha76
  have a159 : ad110 127 = q85 := ((hg113 127 (by omega)).trans (hg101 127 (by omega))).trans ha88
  have a160 : ad110 128 = q97 := (hg113 128 (by omega)).trans ha100
  have hO : w141 119 = cMO (gx g ad110 130) 0 0 0 0 0 0 0 0 0 := h144.trans (by rw [← a121, ← a154, ← a155, ← a156, ← a139, ← a157, ← a158, ← a159, ← a160, ← ha112]; rfl)
  have hL : (va_up (va_up (va_up (va_up (fun _ => 0) 0 (-1 : Int32)) 1 (-1 : Int32)) 2 (-1 : Int32)) 3 (-1 : Int32)) = kK 0 4 0 (fun s => laneI (zF s)) := by
    funext j
    by_cases hj : j < 4
    · rw [kK_at hj, Nat.zero_add]
      rcases (show j = 0 ∨ j = 1 ∨ j = 2 ∨ j = 3 by omega) with rfl | rfl | rfl | rfl <;> rfl
    · rw [va_up_ne _ _ (by omega), va_up_ne _ _ (by omega), va_up_ne _ _ (by omega), va_up_ne _ _ (by omega)]
      exact (if_neg hj).symm
  have hN : (va_up (fun _ => 0) 1 (nI 1)) = cK 177 0 (zD 1) := by
    rw [show (fun _ => 0) = cK 177 0 zF from cK_z (fun _ _ => rfl), cK_up 1 (by omega)]
    rfl
  exact yret C hr hlk hW (Nat.le_of_ble_eq_true rfl) (Nat.le_of_ble_eq_true rfl) ⟨(fun i hi => ((hg113 i (by omega)).trans ((hg101 i (by omega)).trans ((hg89 i (by omega)).trans ((hg77 i (by omega)).trans ((hg65 i (by omega)).trans ((hg53 i (by omega)).trans ((hg41 i (by omega)).trans ((hg29 i (by omega)).trans ((hg17 i (by omega)).trans (hg5 i (by omega)))))))))))), (fun i hi => ((f143 i (by omega)).trans ((f137 i (by omega)).trans ((f133 i (by omega)).trans ((f129 i (by omega)).trans ((f125 i (by omega)).trans ((f120 i (by omega)).trans ((hv115 i (by omega)).trans ((f108 i (by omega)).trans ((hv103 i (by omega)).trans ((f96 i (by omega)).trans ((hv91 i (by omega)).trans ((f84 i (by omega)).trans ((hv79 i (by omega)).trans ((f72 i (by omega)).trans ((hv67 i (by omega)).trans ((f60 i (by omega)).trans ((hv55 i (by omega)).trans ((f48 i (by omega)).trans ((hv43 i (by omega)).trans ((f36 i (by omega)).trans ((hv31 i (by omega)).trans ((f24 i (by omega)).trans ((hv19 i (by omega)).trans ((f12 i (by omega)).trans (hv7 i (by omega))))))))))))))))))))))))))), ⟨0, 0, 0, 0, 0, 0, 0, zF, zF, zF, zF, zF, hO, h145.trans (by rw [hL]; rfl), h146.trans (zI_c (o := 0) (L := zF) (fun _ _ => rfl)), h147.trans (by rw [← kK_z]; rfl), h148.trans (zI_c (o := 0) (L := zF) (fun _ _ => rfl)), e142.trans (by rw [hN]; rfl), h149.trans (zI_c (o := 0) (L := zF) (fun _ _ => rfl)), h150.trans (zI_c (o := 0) (L := zF) (fun _ _ => rfl)), h151.trans (zI_c (o := 0) (L := zF) (fun _ _ => rfl)), (fun h => absurd h (by decide)), h152.trans (zJ_c (o := 0) (L := zF) (fun _ _ => rfl)), h153.trans (zJ_c (o := 0) (L := zF) (fun _ _ => rfl))⟩⟩ dX7_init_113
