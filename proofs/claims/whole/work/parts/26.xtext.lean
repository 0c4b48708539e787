/-! a text read by the class -/
theorem max_dX {T : Nat → Nat} {n p lo hi : Nat} (hh : hi ≤ 9) : (if nI 0 < dX T n p lo hi then dX T n p lo hi else nI 0) = nI (if dOk T n p lo hi then dV T n p else 0) := by
  unfold dX
  by_cases h : dOk T n p lo hi
  · rw [if_pos h, if_pos h]
    have hv := dV_in h
    have hz : ∀ t, t < 10 → (if nI 0 < nI t then nI t else nI 0) = nI t := by decide
    exact hz _ (by omega)
  · rw [if_neg h, if_neg h]
    decide

set_option maxHeartbeats 4000000 in
set_option maxRecDepth 100000 in
theorem c_X3_look (l : Launch) (g : GE) (w : Nat → va_E) (n p : Nat) (T : Nat → Nat) (hI : AdInj g) (hN : gN g = 130) (hn : n ≤ 80) (hp : p ≤ n) (hT : OkT T n) (pr0 : w 108 = .inr (3, [.ref (gad g 109), .int (nI n), .int (nI p)])) (pr1 : w 109 = .inl (gI g, 80, .inl (cK 80 0 T))) : Met l yX3_look wsX3_look ({ frames := 0, cells := 0, slots := 0, locals := 0 } : Room) (XPc g w [.ref (gad g 108)]) (XQi g (fun r w' => w' 108 = .inr (3, [.ref (gad g 109), .int (nI n), .int (nI (skp T n p))]) ∧ (∀ j : Nat, ¬ (108 ≤ j ∧ j < 109) → w' j = w j) ∧ r = (chX T n (skp T n p)))) 0 0 (gA g) := by
  refine xmet (cc := cX3_look) (maxL := 1) (ret := (some .int)) (by decide) rfl hI (Nat.le_of_ble_eq_true rfl) ?_
  intro pG eG sG mG belowG methG cG ls C hr hlk hK hW hl
  have hl : lv_has ls 1 [(0, .ref (gad g 108))] := hl
  have hinX3 : ∀ x ∈ u_ws RX3 TX3 3, x ∈ wsX3_look := by decide +kernel
  have loop0 : ∀ (kG : Nat) (q : Nat) (v0 : Nat → va_E) (H : Heap) (locs : List Loc) (ls : Array Slot), kG = n - q → (v0 108 = .inr (3, [.ref (gad g 109), .int (nI n), .int (nI q)])) → (v0 109 = .inl (gI g, 80, .inl (cK 80 0 T))) → (∀ j : Nat, ¬ (108 ≤ j ∧ j < 109) → v0 j = w j) → (q ≤ n) → (skp T n q = skp T n p) → XW g v0 (gA g) sG.heap H locs → lv_has ls 1 [(0, .ref (gad g 108))] → W pG l eG ({ frames := 0, cells := 0, slots := 0, locals := 0 } : Room) sG mG ([.ref (gad g 108)] : List Value).toArray belowG methG cG H locs 0 0 (MQ belowG (XQi g (fun r w' => w' 108 = .inr (3, [.ref (gad g 109), .int (nI n), .int (nI (skp T n p))]) ∧ (∀ j : Nat, ¬ (108 ≤ j ∧ j < 109) → w' j = w j) ∧ r = (chX T n (skp T n p)))) ([.ref (gad g 108)] : List Value).toArray sG 0 0 (gA g)) (F0 mG 0 ls []) := by
    intro k0
    induction k0 using Nat.strongRecOn with
    | _ k0 ih0 =>
    intro q v0 H locs ls hk0 fa0_0 fa0_1 hfr0 hq hs hW hl
    refine lv_aload_n C.1 C.2.1 dX3_look_0 rfl (lv_at hl 0 rfl) ?_
    refine xget C hK hW hinX3 rfl (by omega) fa0_0 2 (by decide) (List.mem_of_getElem? (i := 1) rfl) rfl dX3_look_1 ?_
    refine lv_aload_n C.1 C.2.1 dX3_look_4 rfl (lv_at hl 0 rfl) ?_
    refine xget C hK hW hinX3 rfl (by omega) fa0_0 1 (by decide) (List.mem_of_getElem? (i := 2) rfl) rfl dX3_look_5 ?_
    refine xge (tgt := 38) C (by omega) (by omega) dX3_look_8 (by decide) (fun c8 => ?_) (fun c8 => ?_)
    · have hz : skp T n p = q := hs.symm.trans (skp_stop (by omega))
      refine lv_aload_n C.1 C.2.1 dX3_look_38 rfl (lv_at hl 0 rfl) ?_
      refine xget C hK hW hinX3 rfl (by omega) fa0_0 2 (by decide) (List.mem_of_getElem? (i := 1) rfl) rfl dX3_look_39 ?_
      refine lv_aload_n C.1 C.2.1 dX3_look_42 rfl (lv_at hl 0 rfl) ?_
      refine xget C hK hW hinX3 rfl (by omega) fa0_0 1 (by decide) (List.mem_of_getElem? (i := 2) rfl) rfl dX3_look_43 ?_
      refine xge (tgt := 61) C (by omega) (by omega) dX3_look_46 (by decide) (fun c46 => ?_) (fun c46 => absurd c46 (by omega))
      refine lv_iconst (v := (-1 : Int32)) C.1 C.2.1 dX3_look_61 (by decide) ?_
      exact xret_i C hr hlk hW ⟨(by rw [hz]; exact fa0_0), (fun j z0 => (hfr0 j z0)), (by rw [hz, chX, if_neg (by omega)])⟩ dX3_look_62
    · have ht := hT q (by omega)
      refine lv_aload_n C.1 C.2.1 dX3_look_11 rfl (lv_at hl 0 rfl) ?_
      refine xget C hK hW hinX3 rfl (by omega) fa0_0 0 (by decide) (List.mem_of_getElem? (i := 3) rfl) rfl dX3_look_12 ?_
      refine lv_aload_n C.1 C.2.1 dX3_look_15 rfl (lv_at hl 0 rfl) ?_
      refine xget C hK hW hinX3 rfl (by omega) fa0_0 2 (by decide) (List.mem_of_getElem? (i := 1) rfl) rfl dX3_look_16 ?_
      refine xildK0 C hK hW (by omega) fa0_1 (by omega) (by decide) dX3_look_19 ?_
      refine lv_bipush (v := (nI 32)) C.1 C.2.1 dX3_look_20 (by decide) ?_
      refine xne (tgt := 38) C (by omega) (by omega) dX3_look_22 (by decide) (fun c22 => ?_) (fun c22 => ?_)
      · have hz : skp T n p = q := hs.symm.trans (skp_stop (by omega))
        refine lv_aload_n C.1 C.2.1 dX3_look_38 rfl (lv_at hl 0 rfl) ?_
        refine xget C hK hW hinX3 rfl (by omega) fa0_0 2 (by decide) (List.mem_of_getElem? (i := 1) rfl) rfl dX3_look_39 ?_
        refine lv_aload_n C.1 C.2.1 dX3_look_42 rfl (lv_at hl 0 rfl) ?_
        refine xget C hK hW hinX3 rfl (by omega) fa0_0 1 (by decide) (List.mem_of_getElem? (i := 2) rfl) rfl dX3_look_43 ?_
        refine xge (tgt := 61) C (by omega) (by omega) dX3_look_46 (by decide) (fun c46 => absurd c46 (by omega)) (fun c46 => ?_)
        refine lv_aload_n C.1 C.2.1 dX3_look_49 rfl (lv_at hl 0 rfl) ?_
        refine xget C hK hW hinX3 rfl (by omega) fa0_0 0 (by decide) (List.mem_of_getElem? (i := 3) rfl) rfl dX3_look_50 ?_
        refine lv_aload_n C.1 C.2.1 dX3_look_53 rfl (lv_at hl 0 rfl) ?_
        refine xget C hK hW hinX3 rfl (by omega) fa0_0 2 (by decide) (List.mem_of_getElem? (i := 1) rfl) rfl dX3_look_54 ?_
        refine xildK0 C hK hW (by omega) fa0_1 (by omega) (by decide) dX3_look_57 ?_
        refine lv_goto (tgt := 62) C.1 C.2.1 dX3_look_58 (by decide) ?_
        exact xret_i C hr hlk hW ⟨(by rw [hz]; exact fa0_0), (fun j z0 => (hfr0 j z0)), (by rw [hz, chX, if_pos (by omega)])⟩ dX3_look_62
      · refine lv_aload_n C.1 C.2.1 dX3_look_25 rfl (lv_at hl 0 rfl) ?_
        refine lv_dup C.1 C.2.1 dX3_look_26 rfl ?_
        refine xget C hK hW hinX3 rfl (by omega) fa0_0 2 (by decide) (List.mem_of_getElem? (i := 1) rfl) rfl dX3_look_27 ?_
        refine lv_iconst (v := (nI 1)) C.1 C.2.1 dX3_look_30 (by decide) ?_
        refine xadd C dX3_look_31 ?_
        refine xput (v := .int (nI (q + 1))) C hK hW hinX3 tyX3_ok nmX3 rfl (by omega) fa0_0 2 (by decide) (List.mem_of_getElem? (i := 1) rfl) rfl rfl rfl (Nat.le_of_ble_eq_true rfl) dX3_look_32 (fun w1 H locs e2 f3 hW => ?_)
        refine lv_goto (tgt := 0) C.1 C.2.1 dX3_look_35 (by decide) ?_
        have h4 : w1 109 = .inl (gI g, 80, .inl (cK 80 0 T)) := ((f3 109 (by omega)).trans fa0_1)
        exact ih0 (n - (q + 1)) (by omega) (q + 1) w1 _ _ _ rfl e2 h4 (fun j z0 => ((f3 j (by omega)).trans (hfr0 j z0))) (by omega) ((skp_go (by omega) (by omega)).symm.trans hs) hW hl
  exact loop0 _ p w _ _ _ rfl pr0 pr1 (fun j z0 => rfl) (by omega) (rfl) hW hl

set_option maxHeartbeats 4000000 in
set_option maxRecDepth 100000 in
theorem c_X3_readDigit (l : Launch) (g : GE) (w : Nat → va_E) (n p lo hi : Nat) (T : Nat → Nat) (hI : AdInj g) (hN : gN g = 130) (hn : n ≤ 80) (hp : p ≤ n) (hT : OkT T n) (hlo : lo ≤ 9) (hhi : hi ≤ 9) (pr0 : w 108 = .inr (3, [.ref (gad g 109), .int (nI n), .int (nI p)])) (pr1 : w 109 = .inl (gI g, 80, .inl (cK 80 0 T))) : Met l yX3_readDigit wsX3_readDigit ({ frames := 1, cells := 0, slots := 0, locals := 22 } : Room) (XPc g w [.ref (gad g 108), .int (nI lo), .int (nI hi)]) (XQi g (fun r w' => w' 108 = .inr (3, [.ref (gad g 109), .int (nI n), .int (nI (dP T n p lo hi))]) ∧ (∀ j : Nat, ¬ (108 ≤ j ∧ j < 109) → w' j = w j) ∧ r = (dX T n p lo hi))) 0 0 (gA g) := by
  refine xmet (cc := cX3_readDigit) (maxL := 4) (ret := (some .int)) (by decide) rfl hI (Nat.le_of_ble_eq_true rfl) ?_
  intro pG eG sG mG belowG methG cG ls C hr hlk hK hW hl
  have hl : lv_has ls 4 [(0, .ref (gad g 108)), (1, .int (nI lo)), (2, .int (nI hi))] := hl
  have hinX3 : ∀ x ∈ u_ws RX3 TX3 3, x ∈ wsX3_readDigit := by decide +kernel
  refine lv_aload_n C.1 C.2.1 dX3_readDigit_0 rfl (lv_at hl 0 rfl) ?_
  refine xcV_i (n := 0) (As := []) C hK hW (c_X3_look l g w n p T hI hN (by omega) (by omega) hT pr0 pr1) gX3_readDigit_X3_look rfl ⟨rfl, rfl⟩ (by decide +kernel) ⟨Nat.le_of_ble_eq_true rfl, Nat.le_of_ble_eq_true rfl⟩ ⟨Nat.zero_le _, Nat.zero_le _⟩ rfl (by omega) pr0 rfl hl rfl (Nat.le_of_ble_eq_true rfl) dX3_readDigit_1 (fun r3 w1 H locs q2 hW => ?_)
  obtain ⟨h4, f5, rfl⟩ := q2
  refine lv_bipush (v := (nI 48)) C.1 C.2.1 dX3_readDigit_4 (by decide) ?_
  refine lv_isub C.1 C.2.1 dX3_readDigit_6 ?_
  refine lv_istore_n (lv' := [(3, .int ((chX T n (skp T n p)) - (nI 48))), (0, .ref (gad g 108)), (1, .int (nI lo)), (2, .int (nI hi))]) C.1 C.2.1 dX3_readDigit_7 rfl hl (by decide) rfl (fun ls hl => ?_)
  refine lv_iload_n C.1 C.2.1 dX3_readDigit_8 rfl (lv_at hl 0 rfl) ?_
  refine lv_iload_n C.1 C.2.1 dX3_readDigit_9 rfl (lv_at hl 2 rfl) ?_
  refine lv_iload_n C.1 C.2.1 dX3_readDigit_10 rfl (lv_at hl 3 rfl) ?_
  refine xcN_i (n := 3) (As := [.int ((chX T n (skp T n p)) - (nI 48)), .int (nI lo), .int (nI hi)]) C hK hW (c_X6_isWithin l g w1 ((chX T n (skp T n p)) - (nI 48)) (nI lo) (nI hi) hI hN) gX3_readDigit_X6_isWithin_n84 rfl ⟨rfl, rfl⟩ hK.2.2.1 (List.mem_of_getElem? (i := 10) rfl) (List.mem_of_getElem? (i := 9) rfl) (by decide +kernel) ⟨Nat.le_of_ble_eq_true rfl, Nat.le_of_ble_eq_true rfl⟩ ⟨Nat.zero_le _, Nat.zero_le _⟩ rfl hl rfl (Nat.le_of_ble_eq_true rfl) dX3_readDigit_11 (fun r8 w6 H locs q7 hW => ?_)
  obtain ⟨qw9, rfl⟩ := q7
  rw [qw9] at hW
  refine xBne (tgt := 19) C dX3_readDigit_14 (by decide) (fun c14 => ?_) (fun c14 => ?_)
  · have hd : dOk T n p lo hi := (chX_in hT hlo hhi).mp c14
    refine lv_aload_n C.1 C.2.1 dX3_readDigit_19 rfl (lv_at hl 1 rfl) ?_
    refine lv_dup C.1 C.2.1 dX3_readDigit_20 rfl ?_
    refine xget C hK hW hinX3 rfl (by omega) h4 2 (by decide) (List.mem_of_getElem? (i := 1) rfl) rfl dX3_readDigit_21 ?_
    refine lv_iconst (v := (nI 1)) C.1 C.2.1 dX3_readDigit_24 (by decide) ?_
    refine xadd C dX3_readDigit_25 ?_
    refine xput (v := .int (nI ((skp T n p) + 1))) C hK hW hinX3 tyX3_ok nmX3 rfl (by omega) h4 2 (by decide) (List.mem_of_getElem? (i := 1) rfl) rfl rfl rfl (Nat.le_of_ble_eq_true rfl) dX3_readDigit_26 (fun w10 H locs e11 f12 hW => ?_)
    refine lv_iload_n C.1 C.2.1 dX3_readDigit_29 rfl (lv_at hl 0 rfl) ?_
    exact xret_i C hr hlk hW ⟨(by rw [dP, if_pos hd]; exact e11), (fun j z0 => ((f12 j (by omega)).trans (f5 j (by omega)))), (by rw [dX, if_pos hd]; exact chX_v hT hd)⟩ dX3_readDigit_30
  · have hd : ¬ dOk T n p lo hi := fun z => c14 ((chX_in hT hlo hhi).mpr z)
    refine lv_iconst (v := (-1 : Int32)) C.1 C.2.1 dX3_readDigit_17 (by decide) ?_
    exact xret_i C hr hlk hW ⟨(by rw [dP, if_neg hd]; exact h4), (fun j z0 => (f5 j (by omega))), (by rw [dX, if_neg hd])⟩ dX3_readDigit_18

set_option maxHeartbeats 4000000 in
set_option maxRecDepth 100000 in
theorem c_X3_accepts (l : Launch) (g : GE) (w : Nat → va_E) (n p ch : Nat) (T : Nat → Nat) (hI : AdInj g) (hN : gN g = 130) (hn : n ≤ 80) (hp : p ≤ n) (hT : OkT T n) (hc : ch < 127) (pr0 : w 108 = .inr (3, [.ref (gad g 109), .int (nI n), .int (nI p)])) (pr1 : w 109 = .inl (gI g, 80, .inl (cK 80 0 T))) : Met l yX3_accepts wsX3_accepts ({ frames := 1, cells := 0, slots := 0, locals := 20 } : Room) (XPc g w [.ref (gad g 108), .int (nI ch)]) (XQi g (fun r w' => w' 108 = .inr (3, [.ref (gad g 109), .int (nI n), .int (nI (aP T n p ch))]) ∧ (∀ j : Nat, ¬ (108 ≤ j ∧ j < 109) → w' j = w j) ∧ r = (bI (aOk T n p ch)))) 0 0 (gA g) := by
  refine xmet (cc := cX3_accepts) (maxL := 2) (ret := (some .boolean)) (by decide) rfl hI (Nat.le_of_ble_eq_true rfl) ?_
  intro pG eG sG mG belowG methG cG ls C hr hlk hK hW hl
  have hl : lv_has ls 2 [(0, .ref (gad g 108)), (1, .int (nI ch))] := hl
  have hinX3 : ∀ x ∈ u_ws RX3 TX3 3, x ∈ wsX3_accepts := by decide +kernel
  refine lv_aload_n C.1 C.2.1 dX3_accepts_0 rfl (lv_at hl 0 rfl) ?_
  refine xcV_i (n := 0) (As := []) C hK hW (c_X3_look l g w n p T hI hN (by omega) (by omega) hT pr0 pr1) gX3_accepts_X3_look rfl ⟨rfl, rfl⟩ (by decide +kernel) ⟨Nat.le_of_ble_eq_true rfl, Nat.le_of_ble_eq_true rfl⟩ ⟨Nat.zero_le _, Nat.zero_le _⟩ rfl (by omega) pr0 rfl hl rfl (Nat.le_of_ble_eq_true rfl) dX3_accepts_1 (fun r3 w1 H locs q2 hW => ?_)
  obtain ⟨h4, f5, rfl⟩ := q2
  refine lv_iload_n C.1 C.2.1 dX3_accepts_4 rfl (lv_at hl 1 rfl) ?_
  refine lv_icmp_eq (tgt := 10) C.1 C.2.1 dX3_accepts_5 (by decide) (fun c5 => ?_) (fun c5 => ?_)
  · have hd : aOk T n p ch := (chX_eq hT (by omega)).mp c5
    refine lv_aload_n C.1 C.2.1 dX3_accepts_10 rfl (lv_at hl 0 rfl) ?_
    refine lv_dup C.1 C.2.1 dX3_accepts_11 rfl ?_
    refine xget C hK hW hinX3 rfl (by omega) h4 2 (by decide) (List.mem_of_getElem? (i := 1) rfl) rfl dX3_accepts_12 ?_
    refine lv_iconst (v := (nI 1)) C.1 C.2.1 dX3_accepts_15 (by decide) ?_
    refine xadd C dX3_accepts_16 ?_
    refine xput (v := .int (nI ((skp T n p) + 1))) C hK hW hinX3 tyX3_ok nmX3 rfl (by omega) h4 2 (by decide) (List.mem_of_getElem? (i := 1) rfl) rfl rfl rfl (Nat.le_of_ble_eq_true rfl) dX3_accepts_17 (fun w6 H locs e7 f8 hW => ?_)
    refine lv_iconst (v := (nI 1)) C.1 C.2.1 dX3_accepts_20 (by decide) ?_
    exact xret_z C hr hlk hW rfl ⟨(by rw [aP, if_pos hd]; exact e7), (fun j z0 => ((f8 j (by omega)).trans (f5 j (by omega)))), (bI_t hd).symm⟩ dX3_accepts_21
  · have hd : ¬ aOk T n p ch := fun z => c5 ((chX_eq hT (by omega)).mpr z)
    refine lv_iconst (v := (nI 0)) C.1 C.2.1 dX3_accepts_8 (by decide) ?_
    exact xret_z C hr hlk hW rfl ⟨(by rw [aP, if_neg hd]; exact h4), (fun j z0 => (f5 j (by omega))), (bI_f hd).symm⟩ dX3_accepts_9

set_option maxHeartbeats 4000000 in
set_option maxRecDepth 100000 in
theorem c_X3_kindOf (l : Launch) (g : GE) (w : Nat → va_E) (c : Int32) (hI : AdInj g) (hN : gN g = 130) : Met l yX3_kindOf wsX3_kindOf ({ frames := 0, cells := 0, slots := 0, locals := 0 } : Room) (XPc g w [.int c]) (XQi g (fun r w' => w' = w ∧ r = (kX c))) 0 0 (gA g) := by
  refine xmet (cc := cX3_kindOf) (maxL := 1) (ret := (some .int)) (by decide) rfl hI (Nat.le_of_ble_eq_true rfl) ?_
  intro pG eG sG mG belowG methG cG ls C hr hlk hK hW hl
  have hl : lv_has ls 1 [(0, .int c)] := hl
  refine lv_iload_n C.1 C.2.1 dX3_kindOf_0 rfl (lv_at hl 0 rfl) ?_
  by_cases c1_99 : c = nI 99
  · refine lv_lookup (off := 53) (tgt := 54) C.1 C.2.1 dX3_kindOf_1 (by decide) (by rw [c1_99]; decide) (by decide) ?_
    refine lv_iconst (v := (nI 1)) C.1 C.2.1 dX3_kindOf_54 (by decide) ?_
    exact xret_i C hr hlk hW ⟨rfl, (by rw [kX, if_pos (c := c = nI 99) c1_99])⟩ dX3_kindOf_55
  · by_cases c1_103 : c = nI 103
    · refine lv_lookup (off := 57) (tgt := 58) C.1 C.2.1 dX3_kindOf_1 (by decide) (by rw [c1_103]; decide) (by decide) ?_
      refine lv_iconst (v := (nI 3)) C.1 C.2.1 dX3_kindOf_58 (by decide) ?_
      exact xret_i C hr hlk hW ⟨rfl, (by rw [kX, if_neg (c := c = nI 99) c1_99, if_pos (c := c = nI 103) c1_103])⟩ dX3_kindOf_59
    · by_cases c1_108 : c = nI 108
      · refine lv_lookup (off := 59) (tgt := 60) C.1 C.2.1 dX3_kindOf_1 (by decide) (by rw [c1_108]; decide) (by decide) ?_
        refine lv_iconst (v := (nI 4)) C.1 C.2.1 dX3_kindOf_60 (by decide) ?_
        exact xret_i C hr hlk hW ⟨rfl, (by rw [kX, if_neg (c := c = nI 99) c1_99, if_neg (c := c = nI 103) c1_103, if_pos (c := c = nI 108) c1_108])⟩ dX3_kindOf_61
      · by_cases c1_109 : c = nI 109
        · refine lv_lookup (off := 51) (tgt := 52) C.1 C.2.1 dX3_kindOf_1 (by decide) (by rw [c1_109]; decide) (by decide) ?_
          refine lv_iconst (v := (nI 0)) C.1 C.2.1 dX3_kindOf_52 (by decide) ?_
          exact xret_i C hr hlk hW ⟨rfl, (by rw [kX, if_neg (c := c = nI 99) c1_99, if_neg (c := c = nI 103) c1_103, if_neg (c := c = nI 108) c1_108, if_pos (c := c = nI 109) c1_109])⟩ dX3_kindOf_53
        · by_cases c1_115 : c = nI 115
          · refine lv_lookup (off := 55) (tgt := 56) C.1 C.2.1 dX3_kindOf_1 (by decide) (by rw [c1_115]; decide) (by decide) ?_
            refine lv_iconst (v := (nI 2)) C.1 C.2.1 dX3_kindOf_56 (by decide) ?_
            exact xret_i C hr hlk hW ⟨rfl, (by rw [kX, if_neg (c := c = nI 99) c1_99, if_neg (c := c = nI 103) c1_103, if_neg (c := c = nI 108) c1_108, if_neg (c := c = nI 109) c1_109, if_pos (c := c = nI 115) c1_115])⟩ dX3_kindOf_57
          · refine lv_lookup (off := 61) (tgt := 62) C.1 C.2.1 dX3_kindOf_1 (by decide) (by rw [lv_osw (k := nI 99) c1_99 (by decide), lv_osw (k := nI 103) c1_103 (by decide), lv_osw (k := nI 108) c1_108 (by decide), lv_osw (k := nI 109) c1_109 (by decide), lv_osw (k := nI 115) c1_115 (by decide)]; rfl) (by decide) ?_
            refine lv_iconst (v := (-1 : Int32)) C.1 C.2.1 dX3_kindOf_62 (by decide) ?_
            exact xret_i C hr hlk hW ⟨rfl, (by rw [kX, if_neg (c := c = nI 99) c1_99, if_neg (c := c = nI 103) c1_103, if_neg (c := c = nI 108) c1_108, if_neg (c := c = nI 109) c1_109, if_neg (c := c = nI 115) c1_115])⟩ dX3_kindOf_63

set_option maxHeartbeats 4000000 in
set_option maxRecDepth 100000 in
theorem c_X3_readField (l : Launch) (g : GE) (w : Nat → va_E) (n p f : Nat) (x y : Int32) (T L : Nat → Nat) (hI : AdInj g) (hN : gN g = 130) (hn : n ≤ 80) (hp : p ≤ n) (hT : OkT T n) (hf : f < 7) (pr0 : w 108 = .inr (3, [.ref (gad g 109), .int (nI n), .int (nI p)])) (pr1 : w 109 = .inl (gI g, 80, .inl (cK 80 0 T))) (pr2 : GAt g 67 x y L w) : Met l yX3_readField wsX3_readField ({ frames := 2, cells := 0, slots := 0, locals := 45 } : Room) (XPc g w [.ref (gad g 108), .ref (gad g 67), .int (nI f)]) (XQi g (fun r w' => ∃ (L1 : Nat → Nat), w' 108 = .inr (3, [.ref (gad g 109), .int (nI n), .int (nI (fP T n p))]) ∧ GAt g 67 x y L1 w' ∧ (∀ j : Nat, ¬ (67 ≤ j ∧ j < 72) → ¬ (108 ≤ j ∧ j < 109) → w' j = w j) ∧ (fOk T n p → L1 = fW T n p f L) ∧ r = (bI (fOk T n p)))) 0 0 (gA g) := by
  refine xmet (cc := cX3_readField) (maxL := 5) (ret := (some .boolean)) (by decide) rfl hI (Nat.le_of_ble_eq_true rfl) ?_
  intro pG eG sG mG belowG methG cG ls C hr hlk hK hW hl
  have hl : lv_has ls 5 [(0, .ref (gad g 108)), (1, .ref (gad g 67)), (2, .int (nI f))] := hl
  have hinX1 : ∀ x ∈ u_ws RX1 TX1 8, x ∈ wsX3_readField := by decide +kernel
  have hinX2 : ∀ x ∈ u_ws RX2 TX2 5, x ∈ wsX3_readField := by decide +kernel
  have hinX3 : ∀ x ∈ u_ws RX3 TX3 3, x ∈ wsX3_readField := by decide +kernel
  refine lv_aload_n C.1 C.2.1 dX3_readField_0 rfl (lv_at hl 0 rfl) ?_
  refine xcV_i (n := 0) (As := []) C hK hW (c_X3_look l g w n p T hI hN (by omega) (by omega) hT pr0 pr1) gX3_readField_X3_look rfl ⟨rfl, rfl⟩ (by decide +kernel) ⟨Nat.le_of_ble_eq_true rfl, Nat.le_of_ble_eq_true rfl⟩ ⟨Nat.zero_le _, Nat.zero_le _⟩ rfl (by omega) pr0 rfl hl rfl (Nat.le_of_ble_eq_true rfl) dX3_readField_1 (fun r3 w1 H locs q2 hW => ?_)
  obtain ⟨h4, f5, rfl⟩ := q2
  refine xcS_i (n := 1) (As := [.int (chX T n (skp T n p))]) C hK hW (c_X3_kindOf l g w1 (chX T n (skp T n p)) hI hN) gX3_readField_X3_kindOf rfl ⟨rfl, rfl⟩ (by decide +kernel) ⟨Nat.le_of_ble_eq_true rfl, Nat.le_of_ble_eq_true rfl⟩ ⟨Nat.zero_le _, Nat.zero_le _⟩ rfl hl rfl (Nat.le_of_ble_eq_true rfl) dX3_readField_4 (fun r8 w6 H locs q7 hW => ?_)
  obtain ⟨qw9, rfl⟩ := q7
  rw [qw9] at hW
  refine xtopI (b := kV (kdp T n p)) (kX_ch hT) ?_
  by_cases hk : kdp T n p < 5
  · refine xtopI (b := nI (kdp T n p)) (if_pos hk) ?_
    refine lv_istore_n (lv' := [(3, .int (nI (kdp T n p))), (0, .ref (gad g 108)), (1, .ref (gad g 67)), (2, .int (nI f))]) C.1 C.2.1 dX3_readField_7 rfl hl (by decide) rfl (fun ls hl => ?_)
    refine lv_iload_n C.1 C.2.1 dX3_readField_8 rfl (lv_at hl 0 rfl) ?_
    refine x0ge C (by omega) (tgt := 14) dX3_readField_9 (by decide) ?_
    refine lv_aload_n C.1 C.2.1 dX3_readField_14 rfl (lv_at hl 1 rfl) ?_
    refine lv_dup C.1 C.2.1 dX3_readField_15 rfl ?_
    refine xget C hK hW hinX3 rfl (by omega) h4 2 (by decide) (List.mem_of_getElem? (i := 1) rfl) rfl dX3_readField_16 ?_
    refine lv_iconst (v := (nI 1)) C.1 C.2.1 dX3_readField_19 (by decide) ?_
    refine xadd C dX3_readField_20 ?_
    refine xput (v := .int (nI ((skp T n p) + 1))) C hK hW hinX3 tyX3_ok nmX3 rfl (by omega) h4 2 (by decide) (List.mem_of_getElem? (i := 1) rfl) rfl rfl rfl (Nat.le_of_ble_eq_true rfl) dX3_readField_21 (fun w10 H locs e11 f12 hW => ?_)
    have h13 : w10 108 = .inr (3, [.ref (gad g 109), .int (nI n), .int (nI (q1 T n p))]) := e11
    refine lv_aload_n C.1 C.2.1 dX3_readField_24 rfl (lv_at hl 2 rfl) ?_
    have h14 : GAt g 67 x y L w10 := (GAt.fr (GAt.fr pr2 (fun j h1 h2 => f5 j (by omega))) (fun j h1 h2 => f12 j (by omega)))
    refine xget C hK hW hinX1 rfl (by omega) h14.1 0 (by decide) (List.mem_of_getElem? (i := 2) rfl) rfl dX3_readField_25 ?_
    refine lv_iload_n C.1 C.2.1 dX3_readField_28 rfl (lv_at hl 3 rfl) ?_
    refine lv_iload_n C.1 C.2.1 dX3_readField_29 rfl (lv_at hl 0 rfl) ?_
    refine xistK (v := kdp T n p) C hK hW (by omega) h14.2.1 (by omega) (by decide) dX3_readField_30 (fun w15 H locs e16 f17 hW => ?_)
    have h18 : GAt g 67 x y (va_up L (17 + f) (kdp T n p)) w15 := GAt_kind h14 (by omega) e16 f17
    refine lv_aload_n C.1 C.2.1 dX3_readField_31 rfl (lv_at hl 2 rfl) ?_
    refine xget C hK hW hinX1 rfl (by omega) h18.1 1 (by decide) (List.mem_of_getElem? (i := 3) rfl) rfl dX3_readField_32 ?_
    refine xget C hK hW hinX2 rfl (by omega) h18.2.2.1 3 (by decide) (List.mem_of_getElem? (i := 4) rfl) rfl dX3_readField_35 ?_
    refine lv_iload_n C.1 C.2.1 dX3_readField_38 rfl (lv_at hl 3 rfl) ?_
    refine lv_iconst (v := (nI 0)) C.1 C.2.1 dX3_readField_39 (by decide) ?_
    refine lv_aload_n C.1 C.2.1 dX3_readField_40 rfl (lv_at hl 1 rfl) ?_
    refine lv_iconst (v := (nI 0)) C.1 C.2.1 dX3_readField_41 (by decide) ?_
    refine lv_bipush (v := (nI 9)) C.1 C.2.1 dX3_readField_42 (by decide) ?_
    have h19 : w15 108 = .inr (3, [.ref (gad g 109), .int (nI n), .int (nI (q1 T n p))]) := ((f17 108 (by omega)).trans h13)
    have h20 : w15 109 = .inl (gI g, 80, .inl (cK 80 0 T)) := ((f17 109 (by omega)).trans ((f12 109 (by omega)).trans ((f5 109 (by omega)).trans pr1)))
    refine xcV_i (n := 2) (As := [.int (nI 0), .int (nI 9)]) C hK hW (c_X3_readDigit l g w15 n (q1 T n p) 0 9 T hI hN (by omega) (q1_le hk) hT (by omega) (by omega) h19 h20) gX3_readField_X3_readDigit rfl ⟨rfl, rfl⟩ (by decide +kernel) ⟨Nat.le_of_ble_eq_true rfl, Nat.le_of_ble_eq_true rfl⟩ ⟨Nat.zero_le _, Nat.zero_le _⟩ rfl (by omega) h19 rfl hl rfl (Nat.le_of_ble_eq_true rfl) dX3_readField_44 (fun r23 w21 H locs q22 hW => ?_)
    obtain ⟨h24, f25, rfl⟩ := q22
    have h26 : w21 108 = .inr (3, [.ref (gad g 109), .int (nI n), .int (nI (q2 T n p))]) := h24
    refine xmaxE (r := foV T n p) C hl (max_dX (by decide)) (List.mem_of_getElem? (i := 5) rfl) (List.mem_of_getElem? (i := 6) rfl) (List.mem_of_getElem? (i := 7) rfl) (List.mem_of_getElem? (i := 8) rfl) (Nat.le_of_ble_eq_true rfl) (Nat.le_of_ble_eq_true rfl) ⟨Nat.zero_le _, Nat.zero_le _⟩ dX3_readField_47 ?_
    have h27 : GAt g 67 x y (va_up L (17 + f) (kdp T n p)) w21 := (GAt.fr h18 (fun j h1 h2 => f25 j (by omega)))
    refine xistK (v := foV T n p) C hK hW (by omega) h27.2.2.2.1 (by omega) (by decide) dX3_readField_50 (fun w28 H locs e29 f30 hW => ?_)
    have h31 : GAt g 67 x y (va_up (va_up L (17 + f) (kdp T n p)) (3 + f) (foV T n p)) w28 := GAt_food h27 (by omega) e29 f30
    refine lv_aload_n C.1 C.2.1 dX3_readField_51 rfl (lv_at hl 2 rfl) ?_
    refine xget C hK hW hinX1 rfl (by omega) h31.1 1 (by decide) (List.mem_of_getElem? (i := 3) rfl) rfl dX3_readField_52 ?_
    refine xget C hK hW hinX2 rfl (by omega) h31.2.2.1 4 (by decide) (List.mem_of_getElem? (i := 9) rfl) rfl dX3_readField_55 ?_
    refine lv_iload_n C.1 C.2.1 dX3_readField_58 rfl (lv_at hl 3 rfl) ?_
    refine lv_iconst (v := (nI 0)) C.1 C.2.1 dX3_readField_59 (by decide) ?_
    refine xistK (v := 0) C hK hW (by omega) h31.2.2.2.2 (by omega) (by decide) dX3_readField_60 (fun w32 H locs e33 f34 hW => ?_)
    have h35 : GAt g 67 x y (va_up (va_up (va_up L (17 + f) (kdp T n p)) (3 + f) (foV T n p)) (10 + f) 0) w32 := GAt_hedge h31 (by omega) e33 f34
    refine lv_aload_n C.1 C.2.1 dX3_readField_61 rfl (lv_at hl 1 rfl) ?_
    refine lv_bipush (v := (nI 35)) C.1 C.2.1 dX3_readField_62 (by decide) ?_
    have h36 : w32 108 = .inr (3, [.ref (gad g 109), .int (nI n), .int (nI (q2 T n p))]) := ((f34 108 (by omega)).trans ((f30 108 (by omega)).trans h26))
    have h37 : w32 109 = .inl (gI g, 80, .inl (cK 80 0 T)) := ((f34 109 (by omega)).trans ((f30 109 (by omega)).trans ((f25 109 (by omega)).trans h20)))
    refine xcV_i (n := 1) (As := [.int (nI 35)]) C hK hW (c_X3_accepts l g w32 n (q2 T n p) 35 T hI hN (by omega) (q2_le hk) hT (by omega) h36 h37) gX3_readField_X3_accepts rfl ⟨rfl, rfl⟩ (by decide +kernel) ⟨Nat.le_of_ble_eq_true rfl, Nat.le_of_ble_eq_true rfl⟩ ⟨Nat.zero_le _, Nat.zero_le _⟩ rfl (by omega) h36 rfl hl rfl (Nat.le_of_ble_eq_true rfl) dX3_readField_64 (fun r40 w38 H locs q39 hW => ?_)
    obtain ⟨h41, f42, rfl⟩ := q39
    have h43 : w38 108 = .inr (3, [.ref (gad g 109), .int (nI n), .int (nI (q3 T n p))]) := h41
    refine xBne (tgt := 72) C dX3_readField_67 (by decide) (fun c67 => ?_) (fun c67 => ?_)
    · refine lv_aload_n C.1 C.2.1 dX3_readField_72 rfl (lv_at hl 1 rfl) ?_
      refine lv_iconst (v := (nI 1)) C.1 C.2.1 dX3_readField_73 (by decide) ?_
      refine lv_iconst (v := (nI 4)) C.1 C.2.1 dX3_readField_74 (by decide) ?_
      have h44 : w38 109 = .inl (gI g, 80, .inl (cK 80 0 T)) := ((f42 109 (by omega)).trans h37)
      refine xcV_i (n := 2) (As := [.int (nI 1), .int (nI 4)]) C hK hW (c_X3_readDigit l g w38 n (q3 T n p) 1 4 T hI hN (by omega) (q3_le hk) hT (by omega) (by omega) h43 h44) gX3_readField_X3_readDigit rfl ⟨rfl, rfl⟩ (by decide +kernel) ⟨Nat.le_of_ble_eq_true rfl, Nat.le_of_ble_eq_true rfl⟩ ⟨Nat.zero_le _, Nat.zero_le _⟩ rfl (by omega) h43 rfl hl rfl (Nat.le_of_ble_eq_true rfl) dX3_readField_75 (fun r47 w45 H locs q46 hW => ?_)
      obtain ⟨h48, f49, rfl⟩ := q46
      have h50 : w45 108 = .inr (3, [.ref (gad g 109), .int (nI n), .int (nI (q4 T n p))]) := h48
      by_cases hd : dOk T n (q3 T n p) 1 4
      · have hv := dV_in hd
        refine xtopI (b := nI (dV T n (q3 T n p))) (if_pos hd) ?_
        refine lv_istore (lv' := [(4, .int (nI (dV T n (q3 T n p)))), (3, .int (nI (kdp T n p))), (0, .ref (gad g 108)), (1, .ref (gad g 67)), (2, .int (nI f))]) C.1 C.2.1 dX3_readField_78 hl (by decide) rfl (fun ls hl => ?_)
        refine lv_iload C.1 C.2.1 dX3_readField_80 (lv_at hl 0 rfl) ?_
        refine x0ge C (by omega) (tgt := 87) dX3_readField_82 (by decide) ?_
        refine lv_aload_n C.1 C.2.1 dX3_readField_87 rfl (lv_at hl 3 rfl) ?_
        have h51 : GAt g 67 x y (va_up (va_up (va_up L (17 + f) (kdp T n p)) (3 + f) (foV T n p)) (10 + f) 0) w45 := (GAt.fr (GAt.fr h35 (fun j h1 h2 => f42 j (by omega))) (fun j h1 h2 => f49 j (by omega)))
        refine xget C hK hW hinX1 rfl (by omega) h51.1 1 (by decide) (List.mem_of_getElem? (i := 3) rfl) rfl dX3_readField_88 ?_
        refine xget C hK hW hinX2 rfl (by omega) h51.2.2.1 4 (by decide) (List.mem_of_getElem? (i := 9) rfl) rfl dX3_readField_91 ?_
        refine lv_iload_n C.1 C.2.1 dX3_readField_94 rfl (lv_at hl 4 rfl) ?_
        refine lv_iload C.1 C.2.1 dX3_readField_95 (lv_at hl 0 rfl) ?_
        refine xistK (v := dV T n (q3 T n p)) C hK hW (by omega) h51.2.2.2.2 (by omega) (by decide) dX3_readField_97 (fun w52 H locs e53 f54 hW => ?_)
        have h55 : GAt g 67 x y (va_up (va_up (va_up (va_up L (17 + f) (kdp T n p)) (3 + f) (foV T n p)) (10 + f) 0) (10 + f) (dV T n (q3 T n p))) w52 := GAt_hedge h51 (by omega) e53 f54
        refine lv_iconst (v := (nI 1)) C.1 C.2.1 dX3_readField_98 (by decide) ?_
        have h56 : w52 108 = .inr (3, [.ref (gad g 109), .int (nI n), .int (nI (q4 T n p))]) := ((f54 108 (by omega)).trans h50)
        exact xret_z C hr hlk hW rfl ⟨_, (by rw [fP, if_pos hk, if_pos c67]; exact h56), h55, (fun j z0 z1 => ((f54 j (by omega)).trans ((f49 j (by omega)).trans ((f42 j (by omega)).trans ((f34 j (by omega)).trans ((f30 j (by omega)).trans ((f25 j (by omega)).trans ((f17 j (by omega)).trans ((f12 j (by omega)).trans (f5 j (by omega))))))))))), (fun z => by rw [va_up_up, fW, heV, if_pos c67]), (bI_t ⟨hk, fun z => hd⟩).symm⟩ dX3_readField_99
      · refine xtopI (b := (-1 : Int32)) (if_neg hd) ?_
        refine lv_istore (lv' := [(4, .int (-1 : Int32)), (3, .int (nI (kdp T n p))), (0, .ref (gad g 108)), (1, .ref (gad g 67)), (2, .int (nI f))]) C.1 C.2.1 dX3_readField_78 hl (by decide) rfl (fun ls hl => ?_)
        refine lv_iload C.1 C.2.1 dX3_readField_80 (lv_at hl 0 rfl) ?_
        refine lv_if_ge (tgt := 87) C.1 C.2.1 dX3_readField_82 (by decide) (fun c82 => absurd c82 (by decide)) (fun c82 => ?_)
        refine lv_iconst (v := (nI 0)) C.1 C.2.1 dX3_readField_85 (by decide) ?_
        have h57 : GAt g 67 x y (va_up (va_up (va_up L (17 + f) (kdp T n p)) (3 + f) (foV T n p)) (10 + f) 0) w45 := (GAt.fr (GAt.fr h35 (fun j h1 h2 => f42 j (by omega))) (fun j h1 h2 => f49 j (by omega)))
        exact xret_z C hr hlk hW rfl ⟨_, (by rw [fP, if_pos hk, if_pos c67]; exact h50), h57, (fun j z0 z1 => ((f49 j (by omega)).trans ((f42 j (by omega)).trans ((f34 j (by omega)).trans ((f30 j (by omega)).trans ((f25 j (by omega)).trans ((f17 j (by omega)).trans ((f12 j (by omega)).trans (f5 j (by omega)))))))))), (fun z => absurd (z.2 c67) hd), (bI_f (fun z => hd (z.2 c67))).symm⟩ dX3_readField_86
    · refine lv_iconst (v := (nI 1)) C.1 C.2.1 dX3_readField_70 (by decide) ?_
      have h58 : GAt g 67 x y (va_up (va_up (va_up L (17 + f) (kdp T n p)) (3 + f) (foV T n p)) (10 + f) 0) w38 := (GAt.fr h35 (fun j h1 h2 => f42 j (by omega)))
      exact xret_z C hr hlk hW rfl ⟨_, (by rw [fP, if_pos hk, if_neg c67]; exact h43), h58, (fun j z0 z1 => ((f42 j (by omega)).trans ((f34 j (by omega)).trans ((f30 j (by omega)).trans ((f25 j (by omega)).trans ((f17 j (by omega)).trans ((f12 j (by omega)).trans (f5 j (by omega))))))))), (fun z => by rw [fW, heV, if_neg c67]), (bI_t ⟨hk, fun z => absurd z c67⟩).symm⟩ dX3_readField_71
  · refine xtopI (b := (-1 : Int32)) (if_neg hk) ?_
    refine lv_istore_n (lv' := [(3, .int (-1 : Int32)), (0, .ref (gad g 108)), (1, .ref (gad g 67)), (2, .int (nI f))]) C.1 C.2.1 dX3_readField_7 rfl hl (by decide) rfl (fun ls hl => ?_)
    refine lv_iload_n C.1 C.2.1 dX3_readField_8 rfl (lv_at hl 0 rfl) ?_
    refine lv_if_ge (tgt := 14) C.1 C.2.1 dX3_readField_9 (by decide) (fun c9 => absurd c9 (by decide)) (fun c9 => ?_)
    refine lv_iconst (v := (nI 0)) C.1 C.2.1 dX3_readField_12 (by decide) ?_
    have h59 : GAt g 67 x y L w1 := (GAt.fr pr2 (fun j h1 h2 => f5 j (by omega)))
    exact xret_z C hr hlk hW rfl ⟨_, (by rw [fP, if_neg hk]; exact h4), h59, (fun j z0 z1 => (f5 j (by omega))), (fun z => absurd z.1 hk), (bI_f (fun z => hk z.1)).symm⟩ dX3_readField_13
