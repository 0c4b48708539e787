/-! a text read by the reference -/
theorem chM_in {T : Nat → Nat} {n p lo hi : Nat} (hT : OkT T n) (hlo : lo ≤ 9) (hhi : hi ≤ 9) : inR (nI (chM T n (skp T n p)) - nI 48) (nI lo) (nI hi) ↔ dOk T n p lo hi := by
  have hz : ∀ t, t < 127 → ∀ a, a < 10 → ∀ b, b < 10 → (inR (nI t - nI 48) (nI a) (nI b) ↔ (a + 48 ≤ t ∧ t ≤ b + 48)) := by
    intro t ht' a ha b hb
    have e : (nI t - nI 48).toInt = (t : Int) - 48 := by
      have q : ∀ t, t < 127 → (nI t - nI 48).toInt = (t : Int) - 48 := by decide
      exact q t ht'
    rw [inR, Int32.le_iff_toInt_le, Int32.le_iff_toInt_le, e, nI_toInt (by omega), nI_toInt (by omega)]
    omega
  have hm := chM_le (T := T) (n := n) (q := skp T n p) hT
  rw [hz _ (by omega) lo (by omega) hi (by omega)]
  unfold chM dOk
  by_cases h : skp T n p < n
  · rw [if_pos h]
    exact ⟨fun e => ⟨h, e⟩, fun e => e.2⟩
  · rw [if_neg h]
    exact ⟨fun e => absurd e.1 (by omega), fun e => absurd e.1 h⟩
theorem chM_v {T : Nat → Nat} {n p lo hi : Nat} (h : dOk T n p lo hi) : nI (chM T n (skp T n p)) - nI 48 = nI (dV T n p) := by
  unfold chM
  rw [if_pos h.1]
  exact pk_sub (by have := h.2.1; omega)

set_option maxHeartbeats 4000000 in
set_option maxRecDepth 100000 in
theorem c_X7_peek (l : Launch) (g : GE) (w : Nat → va_E) (n p hk : Nat) (nu : Int32) (ao mu md bu bd : Nat) (T : Nat → Nat) (hI : AdInj g) (hN : gN g = 130) (hn : n ≤ 80) (hp : p ≤ n) (hT : OkT T n) (pr0 : w 119 = .inr (7, [.ref (gad g 120), .ref (gad g 121), .ref (gad g 122), .int (nI n), .ref (gad g 123), .int (nI p), .int nu, .ref (gad g 124), .ref (gad g 125), .ref (gad g 126), .ref (gad g 127), .int (nI hk), .ref (gad g 128), .ref (gad g 129), .long (lN ao), .long (lN mu), .long (lN md), .long (lN bu), .long (lN bd)])) (pr1 : w 123 = .inl (gI g, 80, .inl (cK 80 0 T))) : Met l yX7_peek wsX7_peek ({ frames := 0, cells := 0, slots := 0, locals := 0 } : Room) (XPc g w [.ref (gad g 119)]) (XQi g (fun r w' => w' 119 = .inr (7, [.ref (gad g 120), .ref (gad g 121), .ref (gad g 122), .int (nI n), .ref (gad g 123), .int (nI (skp T n p)), .int nu, .ref (gad g 124), .ref (gad g 125), .ref (gad g 126), .ref (gad g 127), .int (nI hk), .ref (gad g 128), .ref (gad g 129), .long (lN ao), .long (lN mu), .long (lN md), .long (lN bu), .long (lN bd)]) ∧ (∀ j : Nat, ¬ (119 ≤ j ∧ j < 120) → w' j = w j) ∧ r = (nI (chM T n (skp T n p))))) 0 0 (gA g) := by
  refine xmet (cc := cX7_peek) (maxL := 1) (ret := (some .int)) (by decide) rfl hI (Nat.le_of_ble_eq_true rfl) ?_
  intro pG eG sG mG belowG methG cG ls C hr hlk hK hW hl
  have hl : lv_has ls 1 [(0, .ref (gad g 119))] := hl
  have hinX7 : ∀ x ∈ u_ws RX7 TX7 19, x ∈ wsX7_peek := by decide +kernel
  have loop0 : ∀ (kG : Nat) (q : Nat) (v0 : Nat → va_E) (H : Heap) (locs : List Loc) (ls : Array Slot), kG = n - q → (v0 119 = .inr (7, [.ref (gad g 120), .ref (gad g 121), .ref (gad g 122), .int (nI n), .ref (gad g 123), .int (nI q), .int nu, .ref (gad g 124), .ref (gad g 125), .ref (gad g 126), .ref (gad g 127), .int (nI hk), .ref (gad g 128), .ref (gad g 129), .long (lN ao), .long (lN mu), .long (lN md), .long (lN bu), .long (lN bd)])) → (v0 123 = .inl (gI g, 80, .inl (cK 80 0 T))) → (∀ j : Nat, ¬ (119 ≤ j ∧ j < 120) → v0 j = w j) → (q ≤ n) → (skp T n q = skp T n p) → XW g v0 (gA g) sG.heap H locs → lv_has ls 1 [(0, .ref (gad g 119))] → W pG l eG ({ frames := 0, cells := 0, slots := 0, locals := 0 } : Room) sG mG ([.ref (gad g 119)] : List Value).toArray belowG methG cG H locs 0 0 (MQ belowG (XQi g (fun r w' => w' 119 = .inr (7, [.ref (gad g 120), .ref (gad g 121), .ref (gad g 122), .int (nI n), .ref (gad g 123), .int (nI (skp T n p)), .int nu, .ref (gad g 124), .ref (gad g 125), .ref (gad g 126), .ref (gad g 127), .int (nI hk), .ref (gad g 128), .ref (gad g 129), .long (lN ao), .long (lN mu), .long (lN md), .long (lN bu), .long (lN bd)]) ∧ (∀ j : Nat, ¬ (119 ≤ j ∧ j < 120) → w' j = w j) ∧ r = (nI (chM T n (skp T n p))))) ([.ref (gad g 119)] : List Value).toArray sG 0 0 (gA g)) (F0 mG 0 ls []) := by
    intro k0
    induction k0 using Nat.strongRecOn with
    | _ k0 ih0 =>
    intro q v0 H locs ls hk0 fa0_0 fa0_1 hfr0 hq hs hW hl
    refine lv_aload_n C.1 C.2.1 dX7_peek_0 rfl (lv_at hl 0 rfl) ?_
    refine xget C hK hW hinX7 rfl (by omega) fa0_0 5 (by decide) (List.mem_of_getElem? (i := 1) rfl) rfl dX7_peek_1 ?_
    refine lv_aload_n C.1 C.2.1 dX7_peek_4 rfl (lv_at hl 0 rfl) ?_
    refine xget C hK hW hinX7 rfl (by omega) fa0_0 3 (by decide) (List.mem_of_getElem? (i := 2) rfl) rfl dX7_peek_5 ?_
    refine xge (tgt := 38) C (by omega) (by omega) dX7_peek_8 (by decide) (fun c8 => ?_) (fun c8 => ?_)
    · have hz : skp T n p = q := hs.symm.trans (skp_stop (by omega))
      refine lv_aload_n C.1 C.2.1 dX7_peek_38 rfl (lv_at hl 0 rfl) ?_
      refine xget C hK hW hinX7 rfl (by omega) fa0_0 5 (by decide) (List.mem_of_getElem? (i := 1) rfl) rfl dX7_peek_39 ?_
      refine lv_aload_n C.1 C.2.1 dX7_peek_42 rfl (lv_at hl 0 rfl) ?_
      refine xget C hK hW hinX7 rfl (by omega) fa0_0 3 (by decide) (List.mem_of_getElem? (i := 2) rfl) rfl dX7_peek_43 ?_
      refine xge (tgt := 61) C (by omega) (by omega) dX7_peek_46 (by decide) (fun c46 => ?_) (fun c46 => absurd c46 (by omega))
      refine lv_iconst (v := (nI 0)) C.1 C.2.1 dX7_peek_61 (by decide) ?_
      exact xret_i C hr hlk hW ⟨(by rw [hz]; exact fa0_0), (fun j z0 => (hfr0 j z0)), (by rw [hz, chM, if_neg (by omega)])⟩ dX7_peek_62
    · have ht := hT q (by omega)
      refine lv_aload_n C.1 C.2.1 dX7_peek_11 rfl (lv_at hl 0 rfl) ?_
      refine xget C hK hW hinX7 rfl (by omega) fa0_0 4 (by decide) (List.mem_of_getElem? (i := 3) rfl) rfl dX7_peek_12 ?_
      refine lv_aload_n C.1 C.2.1 dX7_peek_15 rfl (lv_at hl 0 rfl) ?_
      refine xget C hK hW hinX7 rfl (by omega) fa0_0 5 (by decide) (List.mem_of_getElem? (i := 1) rfl) rfl dX7_peek_16 ?_
      refine xildK0 C hK hW (by omega) fa0_1 (by omega) (by decide) dX7_peek_19 ?_
      refine lv_bipush (v := (nI 32)) C.1 C.2.1 dX7_peek_20 (by decide) ?_
      refine xne (tgt := 38) C (by omega) (by omega) dX7_peek_22 (by decide) (fun c22 => ?_) (fun c22 => ?_)
      · have hz : skp T n p = q := hs.symm.trans (skp_stop (by omega))
        refine lv_aload_n C.1 C.2.1 dX7_peek_38 rfl (lv_at hl 0 rfl) ?_
        refine xget C hK hW hinX7 rfl (by omega) fa0_0 5 (by decide) (List.mem_of_getElem? (i := 1) rfl) rfl dX7_peek_39 ?_
        refine lv_aload_n C.1 C.2.1 dX7_peek_42 rfl (lv_at hl 0 rfl) ?_
        refine xget C hK hW hinX7 rfl (by omega) fa0_0 3 (by decide) (List.mem_of_getElem? (i := 2) rfl) rfl dX7_peek_43 ?_
        refine xge (tgt := 61) C (by omega) (by omega) dX7_peek_46 (by decide) (fun c46 => absurd c46 (by omega)) (fun c46 => ?_)
        refine lv_aload_n C.1 C.2.1 dX7_peek_49 rfl (lv_at hl 0 rfl) ?_
        refine xget C hK hW hinX7 rfl (by omega) fa0_0 4 (by decide) (List.mem_of_getElem? (i := 3) rfl) rfl dX7_peek_50 ?_
        refine lv_aload_n C.1 C.2.1 dX7_peek_53 rfl (lv_at hl 0 rfl) ?_
        refine xget C hK hW hinX7 rfl (by omega) fa0_0 5 (by decide) (List.mem_of_getElem? (i := 1) rfl) rfl dX7_peek_54 ?_
        refine xildK0 C hK hW (by omega) fa0_1 (by omega) (by decide) dX7_peek_57 ?_
        refine lv_goto (tgt := 62) C.1 C.2.1 dX7_peek_58 (by decide) ?_
        exact xret_i C hr hlk hW ⟨(by rw [hz]; exact fa0_0), (fun j z0 => (hfr0 j z0)), (by rw [hz, chM, if_pos (by omega)])⟩ dX7_peek_62
      · refine lv_aload_n C.1 C.2.1 dX7_peek_25 rfl (lv_at hl 0 rfl) ?_
        refine lv_dup C.1 C.2.1 dX7_peek_26 rfl ?_
        refine xget C hK hW hinX7 rfl (by omega) fa0_0 5 (by decide) (List.mem_of_getElem? (i := 1) rfl) rfl dX7_peek_27 ?_
        refine lv_iconst (v := (nI 1)) C.1 C.2.1 dX7_peek_30 (by decide) ?_
        refine xadd C dX7_peek_31 ?_
        refine xput (v := .int (nI (q + 1))) C hK hW hinX7 tyX7_ok nmX7 rfl (by omega) fa0_0 5 (by decide) (List.mem_of_getElem? (i := 1) rfl) rfl rfl rfl (Nat.le_of_ble_eq_true rfl) dX7_peek_32 (fun w1 H locs e2 f3 hW => ?_)
        refine lv_goto (tgt := 0) C.1 C.2.1 dX7_peek_35 (by decide) ?_
        have h4 : w1 123 = .inl (gI g, 80, .inl (cK 80 0 T)) := ((f3 123 (by omega)).trans fa0_1)
        exact ih0 (n - (q + 1)) (by omega) (q + 1) w1 _ _ _ rfl e2 h4 (fun j z0 => ((f3 j (by omega)).trans (hfr0 j z0))) (by omega) ((skp_go (by omega) (by omega)).symm.trans hs) hW hl
  exact loop0 _ p w _ _ _ rfl pr0 pr1 (fun j z0 => rfl) (by omega) (rfl) hW hl

set_option maxHeartbeats 4000000 in
set_option maxRecDepth 100000 in
theorem c_X7_isSign (l : Launch) (g : GE) (w : Nat → va_E) (n p hk : Nat) (nu : Int32) (ao mu md bu bd : Nat) (ch : Nat) (T : Nat → Nat) (hI : AdInj g) (hN : gN g = 130) (hn : n ≤ 80) (hp : p ≤ n) (hT : OkT T n) (hc : 0 < ch) (hc2 : ch < 127) (pr0 : w 119 = .inr (7, [.ref (gad g 120), .ref (gad g 121), .ref (gad g 122), .int (nI n), .ref (gad g 123), .int (nI p), .int nu, .ref (gad g 124), .ref (gad g 125), .ref (gad g 126), .ref (gad g 127), .int (nI hk), .ref (gad g 128), .ref (gad g 129), .long (lN ao), .long (lN mu), .long (lN md), .long (lN bu), .long (lN bd)])) (pr1 : w 123 = .inl (gI g, 80, .inl (cK 80 0 T))) : Met l yX7_isSign wsX7_isSign ({ frames := 1, cells := 0, slots := 0, locals := 20 } : Room) (XPc g w [.ref (gad g 119), .int (nI ch)]) (XQi g (fun r w' => w' 119 = .inr (7, [.ref (gad g 120), .ref (gad g 121), .ref (gad g 122), .int (nI n), .ref (gad g 123), .int (nI (aP T n p ch)), .int nu, .ref (gad g 124), .ref (gad g 125), .ref (gad g 126), .ref (gad g 127), .int (nI hk), .ref (gad g 128), .ref (gad g 129), .long (lN ao), .long (lN mu), .long (lN md), .long (lN bu), .long (lN bd)]) ∧ (∀ j : Nat, ¬ (119 ≤ j ∧ j < 120) → w' j = w j) ∧ r = (bI (aOk T n p ch)))) 0 0 (gA g) := by
  refine xmet (cc := cX7_isSign) (maxL := 2) (ret := (some .boolean)) (by decide) rfl hI (Nat.le_of_ble_eq_true rfl) ?_
  intro pG eG sG mG belowG methG cG ls C hr hlk hK hW hl
  have hl : lv_has ls 2 [(0, .ref (gad g 119)), (1, .int (nI ch))] := hl
  have hinX7 : ∀ x ∈ u_ws RX7 TX7 19, x ∈ wsX7_isSign := by decide +kernel
  refine lv_aload_n C.1 C.2.1 dX7_isSign_0 rfl (lv_at hl 0 rfl) ?_
  refine xcV_i (n := 0) (As := []) C hK hW (c_X7_peek l g w n p hk nu ao mu md bu bd T hI hN (by omega) (by omega) hT pr0 pr1) gX7_isSign_X7_peek rfl ⟨rfl, rfl⟩ (by decide +kernel) ⟨Nat.le_of_ble_eq_true rfl, Nat.le_of_ble_eq_true rfl⟩ ⟨Nat.zero_le _, Nat.zero_le _⟩ rfl (by omega) pr0 rfl hl rfl (Nat.le_of_ble_eq_true rfl) dX7_isSign_1 (fun r3 w1 H locs q2 hW => ?_)
  obtain ⟨h4, f5, rfl⟩ := q2
  have hcm := chM_le (T := T) (n := n) (q := skp T n p) hT
  refine lv_iload_n C.1 C.2.1 dX7_isSign_4 rfl (lv_at hl 1 rfl) ?_
  refine xeq (tgt := 10) C (by omega) (by omega) dX7_isSign_5 (by decide) (fun c5 => ?_) (fun c5 => ?_)
  · have hd : aOk T n p ch := (chM_eq hc).mp c5
    refine lv_aload_n C.1 C.2.1 dX7_isSign_10 rfl (lv_at hl 0 rfl) ?_
    refine lv_dup C.1 C.2.1 dX7_isSign_11 rfl ?_
    refine xget C hK hW hinX7 rfl (by omega) h4 5 (by decide) (List.mem_of_getElem? (i := 1) rfl) rfl dX7_isSign_12 ?_
    refine lv_iconst (v := (nI 1)) C.1 C.2.1 dX7_isSign_15 (by decide) ?_
    refine xadd C dX7_isSign_16 ?_
    refine xput (v := .int (nI ((skp T n p) + 1))) C hK hW hinX7 tyX7_ok nmX7 rfl (by omega) h4 5 (by decide) (List.mem_of_getElem? (i := 1) rfl) rfl rfl rfl (Nat.le_of_ble_eq_true rfl) dX7_isSign_17 (fun w6 H locs e7 f8 hW => ?_)
    refine lv_iconst (v := (nI 1)) C.1 C.2.1 dX7_isSign_20 (by decide) ?_
    exact xret_z C hr hlk hW rfl ⟨(by rw [aP, if_pos hd]; exact e7), (fun j z0 => ((f8 j (by omega)).trans (f5 j (by omega)))), (bI_t hd).symm⟩ dX7_isSign_21
  · have hd : ¬ aOk T n p ch := fun z => c5 ((chM_eq hc).mpr z)
    refine lv_iconst (v := (nI 0)) C.1 C.2.1 dX7_isSign_8 (by decide) ?_
    exact xret_z C hr hlk hW rfl ⟨(by rw [aP, if_neg hd]; exact h4), (fun j z0 => (f5 j (by omega))), (bI_f hd).symm⟩ dX7_isSign_9

set_option maxHeartbeats 4000000 in
set_option maxRecDepth 100000 in
theorem c_X7_isDigit (l : Launch) (g : GE) (w : Nat → va_E) (n p hk : Nat) (nu : Int32) (ao mu md bu bd : Nat) (lo hi : Nat) (T : Nat → Nat) (hI : AdInj g) (hN : gN g = 130) (hn : n ≤ 80) (hp : p ≤ n) (hT : OkT T n) (hlo : lo ≤ 9) (hhi : hi ≤ 9) (pr0 : w 119 = .inr (7, [.ref (gad g 120), .ref (gad g 121), .ref (gad g 122), .int (nI n), .ref (gad g 123), .int (nI p), .int nu, .ref (gad g 124), .ref (gad g 125), .ref (gad g 126), .ref (gad g 127), .int (nI hk), .ref (gad g 128), .ref (gad g 129), .long (lN ao), .long (lN mu), .long (lN md), .long (lN bu), .long (lN bd)])) (pr1 : w 123 = .inl (gI g, 80, .inl (cK 80 0 T))) : Met l yX7_isDigit wsX7_isDigit ({ frames := 1, cells := 0, slots := 0, locals := 22 } : Room) (XPc g w [.ref (gad g 119), .int (nI lo), .int (nI hi)]) (XQi g (fun r w' => w' 119 = .inr (7, [.ref (gad g 120), .ref (gad g 121), .ref (gad g 122), .int (nI n), .ref (gad g 123), .int (nI (dP T n p lo hi)), .int (nI (chM T n (skp T n p)) - nI 48), .ref (gad g 124), .ref (gad g 125), .ref (gad g 126), .ref (gad g 127), .int (nI hk), .ref (gad g 128), .ref (gad g 129), .long (lN ao), .long (lN mu), .long (lN md), .long (lN bu), .long (lN bd)]) ∧ (∀ j : Nat, ¬ (119 ≤ j ∧ j < 120) → w' j = w j) ∧ r = (bI (dOk T n p lo hi)))) 0 0 (gA g) := by
  refine xmet (cc := cX7_isDigit) (maxL := 3) (ret := (some .boolean)) (by decide) rfl hI (Nat.le_of_ble_eq_true rfl) ?_
  intro pG eG sG mG belowG methG cG ls C hr hlk hK hW hl
  have hl : lv_has ls 3 [(0, .ref (gad g 119)), (1, .int (nI lo)), (2, .int (nI hi))] := hl
  have hinX7 : ∀ x ∈ u_ws RX7 TX7 19, x ∈ wsX7_isDigit := by decide +kernel
  refine lv_aload_n C.1 C.2.1 dX7_isDigit_0 rfl (lv_at hl 0 rfl) ?_
  refine lv_aload_n C.1 C.2.1 dX7_isDigit_1 rfl (lv_at hl 0 rfl) ?_
  refine xcV_i (n := 0) (As := []) C hK hW (c_X7_peek l g w n p hk nu ao mu md bu bd T hI hN (by omega) (by omega) hT pr0 pr1) gX7_isDigit_X7_peek rfl ⟨rfl, rfl⟩ (by decide +kernel) ⟨Nat.le_of_ble_eq_true rfl, Nat.le_of_ble_eq_true rfl⟩ ⟨Nat.zero_le _, Nat.zero_le _⟩ rfl (by omega) pr0 rfl hl rfl (Nat.le_of_ble_eq_true rfl) dX7_isDigit_2 (fun r3 w1 H locs q2 hW => ?_)
  obtain ⟨h4, f5, rfl⟩ := q2
  refine lv_bipush (v := (nI 48)) C.1 C.2.1 dX7_isDigit_5 (by decide) ?_
  refine lv_isub C.1 C.2.1 dX7_isDigit_7 ?_
  refine xput (v := .int ((nI (chM T n (skp T n p))) - (nI 48))) C hK hW hinX7 tyX7_ok nmX7 rfl (by omega) h4 6 (by decide) (List.mem_of_getElem? (i := 1) rfl) rfl rfl rfl (Nat.le_of_ble_eq_true rfl) dX7_isDigit_8 (fun w6 H locs e7 f8 hW => ?_)
  refine lv_aload_n C.1 C.2.1 dX7_isDigit_11 rfl (lv_at hl 0 rfl) ?_
  refine xget C hK hW hinX7 rfl (by omega) e7 6 (by decide) (List.mem_of_getElem? (i := 1) rfl) rfl dX7_isDigit_12 ?_
  refine lv_iload_n C.1 C.2.1 dX7_isDigit_15 rfl (lv_at hl 1 rfl) ?_
  refine lv_iload_n C.1 C.2.1 dX7_isDigit_16 rfl (lv_at hl 2 rfl) ?_
  refine xcS_i (n := 3) (As := [.int ((nI (chM T n (skp T n p))) - (nI 48)), .int (nI lo), .int (nI hi)]) C hK hW (c_X7_in l g w6 ((nI (chM T n (skp T n p))) - (nI 48)) (nI lo) (nI hi) hI hN) gX7_isDigit_X7_in rfl ⟨rfl, rfl⟩ (by decide +kernel) ⟨Nat.le_of_ble_eq_true rfl, Nat.le_of_ble_eq_true rfl⟩ ⟨Nat.zero_le _, Nat.zero_le _⟩ rfl hl rfl (Nat.le_of_ble_eq_true rfl) dX7_isDigit_17 (fun r11 w9 H locs q10 hW => ?_)
  obtain ⟨qw12, rfl⟩ := q10
  rw [qw12] at hW
  refine xBne (tgt := 25) C dX7_isDigit_20 (by decide) (fun c20 => ?_) (fun c20 => ?_)
  · have hd : dOk T n p lo hi := (chM_in hT hlo hhi).mp c20
    refine lv_aload_n C.1 C.2.1 dX7_isDigit_25 rfl (lv_at hl 0 rfl) ?_
    refine lv_dup C.1 C.2.1 dX7_isDigit_26 rfl ?_
    refine xget C hK hW hinX7 rfl (by omega) e7 5 (by decide) (List.mem_of_getElem? (i := 2) rfl) rfl dX7_isDigit_27 ?_
    refine lv_iconst (v := (nI 1)) C.1 C.2.1 dX7_isDigit_30 (by decide) ?_
    refine xadd C dX7_isDigit_31 ?_
    refine xput (v := .int (nI ((skp T n p) + 1))) C hK hW hinX7 tyX7_ok nmX7 rfl (by omega) e7 5 (by decide) (List.mem_of_getElem? (i := 2) rfl) rfl rfl rfl (Nat.le_of_ble_eq_true rfl) dX7_isDigit_32 (fun w13 H locs e14 f15 hW => ?_)
    refine lv_iconst (v := (nI 1)) C.1 C.2.1 dX7_isDigit_35 (by decide) ?_
    exact xret_z C hr hlk hW rfl ⟨(by rw [dP, if_pos hd]; exact e14), (fun j z0 => ((f15 j (by omega)).trans ((f8 j (by omega)).trans (f5 j (by omega))))), (bI_t hd).symm⟩ dX7_isDigit_36
  · have hd : ¬ dOk T n p lo hi := fun z => c20 ((chM_in hT hlo hhi).mpr z)
    refine lv_iconst (v := (nI 0)) C.1 C.2.1 dX7_isDigit_23 (by decide) ?_
    exact xret_z C hr hlk hW rfl ⟨(by rw [dP, if_neg hd]; exact e7), (fun j z0 => ((f8 j (by omega)).trans (f5 j (by omega)))), (bI_f hd).symm⟩ dX7_isDigit_24

set_option maxHeartbeats 4000000 in
set_option maxRecDepth 100000 in
theorem c_X7_kindBy (l : Launch) (g : GE) (w : Nat → va_E) (c : Nat) (hI : AdInj g) (hN : gN g = 130) (hc : c < 127) : Met l yX7_kindBy wsX7_kindBy ({ frames := 0, cells := 0, slots := 0, locals := 0 } : Room) (XPc g w [.int (nI c)]) (XQi g (fun r w' => w' = w ∧ r = (kV (kd c)))) 0 0 (gA g) := by
  refine xmet (cc := cX7_kindBy) (maxL := 1) (ret := (some .int)) (by decide) rfl hI (Nat.le_of_ble_eq_true rfl) ?_
  intro pG eG sG mG belowG methG cG ls C hr hlk hK hW hl
  have hl : lv_has ls 1 [(0, .int (nI c))] := hl
  refine lv_iload_n C.1 C.2.1 dX7_kindBy_0 rfl (lv_at hl 0 rfl) ?_
  refine lv_bipush (v := (nI 109)) C.1 C.2.1 dX7_kindBy_1 (by decide) ?_
  refine xne (tgt := 10) C (by omega) (by omega) dX7_kindBy_3 (by decide) (fun c3 => ?_) (fun c3 => ?_)
  · refine lv_iload_n C.1 C.2.1 dX7_kindBy_10 rfl (lv_at hl 0 rfl) ?_
    refine lv_bipush (v := (nI 99)) C.1 C.2.1 dX7_kindBy_11 (by decide) ?_
    refine xne (tgt := 20) C (by omega) (by omega) dX7_kindBy_13 (by decide) (fun c13 => ?_) (fun c13 => ?_)
    · refine lv_iload_n C.1 C.2.1 dX7_kindBy_20 rfl (lv_at hl 0 rfl) ?_
      refine lv_bipush (v := (nI 115)) C.1 C.2.1 dX7_kindBy_21 (by decide) ?_
      refine xne (tgt := 30) C (by omega) (by omega) dX7_kindBy_23 (by decide) (fun c23 => ?_) (fun c23 => ?_)
      · refine lv_iload_n C.1 C.2.1 dX7_kindBy_30 rfl (lv_at hl 0 rfl) ?_
        refine lv_bipush (v := (nI 103)) C.1 C.2.1 dX7_kindBy_31 (by decide) ?_
        refine xne (tgt := 40) C (by omega) (by omega) dX7_kindBy_33 (by decide) (fun c33 => ?_) (fun c33 => ?_)
        · refine lv_iload_n C.1 C.2.1 dX7_kindBy_40 rfl (lv_at hl 0 rfl) ?_
          refine lv_bipush (v := (nI 108)) C.1 C.2.1 dX7_kindBy_41 (by decide) ?_
          refine xne (tgt := 50) C (by omega) (by omega) dX7_kindBy_43 (by decide) (fun c43 => ?_) (fun c43 => ?_)
          · refine lv_iconst (v := (-1 : Int32)) C.1 C.2.1 dX7_kindBy_50 (by decide) ?_
            exact xret_i C hr hlk hW ⟨rfl, (by rw [kV, show kd c = 5 by unfold kd; rw [if_neg (by omega), if_neg (by omega), if_neg (by omega), if_neg (by omega), if_neg (by omega)]]; decide)⟩ dX7_kindBy_51
          · refine lv_iconst (v := (nI 4)) C.1 C.2.1 dX7_kindBy_46 (by decide) ?_
            refine lv_goto (tgt := 51) C.1 C.2.1 dX7_kindBy_47 (by decide) ?_
            exact xret_i C hr hlk hW ⟨rfl, (by rw [show c = 108 by omega]; decide)⟩ dX7_kindBy_51
        · refine lv_iconst (v := (nI 3)) C.1 C.2.1 dX7_kindBy_36 (by decide) ?_
          refine lv_goto (tgt := 51) C.1 C.2.1 dX7_kindBy_37 (by decide) ?_
          exact xret_i C hr hlk hW ⟨rfl, (by rw [show c = 103 by omega]; decide)⟩ dX7_kindBy_51
      · refine lv_iconst (v := (nI 2)) C.1 C.2.1 dX7_kindBy_26 (by decide) ?_
        refine lv_goto (tgt := 51) C.1 C.2.1 dX7_kindBy_27 (by decide) ?_
        exact xret_i C hr hlk hW ⟨rfl, (by rw [show c = 115 by omega]; decide)⟩ dX7_kindBy_51
    · refine lv_iconst (v := (nI 1)) C.1 C.2.1 dX7_kindBy_16 (by decide) ?_
      refine lv_goto (tgt := 51) C.1 C.2.1 dX7_kindBy_17 (by decide) ?_
      exact xret_i C hr hlk hW ⟨rfl, (by rw [show c = 99 by omega]; decide)⟩ dX7_kindBy_51
  · refine lv_iconst (v := (nI 0)) C.1 C.2.1 dX7_kindBy_6 (by decide) ?_
    refine lv_goto (tgt := 51) C.1 C.2.1 dX7_kindBy_7 (by decide) ?_
    exact xret_i C hr hlk hW ⟨rfl, (by rw [show c = 109 by omega]; decide)⟩ dX7_kindBy_51
