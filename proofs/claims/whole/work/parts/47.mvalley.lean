/-! a valley read by the reference -/
theorem chM_end {T : Nat → Nat} {n q : Nat} (hT : OkT T n) : chM T n q = 0 ↔ n ≤ q := by
  unfold chM
  by_cases h : q < n
  · rw [if_pos h]
    have := hT q h
    exact ⟨fun e => by omega, fun e => by omega⟩
  · rw [if_neg h]
    exact ⟨fun _ => by omega, fun _ => rfl⟩
theorem clR_no {T : Nat → Nat} {n c p : Nat} {K : Nat → Nat} (h5 : c < 5) (h : ¬ (cOk T n p ∧ ¬ dg T n (cA T n p))) : clR T n (5 - c) p c K = (false, cA T n p, c, K) := by
  rw [show 5 - c = (4 - c) + 1 by omega]
  exact if_neg h
theorem gW_10 {T : Nat → Nat} {n p f : Nat} {B : Nat → Nat} (hf : f < 7) : ∀ k, k ≤ f → gW T n p B k (10 + f) = B (10 + f)
  | 0, _ => rfl
  | k + 1, hk => by
    show fW T n (pF T n p k) k (gW T n p B k) (10 + f) = B (10 + f)
    unfold fW
    rw [va_up_ne _ _ (by omega), va_up_ne _ _ (by omega), va_up_ne _ _ (by omega)]
    exact gW_10 hf k (by omega)
theorem gW_hi {T : Nat → Nat} {n p i : Nat} {B : Nat → Nat} (hi : 24 ≤ i) : ∀ k, k ≤ 7 → gW T n p B k i = B i
  | 0, _ => rfl
  | k + 1, hk => by
    show fW T n (pF T n p k) k (gW T n p B k) i = B i
    unfold fW
    rw [va_up_ne _ _ (by omega), va_up_ne _ _ (by omega), va_up_ne _ _ (by omega)]
    exact gW_hi hi k (by omega)
theorem zD_ne {d i : Nat} (h : i ≠ 1) : zD d i = 0 := va_up_ne _ _ h
def rdF (B : Nat → Nat) (c : Nat) (K : Nat → Nat) : Nat → Nat := fun i => if i < 24 then B i else if i = 24 then c else if i < 40 then K i else 0
theorem rdF_24 {B K : Nat → Nat} {c : Nat} : rdF B c K 24 = c := rfl
theorem rdF_lo {B K : Nat → Nat} {c i : Nat} (h : i < 24) : rdF B c K i = B i := if_pos h
theorem rdF_cl {B K : Nat → Nat} {c i : Nat} (h : 24 < i) (h2 : i < 40) : rdF B c K i = K i := by
  unfold rdF
  rw [if_neg (by omega), if_neg (by omega), if_pos h2]
theorem rdF_hi {B K : Nat → Nat} {c i : Nat} (h : 40 ≤ i) : rdF B c K i = 0 := by
  unfold rdF
  rw [if_neg (by omega), if_neg (by omega), if_neg (by omega)]
theorem rdF_add {B K : Nat → Nat} {c f t z : Nat} (h : c < 5) : va_up (addC c f t z (rdF B c K)) 24 (c + 1) = rdF B (c + 1) (addC c f t z K) := by
  funext i
  by_cases h24 : i = 24
  · rw [h24, va_up_self]
    rfl
  · rw [va_up_ne _ _ h24]
    unfold addC
    by_cases a : i = 35 + c
    · rw [a, va_up_self, rdF_cl (by omega) (by omega), va_up_self]
    · rw [va_up_ne _ _ a]
      by_cases b : i = 30 + c
      · rw [b, va_up_self, rdF_cl (by omega) (by omega), va_up_ne _ _ (by omega), va_up_self]
      · rw [va_up_ne _ _ b]
        by_cases e : i = 25 + c
        · rw [e, va_up_self, rdF_cl (by omega) (by omega), va_up_ne _ _ (by omega), va_up_ne _ _ (by omega), va_up_self]
        · rw [va_up_ne _ _ e]
          by_cases lo : i < 24
          · rw [rdF_lo lo, rdF_lo lo]
          · by_cases hi : i < 40
            · rw [rdF_cl (by omega) hi, rdF_cl (by omega) hi, va_up_ne _ _ a, va_up_ne _ _ b, va_up_ne _ _ e]
            · rw [rdF_hi (by omega), rdF_hi (by omega)]
theorem rdF_0 {T : Nat → Nat} {n d f : Nat} (hf : f = 7) : gW T n (v1 T n) (va_up (zD d) 2 (dV T n 0)) f = rdF (vW T n (zD d)) 0 zF := by
  subst hf
  funext i
  by_cases lo : i < 24
  · rw [rdF_lo lo]
    rfl
  · rw [gW_hi (by omega) 7 (by omega), va_up_ne _ _ (by omega), zD_ne (by omega)]
    by_cases h24 : i = 24
    · rw [h24]
      rfl
    · by_cases hi : i < 40
      · rw [rdF_cl (by omega) hi]
        rfl
      · rw [rdF_hi (by omega)]

set_option maxHeartbeats 4000000 in
set_option maxRecDepth 100000 in
theorem c_X7_isValley (l : Launch) (g : GE) (w : Nat → va_E) (n d hk : Nat) (nu : Int32) (ao mu md bu bd : Nat) (T : Nat → Nat) (hI : AdInj g) (hN : gN g = 130) (hn : n ≤ 80) (hT : OkT T n) (pr0 : w 119 = .inr (7, [.ref (gad g 120), .ref (gad g 121), .ref (gad g 122), .int (nI n), .ref (gad g 123), .int (nI 0), .int nu, .ref (gad g 124), .ref (gad g 125), .ref (gad g 126), .ref (gad g 127), .int (nI hk), .ref (gad g 128), .ref (gad g 129), .long (lN ao), .long (lN mu), .long (lN md), .long (lN bu), .long (lN bd)])) (pr1 : w 123 = .inl (gI g, 80, .inl (cK 80 0 T))) (pr2 : w 126 = .inl (gI g, 177, .inl (cK 177 0 (zD d)))) : Met l yX7_isValley wsX7_isValley ({ frames := 4, cells := 0, slots := 0, locals := 90 } : Room) (XPc g w [.ref (gad g 119)]) (XQi g (fun r w' => ∃ (L1 : Nat → Nat) (nu1 : Int32), w' 119 = .inr (7, [.ref (gad g 120), .ref (gad g 121), .ref (gad g 122), .int (nI n), .ref (gad g 123), .int (nI (vP T n zF)), .int nu1, .ref (gad g 124), .ref (gad g 125), .ref (gad g 126), .ref (gad g 127), .int (nI hk), .ref (gad g 128), .ref (gad g 129), .long (lN ao), .long (lN mu), .long (lN md), .long (lN bu), .long (lN bd)]) ∧ w' 126 = .inl (gI g, 177, .inl (cK 177 0 L1)) ∧ (∀ j : Nat, ¬ (119 ≤ j ∧ j < 120) → ¬ (126 ≤ j ∧ j < 127) → w' j = w j) ∧ (vOk T n zF → L1 = rdF (vW T n (zD d)) (vC T n zF).2.2.1 (vC T n zF).2.2.2) ∧ r = (bI (vOk T n zF)))) 0 0 (gA g) := by
  refine xmet (cc := cX7_isValley) (maxL := 2) (ret := (some .boolean)) (by decide) rfl hI (Nat.le_of_ble_eq_true rfl) ?_
  intro pG eG sG mG belowG methG cG ls C hr hlk hK hW hl
  have hl : lv_has ls 2 [(0, .ref (gad g 119))] := hl
  have hinX7 : ∀ x ∈ u_ws RX7 TX7 19, x ∈ wsX7_isValley := by decide +kernel
  refine lv_aload_n C.1 C.2.1 dX7_isValley_0 rfl (lv_at hl 0 rfl) ?_
  refine lv_iconst (v := (nI 0)) C.1 C.2.1 dX7_isValley_1 (by decide) ?_
  refine lv_bipush (v := (nI 6)) C.1 C.2.1 dX7_isValley_2 (by decide) ?_
  refine xcV_i (n := 2) (As := [.int (nI 0), .int (nI 6)]) C hK hW (c_X7_isDigit l g w n 0 hk nu ao mu md bu bd 0 6 T hI hN (by omega) (Nat.zero_le _) hT (by omega) (by omega) pr0 pr1) gX7_isValley_X7_isDigit rfl ⟨rfl, rfl⟩ (by decide +kernel) ⟨Nat.le_of_ble_eq_true rfl, Nat.le_of_ble_eq_true rfl⟩ ⟨Nat.zero_le _, Nat.zero_le _⟩ rfl (by omega) pr0 rfl hl rfl (Nat.le_of_ble_eq_true rfl) dX7_isValley_4 (fun r3 w1 H locs q2 hW => ?_)
  obtain ⟨h4, f5, rfl⟩ := q2
  have h6 : w1 119 = .inr (7, [.ref (gad g 120), .ref (gad g 121), .ref (gad g 122), .int (nI n), .ref (gad g 123), .int (nI (v0 T n)), .int (nI (chM T n (skp T n 0)) - nI 48), .ref (gad g 124), .ref (gad g 125), .ref (gad g 126), .ref (gad g 127), .int (nI hk), .ref (gad g 128), .ref (gad g 129), .long (lN ao), .long (lN mu), .long (lN md), .long (lN bu), .long (lN bd)]) := h4
  refine xBne (tgt := 12) C dX7_isValley_7 (by decide) (fun c7 => ?_) (fun c7 => ?_)
  · have h7 : w1 119 = .inr (7, [.ref (gad g 120), .ref (gad g 121), .ref (gad g 122), .int (nI n), .ref (gad g 123), .int (nI (v0 T n)), .int (nI (dV T n 0)), .ref (gad g 124), .ref (gad g 125), .ref (gad g 126), .ref (gad g 127), .int (nI hk), .ref (gad g 128), .ref (gad g 129), .long (lN ao), .long (lN mu), .long (lN md), .long (lN bu), .long (lN bd)]) := h6.trans (by rw [chM_v c7])
    have hv0 := dV_in c7
    refine lv_aload_n C.1 C.2.1 dX7_isValley_12 rfl (lv_at hl 0 rfl) ?_
    refine xget C hK hW hinX7 rfl (by omega) h7 9 (by decide) (List.mem_of_getElem? (i := 1) rfl) rfl dX7_isValley_13 ?_
    refine lv_iconst (v := (nI 2)) C.1 C.2.1 dX7_isValley_16 (by decide) ?_
    refine lv_aload_n C.1 C.2.1 dX7_isValley_17 rfl (lv_at hl 0 rfl) ?_
    refine xget C hK hW hinX7 rfl (by omega) h7 6 (by decide) (List.mem_of_getElem? (i := 2) rfl) rfl dX7_isValley_18 ?_
    have h8 : w1 126 = .inl (gI g, 177, .inl (cK 177 0 (zD d))) := ((f5 126 (by omega)).trans pr2)
    refine xistK0 (v := dV T n 0) C hK hW (by omega) h8 (by omega) (by decide) dX7_isValley_21 (fun w9 H locs e10 f11 hW => ?_)
    refine lv_aload_n C.1 C.2.1 dX7_isValley_22 rfl (lv_at hl 0 rfl) ?_
    refine lv_bipush (v := (nI 58)) C.1 C.2.1 dX7_isValley_23 (by decide) ?_
    have h12 : w9 119 = .inr (7, [.ref (gad g 120), .ref (gad g 121), .ref (gad g 122), .int (nI n), .ref (gad g 123), .int (nI (v0 T n)), .int (nI (dV T n 0)), .ref (gad g 124), .ref (gad g 125), .ref (gad g 126), .ref (gad g 127), .int (nI hk), .ref (gad g 128), .ref (gad g 129), .long (lN ao), .long (lN mu), .long (lN md), .long (lN bu), .long (lN bd)]) := ((f11 119 (by omega)).trans h7)
    have h13 : w9 123 = .inl (gI g, 80, .inl (cK 80 0 T)) := ((f11 123 (by omega)).trans ((f5 123 (by omega)).trans pr1))
    refine xcV_i (n := 1) (As := [.int (nI 58)]) C hK hW (c_X7_isSign l g w9 n (v0 T n) hk (nI (dV T n 0)) ao mu md bu bd 58 T hI hN (by omega) v0_le hT (by omega) (by omega) h12 h13) gX7_isValley_X7_isSign rfl ⟨rfl, rfl⟩ (by decide +kernel) ⟨Nat.le_of_ble_eq_true rfl, Nat.le_of_ble_eq_true rfl⟩ ⟨Nat.zero_le _, Nat.zero_le _⟩ rfl (by omega) h12 rfl hl rfl (Nat.le_of_ble_eq_true rfl) dX7_isValley_25 (fun r16 w14 H locs q15 hW => ?_)
    obtain ⟨h17, f18, rfl⟩ := q15
    have h19 : w14 119 = .inr (7, [.ref (gad g 120), .ref (gad g 121), .ref (gad g 122), .int (nI n), .ref (gad g 123), .int (nI (v1 T n)), .int (nI (dV T n 0)), .ref (gad g 124), .ref (gad g 125), .ref (gad g 126), .ref (gad g 127), .int (nI hk), .ref (gad g 128), .ref (gad g 129), .long (lN ao), .long (lN mu), .long (lN md), .long (lN bu), .long (lN bd)]) := h17
    refine xBne (tgt := 33) C dX7_isValley_28 (by decide) (fun c28 => ?_) (fun c28 => ?_)
    · refine lv_iconst (v := (nI 0)) C.1 C.2.1 dX7_isValley_33 (by decide) ?_
      refine lv_istore_n (lv' := [(1, .int (nI 0)), (0, .ref (gad g 119))]) C.1 C.2.1 dX7_isValley_34 rfl hl (by decide) rfl (fun ls hl => ?_)
      have loop35 : ∀ (kG : Nat) (f : Nat) (nu2 : Int32) (v35 : Nat → va_E) (H : Heap) (locs : List Loc) (ls : Array Slot), kG = 7 - f → (v35 119 = .inr (7, [.ref (gad g 120), .ref (gad g 121), .ref (gad g 122), .int (nI n), .ref (gad g 123), .int (nI (pF T n (v1 T n) f)), .int nu2, .ref (gad g 124), .ref (gad g 125), .ref (gad g 126), .ref (gad g 127), .int (nI hk), .ref (gad g 128), .ref (gad g 129), .long (lN ao), .long (lN mu), .long (lN md), .long (lN bu), .long (lN bd)])) → (v35 123 = .inl (gI g, 80, .inl (cK 80 0 T))) → (v35 126 = .inl (gI g, 177, .inl (cK 177 0 (gW T n (v1 T n) (va_up (zD d) 2 (dV T n 0)) f)))) → (∀ j : Nat, ¬ (119 ≤ j ∧ j < 120) → ¬ (126 ≤ j ∧ j < 127) → v35 j = w j) → (f ≤ 7) → (flR T n (7 - f) (pF T n (v1 T n) f) = vL T n) → XW g v35 (gA g) sG.heap H locs → lv_has ls 2 [(1, .int (nI f)), (0, .ref (gad g 119))] → W pG l eG ({ frames := 4, cells := 0, slots := 0, locals := 90 } : Room) sG mG ([.ref (gad g 119)] : List Value).toArray belowG methG cG H locs 0 0 (MQ belowG (XQi g (fun r w' => ∃ (L1 : Nat → Nat) (nu1 : Int32), w' 119 = .inr (7, [.ref (gad g 120), .ref (gad g 121), .ref (gad g 122), .int (nI n), .ref (gad g 123), .int (nI (vP T n zF)), .int nu1, .ref (gad g 124), .ref (gad g 125), .ref (gad g 126), .ref (gad g 127), .int (nI hk), .ref (gad g 128), .ref (gad g 129), .long (lN ao), .long (lN mu), .long (lN md), .long (lN bu), .long (lN bd)]) ∧ w' 126 = .inl (gI g, 177, .inl (cK 177 0 L1)) ∧ (∀ j : Nat, ¬ (119 ≤ j ∧ j < 120) → ¬ (126 ≤ j ∧ j < 127) → w' j = w j) ∧ (vOk T n zF → L1 = rdF (vW T n (zD d)) (vC T n zF).2.2.1 (vC T n zF).2.2.2) ∧ r = (bI (vOk T n zF)))) ([.ref (gad g 119)] : List Value).toArray sG 0 0 (gA g)) (F0 mG 35 ls []) := by
        intro k35
        induction k35 using Nat.strongRecOn with
        | _ k35 ih35 =>
        intro f nu2 v35 H locs ls hk35 fa35_0 fa35_1 fa35_2 hfr35 hf hFl hW hl
        refine lv_iload_n C.1 C.2.1 dX7_isValley_35 rfl (lv_at hl 0 rfl) ?_
        refine lv_bipush (v := (nI 7)) C.1 C.2.1 dX7_isValley_36 (by decide) ?_
        refine xge (tgt := 57) C (by omega) (by omega) dX7_isValley_38 (by decide) (fun c38 => ?_) (fun c38 => ?_)
        · have hgd := fl_end (by omega) hFl
          have hb1 : (vL T n).1 = true := by rw [hgd]
          have hb2 : (vL T n).2 = pF T n (v1 T n) f := by rw [hgd]
          have h20 : v35 119 = .inr (7, [.ref (gad g 120), .ref (gad g 121), .ref (gad g 122), .int (nI n), .ref (gad g 123), .int (nI ((vL T n).2)), .int nu2, .ref (gad g 124), .ref (gad g 125), .ref (gad g 126), .ref (gad g 127), .int (nI hk), .ref (gad g 128), .ref (gad g 129), .long (lN ao), .long (lN mu), .long (lN md), .long (lN bu), .long (lN bd)]) := fa35_0.trans (by rw [hb2])
          have h21 : v35 126 = .inl (gI g, 177, .inl (cK 177 0 (rdF (vW T n (zD d)) 0 zF))) := fa35_2.trans (by rw [rdF_0 (by omega)])
          refine lv_aload_n C.1 C.2.1 dX7_isValley_57 rfl (lv_at hl 1 rfl) ?_
          refine lv_bipush (v := (nI 59)) C.1 C.2.1 dX7_isValley_58 (by decide) ?_
          refine xcV_i (n := 1) (As := [.int (nI 59)]) C hK hW (c_X7_isSign l g v35 n ((vL T n).2) hk nu2 ao mu md bu bd 59 T hI hN (by omega) vL_le hT (by omega) (by omega) h20 fa35_1) gX7_isValley_X7_isSign rfl ⟨rfl, rfl⟩ (by decide +kernel) ⟨Nat.le_of_ble_eq_true rfl, Nat.le_of_ble_eq_true rfl⟩ ⟨Nat.zero_le _, Nat.zero_le _⟩ rfl (by omega) h20 rfl hl rfl (Nat.le_of_ble_eq_true rfl) dX7_isValley_60 (fun r24 w22 H locs q23 hW => ?_)
          obtain ⟨h25, f26, rfl⟩ := q23
          have loop64 : ∀ (kG : Nat) (c q mo : Nat) (K2 : Nat → Nat) (nu2 : Int32) (v64 : Nat → va_E) (H : Heap) (locs : List Loc) (ls : Array Slot), kG = 5 - c → (v64 119 = .inr (7, [.ref (gad g 120), .ref (gad g 121), .ref (gad g 122), .int (nI n), .ref (gad g 123), .int (nI q), .int nu2, .ref (gad g 124), .ref (gad g 125), .ref (gad g 126), .ref (gad g 127), .int (nI hk), .ref (gad g 128), .ref (gad g 129), .long (lN ao), .long (lN mu), .long (lN md), .long (lN bu), .long (lN bd)])) → (v64 123 = .inl (gI g, 80, .inl (cK 80 0 T))) → (v64 126 = .inl (gI g, 177, .inl (cK 177 0 (rdF (vW T n (zD d)) c K2)))) → (∀ j : Nat, ¬ (119 ≤ j ∧ j < 120) → ¬ (126 ≤ j ∧ j < 127) → v64 j = w j) → (mo ≤ 1) → (c ≤ 5) → (q ≤ n) → ((mo = 1 ∧ c < 5 ∧ clR T n (5 - c) q c K2 = vC T n zF) ∨ (mo = 0 ∧ vC T n zF = (true, q, c, K2))) → XW g v64 (gA g) sG.heap H locs → lv_has ls 2 [(1, .int (nI mo)), (0, .ref (gad g 119))] → W pG l eG ({ frames := 4, cells := 0, slots := 0, locals := 90 } : Room) sG mG ([.ref (gad g 119)] : List Value).toArray belowG methG cG H locs 0 0 (MQ belowG (XQi g (fun r w' => ∃ (L1 : Nat → Nat) (nu1 : Int32), w' 119 = .inr (7, [.ref (gad g 120), .ref (gad g 121), .ref (gad g 122), .int (nI n), .ref (gad g 123), .int (nI (vP T n zF)), .int nu1, .ref (gad g 124), .ref (gad g 125), .ref (gad g 126), .ref (gad g 127), .int (nI hk), .ref (gad g 128), .ref (gad g 129), .long (lN ao), .long (lN mu), .long (lN md), .long (lN bu), .long (lN bd)]) ∧ w' 126 = .inl (gI g, 177, .inl (cK 177 0 L1)) ∧ (∀ j : Nat, ¬ (119 ≤ j ∧ j < 120) → ¬ (126 ≤ j ∧ j < 127) → w' j = w j) ∧ (vOk T n zF → L1 = rdF (vW T n (zD d)) (vC T n zF).2.2.1 (vC T n zF).2.2.2) ∧ r = (bI (vOk T n zF)))) ([.ref (gad g 119)] : List Value).toArray sG 0 0 (gA g)) (F0 mG 64 ls []) := by
            intro k64
            induction k64 using Nat.strongRecOn with
            | _ k64 ih64 =>
            intro c q mo K2 nu2 v64 H locs ls hk64 fa64_0 fa64_1 fa64_2 hfr64 hmo hc hq hInv hW hl
            refine lv_iload_n C.1 C.2.1 dX7_isValley_64 rfl (lv_at hl 0 rfl) ?_
            refine x0eq (tgt := 106) C (by omega) dX7_isValley_65 (by decide) (fun c65 => ?_) (fun c65 => ?_)
            · have hvC : vC T n zF = (true, q, c, K2) := (hInv.resolve_left (fun h => absurd h.1 (by omega))).2
              have hvb : (vC T n zF).1 = true := by rw [hvC]
              have hvq : (vC T n zF).2.1 = q := by rw [hvC]
              refine lv_aload_n C.1 C.2.1 dX7_isValley_106 rfl (lv_at hl 1 rfl) ?_
              refine xcV_i (n := 0) (As := []) C hK hW (c_X7_peek l g v64 n q hk nu2 ao mu md bu bd T hI hN (by omega) hq hT fa64_0 fa64_1) gX7_isValley_X7_peek rfl ⟨rfl, rfl⟩ (by decide +kernel) ⟨Nat.le_of_ble_eq_true rfl, Nat.le_of_ble_eq_true rfl⟩ ⟨Nat.zero_le _, Nat.zero_le _⟩ rfl (by omega) fa64_0 rfl hl rfl (Nat.le_of_ble_eq_true rfl) dX7_isValley_107 (fun r29 w27 H locs q28 hW => ?_)
              obtain ⟨h30, f31, rfl⟩ := q28
              have hcm := chM_le (T := T) (n := n) (q := skp T n q) hT
              refine x0ne (tgt := 117) C (by omega) dX7_isValley_110 (by decide) (fun c110 => ?_) (fun c110 => ?_)
              · refine lv_iconst (v := (nI 0)) C.1 C.2.1 dX7_isValley_117 (by decide) ?_
                have h32 : w27 126 = .inl (gI g, 177, .inl (cK 177 0 (rdF (vW T n (zD d)) c K2))) := ((f31 126 (by omega)).trans fa64_2)
                exact xret_z C hr hlk hW rfl ⟨_, _, (by rw [vP, if_pos c7, if_pos c28, if_pos (c := (vL T n).1 = true) hb1, if_pos (c := (vC T n zF).1 = true) hvb, hvq]; exact h30), h32, (fun j z0 z1 => ((f31 j (by omega)).trans (hfr64 j z0 z1))), (fun z => absurd z (fun z => c110 ((chM_end hT).mpr (by rw [← hvq]; exact z.2.2.2)))), (bI_f (P := vOk T n zF) (fun z => c110 ((chM_end hT).mpr (by rw [← hvq]; exact z.2.2.2)))).symm⟩ dX7_isValley_118
              · refine lv_iconst (v := (nI 1)) C.1 C.2.1 dX7_isValley_113 (by decide) ?_
                refine lv_goto (tgt := 118) C.1 C.2.1 dX7_isValley_114 (by decide) ?_
                have h33 : w27 126 = .inl (gI g, 177, .inl (cK 177 0 (rdF (vW T n (zD d)) c K2))) := ((f31 126 (by omega)).trans fa64_2)
                exact xret_z C hr hlk hW rfl ⟨_, _, (by rw [vP, if_pos c7, if_pos c28, if_pos (c := (vL T n).1 = true) hb1, if_pos (c := (vC T n zF).1 = true) hvb, hvq]; exact h30), h33, (fun j z0 z1 => ((f31 j (by omega)).trans (hfr64 j z0 z1))), (fun _ => by rw [hvC]), (bI_t (P := vOk T n zF) ⟨⟨c7, c28⟩, hb1, hvb, (by rw [hvq]; exact (chM_end hT).mp c110)⟩).symm⟩ dX7_isValley_118
            · have hR : clR T n (5 - c) q c K2 = vC T n zF := (hInv.resolve_right (fun h => absurd h.1 (by omega))).2.2
              have hc5 : c < 5 := (hInv.resolve_right (fun h => absurd h.1 (by omega))).2.1
              refine lv_aload_n C.1 C.2.1 dX7_isValley_68 rfl (lv_at hl 1 rfl) ?_
              refine xcV_i (n := 0) (As := []) C hK hW (c_X7_isClaimItem l g v64 n q hk nu2 ao mu md bu bd T (rdF (vW T n (zD d)) c K2) hI hN (by omega) hq hT (by rw [rdF_24]; exact hc5) fa64_0 fa64_1 fa64_2) gX7_isValley_X7_isClaimItem rfl ⟨rfl, rfl⟩ (by decide +kernel) ⟨Nat.le_of_ble_eq_true rfl, Nat.le_of_ble_eq_true rfl⟩ ⟨Nat.zero_le _, Nat.zero_le _⟩ rfl (by omega) fa64_0 rfl hl rfl (Nat.le_of_ble_eq_true rfl) dX7_isValley_69 (fun r36 w34 H locs q35 hW => ?_)
              obtain ⟨L1_41, nu1_42, h37, h38, f39, x40, rfl⟩ := q35
              refine xBne (tgt := 77) C dX7_isValley_72 (by decide) (fun c72 => ?_) (fun c72 => ?_)
              · have hR2 : clH T n (c + 1) (cA T n q) (addC c (dV T n q) (cT T n q) (cZ T n q) K2) = vC T n zF := (clR_ok hc5 c72.1 c72.2).symm.trans hR
                have hqa := cA_le (T := T) hq
                have hqb := aP_le (T := T) (c := 44) hqa
                have h43 : w34 126 = .inl (gI g, 177, .inl (cK 177 0 (rdF (vW T n (zD d)) (c + 1) (addC c (dV T n q) (cT T n q) (cZ T n q) K2)))) := h38.trans (by rw [x40 c72, rdF_24, rdF_add hc5])
                refine lv_aload_n C.1 C.2.1 dX7_isValley_77 rfl (lv_at hl 1 rfl) ?_
                refine xget C hK hW hinX7 rfl (by omega) h37 9 (by decide) (List.mem_of_getElem? (i := 1) rfl) rfl dX7_isValley_78 ?_
                refine lv_bipush (v := (nI 24)) C.1 C.2.1 dX7_isValley_81 (by decide) ?_
                refine xildK0 C hK hW (by omega) h43 (by omega) (by decide) dX7_isValley_83 ?_
                refine xtopN (b := c + 1) rdF_24 ?_
                refine lv_iconst (v := (nI 5)) C.1 C.2.1 dX7_isValley_84 (by decide) ?_
                refine xge (tgt := 101) C (by omega) (by omega) dX7_isValley_85 (by decide) (fun c85 => ?_) (fun c85 => ?_)
                · refine lv_iconst (v := (nI 0)) C.1 C.2.1 dX7_isValley_101 (by decide) ?_
                  refine lv_istore_n (lv' := [(1, .int (nI 0)), (0, .ref (gad g 119))]) C.1 C.2.1 dX7_isValley_102 rfl hl (by decide) rfl (fun ls hl => ?_)
                  refine lv_goto (tgt := 64) C.1 C.2.1 dX7_isValley_103 (by decide) ?_
                  have h44 : w34 123 = .inl (gI g, 80, .inl (cK 80 0 T)) := ((f39 123 (by omega) (by omega)).trans fa64_1)
                  exact ih64 (5 - (c + 1)) (by omega) (c + 1) (cA T n q) 0 (addC c (dV T n q) (cT T n q) (cZ T n q) K2) nu1_42 w34 _ _ _ rfl h37 h44 h43 (fun j z0 z1 => ((f39 j (by omega) (by omega)).trans (hfr64 j z0 z1))) (by omega) (by omega) (by first | omega | exact v9_le) (Or.inr ⟨rfl, hR2.symm.trans (clH_5 (by omega))⟩) hW hl
                · refine lv_aload_n C.1 C.2.1 dX7_isValley_88 rfl (lv_at hl 1 rfl) ?_
                  refine lv_bipush (v := (nI 44)) C.1 C.2.1 dX7_isValley_89 (by decide) ?_
                  have h45 : w34 123 = .inl (gI g, 80, .inl (cK 80 0 T)) := ((f39 123 (by omega) (by omega)).trans fa64_1)
                  refine xcV_i (n := 1) (As := [.int (nI 44)]) C hK hW (c_X7_isSign l g w34 n (cA T n q) hk nu1_42 ao mu md bu bd 44 T hI hN (by omega) (cA_le hq) hT (by omega) (by omega) h37 h45) gX7_isValley_X7_isSign rfl ⟨rfl, rfl⟩ (by decide +kernel) ⟨Nat.le_of_ble_eq_true rfl, Nat.le_of_ble_eq_true rfl⟩ ⟨Nat.zero_le _, Nat.zero_le _⟩ rfl (by omega) h37 rfl hl rfl (Nat.le_of_ble_eq_true rfl) dX7_isValley_91 (fun r48 w46 H locs q47 hW => ?_)
                  obtain ⟨h49, f50, rfl⟩ := q47
                  refine xBeq (tgt := 101) C dX7_isValley_94 (by decide) (fun c94 => ?_) (fun c94 => ?_)
                  · refine lv_iconst (v := (nI 0)) C.1 C.2.1 dX7_isValley_101 (by decide) ?_
                    refine lv_istore_n (lv' := [(1, .int (nI 0)), (0, .ref (gad g 119))]) C.1 C.2.1 dX7_isValley_102 rfl hl (by decide) rfl (fun ls hl => ?_)
                    refine lv_goto (tgt := 64) C.1 C.2.1 dX7_isValley_103 (by decide) ?_
                    have h51 : w46 123 = .inl (gI g, 80, .inl (cK 80 0 T)) := ((f50 123 (by omega)).trans h45)
                    have h52 : w46 126 = .inl (gI g, 177, .inl (cK 177 0 (rdF (vW T n (zD d)) (c + 1) (addC c (dV T n q) (cT T n q) (cZ T n q) K2)))) := ((f50 126 (by omega)).trans h43)
                    exact ih64 (5 - (c + 1)) (by omega) (c + 1) (aP T n (cA T n q) 44) 0 (addC c (dV T n q) (cT T n q) (cZ T n q) K2) nu1_42 w46 _ _ _ rfl h49 h51 h52 (fun j z0 z1 => ((f50 j (by omega)).trans ((f39 j (by omega) (by omega)).trans (hfr64 j z0 z1)))) (by omega) (by omega) (by first | omega | exact v9_le) (Or.inr ⟨rfl, hR2.symm.trans (clH_no (by omega) (by omega) c94)⟩) hW hl
                  · refine lv_iconst (v := (nI 1)) C.1 C.2.1 dX7_isValley_97 (by decide) ?_
                    refine lv_goto (tgt := 102) C.1 C.2.1 dX7_isValley_98 (by decide) ?_
                    refine lv_istore_n (lv' := [(1, .int (nI 1)), (0, .ref (gad g 119))]) C.1 C.2.1 dX7_isValley_102 rfl hl (by decide) rfl (fun ls hl => ?_)
                    refine lv_goto (tgt := 64) C.1 C.2.1 dX7_isValley_103 (by decide) ?_
                    have h53 : w46 123 = .inl (gI g, 80, .inl (cK 80 0 T)) := ((f50 123 (by omega)).trans h45)
                    have h54 : w46 126 = .inl (gI g, 177, .inl (cK 177 0 (rdF (vW T n (zD d)) (c + 1) (addC c (dV T n q) (cT T n q) (cZ T n q) K2)))) := ((f50 126 (by omega)).trans h43)
                    exact ih64 (5 - (c + 1)) (by omega) (c + 1) (aP T n (cA T n q) 44) 1 (addC c (dV T n q) (cT T n q) (cZ T n q) K2) nu1_42 w46 _ _ _ rfl h49 h53 h54 (fun j z0 z1 => ((f50 j (by omega)).trans ((f39 j (by omega) (by omega)).trans (hfr64 j z0 z1)))) (by omega) (by omega) (by first | omega | exact v9_le) (Or.inl ⟨rfl, by omega, (clH_go (by omega) (by omega) c94).symm.trans hR2⟩) hW hl
              · have hvC : vC T n zF = (false, cA T n q, c, K2) := hR.symm.trans (clR_no hc5 c72)
                have hvb : (vC T n zF).1 = false := by rw [hvC]
                have hvq : (vC T n zF).2.1 = cA T n q := by rw [hvC]
                refine lv_iconst (v := (nI 0)) C.1 C.2.1 dX7_isValley_75 (by decide) ?_
                exact xret_z C hr hlk hW rfl ⟨_, _, (by rw [vP, if_pos c7, if_pos c28, if_pos (c := (vL T n).1 = true) hb1, if_neg (c := (vC T n zF).1 = true) (by rw [hvb]; exact Bool.false_ne_true), hvq]; exact h37), h38, (fun j z0 z1 => ((f39 j (by omega) (by omega)).trans (hfr64 j z0 z1))), (fun z => absurd z (fun z => absurd z.2.2.1 (by rw [hvb]; exact Bool.false_ne_true))), (bI_f (P := vOk T n zF) (fun z => absurd z.2.2.1 (by rw [hvb]; exact Bool.false_ne_true))).symm⟩ dX7_isValley_76
          have h55 : w22 119 = .inr (7, [.ref (gad g 120), .ref (gad g 121), .ref (gad g 122), .int (nI n), .ref (gad g 123), .int (nI (v9 T n)), .int nu2, .ref (gad g 124), .ref (gad g 125), .ref (gad g 126), .ref (gad g 127), .int (nI hk), .ref (gad g 128), .ref (gad g 129), .long (lN ao), .long (lN mu), .long (lN md), .long (lN bu), .long (lN bd)]) := h25
          by_cases s59 : aOk T n (vL T n).2 59
          · refine xtopI (b := nI 1) (bI_t s59) ?_
            refine lv_istore_n (lv' := [(1, .int (nI 1)), (0, .ref (gad g 119))]) C.1 C.2.1 dX7_isValley_63 rfl hl (by decide) rfl (fun ls hl => ?_)
            have h56 : w22 123 = .inl (gI g, 80, .inl (cK 80 0 T)) := ((f26 123 (by omega)).trans fa35_1)
            have h57 : w22 126 = .inl (gI g, 177, .inl (cK 177 0 (rdF (vW T n (zD d)) 0 zF))) := ((f26 126 (by omega)).trans h21)
            exact loop64 _ 0 (v9 T n) 1 zF nu2 w22 _ _ _ rfl h55 h56 h57 (fun j z0 z1 => ((f26 j (by omega)).trans (hfr35 j z0 z1))) (by omega) (by omega) (by first | omega | exact v9_le) (Or.inl ⟨rfl, by decide, (if_pos s59).symm⟩) hW hl
          · refine xtopI (b := nI 0) (bI_f s59) ?_
            refine lv_istore_n (lv' := [(1, .int (nI 0)), (0, .ref (gad g 119))]) C.1 C.2.1 dX7_isValley_63 rfl hl (by decide) rfl (fun ls hl => ?_)
            have h58 : w22 123 = .inl (gI g, 80, .inl (cK 80 0 T)) := ((f26 123 (by omega)).trans fa35_1)
            have h59 : w22 126 = .inl (gI g, 177, .inl (cK 177 0 (rdF (vW T n (zD d)) 0 zF))) := ((f26 126 (by omega)).trans h21)
            exact loop64 _ 0 (v9 T n) 0 zF nu2 w22 _ _ _ rfl h55 h58 h59 (fun j z0 z1 => ((f26 j (by omega)).trans (hfr35 j z0 z1))) (by omega) (by omega) (by first | omega | exact v9_le) (Or.inr ⟨rfl, if_neg s59⟩) hW hl
        · refine lv_aload_n C.1 C.2.1 dX7_isValley_41 rfl (lv_at hl 1 rfl) ?_
          refine lv_iload_n C.1 C.2.1 dX7_isValley_42 rfl (lv_at hl 0 rfl) ?_
          refine xcV_i (n := 1) (As := [.int (nI f)]) C hK hW (c_X7_isFieldItem l g v35 n (pF T n (v1 T n) f) hk nu2 ao mu md bu bd f T (gW T n (v1 T n) (va_up (zD d) 2 (dV T n 0)) f) hI hN (by omega) (pF_le v1_le f) hT (by omega) (by rw [gW_10 (by omega) f (by omega), va_up_ne _ _ (by omega), zD_ne (by omega)]) fa35_0 fa35_1 fa35_2) gX7_isValley_X7_isFieldItem rfl ⟨rfl, rfl⟩ (by decide +kernel) ⟨Nat.le_of_ble_eq_true rfl, Nat.le_of_ble_eq_true rfl⟩ ⟨Nat.zero_le _, Nat.zero_le _⟩ rfl (by omega) fa35_0 rfl hl rfl (Nat.le_of_ble_eq_true rfl) dX7_isValley_43 (fun r62 w60 H locs q61 hW => ?_)
          obtain ⟨L1_67, nu1_68, h63, h64, f65, x66, rfl⟩ := q61
          refine xBne (tgt := 51) C dX7_isValley_46 (by decide) (fun c46 => ?_) (fun c46 => ?_)
          · have h69 : w60 126 = .inl (gI g, 177, .inl (cK 177 0 (gW T n (v1 T n) (va_up (zD d) 2 (dV T n 0)) (f + 1)))) := h64.trans (by rw [x66 c46]; rfl)
            have h70 : w60 119 = .inr (7, [.ref (gad g 120), .ref (gad g 121), .ref (gad g 122), .int (nI n), .ref (gad g 123), .int (nI (pF T n (v1 T n) (f + 1))), .int nu1_68, .ref (gad g 124), .ref (gad g 125), .ref (gad g 126), .ref (gad g 127), .int (nI hk), .ref (gad g 128), .ref (gad g 129), .long (lN ao), .long (lN mu), .long (lN md), .long (lN bu), .long (lN bd)]) := h63
            refine lv_iinc (v := nI (f + 1)) (lv' := [(1, .int (nI (f + 1))), (0, .ref (gad g 119))]) C.1 C.2.1 dX7_isValley_51 hl (k := 0) rfl (nI_add _ 1) (by decide) rfl (fun ls hl => ?_)
            refine lv_goto (tgt := 35) C.1 C.2.1 dX7_isValley_54 (by decide) ?_
            have h71 : w60 123 = .inl (gI g, 80, .inl (cK 80 0 T)) := ((f65 123 (by omega) (by omega)).trans fa35_1)
            exact ih35 (7 - (f + 1)) (by omega) (f + 1) nu1_68 w60 _ _ _ rfl h70 h71 h69 (fun j z0 z1 => ((f65 j (by omega) (by omega)).trans (hfr35 j z0 z1))) (by omega) (fl_step (by omega) hFl c46) hW hl
          · have hbd := fl_bad (by omega) hFl c46
            have hb1 : (vL T n).1 = false := by rw [hbd]
            have hb2 : (vL T n).2 = fP T n (pF T n (v1 T n) f) := by rw [hbd]
            refine lv_iconst (v := (nI 0)) C.1 C.2.1 dX7_isValley_49 (by decide) ?_
            exact xret_z C hr hlk hW rfl ⟨_, _, (by rw [vP, if_pos c7, if_pos c28, if_neg (c := (vL T n).1 = true) (by rw [hb1]; exact Bool.false_ne_true), hb2]; exact h63), h64, (fun j z0 z1 => ((f65 j (by omega) (by omega)).trans (hfr35 j z0 z1))), (fun z => absurd z (fun z => absurd z.2.1 (by rw [hb1]; exact Bool.false_ne_true))), (bI_f (P := vOk T n zF) (fun z => absurd z.2.1 (by rw [hb1]; exact Bool.false_ne_true))).symm⟩ dX7_isValley_50
      have h72 : w14 123 = .inl (gI g, 80, .inl (cK 80 0 T)) := ((f18 123 (by omega)).trans h13)
      have h73 : w14 126 = .inl (gI g, 177, .inl (cK 177 0 (va_up (zD d) 2 (dV T n 0)))) := ((f18 126 (by omega)).trans e10)
      exact loop35 _ 0 (nI (dV T n 0)) w14 _ _ _ rfl h19 h72 h73 (fun j z0 z1 => ((f18 j (by omega)).trans ((f11 j (by omega)).trans (f5 j (by omega))))) (by omega) (rfl) hW hl
    · refine lv_iconst (v := (nI 0)) C.1 C.2.1 dX7_isValley_31 (by decide) ?_
      have h74 : w14 126 = .inl (gI g, 177, .inl (cK 177 0 (va_up (zD d) 2 (dV T n 0)))) := ((f18 126 (by omega)).trans e10)
      exact xret_z C hr hlk hW rfl ⟨_, _, (by rw [vP, if_pos c7, if_neg c28]; exact h19), h74, (fun j z0 z1 => ((f18 j (by omega)).trans ((f11 j (by omega)).trans (f5 j (by omega))))), (fun z => absurd z (fun z => c28 z.1.2)), (bI_f (P := vOk T n zF) (fun z => c28 z.1.2)).symm⟩ dX7_isValley_32
  · refine lv_iconst (v := (nI 0)) C.1 C.2.1 dX7_isValley_10 (by decide) ?_
    have h75 : w1 126 = .inl (gI g, 177, .inl (cK 177 0 (zD d))) := ((f5 126 (by omega)).trans pr2)
    exact xret_z C hr hlk hW rfl ⟨_, _, (by rw [vP, if_neg c7]; exact h6), h75, (fun j z0 z1 => (f5 j (by omega))), (fun z => absurd z (fun z => c7 z.1.1)), (bI_f (P := vOk T n zF) (fun z => c7 z.1.1)).symm⟩ dX7_isValley_11

set_option maxHeartbeats 4000000 in
set_option maxRecDepth 100000 in
theorem c_X7_valley (l : Launch) (g : GE) (w : Nat → va_E) (L K T ln sz : Nat → Nat) (hk tn : Nat) (Z : Nat → Int64)  (hI : AdInj g) (hN : gN g = 130) (hS : OkS (L, K, hk, tn, T, ln, sz, Z)) (pr0 : MAll g (L, K, hk, tn, T, ln, sz, Z) w) : Met l yX7_valley wsX7_valley ({ frames := 5, cells := 0, slots := 0, locals := 111 } : Room) (XPc g w [.ref (gad g 119)]) (XQi g (fun r w' => MAll g (valL T tn L, K, hk, 0, T, ln, sz, Z) w' ∧ (∀ j : Nat, ¬ (119 ≤ j ∧ j < 130) → w' j = w j) ∧ r = valS T tn)) 0 0 (gA g) := by
  refine xmet (cc := cX7_valley) (maxL := 2) (ret := (some .int)) (by decide) rfl hI (Nat.le_of_ble_eq_true rfl) ?_
  intro pG eG sG mG belowG methG cG ls C hr hlk hK hW hl
  have hl : lv_has ls 2 [(0, .ref (gad g 119))] := hl
  have hinX7 : ∀ x ∈ u_ws RX7 TX7 19, x ∈ wsX7_valley := by decide +kernel
  obtain ⟨po, ao, mu, md, bu, bd, nu, TR, RD, KP, O, A, m0, m1, m2, m3, m4, m5, m6, m7, m8, m9, m10, m11⟩ := pr0
  have hokL : OkL L := hS.1
  obtain ⟨hok, hs2, hdy, hdr, hcl, hkn, hcs, hps⟩ := hokL
  have htn : tn ≤ 80 := hS.2.2.1
  have hlz : ∀ s, s < 4 → ln s ≤ 4 ∧ sz s ≤ 24 := hS.2.2.2.2
  have m0 : w 119 = .inr (7, [.ref (gad g 120), .ref (gad g 121), .ref (gad g 122), .int (nI tn), .ref (gad g 123), .int (nI po), .int nu, .ref (gad g 124), .ref (gad g 125), .ref (gad g 126), .ref (gad g 127), .int (nI hk), .ref (gad g 128), .ref (gad g 129), .long (lN ao), .long (lN mu), .long (lN md), .long (lN bu), .long (lN bd)]) := m0
  have m1 : w 120 = .inl (gI g, 4, .inl (kK 0 4 0 (laF ln))) := m1
  have m2 : w 121 = .inl (gI g, 4, .inl (cK 4 0 sz)) := m2
  have m3 : w 122 = .inl (gJ g, 96, .inr (.inl (kK 0 96 0 Z))) := m3
  have m4 : w 123 = .inl (gI g, 80, .inl (cK 80 0 T)) := m4
  have m5 : w 124 = .inl (gI g, 177, .inl (cK 177 0 L)) := m5
  have m9 : hk = 1 → KP = K := m9
  have hTx : OkT T tn := hS.2.2.2.1
  refine lv_iconst (v := (nI 0)) C.1 C.2.1 dX7_valley_0 (by decide) ?_
  refine lv_istore_n (lv' := [(1, .int (nI 0)), (0, .ref (gad g 119))]) C.1 C.2.1 dX7_valley_1 rfl hl (by decide) rfl (fun ls hl => ?_)
  have loop2 : ∀ (kG : Nat) (k : Nat) (v2 : Nat → va_E) (H : Heap) (locs : List Loc) (ls : Array Slot), kG = 177 - k → (v2 119 = .inr (7, [.ref (gad g 120), .ref (gad g 121), .ref (gad g 122), .int (nI tn), .ref (gad g 123), .int (nI po), .int nu, .ref (gad g 124), .ref (gad g 125), .ref (gad g 126), .ref (gad g 127), .int (nI hk), .ref (gad g 128), .ref (gad g 129), .long (lN ao), .long (lN mu), .long (lN md), .long (lN bu), .long (lN bd)])) → (v2 120 = .inl (gI g, 4, .inl (kK 0 4 0 (laF ln)))) → (v2 121 = .inl (gI g, 4, .inl (cK 4 0 sz))) → (v2 122 = .inl (gJ g, 96, .inr (.inl (kK 0 96 0 Z)))) → (v2 123 = .inl (gI g, 80, .inl (cK 80 0 T))) → (v2 124 = .inl (gI g, 177, .inl (cK 177 0 L))) → (v2 125 = .inl (gI g, 177, .inl (cK 177 0 TR))) → (v2 126 = .inl (gI g, 177, .inl (cK 177 0 (mixF k zF RD)))) → (v2 127 = .inl (gI g, 177, .inl (cK 177 0 KP))) → (v2 128 = .inl (gJ g, 7, .inr (.inl (cL 7 0 O)))) → (v2 129 = .inl (gJ g, 7, .inr (.inl (cL 7 0 A)))) → (∀ j : Nat, ¬ (119 ≤ j ∧ j < 130) → v2 j = w j) → (k ≤ 177) → XW g v2 (gA g) sG.heap H locs → lv_has ls 2 [(1, .int (nI k)), (0, .ref (gad g 119))] → W pG l eG ({ frames := 5, cells := 0, slots := 0, locals := 111 } : Room) sG mG ([.ref (gad g 119)] : List Value).toArray belowG methG cG H locs 0 0 (MQ belowG (XQi g (fun r w' => MAll g (valL T tn L, K, hk, 0, T, ln, sz, Z) w' ∧ (∀ j : Nat, ¬ (119 ≤ j ∧ j < 130) → w' j = w j) ∧ r = valS T tn)) ([.ref (gad g 119)] : List Value).toArray sG 0 0 (gA g)) (F0 mG 2 ls []) := by
    intro k2
    induction k2 using Nat.strongRecOn with
    | _ k2 ih2 =>
    intro k v2 H locs ls hk2 fa2_0 fa2_1 fa2_2 fa2_3 fa2_4 fa2_5 fa2_6 fa2_7 fa2_8 fa2_9 fa2_10 hfr2 hk177 hW hl
    refine lv_iload_n C.1 C.2.1 dX7_valley_2 rfl (lv_at hl 0 rfl) ?_
    refine lv_sipush (v := (nI 177)) C.1 C.2.1 dX7_valley_3 (by decide) ?_
    refine xge (tgt := 22) C (by omega) (by omega) dX7_valley_6 (by decide) (fun c6 => ?_) (fun c6 => ?_)
    · have h1 : v2 126 = .inl (gI g, 177, .inl (cK 177 0 zF)) := fa2_7.trans (by rw [cK_mixE (by omega)])
      refine lv_aload_n C.1 C.2.1 dX7_valley_22 rfl (lv_at hl 1 rfl) ?_
      refine xget C hK hW hinX7 rfl (by omega) fa2_0 9 (by decide) (List.mem_of_getElem? (i := 1) rfl) rfl dX7_valley_23 ?_
      refine lv_iconst (v := (nI 1)) C.1 C.2.1 dX7_valley_26 (by decide) ?_
      refine lv_aload_n C.1 C.2.1 dX7_valley_27 rfl (lv_at hl 1 rfl) ?_
      refine xget C hK hW hinX7 rfl (by omega) fa2_0 7 (by decide) (List.mem_of_getElem? (i := 2) rfl) rfl dX7_valley_28 ?_
      refine lv_iconst (v := (nI 1)) C.1 C.2.1 dX7_valley_31 (by decide) ?_
      refine xildK0 C hK hW (by omega) fa2_5 (by omega) (by decide) dX7_valley_32 ?_
      refine xistK0 (v := L 1) C hK hW (by omega) h1 (by omega) (by decide) dX7_valley_33 (fun w2 H locs e3 f4 hW => ?_)
      have h5 : w2 126 = .inl (gI g, 177, .inl (cK 177 0 (zD (L 1)))) := e3
      refine lv_aload_n C.1 C.2.1 dX7_valley_34 rfl (lv_at hl 1 rfl) ?_
      refine lv_iconst (v := (nI 0)) C.1 C.2.1 dX7_valley_35 (by decide) ?_
      have h6 : w2 119 = .inr (7, [.ref (gad g 120), .ref (gad g 121), .ref (gad g 122), .int (nI tn), .ref (gad g 123), .int (nI po), .int nu, .ref (gad g 124), .ref (gad g 125), .ref (gad g 126), .ref (gad g 127), .int (nI hk), .ref (gad g 128), .ref (gad g 129), .long (lN ao), .long (lN mu), .long (lN md), .long (lN bu), .long (lN bd)]) := ((f4 119 (by omega)).trans fa2_0)
      refine xput (v := .int (nI 0)) C hK hW hinX7 tyX7_ok nmX7 rfl (by omega) h6 5 (by decide) (List.mem_of_getElem? (i := 3) rfl) rfl rfl rfl (Nat.le_of_ble_eq_true rfl) dX7_valley_36 (fun w7 H locs e8 f9 hW => ?_)
      refine lv_aload_n C.1 C.2.1 dX7_valley_39 rfl (lv_at hl 1 rfl) ?_
      have h10 : w7 123 = .inl (gI g, 80, .inl (cK 80 0 T)) := ((f9 123 (by omega)).trans ((f4 123 (by omega)).trans fa2_4))
      have h11 : w7 126 = .inl (gI g, 177, .inl (cK 177 0 (zD (L 1)))) := ((f9 126 (by omega)).trans h5)
      refine xcV_i (n := 0) (As := []) C hK hW (c_X7_isValley l g w7 tn (L 1) hk nu ao mu md bu bd T hI hN htn hTx e8 h10 h11) gX7_valley_X7_isValley rfl ⟨rfl, rfl⟩ (by decide +kernel) ⟨Nat.le_of_ble_eq_true rfl, Nat.le_of_ble_eq_true rfl⟩ ⟨Nat.zero_le _, Nat.zero_le _⟩ rfl (by omega) e8 rfl hl rfl (Nat.le_of_ble_eq_true rfl) dX7_valley_40 (fun r14 w12 H locs q13 hW => ?_)
      obtain ⟨L1_19, nu1_20, h15, h16, f17, x18, rfl⟩ := q13
      refine lv_istore_n (lv' := [(1, .int (bI (vOk T tn zF))), (0, .ref (gad g 119))]) C.1 C.2.1 dX7_valley_43 rfl hl (by decide) rfl (fun ls hl => ?_)
      refine lv_aload_n C.1 C.2.1 dX7_valley_44 rfl (lv_at hl 1 rfl) ?_
      refine lv_iconst (v := (nI 0)) C.1 C.2.1 dX7_valley_45 (by decide) ?_
      refine xput (v := .int (nI 0)) C hK hW hinX7 tyX7_ok nmX7 rfl (by omega) h15 3 (by decide) (List.mem_of_getElem? (i := 4) rfl) rfl rfl rfl (Nat.le_of_ble_eq_true rfl) dX7_valley_46 (fun w21 H locs e22 f23 hW => ?_)
      refine lv_iload_n C.1 C.2.1 dX7_valley_49 rfl (lv_at hl 0 rfl) ?_
      refine xBne (tgt := 61) C dX7_valley_50 (by decide) (fun c50 => ?_) (fun c50 => ?_)
      · refine lv_aload_n C.1 C.2.1 dX7_valley_61 rfl (lv_at hl 1 rfl) ?_
        refine xget C hK hW hinX7 rfl (by omega) e22 9 (by decide) (List.mem_of_getElem? (i := 1) rfl) rfl dX7_valley_62 ?_
        refine lv_iconst (v := (nI 0)) C.1 C.2.1 dX7_valley_65 (by decide) ?_
        refine lv_aload_n C.1 C.2.1 dX7_valley_66 rfl (lv_at hl 1 rfl) ?_
        refine xget C hK hW hinX7 rfl (by omega) e22 7 (by decide) (List.mem_of_getElem? (i := 2) rfl) rfl dX7_valley_67 ?_
        refine lv_iconst (v := (nI 0)) C.1 C.2.1 dX7_valley_70 (by decide) ?_
        refine lv_sipush (v := (nI 177)) C.1 C.2.1 dX7_valley_71 (by decide) ?_
        have h24 : w21 126 = .inl (gI g, 177, .inl (cK 177 0 L1_19)) := ((f23 126 (by omega)).trans h16)
        have h25 : w21 124 = .inl (gI g, 177, .inl (cK 177 0 L)) := ((f23 124 (by omega)).trans ((f17 124 (by omega) (by omega)).trans ((f9 124 (by omega)).trans ((f4 124 (by omega)).trans fa2_5))))
        refine xcS_v (n := 5) (As := [.ref (gad g 126), .int (nI 0), .ref (gad g 124), .int (nI 0), .int (nI 177)]) C hK hW (c_X7_bring2 l g w21 126 124 0 0 177 L1_19 L hI hN (by omega) (by omega) (by omega) (by omega) (by omega) h24 h25) gX7_valley_X7_bring rfl ⟨rfl, rfl⟩ (by decide +kernel) ⟨Nat.le_of_ble_eq_true rfl, Nat.le_of_ble_eq_true rfl⟩ ⟨Nat.zero_le _, Nat.zero_le _⟩ rfl hl rfl (Nat.le_of_ble_eq_true rfl) dX7_valley_74 (fun w26 H locs q27 hW => ?_)
        obtain ⟨h29, f30⟩ := q27
        have h31 : w26 124 = .inl (gI g, 177, .inl (cK 177 0 (vNew T tn L))) := h29.trans (by rw [cK_cp, x18 c50]; rfl)
        refine lv_aload_n C.1 C.2.1 dX7_valley_77 rfl (lv_at hl 1 rfl) ?_
        have h32 : w26 119 = .inr (7, [.ref (gad g 120), .ref (gad g 121), .ref (gad g 122), .int (nI 0), .ref (gad g 123), .int (nI (vP T tn zF)), .int nu1_20, .ref (gad g 124), .ref (gad g 125), .ref (gad g 126), .ref (gad g 127), .int (nI hk), .ref (gad g 128), .ref (gad g 129), .long (lN ao), .long (lN mu), .long (lN md), .long (lN bu), .long (lN bd)]) := ((f30 119 (by omega)).trans e22)
        refine xget C hK hW hinX7 rfl (by omega) h32 7 (by decide) (List.mem_of_getElem? (i := 2) rfl) rfl dX7_valley_78 ?_
        refine lv_bipush (v := (nI 24)) C.1 C.2.1 dX7_valley_81 (by decide) ?_
        refine xildK0 C hK hW (by omega) h31 (by omega) (by decide) dX7_valley_83 ?_
        refine xtopN (b := (vC T tn zF).2.2.1) vNew_24 ?_
        have h33 : w26 120 = .inl (gI g, 4, .inl (kK 0 4 0 (laF ln))) := ((f30 120 (by omega)).trans ((f23 120 (by omega)).trans ((f17 120 (by omega) (by omega)).trans ((f9 120 (by omega)).trans ((f4 120 (by omega)).trans fa2_1)))))
        have h34 : w26 121 = .inl (gI g, 4, .inl (cK 4 0 sz)) := ((f30 121 (by omega)).trans ((f23 121 (by omega)).trans ((f17 121 (by omega) (by omega)).trans ((f9 121 (by omega)).trans ((f4 121 (by omega)).trans fa2_2)))))
        have h35 : w26 122 = .inl (gJ g, 96, .inr (.inl (kK 0 96 0 Z))) := ((f30 122 (by omega)).trans ((f23 122 (by omega)).trans ((f17 122 (by omega) (by omega)).trans ((f9 122 (by omega)).trans ((f4 122 (by omega)).trans fa2_3)))))
        have h36 : w26 123 = .inl (gI g, 80, .inl (cK 80 0 T)) := ((f30 123 (by omega)).trans ((f23 123 (by omega)).trans ((f17 123 (by omega) (by omega)).trans h10)))
        have h37 : w26 125 = .inl (gI g, 177, .inl (cK 177 0 TR)) := ((f30 125 (by omega)).trans ((f23 125 (by omega)).trans ((f17 125 (by omega) (by omega)).trans ((f9 125 (by omega)).trans ((f4 125 (by omega)).trans fa2_6)))))
        have h38 : w26 126 = .inl (gI g, 177, .inl (cK 177 0 L1_19)) := ((f30 126 (by omega)).trans h24)
        have h39 : w26 127 = .inl (gI g, 177, .inl (cK 177 0 KP)) := ((f30 127 (by omega)).trans ((f23 127 (by omega)).trans ((f17 127 (by omega) (by omega)).trans ((f9 127 (by omega)).trans ((f4 127 (by omega)).trans fa2_8)))))
        have h40 : w26 128 = .inl (gJ g, 7, .inr (.inl (cL 7 0 O))) := ((f30 128 (by omega)).trans ((f23 128 (by omega)).trans ((f17 128 (by omega) (by omega)).trans ((f9 128 (by omega)).trans ((f4 128 (by omega)).trans fa2_9)))))
        have h41 : w26 129 = .inl (gJ g, 7, .inr (.inl (cL 7 0 A))) := ((f30 129 (by omega)).trans ((f23 129 (by omega)).trans ((f17 129 (by omega) (by omega)).trans ((f9 129 (by omega)).trans ((f4 129 (by omega)).trans fa2_10)))))
        exact xret_i C hr hlk hW ⟨(by rw [valL, if_pos (c := vOk T tn zF) c50]; exact ⟨_, _, _, _, _, _, _, _, _, _, _, _, h32, h33, h34, h35, h36, h31, h37, h38, h39, m9, h40, h41⟩), (fun j z0 => ((f30 j (by omega)).trans ((f23 j (by omega)).trans ((f17 j (by omega) (by omega)).trans ((f9 j (by omega)).trans ((f4 j (by omega)).trans (hfr2 j z0))))))), (by rw [valS, if_pos (c := vOk T tn zF) c50])⟩ dX7_valley_84
      · refine lv_bipush (v := (-20 : Int32)) C.1 C.2.1 dX7_valley_53 (by decide) ?_
        refine lv_aload_n C.1 C.2.1 dX7_valley_55 rfl (lv_at hl 1 rfl) ?_
        refine xget C hK hW hinX7 rfl (by omega) e22 5 (by decide) (List.mem_of_getElem? (i := 3) rfl) rfl dX7_valley_56 ?_
        refine lv_isub C.1 C.2.1 dX7_valley_59 ?_
        have h42 : w21 120 = .inl (gI g, 4, .inl (kK 0 4 0 (laF ln))) := ((f23 120 (by omega)).trans ((f17 120 (by omega) (by omega)).trans ((f9 120 (by omega)).trans ((f4 120 (by omega)).trans fa2_1))))
        have h43 : w21 121 = .inl (gI g, 4, .inl (cK 4 0 sz)) := ((f23 121 (by omega)).trans ((f17 121 (by omega) (by omega)).trans ((f9 121 (by omega)).trans ((f4 121 (by omega)).trans fa2_2))))
        have h44 : w21 122 = .inl (gJ g, 96, .inr (.inl (kK 0 96 0 Z))) := ((f23 122 (by omega)).trans ((f17 122 (by omega) (by omega)).trans ((f9 122 (by omega)).trans ((f4 122 (by omega)).trans fa2_3))))
        have h45 : w21 123 = .inl (gI g, 80, .inl (cK 80 0 T)) := ((f23 123 (by omega)).trans ((f17 123 (by omega) (by omega)).trans h10))
        have h46 : w21 124 = .inl (gI g, 177, .inl (cK 177 0 L)) := ((f23 124 (by omega)).trans ((f17 124 (by omega) (by omega)).trans ((f9 124 (by omega)).trans ((f4 124 (by omega)).trans fa2_5))))
        have h47 : w21 125 = .inl (gI g, 177, .inl (cK 177 0 TR)) := ((f23 125 (by omega)).trans ((f17 125 (by omega) (by omega)).trans ((f9 125 (by omega)).trans ((f4 125 (by omega)).trans fa2_6))))
        have h48 : w21 126 = .inl (gI g, 177, .inl (cK 177 0 L1_19)) := ((f23 126 (by omega)).trans h16)
        have h49 : w21 127 = .inl (gI g, 177, .inl (cK 177 0 KP)) := ((f23 127 (by omega)).trans ((f17 127 (by omega) (by omega)).trans ((f9 127 (by omega)).trans ((f4 127 (by omega)).trans fa2_8))))
        have h50 : w21 128 = .inl (gJ g, 7, .inr (.inl (cL 7 0 O))) := ((f23 128 (by omega)).trans ((f17 128 (by omega) (by omega)).trans ((f9 128 (by omega)).trans ((f4 128 (by omega)).trans fa2_9))))
        have h51 : w21 129 = .inl (gJ g, 7, .inr (.inl (cL 7 0 A))) := ((f23 129 (by omega)).trans ((f17 129 (by omega) (by omega)).trans ((f9 129 (by omega)).trans ((f4 129 (by omega)).trans fa2_10))))
        exact xret_i C hr hlk hW ⟨(by rw [valL, if_neg (c := vOk T tn zF) c50]; exact ⟨_, _, _, _, _, _, _, _, _, _, _, _, e22, h42, h43, h44, h45, h46, h47, h48, h49, m9, h50, h51⟩), (fun j z0 => ((f23 j (by omega)).trans ((f17 j (by omega) (by omega)).trans ((f9 j (by omega)).trans ((f4 j (by omega)).trans (hfr2 j z0)))))), (by rw [valS, if_neg (c := vOk T tn zF) c50])⟩ dX7_valley_60
    · refine lv_aload_n C.1 C.2.1 dX7_valley_9 rfl (lv_at hl 1 rfl) ?_
      refine xget C hK hW hinX7 rfl (by omega) fa2_0 9 (by decide) (List.mem_of_getElem? (i := 1) rfl) rfl dX7_valley_10 ?_
      refine lv_iload_n C.1 C.2.1 dX7_valley_13 rfl (lv_at hl 0 rfl) ?_
      refine lv_iconst (v := (nI 0)) C.1 C.2.1 dX7_valley_14 (by decide) ?_
      refine xistK0 (v := 0) C hK hW (by omega) fa2_7 (by omega) (by decide) dX7_valley_15 (fun w52 H locs e53 f54 hW => ?_)
      refine lv_iinc (v := nI (k + 1)) (lv' := [(1, .int (nI (k + 1))), (0, .ref (gad g 119))]) C.1 C.2.1 dX7_valley_16 hl (k := 0) rfl (nI_add _ 1) (by decide) rfl (fun ls hl => ?_)
      refine lv_goto (tgt := 2) C.1 C.2.1 dX7_valley_19 (by decide) ?_
      have h55 : w52 119 = .inr (7, [.ref (gad g 120), .ref (gad g 121), .ref (gad g 122), .int (nI tn), .ref (gad g 123), .int (nI po), .int nu, .ref (gad g 124), .ref (gad g 125), .ref (gad g 126), .ref (gad g 127), .int (nI hk), .ref (gad g 128), .ref (gad g 129), .long (lN ao), .long (lN mu), .long (lN md), .long (lN bu), .long (lN bd)]) := ((f54 119 (by omega)).trans fa2_0)
      have h56 : w52 120 = .inl (gI g, 4, .inl (kK 0 4 0 (laF ln))) := ((f54 120 (by omega)).trans fa2_1)
      have h57 : w52 121 = .inl (gI g, 4, .inl (cK 4 0 sz)) := ((f54 121 (by omega)).trans fa2_2)
      have h58 : w52 122 = .inl (gJ g, 96, .inr (.inl (kK 0 96 0 Z))) := ((f54 122 (by omega)).trans fa2_3)
      have h59 : w52 123 = .inl (gI g, 80, .inl (cK 80 0 T)) := ((f54 123 (by omega)).trans fa2_4)
      have h60 : w52 124 = .inl (gI g, 177, .inl (cK 177 0 L)) := ((f54 124 (by omega)).trans fa2_5)
      have h61 : w52 125 = .inl (gI g, 177, .inl (cK 177 0 TR)) := ((f54 125 (by omega)).trans fa2_6)
      have h62 : w52 127 = .inl (gI g, 177, .inl (cK 177 0 KP)) := ((f54 127 (by omega)).trans fa2_8)
      have h63 : w52 128 = .inl (gJ g, 7, .inr (.inl (cL 7 0 O))) := ((f54 128 (by omega)).trans fa2_9)
      have h64 : w52 129 = .inl (gJ g, 7, .inr (.inl (cL 7 0 A))) := ((f54 129 (by omega)).trans fa2_10)
      exact ih2 (177 - (k + 1)) (by omega) (k + 1) w52 _ _ _ rfl h55 h56 h57 h58 h59 h60 h61 (by first | exact e53 | (rw [mixF_0]; exact e53) | (rw [mixF_up]; exact e53) | (refine (e53).trans ?_; rw [cK_mixE (by omega)]; done) | (refine (e53).trans ?_; rw [cL_mixE (by omega)]; done) | (refine (e53).trans ?_; rw [cL_mixE (by omega)]; rfl)) h62 h63 h64 (fun j z0 => ((f54 j (by omega)).trans (hfr2 j z0))) (by omega) hW hl
  exact loop2 _ 0 w _ _ _ rfl m0 m1 m2 m3 m4 m5 m6 (by first | exact m7 | (rw [mixF_0]; exact m7) | (rw [mixF_up]; exact m7) | (refine (m7).trans ?_; rw [cK_mixE (by omega)]; done) | (refine (m7).trans ?_; rw [cL_mixE (by omega)]; done) | (refine (m7).trans ?_; rw [cL_mixE (by omega)]; rfl)) m8 m10 m11 (fun j z0 => rfl) (by omega) hW hl
