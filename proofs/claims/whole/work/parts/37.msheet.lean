/-! the reference: its sheets -/
def laF (ln : Nat → Nat) : Nat → Int32 := fun s => laneI (ln s)
theorem laF_up {ln : Nat → Nat} {k y : Nat} : va_up (laF ln) k (nI y) = laF (va_up ln k (y + 1)) := by
  funext s
  unfold laF
  by_cases q : s = k
  · rw [q, va_up_self, va_up_self]
    rfl
  · rw [va_up_ne _ _ q, va_up_ne _ _ q]
theorem laF_0 {ln : Nat → Nat} {k : Nat} : va_up (laF ln) k (-1) = laF (va_up ln k 0) := by
  funext s
  unfold laF
  by_cases q : s = k
  · rw [q, va_up_self, va_up_self]
    rfl
  · rw [va_up_ne _ _ q, va_up_ne _ _ q]
theorem laF_lt {ln : Nat → Nat} {k : Nat} (h : ln k ≤ 4) : ¬ 0 ≤ laF ln k ↔ ln k = 0 := by
  have hz : ∀ n, n < 5 → (¬ 0 ≤ laneI n ↔ n = 0) := by decide
  exact hz _ (by omega)

set_option maxHeartbeats 4000000 in
set_option maxRecDepth 100000 in
theorem c_X7_drop (l : Launch) (g : GE) (w : Nat → va_E) (L K T ln sz : Nat → Nat) (hk tn : Nat) (Z : Nat → Int64) (x : Int32) (hI : AdInj g) (hN : gN g = 130) (hS : OkS (L, K, hk, tn, T, ln, sz, Z)) (pr0 : MAll g (L, K, hk, tn, T, ln, sz, Z) w) : Met l yX7_drop wsX7_drop ({ frames := 2, cells := 0, slots := 0, locals := 42 } : Room) (XPc g w [.ref (gad g 119), .int x]) (XQi g (fun r w' => MAll g (L, K, hk, tn, T, drN ln x, sz, Z) w' ∧ (∀ j : Nat, ¬ (119 ≤ j ∧ j < 130) → w' j = w j) ∧ r = drS ln sz x)) 0 0 (gA g) := by
  refine xmet (cc := cX7_drop) (maxL := 2) (ret := (some .int)) (by decide) rfl hI (Nat.le_of_ble_eq_true rfl) ?_
  intro pG eG sG mG belowG methG cG ls C hr hlk hK hW hl
  have hl : lv_has ls 2 [(0, .ref (gad g 119)), (1, .int x)] := hl
  have hinX7 : ∀ x ∈ u_ws RX7 TX7 19, x ∈ wsX7_drop := by decide +kernel
  obtain ⟨po, ao, mu, md, bu, bd, nu, TR, RD, KP, O, A, m0, m1, m2, m3, m4, m5, m6, m7, m8, m9, m10, m11⟩ := pr0
  have hokL : OkL L := hS.1
  obtain ⟨hok, hs2, hdy, hdr, hcl, hkn, hcs, hps⟩ := hokL
  have htn : tn ≤ 80 := hS.2.2.1
  have hlz : ∀ s, s < 4 → ln s ≤ 4 ∧ sz s ≤ 24 := hS.2.2.2.2
  have m0 : w 119 = .inr (7, [.ref (gad g 120), .ref (gad g 121), .ref (gad g 122), .int (nI tn), .ref (gad g 123), .int (nI po), .int nu, .ref (gad g 124), .ref (gad g 125), .ref (gad g 126), .ref (gad g 127), .int (nI hk), .ref (gad g 128), .ref (gad g 129), .long (lN ao), .long (lN mu), .long (lN md), .long (lN bu), .long (lN bd)]) := m0
  have m1 : w 120 = .inl (gI g, 4, .inl (kK 0 4 0 (laF ln))) := m1
  have m2 : w 121 = .inl (gI g, 4, .inl (cK 4 0 sz)) := m2
  have m3 : w 122 = .inl (gJ g, 96, .inr (.inl (kK 0 96 0 Z))) := m3
  have m4 : w 123 = .inl (gI g, 80, .inl (cK 80 0 T)) := m4
  have m5 : w 124 = .inl (gI g, 177, .inl (cK 177 0 L)) := m5
  have m9 : hk = 1 → KP = K := m9
  refine lv_iload_n C.1 C.2.1 dX7_drop_0 rfl (lv_at hl 1 rfl) ?_
  refine xcS_i (n := 1) (As := [.int x]) C hK hW (c_X7_isSheet l g w x hI hN) gX7_drop_X7_isSheet rfl ⟨rfl, rfl⟩ (by decide +kernel) ⟨Nat.le_of_ble_eq_true rfl, Nat.le_of_ble_eq_true rfl⟩ ⟨Nat.zero_le _, Nat.zero_le _⟩ rfl hl rfl (Nat.le_of_ble_eq_true rfl) dX7_drop_1 (fun r3 w1 H locs q2 hW => ?_)
  obtain ⟨qw4, rfl⟩ := q2
  rw [qw4] at hW
  refine xBne (tgt := 9) C dX7_drop_4 (by decide) (fun c4 => ?_) (fun c4 => ?_)
  · obtain ⟨k1, ha_k1, hb_k1, hx_k1⟩ := inR_N (by omega) (by omega) c4
    rw [hx_k1] at hl
    have hl4 := hlz k1 (by omega)
    refine lv_aload_n C.1 C.2.1 dX7_drop_9 rfl (lv_at hl 0 rfl) ?_
    refine xget C hK hW hinX7 rfl (by omega) m0 0 (by decide) (List.mem_of_getElem? (i := 1) rfl) rfl dX7_drop_10 ?_
    refine lv_iload_n C.1 C.2.1 dX7_drop_13 rfl (lv_at hl 1 rfl) ?_
    refine xildR0 C hK hW (by omega) m1 (by omega) (by decide) dX7_drop_14 ?_
    refine lv_if_ge (tgt := 21) C.1 C.2.1 dX7_drop_15 (by decide) (fun c15 => ?_) (fun c15 => ?_)
    · refine lv_aload_n C.1 C.2.1 dX7_drop_21 rfl (lv_at hl 0 rfl) ?_
      refine xget C hK hW hinX7 rfl (by omega) m0 0 (by decide) (List.mem_of_getElem? (i := 1) rfl) rfl dX7_drop_22 ?_
      refine lv_iload_n C.1 C.2.1 dX7_drop_25 rfl (lv_at hl 1 rfl) ?_
      refine lv_iconst (v := (-1 : Int32)) C.1 C.2.1 dX7_drop_26 (by decide) ?_
      refine xistR0 (v := (-1 : Int32)) C hK hW (by omega) m1 (by omega) (by decide) dX7_drop_27 (fun w5 H locs e6 f7 hW => ?_)
      have h8 : w5 120 = .inl (gI g, 4, .inl (kK 0 4 0 (laF (va_up ln k1 0)))) := e6.trans (by rw [laF_0])
      refine lv_aload_n C.1 C.2.1 dX7_drop_28 rfl (lv_at hl 0 rfl) ?_
      have h9 : w5 119 = .inr (7, [.ref (gad g 120), .ref (gad g 121), .ref (gad g 122), .int (nI tn), .ref (gad g 123), .int (nI po), .int nu, .ref (gad g 124), .ref (gad g 125), .ref (gad g 126), .ref (gad g 127), .int (nI hk), .ref (gad g 128), .ref (gad g 129), .long (lN ao), .long (lN mu), .long (lN md), .long (lN bu), .long (lN bd)]) := ((f7 119 (by omega)).trans m0)
      refine xget C hK hW hinX7 rfl (by omega) h9 1 (by decide) (List.mem_of_getElem? (i := 2) rfl) rfl dX7_drop_29 ?_
      refine lv_iload_n C.1 C.2.1 dX7_drop_32 rfl (lv_at hl 1 rfl) ?_
      have h10 : w5 121 = .inl (gI g, 4, .inl (cK 4 0 sz)) := ((f7 121 (by omega)).trans m2)
      refine xildK0 C hK hW (by omega) h10 (by omega) (by decide) dX7_drop_33 ?_
      have h0 : ¬ ln k1 = 0 := fun z => (laF_lt (hlz k1 (by omega)).1).mpr z c15
      have h11 : w5 122 = .inl (gJ g, 96, .inr (.inl (kK 0 96 0 Z))) := ((f7 122 (by omega)).trans m3)
      have h12 : w5 123 = .inl (gI g, 80, .inl (cK 80 0 T)) := ((f7 123 (by omega)).trans m4)
      have h13 : w5 124 = .inl (gI g, 177, .inl (cK 177 0 L)) := ((f7 124 (by omega)).trans m5)
      have h14 : w5 125 = .inl (gI g, 177, .inl (cK 177 0 TR)) := ((f7 125 (by omega)).trans m6)
      have h15 : w5 126 = .inl (gI g, 177, .inl (cK 177 0 RD)) := ((f7 126 (by omega)).trans m7)
      have h16 : w5 127 = .inl (gI g, 177, .inl (cK 177 0 KP)) := ((f7 127 (by omega)).trans m8)
      have h17 : w5 128 = .inl (gJ g, 7, .inr (.inl (cL 7 0 O))) := ((f7 128 (by omega)).trans m10)
      have h18 : w5 129 = .inl (gJ g, 7, .inr (.inl (cL 7 0 A))) := ((f7 129 (by omega)).trans m11)
      exact xret_i C hr hlk hW ⟨(by rw [drN, if_pos (c := in3 x ∧ ¬ ln (cl x) = 0) ⟨c4, by rw [hx_k1, cl_nI (by omega)]; exact h0⟩, hx_k1, cl_nI (by omega)]; exact ⟨_, _, _, _, _, _, _, _, _, _, _, _, h9, h8, h10, h11, h12, h13, h14, h15, h16, m9, h17, h18⟩), (fun j z0 => (f7 j (by omega))), (by rw [drS, if_pos (c := in3 x) c4, hx_k1, cl_nI (by omega), if_neg h0])⟩ dX7_drop_34
    · refine lv_bipush (v := (-11 : Int32)) C.1 C.2.1 dX7_drop_18 (by decide) ?_
      have h0 : ln k1 = 0 := (laF_lt (hlz k1 (by omega)).1).mp c15
      exact xret_i C hr hlk hW ⟨(by rw [drN, if_neg (c := in3 x ∧ ¬ ln (cl x) = 0) (fun h => h.2 (by rw [hx_k1, cl_nI (by omega)]; exact h0))]; exact ⟨_, _, _, _, _, _, _, _, _, _, _, _, m0, m1, m2, m3, m4, m5, m6, m7, m8, m9, m10, m11⟩), (fun j z0 => rfl), (by rw [drS, if_pos (c := in3 x) c4, hx_k1, cl_nI (by omega), if_pos h0])⟩ dX7_drop_20
  · refine lv_iconst (v := (-1 : Int32)) C.1 C.2.1 dX7_drop_7 (by decide) ?_
    exact xret_i C hr hlk hW ⟨(by rw [drN, if_neg (c := in3 x ∧ ¬ ln (cl x) = 0) (fun h => c4 h.1)]; exact ⟨_, _, _, _, _, _, _, _, _, _, _, _, m0, m1, m2, m3, m4, m5, m6, m7, m8, m9, m10, m11⟩), (fun j z0 => rfl), (by rw [drS, if_neg (c := in3 x) c4])⟩ dX7_drop_8

set_option maxHeartbeats 4000000 in
set_option maxRecDepth 100000 in
theorem c_X7_sheet (l : Launch) (g : GE) (w : Nat → va_E) (L K T ln sz : Nat → Nat) (hk tn : Nat) (Z : Nat → Int64) (x : Int32) (y : Int32) (n : Int32) (hI : AdInj g) (hN : gN g = 130) (hS : OkS (L, K, hk, tn, T, ln, sz, Z)) (pr0 : MAll g (L, K, hk, tn, T, ln, sz, Z) w) : Met l yX7_sheet wsX7_sheet ({ frames := 2, cells := 0, slots := 0, locals := 42 } : Room) (XPc g w [.ref (gad g 119), .int x, .int y, .int n]) (XQi g (fun r w' => MAll g (L, K, hk, tn, T, shN ln x y n, shL sz x y n, shZ Z x y n) w' ∧ (∀ j : Nat, ¬ (119 ≤ j ∧ j < 130) → w' j = w j) ∧ r = shS x y n)) 0 0 (gA g) := by
  refine xmet (cc := cX7_sheet) (maxL := 5) (ret := (some .int)) (by decide) rfl hI (Nat.le_of_ble_eq_true rfl) ?_
  intro pG eG sG mG belowG methG cG ls C hr hlk hK hW hl
  have hl : lv_has ls 5 [(0, .ref (gad g 119)), (1, .int x), (2, .int y), (3, .int n)] := hl
  have hinX7 : ∀ x ∈ u_ws RX7 TX7 19, x ∈ wsX7_sheet := by decide +kernel
  obtain ⟨po, ao, mu, md, bu, bd, nu, TR, RD, KP, O, A, m0, m1, m2, m3, m4, m5, m6, m7, m8, m9, m10, m11⟩ := pr0
  have hokL : OkL L := hS.1
  obtain ⟨hok, hs2, hdy, hdr, hcl, hkn, hcs, hps⟩ := hokL
  have htn : tn ≤ 80 := hS.2.2.1
  have hlz : ∀ s, s < 4 → ln s ≤ 4 ∧ sz s ≤ 24 := hS.2.2.2.2
  have m0 : w 119 = .inr (7, [.ref (gad g 120), .ref (gad g 121), .ref (gad g 122), .int (nI tn), .ref (gad g 123), .int (nI po), .int nu, .ref (gad g 124), .ref (gad g 125), .ref (gad g 126), .ref (gad g 127), .int (nI hk), .ref (gad g 128), .ref (gad g 129), .long (lN ao), .long (lN mu), .long (lN md), .long (lN bu), .long (lN bd)]) := m0
  have m1 : w 120 = .inl (gI g, 4, .inl (kK 0 4 0 (laF ln))) := m1
  have m2 : w 121 = .inl (gI g, 4, .inl (cK 4 0 sz)) := m2
  have m3 : w 122 = .inl (gJ g, 96, .inr (.inl (kK 0 96 0 Z))) := m3
  have m4 : w 123 = .inl (gI g, 80, .inl (cK 80 0 T)) := m4
  have m5 : w 124 = .inl (gI g, 177, .inl (cK 177 0 L)) := m5
  have m9 : hk = 1 → KP = K := m9
  refine lv_iload_n C.1 C.2.1 dX7_sheet_0 rfl (lv_at hl 1 rfl) ?_
  refine xcS_i (n := 1) (As := [.int x]) C hK hW (c_X7_isSheet l g w x hI hN) gX7_sheet_X7_isSheet rfl ⟨rfl, rfl⟩ (by decide +kernel) ⟨Nat.le_of_ble_eq_true rfl, Nat.le_of_ble_eq_true rfl⟩ ⟨Nat.zero_le _, Nat.zero_le _⟩ rfl hl rfl (Nat.le_of_ble_eq_true rfl) dX7_sheet_1 (fun r3 w1 H locs q2 hW => ?_)
  obtain ⟨qw4, rfl⟩ := q2
  rw [qw4] at hW
  refine xBeq (tgt := 22) C dX7_sheet_4 (by decide) (fun c4 => ?_) (fun c4 => ?_)
  · refine lv_iconst (v := (-1 : Int32)) C.1 C.2.1 dX7_sheet_22 (by decide) ?_
    exact xret_i C hr hlk hW ⟨(by rw [shN, shL, shZ, if_neg (c := okSh x y n ∧ ¬ n < 0) (fun h => c4 h.1.1), if_neg (c := okSh x y n ∧ ¬ n < 0) (fun h => c4 h.1.1), if_neg (c := okSh x y n ∧ ¬ n < 0) (fun h => c4 h.1.1)]; exact ⟨_, _, _, _, _, _, _, _, _, _, _, _, m0, m1, m2, m3, m4, m5, m6, m7, m8, m9, m10, m11⟩), (fun j z0 => rfl), (by rw [shS, if_neg (c := okSh x y n) (fun h => c4 h.1)])⟩ dX7_sheet_23
  · refine lv_iload_n C.1 C.2.1 dX7_sheet_7 rfl (lv_at hl 2 rfl) ?_
    refine lv_iconst (v := (nI 0)) C.1 C.2.1 dX7_sheet_8 (by decide) ?_
    refine lv_iconst (v := (nI 3)) C.1 C.2.1 dX7_sheet_9 (by decide) ?_
    refine xcS_i (n := 3) (As := [.int y, .int (nI 0), .int (nI 3)]) C hK hW (c_X7_in l g w y (nI 0) (nI 3) hI hN) gX7_sheet_X7_in rfl ⟨rfl, rfl⟩ (by decide +kernel) ⟨Nat.le_of_ble_eq_true rfl, Nat.le_of_ble_eq_true rfl⟩ ⟨Nat.zero_le _, Nat.zero_le _⟩ rfl hl rfl (Nat.le_of_ble_eq_true rfl) dX7_sheet_10 (fun r7 w5 H locs q6 hW => ?_)
    obtain ⟨qw8, rfl⟩ := q6
    rw [qw8] at hW
    refine xBeq (tgt := 22) C dX7_sheet_13 (by decide) (fun c13 => ?_) (fun c13 => ?_)
    · refine lv_iconst (v := (-1 : Int32)) C.1 C.2.1 dX7_sheet_22 (by decide) ?_
      exact xret_i C hr hlk hW ⟨(by rw [shN, shL, shZ, if_neg (c := okSh x y n ∧ ¬ n < 0) (fun h => c13 h.1.2.1), if_neg (c := okSh x y n ∧ ¬ n < 0) (fun h => c13 h.1.2.1), if_neg (c := okSh x y n ∧ ¬ n < 0) (fun h => c13 h.1.2.1)]; exact ⟨_, _, _, _, _, _, _, _, _, _, _, _, m0, m1, m2, m3, m4, m5, m6, m7, m8, m9, m10, m11⟩), (fun j z0 => rfl), (by rw [shS, if_neg (c := okSh x y n) (fun h => c13 h.2.1)])⟩ dX7_sheet_23
    · refine lv_iload_n C.1 C.2.1 dX7_sheet_16 rfl (lv_at hl 3 rfl) ?_
      refine lv_bipush (v := (nI 24)) C.1 C.2.1 dX7_sheet_17 (by decide) ?_
      refine lv_icmp_le (tgt := 24) C.1 C.2.1 dX7_sheet_19 (by decide) (fun c19 => ?_) (fun c19 => ?_)
      · refine lv_iload_n C.1 C.2.1 dX7_sheet_24 rfl (lv_at hl 3 rfl) ?_
        refine lv_if_ge (tgt := 31) C.1 C.2.1 dX7_sheet_25 (by decide) (fun c25 => ?_) (fun c25 => ?_)
        · obtain ⟨k1, ha_k1, hb_k1, hx_k1⟩ := inR_N (by omega) (by omega) c4
          rw [hx_k1] at hl
          obtain ⟨k2, ha_k2, hb_k2, hx_k2⟩ := inR_N (by omega) (by omega) c13
          rw [hx_k2] at hl
          obtain ⟨k3, hb_k3, hx_k3⟩ := not_neg (nlt_of_ge c25)
          rw [hx_k3] at hl
          have h17 : k3 ≤ 24 := by
            rw [hx_k3] at c19
            exact (nI_leI (by omega) (by omega)).mp c19
          refine lv_aload_n C.1 C.2.1 dX7_sheet_31 rfl (lv_at hl 0 rfl) ?_
          refine xget C hK hW hinX7 rfl (by omega) m0 0 (by decide) (List.mem_of_getElem? (i := 1) rfl) rfl dX7_sheet_32 ?_
          refine lv_iload_n C.1 C.2.1 dX7_sheet_35 rfl (lv_at hl 1 rfl) ?_
          refine lv_iload_n C.1 C.2.1 dX7_sheet_36 rfl (lv_at hl 2 rfl) ?_
          refine xistR0 (v := (nI k2)) C hK hW (by omega) m1 (by omega) (by decide) dX7_sheet_37 (fun w9 H locs e10 f11 hW => ?_)
          have h12 : w9 120 = .inl (gI g, 4, .inl (kK 0 4 0 (laF (va_up ln k1 (k2 + 1))))) := e10.trans (by rw [laF_up])
          refine lv_aload_n C.1 C.2.1 dX7_sheet_38 rfl (lv_at hl 0 rfl) ?_
          have h13 : w9 119 = .inr (7, [.ref (gad g 120), .ref (gad g 121), .ref (gad g 122), .int (nI tn), .ref (gad g 123), .int (nI po), .int nu, .ref (gad g 124), .ref (gad g 125), .ref (gad g 126), .ref (gad g 127), .int (nI hk), .ref (gad g 128), .ref (gad g 129), .long (lN ao), .long (lN mu), .long (lN md), .long (lN bu), .long (lN bd)]) := ((f11 119 (by omega)).trans m0)
          refine xget C hK hW hinX7 rfl (by omega) h13 1 (by decide) (List.mem_of_getElem? (i := 2) rfl) rfl dX7_sheet_39 ?_
          refine lv_iload_n C.1 C.2.1 dX7_sheet_42 rfl (lv_at hl 1 rfl) ?_
          refine lv_iload_n C.1 C.2.1 dX7_sheet_43 rfl (lv_at hl 3 rfl) ?_
          have h14 : w9 121 = .inl (gI g, 4, .inl (cK 4 0 sz)) := ((f11 121 (by omega)).trans m2)
          refine xistK0 (v := k3) C hK hW (by omega) h14 (by omega) (by decide) dX7_sheet_44 (fun w15 H locs e16 f17 hW => ?_)
          refine lv_iconst (v := (nI 0)) C.1 C.2.1 dX7_sheet_45 (by decide) ?_
          refine lv_istore (lv' := [(4, .int (nI 0)), (0, .ref (gad g 119)), (1, .int (nI k1)), (2, .int (nI k2)), (3, .int (nI k3))]) C.1 C.2.1 dX7_sheet_46 hl (by decide) rfl (fun ls hl => ?_)
          have loop48 : ∀ (kG : Nat) (k : Nat) (v48 : Nat → va_E) (H : Heap) (locs : List Loc) (ls : Array Slot), kG = 24 - k → (v48 119 = .inr (7, [.ref (gad g 120), .ref (gad g 121), .ref (gad g 122), .int (nI tn), .ref (gad g 123), .int (nI po), .int nu, .ref (gad g 124), .ref (gad g 125), .ref (gad g 126), .ref (gad g 127), .int (nI hk), .ref (gad g 128), .ref (gad g 129), .long (lN ao), .long (lN mu), .long (lN md), .long (lN bu), .long (lN bd)])) → (v48 120 = .inl (gI g, 4, .inl (kK 0 4 0 (laF (va_up ln k1 (k2 + 1)))))) → (v48 121 = .inl (gI g, 4, .inl (cK 4 0 (va_up sz k1 k3)))) → (v48 122 = .inl (gJ g, 96, .inr (.inl (kK 0 96 0 (zk (24 * k1) k Z))))) → (v48 123 = .inl (gI g, 80, .inl (cK 80 0 T))) → (v48 124 = .inl (gI g, 177, .inl (cK 177 0 L))) → (v48 125 = .inl (gI g, 177, .inl (cK 177 0 TR))) → (v48 126 = .inl (gI g, 177, .inl (cK 177 0 RD))) → (v48 127 = .inl (gI g, 177, .inl (cK 177 0 KP))) → (v48 128 = .inl (gJ g, 7, .inr (.inl (cL 7 0 O)))) → (v48 129 = .inl (gJ g, 7, .inr (.inl (cL 7 0 A)))) → (∀ j : Nat, ¬ (119 ≤ j ∧ j < 130) → v48 j = w j) → (k ≤ 24) → XW g v48 (gA g) sG.heap H locs → lv_has ls 5 [(4, .int (nI k)), (0, .ref (gad g 119)), (1, .int (nI k1)), (3, .int (nI k3))] → W pG l eG ({ frames := 2, cells := 0, slots := 0, locals := 42 } : Room) sG mG ([.ref (gad g 119), .int x, .int y, .int n] : List Value).toArray belowG methG cG H locs 0 0 (MQ belowG (XQi g (fun r w' => MAll g (L, K, hk, tn, T, shN ln x y n, shL sz x y n, shZ Z x y n) w' ∧ (∀ j : Nat, ¬ (119 ≤ j ∧ j < 130) → w' j = w j) ∧ r = shS x y n)) ([.ref (gad g 119), .int x, .int y, .int n] : List Value).toArray sG 0 0 (gA g)) (F0 mG 48 ls []) := by
            intro k48
            induction k48 using Nat.strongRecOn with
            | _ k48 ih48 =>
            intro k v48 H locs ls hk48 fa48_0 fa48_1 fa48_2 fa48_3 fa48_4 fa48_5 fa48_6 fa48_7 fa48_8 fa48_9 fa48_10 hfr48 hk24 hW hl
            refine lv_iload C.1 C.2.1 dX7_sheet_48 (lv_at hl 0 rfl) ?_
            refine lv_bipush (v := (nI 24)) C.1 C.2.1 dX7_sheet_50 (by decide) ?_
            refine xge (tgt := 74) C (by omega) (by omega) dX7_sheet_52 (by decide) (fun c52 => ?_) (fun c52 => ?_)
            · have h18 : v48 122 = .inl (gJ g, 96, .inr (.inl (kK 0 96 0 (zk (24 * k1) 24 Z)))) := fa48_3.trans (by rw [show k = 24 by omega])
              refine lv_iload_n C.1 C.2.1 dX7_sheet_74 rfl (lv_at hl 3 rfl) ?_
              exact xret_i C hr hlk hW ⟨(by rw [shN, shL, shZ, if_pos (c := okSh x y n ∧ ¬ n < 0) ⟨⟨c4, c13, c19⟩, nlt_of_ge c25⟩, if_pos (c := okSh x y n ∧ ¬ n < 0) ⟨⟨c4, c13, c19⟩, nlt_of_ge c25⟩, if_pos (c := okSh x y n ∧ ¬ n < 0) ⟨⟨c4, c13, c19⟩, nlt_of_ge c25⟩, hx_k1, hx_k2, hx_k3, cl_nI (by omega), cl_nI (by omega), cl_nI (by omega)]; exact ⟨_, _, _, _, _, _, _, _, _, _, _, _, fa48_0, fa48_1, fa48_2, h18, fa48_4, fa48_5, fa48_6, fa48_7, fa48_8, m9, fa48_9, fa48_10⟩), (fun j z0 => (hfr48 j z0)), (by rw [shS, if_pos (c := okSh x y n) ⟨c4, c13, c19⟩, if_neg (nlt_of_ge c25), hx_k3])⟩ dX7_sheet_75
            · refine lv_aload_n C.1 C.2.1 dX7_sheet_55 rfl (lv_at hl 1 rfl) ?_
              refine xget C hK hW hinX7 rfl (by omega) fa48_0 2 (by decide) (List.mem_of_getElem? (i := 3) rfl) rfl dX7_sheet_56 ?_
              refine lv_bipush (v := (nI 24)) C.1 C.2.1 dX7_sheet_59 (by decide) ?_
              refine lv_iload_n C.1 C.2.1 dX7_sheet_61 rfl (lv_at hl 2 rfl) ?_
              refine xmul C dX7_sheet_62 ?_
              refine lv_iload C.1 C.2.1 dX7_sheet_63 (lv_at hl 0 rfl) ?_
              refine xadd C dX7_sheet_65 ?_
              refine lv_lconst (v := lN 0) C.1 C.2.1 dX7_sheet_66 (by decide) ?_
              refine xlstR0 (v := (lN 0)) C hK hW (by omega) fa48_3 (by omega) (by decide) dX7_sheet_67 (fun w19 H locs e20 f21 hW => ?_)
              refine lv_iinc (v := nI (k + 1)) (lv' := [(4, .int (nI (k + 1))), (0, .ref (gad g 119)), (1, .int (nI k1)), (3, .int (nI k3))]) C.1 C.2.1 dX7_sheet_68 hl (k := 0) rfl (nI_add _ 1) (by decide) rfl (fun ls hl => ?_)
              refine lv_goto (tgt := 48) C.1 C.2.1 dX7_sheet_71 (by decide) ?_
              have h22 : w19 119 = .inr (7, [.ref (gad g 120), .ref (gad g 121), .ref (gad g 122), .int (nI tn), .ref (gad g 123), .int (nI po), .int nu, .ref (gad g 124), .ref (gad g 125), .ref (gad g 126), .ref (gad g 127), .int (nI hk), .ref (gad g 128), .ref (gad g 129), .long (lN ao), .long (lN mu), .long (lN md), .long (lN bu), .long (lN bd)]) := ((f21 119 (by omega)).trans fa48_0)
              have h23 : w19 120 = .inl (gI g, 4, .inl (kK 0 4 0 (laF (va_up ln k1 (k2 + 1))))) := ((f21 120 (by omega)).trans fa48_1)
              have h24 : w19 121 = .inl (gI g, 4, .inl (cK 4 0 (va_up sz k1 k3))) := ((f21 121 (by omega)).trans fa48_2)
              have h25 : w19 123 = .inl (gI g, 80, .inl (cK 80 0 T)) := ((f21 123 (by omega)).trans fa48_4)
              have h26 : w19 124 = .inl (gI g, 177, .inl (cK 177 0 L)) := ((f21 124 (by omega)).trans fa48_5)
              have h27 : w19 125 = .inl (gI g, 177, .inl (cK 177 0 TR)) := ((f21 125 (by omega)).trans fa48_6)
              have h28 : w19 126 = .inl (gI g, 177, .inl (cK 177 0 RD)) := ((f21 126 (by omega)).trans fa48_7)
              have h29 : w19 127 = .inl (gI g, 177, .inl (cK 177 0 KP)) := ((f21 127 (by omega)).trans fa48_8)
              have h30 : w19 128 = .inl (gJ g, 7, .inr (.inl (cL 7 0 O))) := ((f21 128 (by omega)).trans fa48_9)
              have h31 : w19 129 = .inl (gJ g, 7, .inr (.inl (cL 7 0 A))) := ((f21 129 (by omega)).trans fa48_10)
              exact ih48 (24 - (k + 1)) (by omega) (k + 1) w19 _ _ _ rfl h22 h23 h24 (by rw [zk_up]; exact e20) h25 h26 h27 h28 h29 h30 h31 (fun j z0 => ((f21 j (by omega)).trans (hfr48 j z0))) (by omega) hW hl
          have h32 : w15 119 = .inr (7, [.ref (gad g 120), .ref (gad g 121), .ref (gad g 122), .int (nI tn), .ref (gad g 123), .int (nI po), .int nu, .ref (gad g 124), .ref (gad g 125), .ref (gad g 126), .ref (gad g 127), .int (nI hk), .ref (gad g 128), .ref (gad g 129), .long (lN ao), .long (lN mu), .long (lN md), .long (lN bu), .long (lN bd)]) := ((f17 119 (by omega)).trans h13)
          have h33 : w15 120 = .inl (gI g, 4, .inl (kK 0 4 0 (laF (va_up ln k1 (k2 + 1))))) := ((f17 120 (by omega)).trans h12)
          have h34 : w15 122 = .inl (gJ g, 96, .inr (.inl (kK 0 96 0 Z))) := ((f17 122 (by omega)).trans ((f11 122 (by omega)).trans m3))
          have h35 : w15 123 = .inl (gI g, 80, .inl (cK 80 0 T)) := ((f17 123 (by omega)).trans ((f11 123 (by omega)).trans m4))
          have h36 : w15 124 = .inl (gI g, 177, .inl (cK 177 0 L)) := ((f17 124 (by omega)).trans ((f11 124 (by omega)).trans m5))
          have h37 : w15 125 = .inl (gI g, 177, .inl (cK 177 0 TR)) := ((f17 125 (by omega)).trans ((f11 125 (by omega)).trans m6))
          have h38 : w15 126 = .inl (gI g, 177, .inl (cK 177 0 RD)) := ((f17 126 (by omega)).trans ((f11 126 (by omega)).trans m7))
          have h39 : w15 127 = .inl (gI g, 177, .inl (cK 177 0 KP)) := ((f17 127 (by omega)).trans ((f11 127 (by omega)).trans m8))
          have h40 : w15 128 = .inl (gJ g, 7, .inr (.inl (cL 7 0 O))) := ((f17 128 (by omega)).trans ((f11 128 (by omega)).trans m10))
          have h41 : w15 129 = .inl (gJ g, 7, .inr (.inl (cL 7 0 A))) := ((f17 129 (by omega)).trans ((f11 129 (by omega)).trans m11))
          exact loop48 _ 0 w15 _ _ _ rfl h32 h33 e16 (by rw [zk_0]; exact h34) h35 h36 h37 h38 h39 h40 h41 (fun j z0 => ((f17 j (by omega)).trans (f11 j (by omega)))) (by omega) hW (lv_sub hl [0, 1, 2, 4] rfl)
        · refine lv_bipush (v := (-14 : Int32)) C.1 C.2.1 dX7_sheet_28 (by decide) ?_
          exact xret_i C hr hlk hW ⟨(by rw [shN, shL, shZ, if_neg (c := okSh x y n ∧ ¬ n < 0) (fun h => h.2 (lt_of_nge c25)), if_neg (c := okSh x y n ∧ ¬ n < 0) (fun h => h.2 (lt_of_nge c25)), if_neg (c := okSh x y n ∧ ¬ n < 0) (fun h => h.2 (lt_of_nge c25))]; exact ⟨_, _, _, _, _, _, _, _, _, _, _, _, m0, m1, m2, m3, m4, m5, m6, m7, m8, m9, m10, m11⟩), (fun j z0 => rfl), (by rw [shS, if_pos (c := okSh x y n) ⟨c4, c13, c19⟩, if_pos (lt_of_nge c25)])⟩ dX7_sheet_30
      · refine lv_iconst (v := (-1 : Int32)) C.1 C.2.1 dX7_sheet_22 (by decide) ?_
        exact xret_i C hr hlk hW ⟨(by rw [shN, shL, shZ, if_neg (c := okSh x y n ∧ ¬ n < 0) (fun h => c19 h.1.2.2), if_neg (c := okSh x y n ∧ ¬ n < 0) (fun h => c19 h.1.2.2), if_neg (c := okSh x y n ∧ ¬ n < 0) (fun h => c19 h.1.2.2)]; exact ⟨_, _, _, _, _, _, _, _, _, _, _, _, m0, m1, m2, m3, m4, m5, m6, m7, m8, m9, m10, m11⟩), (fun j z0 => rfl), (by rw [shS, if_neg (c := okSh x y n) (fun h => c19 h.2.2)])⟩ dX7_sheet_23
