set_option maxHeartbeats 4000000 in
set_option maxRecDepth 100000 in
theorem c_X0_commonDivisor (l : Launch) (g : GE) (w : Nat → va_E) (a b : Nat) (hI : AdInj g) (hN : gN g = 130) (ha : a < 2 ^ 63) (hb : b < 2 ^ 63) : Met l yX0_commonDivisor wsX0_commonDivisor ({ frames := 0, cells := 0, slots := 0, locals := 0 } : Room) (XPc g w [.long (lN a), .long (lN b)]) (XQl g (fun r w' => w' = w ∧ r = (lN (Nat.gcd a b)))) 0 0 (gA g) := by
  refine xmet (cc := cX0_commonDivisor) (maxL := 7) (ret := (some .long)) (by decide) rfl hI (Nat.le_of_ble_eq_true rfl) ?_
  intro pG eG sG mG belowG methG cG ls C hr hlk hK hW hl
  have hl : lv_has ls 7 [(0, .long (lN a)), (2, .long (lN b))] := hl
  refine lv_iconst (v := (nI 0)) C.1 C.2.1 dX0_commonDivisor_0 (by decide) ?_
  refine lv_istore (lv' := [(4, .int (nI 0)), (0, .long (lN a)), (2, .long (lN b))]) C.1 C.2.1 dX0_commonDivisor_1 hl (by decide) rfl (fun ls hl => ?_)
  have loop3 : ∀ (kG : Nat) (x y t : Nat) (H : Heap) (locs : List Loc) (ls : Array Slot), kG = 1001 - t → (Nat.gcd x y = Nat.gcd a b) → (gcdOk t x y) → (t ≤ 1000) → XW g w (gA g) sG.heap H locs → lv_has ls 7 [(4, .int (nI t)), (0, .long (lN x)), (2, .long (lN y))] → W pG l eG ({ frames := 0, cells := 0, slots := 0, locals := 0 } : Room) sG mG ([.long (lN a), .long (lN b)] : List Value).toArray belowG methG cG H locs 0 0 (MQ belowG (XQl g (fun r w' => w' = w ∧ r = (lN (Nat.gcd a b)))) ([.long (lN a), .long (lN b)] : List Value).toArray sG 0 0 (gA g)) (F0 mG 3 ls []) := by
    intro k3
    induction k3 using Nat.strongRecOn with
    | _ k3 ih3 =>
    intro x y t H locs ls hk3 hg hq ht hW hl
    have hqb := gcdOk_b hq
    refine lv_iload C.1 C.2.1 dX0_commonDivisor_3 (lv_at hl 0 rfl) ?_
    refine lv_sipush (v := (nI 1000)) C.1 C.2.1 dX0_commonDivisor_5 (by decide) ?_
    refine xge (tgt := 33) C (by omega) (by omega) dX0_commonDivisor_8 (by decide) (fun c8 => ?_) (fun c8 => ?_)
    · refine lv_lload_n C.1 C.2.1 dX0_commonDivisor_33 rfl (lv_at hl 1 rfl) ?_
      exact xret_l C hr hlk hW ⟨rfl, by rw [← hg, gcdOk_end hq c8, Nat.gcd_zero_right]⟩ dX0_commonDivisor_34
    · refine lv_lload_n C.1 C.2.1 dX0_commonDivisor_11 rfl (lv_at hl 2 rfl) ?_
      refine lv_lconst (v := lN 0) C.1 C.2.1 dX0_commonDivisor_12 (by decide) ?_
      refine xLeq (tgt := 33) C (by omega) (by omega) dX0_commonDivisor_13 dX0_commonDivisor_14 (by decide) (fun c13 => ?_) (fun c13 => ?_)
      · refine lv_lload_n C.1 C.2.1 dX0_commonDivisor_33 rfl (lv_at hl 1 rfl) ?_
        exact xret_l C hr hlk hW ⟨rfl, by rw [← hg, c13, Nat.gcd_zero_right]⟩ dX0_commonDivisor_34
      · refine lv_lload_n C.1 C.2.1 dX0_commonDivisor_17 rfl (lv_at hl 1 rfl) ?_
        refine lv_lload_n C.1 C.2.1 dX0_commonDivisor_18 rfl (lv_at hl 2 rfl) ?_
        refine xlrem C (by omega) (by omega) (by omega) dX0_commonDivisor_19 ?_
        refine lv_lstore (lv' := [(5, .long (lN (x % y))), (4, .int (nI t)), (0, .long (lN x)), (2, .long (lN y))]) C.1 C.2.1 dX0_commonDivisor_20 hl (by decide) rfl (fun ls hl => ?_)
        refine lv_lload_n C.1 C.2.1 dX0_commonDivisor_22 rfl (lv_at hl 3 rfl) ?_
        refine lv_lstore_n (lv' := [(0, .long (lN y)), (5, .long (lN (x % y))), (4, .int (nI t)), (2, .long (lN y))]) C.1 C.2.1 dX0_commonDivisor_23 rfl hl (by decide) rfl (fun ls hl => ?_)
        refine lv_lload C.1 C.2.1 dX0_commonDivisor_24 (lv_at hl 1 rfl) ?_
        refine lv_lstore_n (lv' := [(2, .long (lN (x % y))), (0, .long (lN y)), (5, .long (lN (x % y))), (4, .int (nI t))]) C.1 C.2.1 dX0_commonDivisor_26 rfl hl (by decide) rfl (fun ls hl => ?_)
        refine lv_iinc (v := nI (t + 1)) (lv' := [(4, .int (nI (t + 1))), (2, .long (lN (x % y))), (0, .long (lN y)), (5, .long (lN (x % y)))]) C.1 C.2.1 dX0_commonDivisor_27 hl (k := 3) rfl (nI_add _ 1) (by decide) rfl (fun ls hl => ?_)
        refine lv_goto (tgt := 3) C.1 C.2.1 dX0_commonDivisor_30 (by decide) ?_
        exact ih3 (1001 - (t + 1)) (by omega) y (x % y) (t + 1) _ _ _ rfl ((by rw [Nat.gcd_comm, ← Nat.gcd_rec, Nat.gcd_comm]; exact hg)) (gcdOk_up hq c13) (by omega) hW (lv_sub hl [0, 2, 1] rfl)
  exact loop3 _ a b 0 _ _ _ rfl (rfl) (Or.inl ⟨rfl, ha, hb⟩) (by omega) hW hl

set_option maxHeartbeats 4000000 in
set_option maxRecDepth 100000 in
theorem c_X0_become (l : Launch) (g : GE) (w : Nat → va_E) (i u v : Nat) (x y : Int64) (hI : AdInj g) (hN : gN g = 130) (hi : i < 119) (hu : u < 2 ^ 63) (hv : v < 2 ^ 63) (h0 : 0 < v) (pr0 : w i = .inr (0, [.long x, .long y])) : Met l yX0_become wsX0_become ({ frames := 1, cells := 0, slots := 0, locals := 26 } : Room) (XPc g w [.ref (gad g i), .long (lN u), .long (lN v)]) (XQv g (fun w' => w' i = .inr (0, [.long (lN (redU u v)), .long (lN (redD u v))]) ∧ (∀ j : Nat, ¬ (i ≤ j ∧ j < i + 1) → w' j = w j))) 0 0 (gA g) := by
  refine xmet (cc := cX0_become) (maxL := 7) (ret := none) (by decide) rfl hI (Nat.le_of_ble_eq_true rfl) ?_
  intro pG eG sG mG belowG methG cG ls C hr hlk hK hW hl
  have hl : lv_has ls 7 [(0, .ref (gad g i)), (1, .long (lN u)), (3, .long (lN v))] := hl
  have hinX0 : ∀ x ∈ u_ws RX0 TX0 2, x ∈ wsX0_become := by decide +kernel
  have hg0 := gcd_pos' (a := u) h0
  have hg1 := Nat.le_of_dvd h0 (Nat.gcd_dvd_right u v)
  refine lv_lload_n C.1 C.2.1 dX0_become_0 rfl (lv_at hl 1 rfl) ?_
  refine lv_lload_n C.1 C.2.1 dX0_become_1 rfl (lv_at hl 2 rfl) ?_
  refine xcS_l (n := 2) (As := [.long (lN u), .long (lN v)]) C hK hW (c_X0_commonDivisor l g w u v hI hN (by omega) (by omega)) gX0_become_X0_commonDivisor rfl ⟨rfl, rfl⟩ (by decide +kernel) ⟨Nat.le_of_ble_eq_true rfl, Nat.le_of_ble_eq_true rfl⟩ ⟨Nat.zero_le _, Nat.zero_le _⟩ rfl hl rfl (Nat.le_of_ble_eq_true rfl) dX0_become_2 (fun r3 w1 H locs q2 hW => ?_)
  obtain ⟨qw4, rfl⟩ := q2
  rw [qw4] at hW
  refine lv_lstore (lv' := [(5, .long (lN (Nat.gcd u v))), (0, .ref (gad g i)), (1, .long (lN u)), (3, .long (lN v))]) C.1 C.2.1 dX0_become_5 hl (by decide) rfl (fun ls hl => ?_)
  refine lv_lload C.1 C.2.1 dX0_become_7 (lv_at hl 0 rfl) ?_
  refine lv_lconst (v := lN 0) C.1 C.2.1 dX0_become_9 (by decide) ?_
  refine xLle (tgt := 30) C (by omega) (by omega) dX0_become_10 dX0_become_11 (by decide) (fun c10 => absurd c10 (by omega)) (fun c10 => ?_)
  refine lv_aload_n C.1 C.2.1 dX0_become_14 rfl (lv_at hl 1 rfl) ?_
  refine lv_lload_n C.1 C.2.1 dX0_become_15 rfl (lv_at hl 2 rfl) ?_
  refine lv_lload C.1 C.2.1 dX0_become_16 (lv_at hl 0 rfl) ?_
  refine xldiv C (by omega) (by omega) (by omega) dX0_become_18 ?_
  refine xput (v := .long (lN (u / (Nat.gcd u v)))) C hK hW hinX0 tyX0_ok nmX0 rfl (by omega) pr0 0 (by decide) (List.mem_of_getElem? (i := 1) rfl) rfl rfl rfl (Nat.le_of_ble_eq_true rfl) dX0_become_19 (fun w5 H locs e6 f7 hW => ?_)
  refine lv_aload_n C.1 C.2.1 dX0_become_22 rfl (lv_at hl 1 rfl) ?_
  refine lv_lload_n C.1 C.2.1 dX0_become_23 rfl (lv_at hl 3 rfl) ?_
  refine lv_lload C.1 C.2.1 dX0_become_24 (lv_at hl 0 rfl) ?_
  refine xldiv C (by omega) (by omega) (by omega) dX0_become_26 ?_
  refine xput (v := .long (lN (v / (Nat.gcd u v)))) C hK hW hinX0 tyX0_ok nmX0 rfl (by omega) e6 1 (by decide) (List.mem_of_getElem? (i := 2) rfl) rfl rfl rfl (Nat.le_of_ble_eq_true rfl) dX0_become_27 (fun w8 H locs e9 f10 hW => ?_)
  exact xret_v C hr hlk hW ⟨(by first | exact e9 | (rw [mixF_0]; exact e9) | (rw [mixF_up]; exact e9) | (refine (e9).trans ?_; rw [cK_mixE (by omega)]; done) | (refine (e9).trans ?_; rw [cL_mixE (by omega)]; done) | (refine (e9).trans ?_; rw [cL_mixE (by omega)]; rfl)), (fun j z0 => ((f10 j (by omega)).trans (f7 j (by omega))))⟩ dX0_become_30

set_option maxHeartbeats 4000000 in
set_option maxRecDepth 100000 in
theorem c_X0_add (l : Launch) (g : GE) (w : Nat → va_E) (i j a b c d : Nat) (hI : AdInj g) (hN : gN g = 130) (hi : i < 119) (hj : j < 119) (hu : a * d + c * b < 2 ^ 63) (hv : b * d < 2 ^ 63) (h0 : 0 < b * d) (pr0 : w i = .inr (0, [.long (lN a), .long (lN b)])) (pr1 : w j = .inr (0, [.long (lN c), .long (lN d)])) : Met l yX0_add wsX0_add ({ frames := 2, cells := 0, slots := 0, locals := 52 } : Room) (XPc g w [.ref (gad g i), .ref (gad g j)]) (XQv g (fun w' => w' i = .inr (0, [.long (lN (redU (a * d + c * b) (b * d))), .long (lN (redD (a * d + c * b) (b * d)))]) ∧ (∀ j : Nat, ¬ (i ≤ j ∧ j < i + 1) → w' j = w j))) 0 0 (gA g) := by
  refine xmet (cc := cX0_add) (maxL := 2) (ret := none) (by decide) rfl hI (Nat.le_of_ble_eq_true rfl) ?_
  intro pG eG sG mG belowG methG cG ls C hr hlk hK hW hl
  have hl : lv_has ls 2 [(0, .ref (gad g i)), (1, .ref (gad g j))] := hl
  have hinX0 : ∀ x ∈ u_ws RX0 TX0 2, x ∈ wsX0_add := by decide +kernel
  refine lv_aload_n C.1 C.2.1 dX0_add_0 rfl (lv_at hl 0 rfl) ?_
  refine lv_aload_n C.1 C.2.1 dX0_add_1 rfl (lv_at hl 0 rfl) ?_
  refine xget C hK hW hinX0 rfl (by omega) pr0 0 (by decide) (List.mem_of_getElem? (i := 1) rfl) rfl dX0_add_2 ?_
  refine lv_aload_n C.1 C.2.1 dX0_add_5 rfl (lv_at hl 1 rfl) ?_
  refine xget C hK hW hinX0 rfl (by omega) pr1 1 (by decide) (List.mem_of_getElem? (i := 2) rfl) rfl dX0_add_6 ?_
  refine xlmul C dX0_add_9 ?_
  refine lv_aload_n C.1 C.2.1 dX0_add_10 rfl (lv_at hl 1 rfl) ?_
  refine xget C hK hW hinX0 rfl (by omega) pr1 0 (by decide) (List.mem_of_getElem? (i := 1) rfl) rfl dX0_add_11 ?_
  refine lv_aload_n C.1 C.2.1 dX0_add_14 rfl (lv_at hl 0 rfl) ?_
  refine xget C hK hW hinX0 rfl (by omega) pr0 1 (by decide) (List.mem_of_getElem? (i := 2) rfl) rfl dX0_add_15 ?_
  refine xlmul C dX0_add_18 ?_
  refine xladd C dX0_add_19 ?_
  refine lv_aload_n C.1 C.2.1 dX0_add_20 rfl (lv_at hl 0 rfl) ?_
  refine xget C hK hW hinX0 rfl (by omega) pr0 1 (by decide) (List.mem_of_getElem? (i := 2) rfl) rfl dX0_add_21 ?_
  refine lv_aload_n C.1 C.2.1 dX0_add_24 rfl (lv_at hl 1 rfl) ?_
  refine xget C hK hW hinX0 rfl (by omega) pr1 1 (by decide) (List.mem_of_getElem? (i := 2) rfl) rfl dX0_add_25 ?_
  refine xlmul C dX0_add_28 ?_
  refine xcV_v (n := 2) (As := [.long (lN ((a * d) + (c * b))), .long (lN (b * d))]) C hK hW (c_X0_become l g w i ((a * d) + (c * b)) (b * d) (lN a) (lN b) hI hN (by omega) (by omega) (by omega) (by omega) pr0) gX0_add_X0_become rfl ⟨rfl, rfl⟩ (by decide +kernel) ⟨Nat.le_of_ble_eq_true rfl, Nat.le_of_ble_eq_true rfl⟩ ⟨Nat.zero_le _, Nat.zero_le _⟩ rfl (by omega) pr0 rfl hl rfl (Nat.le_of_ble_eq_true rfl) dX0_add_29 (fun w1 H locs q2 hW => ?_)
  obtain ⟨h4, f5⟩ := q2
  exact xret_v C hr hlk hW ⟨(by first | exact h4 | (rw [mixF_0]; exact h4) | (rw [mixF_up]; exact h4) | (refine (h4).trans ?_; rw [cK_mixE (by omega)]; done) | (refine (h4).trans ?_; rw [cL_mixE (by omega)]; done) | (refine (h4).trans ?_; rw [cL_mixE (by omega)]; rfl)), (fun j z0 => (f5 j (by omega)))⟩ dX0_add_32

set_option maxHeartbeats 4000000 in
set_option maxRecDepth 100000 in
theorem c_X0_isBelow (l : Launch) (g : GE) (w : Nat → va_E) (i j a b c d : Nat) (hI : AdInj g) (hN : gN g = 130) (hi : i < 119) (hj : j < 119) (hu : a * d < 2 ^ 63) (hv : c * b < 2 ^ 63) (pr0 : w i = .inr (0, [.long (lN a), .long (lN b)])) (pr1 : w j = .inr (0, [.long (lN c), .long (lN d)])) : Met l yX0_isBelow wsX0_isBelow ({ frames := 0, cells := 0, slots := 0, locals := 0 } : Room) (XPc g w [.ref (gad g i), .ref (gad g j)]) (XQi g (fun r w' => w' = w ∧ r = (bI (a * d < c * b)))) 0 0 (gA g) := by
  refine xmet (cc := cX0_isBelow) (maxL := 2) (ret := (some .boolean)) (by decide) rfl hI (Nat.le_of_ble_eq_true rfl) ?_
  intro pG eG sG mG belowG methG cG ls C hr hlk hK hW hl
  have hl : lv_has ls 2 [(0, .ref (gad g i)), (1, .ref (gad g j))] := hl
  have hinX0 : ∀ x ∈ u_ws RX0 TX0 2, x ∈ wsX0_isBelow := by decide +kernel
  refine lv_aload_n C.1 C.2.1 dX0_isBelow_0 rfl (lv_at hl 0 rfl) ?_
  refine xget C hK hW hinX0 rfl (by omega) pr0 0 (by decide) (List.mem_of_getElem? (i := 1) rfl) rfl dX0_isBelow_1 ?_
  refine lv_aload_n C.1 C.2.1 dX0_isBelow_4 rfl (lv_at hl 1 rfl) ?_
  refine xget C hK hW hinX0 rfl (by omega) pr1 1 (by decide) (List.mem_of_getElem? (i := 2) rfl) rfl dX0_isBelow_5 ?_
  refine xlmul C dX0_isBelow_8 ?_
  refine lv_aload_n C.1 C.2.1 dX0_isBelow_9 rfl (lv_at hl 1 rfl) ?_
  refine xget C hK hW hinX0 rfl (by omega) pr1 0 (by decide) (List.mem_of_getElem? (i := 1) rfl) rfl dX0_isBelow_10 ?_
  refine lv_aload_n C.1 C.2.1 dX0_isBelow_13 rfl (lv_at hl 0 rfl) ?_
  refine xget C hK hW hinX0 rfl (by omega) pr0 1 (by decide) (List.mem_of_getElem? (i := 2) rfl) rfl dX0_isBelow_14 ?_
  refine xlmul C dX0_isBelow_17 ?_
  refine xLge (tgt := 26) C (by omega) (by omega) dX0_isBelow_18 dX0_isBelow_19 (by decide) (fun c18 => ?_) (fun c18 => ?_)
  · refine lv_iconst (v := (nI 0)) C.1 C.2.1 dX0_isBelow_26 (by decide) ?_
    exact xret_z C hr hlk hW rfl ⟨rfl, (bI_f (by omega)).symm⟩ dX0_isBelow_27
  · refine lv_iconst (v := (nI 1)) C.1 C.2.1 dX0_isBelow_22 (by decide) ?_
    refine lv_goto (tgt := 27) C.1 C.2.1 dX0_isBelow_23 (by decide) ?_
    exact xret_z C hr hlk hW rfl ⟨rfl, (bI_t (by omega)).symm⟩ dX0_isBelow_27

set_option maxHeartbeats 4000000 in
set_option maxRecDepth 100000 in
theorem c_X0_told (l : Launch) (g : GE) (w : Nat → va_E) (i n a b : Nat) (hI : AdInj g) (hN : gN g = 130) (hi : i < 119) (hn : n < 3) (pr0 : w i = .inr (0, [.long (lN a), .long (lN b)])) : Met l yX0_told wsX0_told ({ frames := 0, cells := 0, slots := 0, locals := 0 } : Room) (XPc g w [.ref (gad g i), .int (nI n)]) (XQl g (fun r w' => w' = w ∧ r = (lN (if n = 0 then a else b)))) 0 0 (gA g) := by
  refine xmet (cc := cX0_told) (maxL := 2) (ret := (some .long)) (by decide) rfl hI (Nat.le_of_ble_eq_true rfl) ?_
  intro pG eG sG mG belowG methG cG ls C hr hlk hK hW hl
  have hl : lv_has ls 2 [(0, .ref (gad g i)), (1, .int (nI n))] := hl
  have hinX0 : ∀ x ∈ u_ws RX0 TX0 2, x ∈ wsX0_told := by decide +kernel
  refine lv_iload_n C.1 C.2.1 dX0_told_0 rfl (lv_at hl 1 rfl) ?_
  refine x0ne (tgt := 11) C (by omega) dX0_told_1 (by decide) (fun c1 => ?_) (fun c1 => ?_)
  · refine lv_aload_n C.1 C.2.1 dX0_told_11 rfl (lv_at hl 0 rfl) ?_
    refine xget C hK hW hinX0 rfl (by omega) pr0 1 (by decide) (List.mem_of_getElem? (i := 2) rfl) rfl dX0_told_12 ?_
    exact xret_l C hr hlk hW ⟨rfl, by rw [if_neg c1]⟩ dX0_told_15
  · refine lv_aload_n C.1 C.2.1 dX0_told_4 rfl (lv_at hl 0 rfl) ?_
    refine xget C hK hW hinX0 rfl (by omega) pr0 0 (by decide) (List.mem_of_getElem? (i := 1) rfl) rfl dX0_told_5 ?_
    refine lv_goto (tgt := 15) C.1 C.2.1 dX0_told_8 (by decide) ?_
    exact xret_l C hr hlk hW ⟨rfl, by rw [if_pos c1]⟩ dX0_told_15

set_option maxHeartbeats 4000000 in
set_option maxRecDepth 100000 in
theorem c_X0_partOf (l : Launch) (g : GE) (w : Nat → va_E) (i n a b : Nat) (hI : AdInj g) (hN : gN g = 130) (hi : i < 119) (hb : 0 < b) (hb2 : b < 2 ^ 63) (hn : n * a < 2 ^ 63) (pr0 : w i = .inr (0, [.long (lN a), .long (lN b)])) : Met l yX0_partOf wsX0_partOf ({ frames := 0, cells := 0, slots := 0, locals := 0 } : Room) (XPc g w [.ref (gad g i), .long (lN n)]) (XQl g (fun r w' => w' = w ∧ r = (lN (n * a / b)))) 0 0 (gA g) := by
  refine xmet (cc := cX0_partOf) (maxL := 3) (ret := (some .long)) (by decide) rfl hI (Nat.le_of_ble_eq_true rfl) ?_
  intro pG eG sG mG belowG methG cG ls C hr hlk hK hW hl
  have hl : lv_has ls 3 [(0, .ref (gad g i)), (1, .long (lN n))] := hl
  have hinX0 : ∀ x ∈ u_ws RX0 TX0 2, x ∈ wsX0_partOf := by decide +kernel
  refine lv_aload_n C.1 C.2.1 dX0_partOf_0 rfl (lv_at hl 0 rfl) ?_
  refine xget C hK hW hinX0 rfl (by omega) pr0 1 (by decide) (List.mem_of_getElem? (i := 1) rfl) rfl dX0_partOf_1 ?_
  refine lv_lconst (v := lN 0) C.1 C.2.1 dX0_partOf_4 (by decide) ?_
  refine xLle (tgt := 23) C (by omega) (by omega) dX0_partOf_5 dX0_partOf_6 (by decide) (fun c5 => absurd c5 (by omega)) (fun c5 => ?_)
  refine lv_lload_n C.1 C.2.1 dX0_partOf_9 rfl (lv_at hl 1 rfl) ?_
  refine lv_aload_n C.1 C.2.1 dX0_partOf_10 rfl (lv_at hl 0 rfl) ?_
  refine xget C hK hW hinX0 rfl (by omega) pr0 0 (by decide) (List.mem_of_getElem? (i := 2) rfl) rfl dX0_partOf_11 ?_
  refine xlmul C dX0_partOf_14 ?_
  refine lv_aload_n C.1 C.2.1 dX0_partOf_15 rfl (lv_at hl 0 rfl) ?_
  refine xget C hK hW hinX0 rfl (by omega) pr0 1 (by decide) (List.mem_of_getElem? (i := 1) rfl) rfl dX0_partOf_16 ?_
  refine xldiv C (by omega) (by omega) (by omega) dX0_partOf_19 ?_
  refine lv_goto (tgt := 24) C.1 C.2.1 dX0_partOf_20 (by decide) ?_
  exact xret_l C hr hlk hW ⟨rfl, rfl⟩ dX0_partOf_24

set_option maxHeartbeats 4000000 in
set_option maxRecDepth 100000 in
theorem c_X6_power (l : Launch) (g : GE) (w : Nat → va_E) (x n : Nat) (hI : AdInj g) (hN : gN g = 130) (hn : n ≤ 9) : Met l yX6_power wsX6_power ({ frames := 0, cells := 0, slots := 0, locals := 0 } : Room) (XPc g w [.long (lN x), .int (nI n)]) (XQl g (fun r w' => w' = w ∧ r = (lN (x ^ n)))) 0 0 (gA g) := by
  refine xmet (cc := cX6_power) (maxL := 6) (ret := (some .long)) (by decide) rfl hI (Nat.le_of_ble_eq_true rfl) ?_
  intro pG eG sG mG belowG methG cG ls C hr hlk hK hW hl
  have hl : lv_has ls 6 [(0, .long (lN x)), (2, .int (nI n))] := hl
  refine lv_lconst (v := lN 1) C.1 C.2.1 dX6_power_0 (by decide) ?_
  refine lv_lstore_n (lv' := [(3, .long (lN 1)), (0, .long (lN x)), (2, .int (nI n))]) C.1 C.2.1 dX6_power_1 rfl hl (by decide) rfl (fun ls hl => ?_)
  refine lv_iconst (v := (nI 0)) C.1 C.2.1 dX6_power_2 (by decide) ?_
  refine lv_istore (lv' := [(5, .int (nI 0)), (3, .long (lN 1)), (0, .long (lN x)), (2, .int (nI n))]) C.1 C.2.1 dX6_power_3 hl (by decide) rfl (fun ls hl => ?_)
  have loop5 : ∀ (kG : Nat) (k : Nat) (H : Heap) (locs : List Loc) (ls : Array Slot), kG = n - k → (k ≤ n) → XW g w (gA g) sG.heap H locs → lv_has ls 6 [(5, .int (nI k)), (3, .long (lN (x ^ k))), (0, .long (lN x)), (2, .int (nI n))] → W pG l eG ({ frames := 0, cells := 0, slots := 0, locals := 0 } : Room) sG mG ([.long (lN x), .int (nI n)] : List Value).toArray belowG methG cG H locs 0 0 (MQ belowG (XQl g (fun r w' => w' = w ∧ r = (lN (x ^ n)))) ([.long (lN x), .int (nI n)] : List Value).toArray sG 0 0 (gA g)) (F0 mG 5 ls []) := by
    intro k5
    induction k5 using Nat.strongRecOn with
    | _ k5 ih5 =>
    intro k H locs ls hk5 hk hW hl
    refine lv_iload C.1 C.2.1 dX6_power_5 (lv_at hl 0 rfl) ?_
    refine lv_iload_n C.1 C.2.1 dX6_power_7 rfl (lv_at hl 3 rfl) ?_
    refine xge (tgt := 21) C (by omega) (by omega) dX6_power_8 (by decide) (fun c8 => ?_) (fun c8 => ?_)
    · refine lv_lload_n C.1 C.2.1 dX6_power_21 rfl (lv_at hl 1 rfl) ?_
      exact xret_l C hr hlk hW ⟨rfl, by rw [show k = n by omega]⟩ dX6_power_22
    · refine lv_lload_n C.1 C.2.1 dX6_power_11 rfl (lv_at hl 1 rfl) ?_
      refine lv_lload_n C.1 C.2.1 dX6_power_12 rfl (lv_at hl 2 rfl) ?_
      refine xlmul C dX6_power_13 ?_
      refine lv_lstore_n (lv' := [(3, .long (lN ((x ^ k) * x))), (5, .int (nI k)), (0, .long (lN x)), (2, .int (nI n))]) C.1 C.2.1 dX6_power_14 rfl hl (by decide) rfl (fun ls hl => ?_)
      refine lv_iinc (v := nI (k + 1)) (lv' := [(5, .int (nI (k + 1))), (3, .long (lN ((x ^ k) * x))), (0, .long (lN x)), (2, .int (nI n))]) C.1 C.2.1 dX6_power_15 hl (k := 1) rfl (nI_add _ 1) (by decide) rfl (fun ls hl => ?_)
      refine lv_goto (tgt := 5) C.1 C.2.1 dX6_power_18 (by decide) ?_
      exact ih5 (n - (k + 1)) (by omega) (k + 1) _ _ _ rfl (by omega) hW hl
  exact loop5 _ 0 _ _ _ rfl (by omega) hW hl

set_option maxHeartbeats 4000000 in
set_option maxRecDepth 100000 in
theorem c_X5_learn (l : Launch) (g : GE) (w : Nat → va_E) (b wh al : Nat) (x y : Int32) (L on bk : Nat → Nat) (hI : AdInj g) (hN : gN g = 130) (hb : b + 33 ≤ 100) (hok : Okg L) (pr0 : w 100 = .inr (5, [.ref (gad g 101), .ref (gad g 102), .int (nI wh), .ref (gad g 103), .ref (gad g 104), .long (lN al), .ref (gad g 105)])) (pr1 : w 101 = .inl (gI g, 7, .inl (cK 7 0 on))) (pr2 : w 102 = .inl (gI g, 7, .inl (cK 7 0 bk))) (pr3 : GAt g b x y L w) : Met l yX5_learn wsX5_learn ({ frames := 3, cells := 0, slots := 0, locals := 65 } : Room) (XPc g w [.ref (gad g 100), .ref (gad g b)]) (XQv g (fun w' => w' 100 = .inr (5, [.ref (gad g 101), .ref (gad g 102), .int (nI 10), .ref (gad g 103), .ref (gad g 104), .long (lN al), .ref (gad g 105)]) ∧ w' 101 = .inl (gI g, 7, .inl (cK 7 0 (onF L))) ∧ w' 102 = .inl (gI g, 7, .inl (cK 7 0 (backF L))) ∧ (∀ j : Nat, ¬ (100 ≤ j ∧ j < 103) → w' j = w j))) 0 0 (gA g) := by
  refine xmet (cc := cX5_learn) (maxL := 3) (ret := none) (by decide) rfl hI (Nat.le_of_ble_eq_true rfl) ?_
  intro pG eG sG mG belowG methG cG ls C hr hlk hK hW hl
  have hl : lv_has ls 3 [(0, .ref (gad g 100)), (1, .ref (gad g b))] := hl
  have hinX5 : ∀ x ∈ u_ws RX5 TX5 7, x ∈ wsX5_learn := by decide +kernel
  refine lv_aload_n C.1 C.2.1 dX5_learn_0 rfl (lv_at hl 0 rfl) ?_
  refine lv_bipush (v := (nI 10)) C.1 C.2.1 dX5_learn_1 (by decide) ?_
  refine xput (v := .int (nI 10)) C hK hW hinX5 tyX5_ok nmX5 rfl (by omega) pr0 2 (by decide) (List.mem_of_getElem? (i := 1) rfl) rfl rfl rfl (Nat.le_of_ble_eq_true rfl) dX5_learn_3 (fun w1 H locs e2 f3 hW => ?_)
  refine lv_iconst (v := (nI 0)) C.1 C.2.1 dX5_learn_6 (by decide) ?_
  refine lv_istore_n (lv' := [(2, .int (nI 0)), (0, .ref (gad g 100)), (1, .ref (gad g b))]) C.1 C.2.1 dX5_learn_7 rfl hl (by decide) rfl (fun ls hl => ?_)
  have loop8 : ∀ (kG : Nat) (i : Nat) (v8 : Nat → va_E) (H : Heap) (locs : List Loc) (ls : Array Slot), kG = 7 - i → (v8 100 = .inr (5, [.ref (gad g 101), .ref (gad g 102), .int (nI 10), .ref (gad g 103), .ref (gad g 104), .long (lN al), .ref (gad g 105)])) → (v8 101 = .inl (gI g, 7, .inl (cK 7 0 (mixF i (onF L) on)))) → (v8 102 = .inl (gI g, 7, .inl (cK 7 0 (mixF i (backF L) bk)))) → (GAt g b x y L v8) → (∀ j : Nat, ¬ (100 ≤ j ∧ j < 103) → v8 j = w j) → (i ≤ 7) → XW g v8 (gA g) sG.heap H locs → lv_has ls 3 [(2, .int (nI i)), (0, .ref (gad g 100)), (1, .ref (gad g b))] → W pG l eG ({ frames := 3, cells := 0, slots := 0, locals := 65 } : Room) sG mG ([.ref (gad g 100), .ref (gad g b)] : List Value).toArray belowG methG cG H locs 0 0 (MQ belowG (XQv g (fun w' => w' 100 = .inr (5, [.ref (gad g 101), .ref (gad g 102), .int (nI 10), .ref (gad g 103), .ref (gad g 104), .long (lN al), .ref (gad g 105)]) ∧ w' 101 = .inl (gI g, 7, .inl (cK 7 0 (onF L))) ∧ w' 102 = .inl (gI g, 7, .inl (cK 7 0 (backF L))) ∧ (∀ j : Nat, ¬ (100 ≤ j ∧ j < 103) → w' j = w j))) ([.ref (gad g 100), .ref (gad g b)] : List Value).toArray sG 0 0 (gA g)) (F0 mG 8 ls []) := by
    intro k8
    induction k8 using Nat.strongRecOn with
    | _ k8 ih8 =>
    intro i v8 H locs ls hk8 fa8_0 fa8_1 fa8_2 fa8_3 hfr8 hi hW hl
    refine lv_iload_n C.1 C.2.1 dX5_learn_8 rfl (lv_at hl 0 rfl) ?_
    refine lv_bipush (v := (nI 7)) C.1 C.2.1 dX5_learn_9 (by decide) ?_
    refine xge (tgt := 42) C (by omega) (by omega) dX5_learn_11 (by decide) (fun c11 => ?_) (fun c11 => ?_)
    · exact xret_v C hr hlk hW ⟨fa8_0, (by first | exact fa8_1 | (rw [mixF_0]; exact fa8_1) | (rw [mixF_up]; exact fa8_1) | (refine (fa8_1).trans ?_; rw [cK_mixE (by omega)]; done) | (refine (fa8_1).trans ?_; rw [cL_mixE (by omega)]; done) | (refine (fa8_1).trans ?_; rw [cL_mixE (by omega)]; rfl)), (by first | exact fa8_2 | (rw [mixF_0]; exact fa8_2) | (rw [mixF_up]; exact fa8_2) | (refine (fa8_2).trans ?_; rw [cK_mixE (by omega)]; done) | (refine (fa8_2).trans ?_; rw [cL_mixE (by omega)]; done) | (refine (fa8_2).trans ?_; rw [cL_mixE (by omega)]; rfl)), (fun j z0 => (hfr8 j z0))⟩ dX5_learn_42
    · refine lv_aload_n C.1 C.2.1 dX5_learn_14 rfl (lv_at hl 1 rfl) ?_
      refine xget C hK hW hinX5 rfl (by omega) fa8_0 0 (by decide) (List.mem_of_getElem? (i := 2) rfl) rfl dX5_learn_15 ?_
      refine lv_iload_n C.1 C.2.1 dX5_learn_18 rfl (lv_at hl 0 rfl) ?_
      refine lv_aload_n C.1 C.2.1 dX5_learn_19 rfl (lv_at hl 2 rfl) ?_
      refine lv_iload_n C.1 C.2.1 dX5_learn_20 rfl (lv_at hl 0 rfl) ?_
      refine xcV_i (n := 1) (As := [.int (nI i)]) C hK hW (c_X1_onFrom l g v8 b i x y L hI hN (by omega) (by omega) hok fa8_3) gX5_learn_X1_onFrom rfl ⟨rfl, rfl⟩ (by decide +kernel) ⟨Nat.le_of_ble_eq_true rfl, Nat.le_of_ble_eq_true rfl⟩ ⟨Nat.zero_le _, Nat.zero_le _⟩ rfl (by omega) fa8_3.1 rfl hl rfl (Nat.le_of_ble_eq_true rfl) dX5_learn_21 (fun r6 w4 H locs q5 hW => ?_)
      obtain ⟨qw7, rfl⟩ := q5
      rw [qw7] at hW
      refine xistK0 (v := onF L i) C hK hW (by omega) fa8_1 (by omega) (by decide) dX5_learn_24 (fun w8 H locs e9 f10 hW => ?_)
      refine lv_aload_n C.1 C.2.1 dX5_learn_25 rfl (lv_at hl 1 rfl) ?_
      have h11 : w8 100 = .inr (5, [.ref (gad g 101), .ref (gad g 102), .int (nI 10), .ref (gad g 103), .ref (gad g 104), .long (lN al), .ref (gad g 105)]) := ((f10 100 (by omega)).trans fa8_0)
      refine xget C hK hW hinX5 rfl (by omega) h11 1 (by decide) (List.mem_of_getElem? (i := 3) rfl) rfl dX5_learn_26 ?_
      refine lv_iload_n C.1 C.2.1 dX5_learn_29 rfl (lv_at hl 0 rfl) ?_
      refine lv_aload_n C.1 C.2.1 dX5_learn_30 rfl (lv_at hl 2 rfl) ?_
      refine lv_iload_n C.1 C.2.1 dX5_learn_31 rfl (lv_at hl 0 rfl) ?_
      have h12 : GAt g b x y L w8 := (GAt.fr fa8_3 (fun j h1 h2 => f10 j (by omega)))
      refine xcV_i (n := 1) (As := [.int (nI i)]) C hK hW (c_X1_backFrom l g w8 b i x y L hI hN (by omega) (by omega) hok h12) gX5_learn_X1_backFrom rfl ⟨rfl, rfl⟩ (by decide +kernel) ⟨Nat.le_of_ble_eq_true rfl, Nat.le_of_ble_eq_true rfl⟩ ⟨Nat.zero_le _, Nat.zero_le _⟩ rfl (by omega) h12.1 rfl hl rfl (Nat.le_of_ble_eq_true rfl) dX5_learn_32 (fun r15 w13 H locs q14 hW => ?_)
      obtain ⟨qw16, rfl⟩ := q14
      rw [qw16] at hW
      have h17 : w8 102 = .inl (gI g, 7, .inl (cK 7 0 (mixF i (backF L) bk))) := ((f10 102 (by omega)).trans fa8_2)
      refine xistK0 (v := backF L i) C hK hW (by omega) h17 (by omega) (by decide) dX5_learn_35 (fun w18 H locs e19 f20 hW => ?_)
      refine lv_iinc (v := nI (i + 1)) (lv' := [(2, .int (nI (i + 1))), (0, .ref (gad g 100)), (1, .ref (gad g b))]) C.1 C.2.1 dX5_learn_36 hl (k := 0) rfl (nI_add _ 1) (by decide) rfl (fun ls hl => ?_)
      refine lv_goto (tgt := 8) C.1 C.2.1 dX5_learn_39 (by decide) ?_
      have h21 : w18 100 = .inr (5, [.ref (gad g 101), .ref (gad g 102), .int (nI 10), .ref (gad g 103), .ref (gad g 104), .long (lN al), .ref (gad g 105)]) := ((f20 100 (by omega)).trans h11)
      have h22 : w18 101 = .inl (gI g, 7, .inl (cK 7 0 (va_up (mixF i (onF L) on) i (onF L i)))) := ((f20 101 (by omega)).trans e9)
      have h23 : GAt g b x y L w18 := (GAt.fr h12 (fun j h1 h2 => f20 j (by omega)))
      exact ih8 (7 - (i + 1)) (by omega) (i + 1) w18 _ _ _ rfl h21 (by first | exact h22 | (rw [mixF_0]; exact h22) | (rw [mixF_up]; exact h22) | (refine (h22).trans ?_; rw [cK_mixE (by omega)]; done) | (refine (h22).trans ?_; rw [cL_mixE (by omega)]; done) | (refine (h22).trans ?_; rw [cL_mixE (by omega)]; rfl)) (by first | exact e19 | (rw [mixF_0]; exact e19) | (rw [mixF_up]; exact e19) | (refine (e19).trans ?_; rw [cK_mixE (by omega)]; done) | (refine (e19).trans ?_; rw [cL_mixE (by omega)]; done) | (refine (e19).trans ?_; rw [cL_mixE (by omega)]; rfl)) h23 (fun j z0 => ((f20 j (by omega)).trans ((f10 j (by omega)).trans (hfr8 j z0)))) (by omega) hW hl
  have h24 : w1 101 = .inl (gI g, 7, .inl (cK 7 0 on)) := ((f3 101 (by omega)).trans pr1)
  have h25 : w1 102 = .inl (gI g, 7, .inl (cK 7 0 bk)) := ((f3 102 (by omega)).trans pr2)
  have h26 : GAt g b x y L w1 := (GAt.fr pr3 (fun j h1 h2 => f3 j (by omega)))
  exact loop8 _ 0 w1 _ _ _ rfl e2 (by first | exact h24 | (rw [mixF_0]; exact h24) | (rw [mixF_up]; exact h24) | (refine (h24).trans ?_; rw [cK_mixE (by omega)]; done) | (refine (h24).trans ?_; rw [cL_mixE (by omega)]; done) | (refine (h24).trans ?_; rw [cL_mixE (by omega)]; rfl)) (by first | exact h25 | (rw [mixF_0]; exact h25) | (rw [mixF_up]; exact h25) | (refine (h25).trans ?_; rw [cK_mixE (by omega)]; done) | (refine (h25).trans ?_; rw [cL_mixE (by omega)]; done) | (refine (h25).trans ?_; rw [cL_mixE (by omega)]; rfl)) h26 (fun j z0 => (f3 j (by omega))) (by omega) hW hl

set_option maxHeartbeats 4000000 in
set_option maxRecDepth 100000 in
theorem c_X5_fallAsleep (l : Launch) (g : GE) (w : Nat → va_E) (c wh al : Nat) (on bk : Nat → Nat) (hI : AdInj g) (hN : gN g = 130) (hc : c ≤ 10) (pr0 : w 100 = .inr (5, [.ref (gad g 101), .ref (gad g 102), .int (nI wh), .ref (gad g 103), .ref (gad g 104), .long (lN al), .ref (gad g 105)])) (pr1 : w 101 = .inl (gI g, 7, .inl (cK 7 0 on))) (pr2 : w 102 = .inl (gI g, 7, .inl (cK 7 0 bk))) : Met l yX5_fallAsleep wsX5_fallAsleep ({ frames := 0, cells := 0, slots := 0, locals := 0 } : Room) (XPc g w [.ref (gad g 100), .int (nI c)]) (XQv g (fun w' => w' 100 = .inr (5, [.ref (gad g 101), .ref (gad g 102), .int (nI 100), .ref (gad g 103), .ref (gad g 104), .long (lN al), .ref (gad g 105)]) ∧ w' 101 = .inl (gI g, 7, .inl (cK 7 0 (fun f => on f * (10 - c)))) ∧ w' 102 = .inl (gI g, 7, .inl (cK 7 0 (fun f => bk f * (10 - c)))) ∧ (∀ j : Nat, ¬ (100 ≤ j ∧ j < 103) → w' j = w j))) 0 0 (gA g) := by
  refine xmet (cc := cX5_fallAsleep) (maxL := 3) (ret := none) (by decide) rfl hI (Nat.le_of_ble_eq_true rfl) ?_
  intro pG eG sG mG belowG methG cG ls C hr hlk hK hW hl
  have hl : lv_has ls 3 [(0, .ref (gad g 100)), (1, .int (nI c))] := hl
  have hinX5 : ∀ x ∈ u_ws RX5 TX5 7, x ∈ wsX5_fallAsleep := by decide +kernel
  refine lv_aload_n C.1 C.2.1 dX5_fallAsleep_0 rfl (lv_at hl 0 rfl) ?_
  refine lv_bipush (v := (nI 100)) C.1 C.2.1 dX5_fallAsleep_1 (by decide) ?_
  refine xput (v := .int (nI 100)) C hK hW hinX5 tyX5_ok nmX5 rfl (by omega) pr0 2 (by decide) (List.mem_of_getElem? (i := 1) rfl) rfl rfl rfl (Nat.le_of_ble_eq_true rfl) dX5_fallAsleep_3 (fun w1 H locs e2 f3 hW => ?_)
  refine lv_iconst (v := (nI 0)) C.1 C.2.1 dX5_fallAsleep_6 (by decide) ?_
  refine lv_istore_n (lv' := [(2, .int (nI 0)), (0, .ref (gad g 100)), (1, .int (nI c))]) C.1 C.2.1 dX5_fallAsleep_7 rfl hl (by decide) rfl (fun ls hl => ?_)
  have loop8 : ∀ (kG : Nat) (i : Nat) (v8 : Nat → va_E) (H : Heap) (locs : List Loc) (ls : Array Slot), kG = 7 - i → (v8 100 = .inr (5, [.ref (gad g 101), .ref (gad g 102), .int (nI 100), .ref (gad g 103), .ref (gad g 104), .long (lN al), .ref (gad g 105)])) → (v8 101 = .inl (gI g, 7, .inl (cK 7 0 (mixF i (fun f => on f * (10 - c)) on)))) → (v8 102 = .inl (gI g, 7, .inl (cK 7 0 (mixF i (fun f => bk f * (10 - c)) bk)))) → (∀ j : Nat, ¬ (100 ≤ j ∧ j < 103) → v8 j = w j) → (i ≤ 7) → XW g v8 (gA g) sG.heap H locs → lv_has ls 3 [(2, .int (nI i)), (0, .ref (gad g 100)), (1, .int (nI c))] → W pG l eG ({ frames := 0, cells := 0, slots := 0, locals := 0 } : Room) sG mG ([.ref (gad g 100), .int (nI c)] : List Value).toArray belowG methG cG H locs 0 0 (MQ belowG (XQv g (fun w' => w' 100 = .inr (5, [.ref (gad g 101), .ref (gad g 102), .int (nI 100), .ref (gad g 103), .ref (gad g 104), .long (lN al), .ref (gad g 105)]) ∧ w' 101 = .inl (gI g, 7, .inl (cK 7 0 (fun f => on f * (10 - c)))) ∧ w' 102 = .inl (gI g, 7, .inl (cK 7 0 (fun f => bk f * (10 - c)))) ∧ (∀ j : Nat, ¬ (100 ≤ j ∧ j < 103) → w' j = w j))) ([.ref (gad g 100), .int (nI c)] : List Value).toArray sG 0 0 (gA g)) (F0 mG 8 ls []) := by
    intro k8
    induction k8 using Nat.strongRecOn with
    | _ k8 ih8 =>
    intro i v8 H locs ls hk8 fa8_0 fa8_1 fa8_2 hfr8 hi hW hl
    refine lv_iload_n C.1 C.2.1 dX5_fallAsleep_8 rfl (lv_at hl 0 rfl) ?_
    refine lv_bipush (v := (nI 7)) C.1 C.2.1 dX5_fallAsleep_9 (by decide) ?_
    refine xge (tgt := 46) C (by omega) (by omega) dX5_fallAsleep_11 (by decide) (fun c11 => ?_) (fun c11 => ?_)
    · exact xret_v C hr hlk hW ⟨fa8_0, (by first | exact fa8_1 | (rw [mixF_0]; exact fa8_1) | (rw [mixF_up]; exact fa8_1) | (refine (fa8_1).trans ?_; rw [cK_mixE (by omega)]; done) | (refine (fa8_1).trans ?_; rw [cL_mixE (by omega)]; done) | (refine (fa8_1).trans ?_; rw [cL_mixE (by omega)]; rfl)), (by first | exact fa8_2 | (rw [mixF_0]; exact fa8_2) | (rw [mixF_up]; exact fa8_2) | (refine (fa8_2).trans ?_; rw [cK_mixE (by omega)]; done) | (refine (fa8_2).trans ?_; rw [cL_mixE (by omega)]; done) | (refine (fa8_2).trans ?_; rw [cL_mixE (by omega)]; rfl)), (fun j z0 => (hfr8 j z0))⟩ dX5_fallAsleep_46
    · refine lv_aload_n C.1 C.2.1 dX5_fallAsleep_14 rfl (lv_at hl 1 rfl) ?_
      refine xget C hK hW hinX5 rfl (by omega) fa8_0 0 (by decide) (List.mem_of_getElem? (i := 2) rfl) rfl dX5_fallAsleep_15 ?_
      refine lv_iload_n C.1 C.2.1 dX5_fallAsleep_18 rfl (lv_at hl 0 rfl) ?_
      refine lv_dup2_11 C.1 C.2.1 dX5_fallAsleep_19 rfl rfl ?_
      refine xildK0 C hK hW (by omega) fa8_1 (by omega) (by decide) dX5_fallAsleep_20 ?_
      refine xtopN (b := on i) (mixF_ge (by omega)) ?_
      refine lv_bipush (v := (nI 10)) C.1 C.2.1 dX5_fallAsleep_21 (by decide) ?_
      refine lv_iload_n C.1 C.2.1 dX5_fallAsleep_23 rfl (lv_at hl 2 rfl) ?_
      refine xsub C (by omega) dX5_fallAsleep_24 ?_
      refine xmul C dX5_fallAsleep_25 ?_
      refine xistK0 (v := (on i) * (10 - c)) C hK hW (by omega) fa8_1 (by omega) (by decide) dX5_fallAsleep_26 (fun w4 H locs e5 f6 hW => ?_)
      refine lv_aload_n C.1 C.2.1 dX5_fallAsleep_27 rfl (lv_at hl 1 rfl) ?_
      have h7 : w4 100 = .inr (5, [.ref (gad g 101), .ref (gad g 102), .int (nI 100), .ref (gad g 103), .ref (gad g 104), .long (lN al), .ref (gad g 105)]) := ((f6 100 (by omega)).trans fa8_0)
      refine xget C hK hW hinX5 rfl (by omega) h7 1 (by decide) (List.mem_of_getElem? (i := 3) rfl) rfl dX5_fallAsleep_28 ?_
      refine lv_iload_n C.1 C.2.1 dX5_fallAsleep_31 rfl (lv_at hl 0 rfl) ?_
      refine lv_dup2_11 C.1 C.2.1 dX5_fallAsleep_32 rfl rfl ?_
      have h8 : w4 102 = .inl (gI g, 7, .inl (cK 7 0 (mixF i (fun f => bk f * (10 - c)) bk))) := ((f6 102 (by omega)).trans fa8_2)
      refine xildK0 C hK hW (by omega) h8 (by omega) (by decide) dX5_fallAsleep_33 ?_
      refine xtopN (b := bk i) (mixF_ge (by omega)) ?_
      refine lv_bipush (v := (nI 10)) C.1 C.2.1 dX5_fallAsleep_34 (by decide) ?_
      refine lv_iload_n C.1 C.2.1 dX5_fallAsleep_36 rfl (lv_at hl 2 rfl) ?_
      refine xsub C (by omega) dX5_fallAsleep_37 ?_
      refine xmul C dX5_fallAsleep_38 ?_
      refine xistK0 (v := (bk i) * (10 - c)) C hK hW (by omega) h8 (by omega) (by decide) dX5_fallAsleep_39 (fun w9 H locs e10 f11 hW => ?_)
      refine lv_iinc (v := nI (i + 1)) (lv' := [(2, .int (nI (i + 1))), (0, .ref (gad g 100)), (1, .int (nI c))]) C.1 C.2.1 dX5_fallAsleep_40 hl (k := 0) rfl (nI_add _ 1) (by decide) rfl (fun ls hl => ?_)
      refine lv_goto (tgt := 8) C.1 C.2.1 dX5_fallAsleep_43 (by decide) ?_
      have h12 : w9 100 = .inr (5, [.ref (gad g 101), .ref (gad g 102), .int (nI 100), .ref (gad g 103), .ref (gad g 104), .long (lN al), .ref (gad g 105)]) := ((f11 100 (by omega)).trans h7)
      have h13 : w9 101 = .inl (gI g, 7, .inl (cK 7 0 (va_up (mixF i (fun f => on f * (10 - c)) on) i ((on i) * (10 - c))))) := ((f11 101 (by omega)).trans e5)
      exact ih8 (7 - (i + 1)) (by omega) (i + 1) w9 _ _ _ rfl h12 (by first | exact h13 | (rw [mixF_0]; exact h13) | (rw [mixF_up]; exact h13) | (refine (h13).trans ?_; rw [cK_mixE (by omega)]; done) | (refine (h13).trans ?_; rw [cL_mixE (by omega)]; done) | (refine (h13).trans ?_; rw [cL_mixE (by omega)]; rfl)) (by first | exact e10 | (rw [mixF_0]; exact e10) | (rw [mixF_up]; exact e10) | (refine (e10).trans ?_; rw [cK_mixE (by omega)]; done) | (refine (e10).trans ?_; rw [cL_mixE (by omega)]; done) | (refine (e10).trans ?_; rw [cL_mixE (by omega)]; rfl)) (fun j z0 => ((f11 j (by omega)).trans ((f6 j (by omega)).trans (hfr8 j z0)))) (by omega) hW hl
  have h14 : w1 101 = .inl (gI g, 7, .inl (cK 7 0 on)) := ((f3 101 (by omega)).trans pr1)
  have h15 : w1 102 = .inl (gI g, 7, .inl (cK 7 0 bk)) := ((f3 102 (by omega)).trans pr2)
  exact loop8 _ 0 w1 _ _ _ rfl e2 (by first | exact h14 | (rw [mixF_0]; exact h14) | (rw [mixF_up]; exact h14) | (refine (h14).trans ?_; rw [cK_mixE (by omega)]; done) | (refine (h14).trans ?_; rw [cL_mixE (by omega)]; done) | (refine (h14).trans ?_; rw [cL_mixE (by omega)]; rfl)) (by first | exact h15 | (rw [mixF_0]; exact h15) | (rw [mixF_up]; exact h15) | (refine (h15).trans ?_; rw [cK_mixE (by omega)]; done) | (refine (h15).trans ?_; rw [cL_mixE (by omega)]; done) | (refine (h15).trans ?_; rw [cL_mixE (by omega)]; rfl)) (fun j z0 => (f3 j (by omega))) (by omega) hW hl

set_option maxHeartbeats 4000000 in
set_option maxRecDepth 100000 in
theorem c_X5_weight (l : Launch) (g : GE) (w : Nat → va_E) (f t wh al : Nat) (on bk : Nat → Nat) (hI : AdInj g) (hN : gN g = 130) (hf : f < 7) (ht : t < 7) (hwh : wh ≤ 100) (hob : ∀ f, f < 7 → on f + bk f ≤ wh) (pr0 : w 100 = .inr (5, [.ref (gad g 101), .ref (gad g 102), .int (nI wh), .ref (gad g 103), .ref (gad g 104), .long (lN al), .ref (gad g 105)])) (pr1 : w 101 = .inl (gI g, 7, .inl (cK 7 0 on))) (pr2 : w 102 = .inl (gI g, 7, .inl (cK 7 0 bk))) : Met l yX5_weight wsX5_weight ({ frames := 2, cells := 0, slots := 0, locals := 42 } : Room) (XPc g w [.ref (gad g 100), .int (nI f), .int (nI t)]) (XQi g (fun r w' => w' = w ∧ r = (nI (wtN on bk wh f t)))) 0 0 (gA g) := by
  refine xmet (cc := cX5_weight) (maxL := 3) (ret := (some .int)) (by decide) rfl hI (Nat.le_of_ble_eq_true rfl) ?_
  intro pG eG sG mG belowG methG cG ls C hr hlk hK hW hl
  have hl : lv_has ls 3 [(0, .ref (gad g 100)), (1, .int (nI f)), (2, .int (nI t))] := hl
  have hinX5 : ∀ x ∈ u_ws RX5 TX5 7, x ∈ wsX5_weight := by decide +kernel
  have hobf := hob f hf
  have hif : inR (nI f) (nI 0) (nI 6) := (inR_nn (by omega) (by decide) (by decide)).mpr ⟨by omega, by omega⟩
  have hit : inR (nI t) (nI 0) (nI 6) := (inR_nn (by omega) (by decide) (by decide)).mpr ⟨by omega, by omega⟩
  refine lv_iload_n C.1 C.2.1 dX5_weight_0 rfl (lv_at hl 1 rfl) ?_
  refine xcN_i (n := 1) (As := [.int (nI f)]) C hK hW (c_X6_isField l g w (nI f) hI hN) gX5_weight_X6_isField_n49 rfl ⟨rfl, rfl⟩ hK.2.2.2.2.1 (List.mem_of_getElem? (i := 5) rfl) (List.mem_of_getElem? (i := 4) rfl) (by decide +kernel) ⟨Nat.le_of_ble_eq_true rfl, Nat.le_of_ble_eq_true rfl⟩ ⟨Nat.zero_le _, Nat.zero_le _⟩ rfl hl rfl (Nat.le_of_ble_eq_true rfl) dX5_weight_1 (fun r3 w1 H locs q2 hW => ?_)
  obtain ⟨qw4, rfl⟩ := q2
  rw [qw4] at hW
  refine xBeq (tgt := 14) C dX5_weight_4 (by decide) (fun c4 => absurd c4 (by exact fun _ => c4 hif)) (fun c4 => ?_)
  refine lv_iload_n C.1 C.2.1 dX5_weight_7 rfl (lv_at hl 2 rfl) ?_
  refine xcN_i (n := 1) (As := [.int (nI t)]) C hK hW (c_X6_isField l g w (nI t) hI hN) gX5_weight_X6_isField_n49 rfl ⟨rfl, rfl⟩ hK.2.2.2.2.1 (List.mem_of_getElem? (i := 5) rfl) (List.mem_of_getElem? (i := 4) rfl) (by decide +kernel) ⟨Nat.le_of_ble_eq_true rfl, Nat.le_of_ble_eq_true rfl⟩ ⟨Nat.zero_le _, Nat.zero_le _⟩ rfl hl rfl (Nat.le_of_ble_eq_true rfl) dX5_weight_8 (fun r7 w5 H locs q6 hW => ?_)
  obtain ⟨qw8, rfl⟩ := q6
  rw [qw8] at hW
  refine xBne (tgt := 16) C dX5_weight_11 (by decide) (fun c11 => ?_) (fun c11 => absurd c11 (by exact fun _ => c11 hit))
  refine lv_iload_n C.1 C.2.1 dX5_weight_16 rfl (lv_at hl 2 rfl) ?_
  refine lv_iload_n C.1 C.2.1 dX5_weight_17 rfl (lv_at hl 1 rfl) ?_
  refine xne (tgt := 40) C (by omega) (by omega) dX5_weight_18 (by decide) (fun c18 => ?_) (fun c18 => ?_)
  · refine lv_iload_n C.1 C.2.1 dX5_weight_40 rfl (lv_at hl 2 rfl) ?_
    refine lv_iload_n C.1 C.2.1 dX5_weight_41 rfl (lv_at hl 1 rfl) ?_
    refine lv_iconst (v := (nI 1)) C.1 C.2.1 dX5_weight_42 (by decide) ?_
    refine xadd C dX5_weight_43 ?_
    refine xne (tgt := 54) C (by omega) (by omega) dX5_weight_44 (by decide) (fun c44 => ?_) (fun c44 => ?_)
    · refine lv_iload_n C.1 C.2.1 dX5_weight_54 rfl (lv_at hl 2 rfl) ?_
      refine lv_iload_n C.1 C.2.1 dX5_weight_55 rfl (lv_at hl 1 rfl) ?_
      refine lv_iconst (v := (nI 1)) C.1 C.2.1 dX5_weight_56 (by decide) ?_
      refine lv_isub C.1 C.2.1 dX5_weight_57 ?_
      refine lv_icmp_ne (tgt := 70) C.1 C.2.1 dX5_weight_58 (by decide) (fun c58 => ?_) (fun c58 => ?_)
      · refine lv_iconst (v := (nI 0)) C.1 C.2.1 dX5_weight_70 (by decide) ?_
        exact xret_i C hr hlk hW ⟨rfl, by rw [wtN, if_neg c18, if_neg c44, if_neg (fun z => c58 ((pred_eq (by omega) (by omega)).mpr z))]⟩ dX5_weight_71
      · have c58b := (pred_eq (t := t) (f := f) (by omega) (by omega)).mp c58
        refine lv_aload_n C.1 C.2.1 dX5_weight_61 rfl (lv_at hl 0 rfl) ?_
        refine xget C hK hW hinX5 rfl (by omega) pr0 1 (by decide) (List.mem_of_getElem? (i := 3) rfl) rfl dX5_weight_62 ?_
        refine lv_iload_n C.1 C.2.1 dX5_weight_65 rfl (lv_at hl 1 rfl) ?_
        refine xildK0 C hK hW (by omega) pr2 (by omega) (by decide) dX5_weight_66 ?_
        refine lv_goto (tgt := 71) C.1 C.2.1 dX5_weight_67 (by decide) ?_
        exact xret_i C hr hlk hW ⟨rfl, by rw [wtN, if_neg c18, if_neg c44, if_pos ((pred_eq (by omega) (by omega)).mp c58)]⟩ dX5_weight_71
    · refine lv_aload_n C.1 C.2.1 dX5_weight_47 rfl (lv_at hl 0 rfl) ?_
      refine xget C hK hW hinX5 rfl (by omega) pr0 0 (by decide) (List.mem_of_getElem? (i := 2) rfl) rfl dX5_weight_48 ?_
      refine lv_iload_n C.1 C.2.1 dX5_weight_51 rfl (lv_at hl 1 rfl) ?_
      refine xildK0 C hK hW (by omega) pr1 (by omega) (by decide) dX5_weight_52 ?_
      exact xret_i C hr hlk hW ⟨rfl, by rw [wtN, if_neg c18, if_pos c44]⟩ dX5_weight_53
  · refine lv_aload_n C.1 C.2.1 dX5_weight_21 rfl (lv_at hl 0 rfl) ?_
    refine xget C hK hW hinX5 rfl (by omega) pr0 2 (by decide) (List.mem_of_getElem? (i := 1) rfl) rfl dX5_weight_22 ?_
    refine lv_aload_n C.1 C.2.1 dX5_weight_25 rfl (lv_at hl 0 rfl) ?_
    refine xget C hK hW hinX5 rfl (by omega) pr0 0 (by decide) (List.mem_of_getElem? (i := 2) rfl) rfl dX5_weight_26 ?_
    refine lv_iload_n C.1 C.2.1 dX5_weight_29 rfl (lv_at hl 1 rfl) ?_
    refine xildK0 C hK hW (by omega) pr1 (by omega) (by decide) dX5_weight_30 ?_
    refine xsub C (by omega) dX5_weight_31 ?_
    refine lv_aload_n C.1 C.2.1 dX5_weight_32 rfl (lv_at hl 0 rfl) ?_
    refine xget C hK hW hinX5 rfl (by omega) pr0 1 (by decide) (List.mem_of_getElem? (i := 3) rfl) rfl dX5_weight_33 ?_
    refine lv_iload_n C.1 C.2.1 dX5_weight_36 rfl (lv_at hl 1 rfl) ?_
    refine xildK0 C hK hW (by omega) pr2 (by omega) (by decide) dX5_weight_37 ?_
    refine xsub C (by omega) dX5_weight_38 ?_
    exact xret_i C hr hlk hW ⟨rfl, by rw [wtN, if_pos c18]⟩ dX5_weight_39

set_option maxHeartbeats 4000000 in
set_option maxRecDepth 100000 in
theorem c_X5_weight0 (l : Launch) (g : GE) (w : Nat → va_E) (x y : Int32) (wh al : Nat) (on bk : Nat → Nat) (hI : AdInj g) (hN : gN g = 130) (hxy : ¬ (inR x (nI 0) (nI 6) ∧ inR y (nI 0) (nI 6))) (pr0 : w 100 = .inr (5, [.ref (gad g 101), .ref (gad g 102), .int (nI wh), .ref (gad g 103), .ref (gad g 104), .long (lN al), .ref (gad g 105)])) (pr1 : w 101 = .inl (gI g, 7, .inl (cK 7 0 on))) (pr2 : w 102 = .inl (gI g, 7, .inl (cK 7 0 bk))) : Met l yX5_weight wsX5_weight ({ frames := 2, cells := 0, slots := 0, locals := 42 } : Room) (XPc g w [.ref (gad g 100), .int x, .int y]) (XQi g (fun r w' => w' = w ∧ r = (nI 0))) 0 0 (gA g) := by
  refine xmet (cc := cX5_weight) (maxL := 3) (ret := (some .int)) (by decide) rfl hI (Nat.le_of_ble_eq_true rfl) ?_
  intro pG eG sG mG belowG methG cG ls C hr hlk hK hW hl
  have hl : lv_has ls 3 [(0, .ref (gad g 100)), (1, .int x), (2, .int y)] := hl
  refine lv_iload_n C.1 C.2.1 dX5_weight_0 rfl (lv_at hl 1 rfl) ?_
  refine xcN_i (n := 1) (As := [.int x]) C hK hW (c_X6_isField l g w x hI hN) gX5_weight_X6_isField_n49 rfl ⟨rfl, rfl⟩ hK.2.2.2.2.1 (List.mem_of_getElem? (i := 5) rfl) (List.mem_of_getElem? (i := 4) rfl) (by decide +kernel) ⟨Nat.le_of_ble_eq_true rfl, Nat.le_of_ble_eq_true rfl⟩ ⟨Nat.zero_le _, Nat.zero_le _⟩ rfl hl rfl (Nat.le_of_ble_eq_true rfl) dX5_weight_1 (fun r3 w1 H locs q2 hW => ?_)
  obtain ⟨qw4, rfl⟩ := q2
  rw [qw4] at hW
  refine xBeq (tgt := 14) C dX5_weight_4 (by decide) (fun c4 => ?_) (fun c4 => ?_)
  · refine lv_iconst (v := (nI 0)) C.1 C.2.1 dX5_weight_14 (by decide) ?_
    exact xret_i C hr hlk hW ⟨rfl, rfl⟩ dX5_weight_15
  · refine lv_iload_n C.1 C.2.1 dX5_weight_7 rfl (lv_at hl 2 rfl) ?_
    refine xcN_i (n := 1) (As := [.int y]) C hK hW (c_X6_isField l g w y hI hN) gX5_weight_X6_isField_n49 rfl ⟨rfl, rfl⟩ hK.2.2.2.2.1 (List.mem_of_getElem? (i := 5) rfl) (List.mem_of_getElem? (i := 4) rfl) (by decide +kernel) ⟨Nat.le_of_ble_eq_true rfl, Nat.le_of_ble_eq_true rfl⟩ ⟨Nat.zero_le _, Nat.zero_le _⟩ rfl hl rfl (Nat.le_of_ble_eq_true rfl) dX5_weight_8 (fun r7 w5 H locs q6 hW => ?_)
    obtain ⟨qw8, rfl⟩ := q6
    rw [qw8] at hW
    refine xBne (tgt := 16) C dX5_weight_11 (by decide) (fun c11 => absurd c11 (by exact fun _ => hxy ⟨c4, c11⟩)) (fun c11 => ?_)
    refine lv_iconst (v := (nI 0)) C.1 C.2.1 dX5_weight_14 (by decide) ?_
    exact xret_i C hr hlk hW ⟨rfl, rfl⟩ dX5_weight_15

set_option maxHeartbeats 4000000 in
set_option maxRecDepth 100000 in
theorem c_X5_spreadOneDay (l : Launch) (g : GE) (w : Nat → va_E) (wh al : Nat) (on bk O A : Nat → Nat) (hI : AdInj g) (hN : gN g = 130) (hwh : wh ≤ 100) (hob : ∀ f, f < 7 → on f + bk f ≤ wh) (pr0 : w 100 = .inr (5, [.ref (gad g 101), .ref (gad g 102), .int (nI wh), .ref (gad g 103), .ref (gad g 104), .long (lN al), .ref (gad g 105)])) (pr1 : w 101 = .inl (gI g, 7, .inl (cK 7 0 on))) (pr2 : w 102 = .inl (gI g, 7, .inl (cK 7 0 bk))) (pr3 : w 103 = .inl (gJ g, 7, .inr (.inl (cL 7 0 O)))) (pr4 : w 104 = .inl (gJ g, 7, .inr (.inl (cL 7 0 A)))) : Met l yX5_spreadOneDay wsX5_spreadOneDay ({ frames := 3, cells := 0, slots := 0, locals := 64 } : Room) (XPc g w [.ref (gad g 100)]) (XQv g (fun w' => w' 103 = .inl (gJ g, 7, .inr (.inl (cL 7 0 (stepO on bk wh O)))) ∧ w' 104 = .inl (gJ g, 7, .inr (.inl (cL 7 0 (stepO on bk wh O)))) ∧ (∀ j : Nat, ¬ (103 ≤ j ∧ j < 105) → w' j = w j))) 0 0 (gA g) := by
  refine xmet (cc := cX5_spreadOneDay) (maxL := 2) (ret := none) (by decide) rfl hI (Nat.le_of_ble_eq_true rfl) ?_
  intro pG eG sG mG belowG methG cG ls C hr hlk hK hW hl
  have hl : lv_has ls 2 [(0, .ref (gad g 100))] := hl
  have hinX5 : ∀ x ∈ u_ws RX5 TX5 7, x ∈ wsX5_spreadOneDay := by decide +kernel
  refine lv_iconst (v := (nI 0)) C.1 C.2.1 dX5_spreadOneDay_0 (by decide) ?_
  refine lv_istore_n (lv' := [(1, .int (nI 0)), (0, .ref (gad g 100))]) C.1 C.2.1 dX5_spreadOneDay_1 rfl hl (by decide) rfl (fun ls hl => ?_)
  have loop2 : ∀ (kG : Nat) (i : Nat) (v2 : Nat → va_E) (H : Heap) (locs : List Loc) (ls : Array Slot), kG = 7 - i → (v2 100 = .inr (5, [.ref (gad g 101), .ref (gad g 102), .int (nI wh), .ref (gad g 103), .ref (gad g 104), .long (lN al), .ref (gad g 105)])) → (v2 101 = .inl (gI g, 7, .inl (cK 7 0 on))) → (v2 102 = .inl (gI g, 7, .inl (cK 7 0 bk))) → (v2 103 = .inl (gJ g, 7, .inr (.inl (cL 7 0 O)))) → (v2 104 = .inl (gJ g, 7, .inr (.inl (cL 7 0 (mixF i (stepO on bk wh O) A))))) → (∀ j : Nat, ¬ (103 ≤ j ∧ j < 105) → v2 j = w j) → (i ≤ 7) → XW g v2 (gA g) sG.heap H locs → lv_has ls 2 [(1, .int (nI i)), (0, .ref (gad g 100))] → W pG l eG ({ frames := 3, cells := 0, slots := 0, locals := 64 } : Room) sG mG ([.ref (gad g 100)] : List Value).toArray belowG methG cG H locs 0 0 (MQ belowG (XQv g (fun w' => w' 103 = .inl (gJ g, 7, .inr (.inl (cL 7 0 (stepO on bk wh O)))) ∧ w' 104 = .inl (gJ g, 7, .inr (.inl (cL 7 0 (stepO on bk wh O)))) ∧ (∀ j : Nat, ¬ (103 ≤ j ∧ j < 105) → w' j = w j))) ([.ref (gad g 100)] : List Value).toArray sG 0 0 (gA g)) (F0 mG 2 ls []) := by
    intro k2
    induction k2 using Nat.strongRecOn with
    | _ k2 ih2 =>
    intro i v2 H locs ls hk2 fa2_0 fa2_1 fa2_2 fa2_3 fa2_4 hfr2 hi hW hl
    refine lv_iload_n C.1 C.2.1 dX5_spreadOneDay_2 rfl (lv_at hl 0 rfl) ?_
    refine lv_bipush (v := (nI 7)) C.1 C.2.1 dX5_spreadOneDay_3 (by decide) ?_
    refine xge (tgt := 98) C (by omega) (by omega) dX5_spreadOneDay_5 (by decide) (fun c5 => ?_) (fun c5 => ?_)
    · refine lv_aload_n C.1 C.2.1 dX5_spreadOneDay_98 rfl (lv_at hl 1 rfl) ?_
      refine xget C hK hW hinX5 rfl (by omega) fa2_0 4 (by decide) (List.mem_of_getElem? (i := 1) rfl) rfl dX5_spreadOneDay_99 ?_
      refine lv_iconst (v := (nI 0)) C.1 C.2.1 dX5_spreadOneDay_102 (by decide) ?_
      refine lv_aload_n C.1 C.2.1 dX5_spreadOneDay_103 rfl (lv_at hl 1 rfl) ?_
      refine xget C hK hW hinX5 rfl (by omega) fa2_0 3 (by decide) (List.mem_of_getElem? (i := 2) rfl) rfl dX5_spreadOneDay_104 ?_
      refine lv_iconst (v := (nI 0)) C.1 C.2.1 dX5_spreadOneDay_107 (by decide) ?_
      refine lv_bipush (v := (nI 7)) C.1 C.2.1 dX5_spreadOneDay_108 (by decide) ?_
      refine xcpyl C hK hW hl (by omega) fa2_4 (by omega) fa2_3 (by omega) (by omega) (by decide) (by decide) (List.mem_of_getElem? (i := 5) rfl) (List.mem_of_getElem? (i := 6) rfl) (List.mem_of_getElem? (i := 7) rfl) (List.mem_of_getElem? (i := 8) rfl) (Nat.le_of_ble_eq_true rfl) (Nat.le_of_ble_eq_true rfl) dX5_spreadOneDay_110 (fun w1 H locs e2 f3 hW => ?_)
      rw [cL_cpyF] at e2
      have h4 : w1 104 = .inl (gJ g, 7, .inr (.inl (cL 7 0 (mixF i (stepO on bk wh O) A)))) := ((f3 104 (by omega)).trans fa2_4)
      exact xret_v C hr hlk hW ⟨(by first | exact e2 | (rw [mixF_0]; exact e2) | (rw [mixF_up]; exact e2) | (refine (e2).trans ?_; rw [cK_mixE (by omega)]; done) | (refine (e2).trans ?_; rw [cL_mixE (by omega)]; done) | (refine (e2).trans ?_; rw [cL_mixE (by omega)]; rfl)), (by first | exact h4 | (rw [mixF_0]; exact h4) | (rw [mixF_up]; exact h4) | (refine (h4).trans ?_; rw [cK_mixE (by omega)]; done) | (refine (h4).trans ?_; rw [cL_mixE (by omega)]; done) | (refine (h4).trans ?_; rw [cL_mixE (by omega)]; rfl)), (fun j z0 => ((f3 j (by omega)).trans (hfr2 j z0)))⟩ dX5_spreadOneDay_113
    · have hob0 := hob i (by omega)
      refine lv_aload_n C.1 C.2.1 dX5_spreadOneDay_8 rfl (lv_at hl 1 rfl) ?_
      refine xget C hK hW hinX5 rfl (by omega) fa2_0 4 (by decide) (List.mem_of_getElem? (i := 1) rfl) rfl dX5_spreadOneDay_9 ?_
      refine lv_iload_n C.1 C.2.1 dX5_spreadOneDay_12 rfl (lv_at hl 0 rfl) ?_
      refine lv_aload_n C.1 C.2.1 dX5_spreadOneDay_13 rfl (lv_at hl 1 rfl) ?_
      refine xget C hK hW hinX5 rfl (by omega) fa2_0 3 (by decide) (List.mem_of_getElem? (i := 2) rfl) rfl dX5_spreadOneDay_14 ?_
      refine lv_iload_n C.1 C.2.1 dX5_spreadOneDay_17 rfl (lv_at hl 0 rfl) ?_
      refine xlldK0 C hK hW (by omega) fa2_3 (by omega) (by decide) dX5_spreadOneDay_18 ?_
      refine lv_aload_n C.1 C.2.1 dX5_spreadOneDay_19 rfl (lv_at hl 1 rfl) ?_
      refine lv_iload_n C.1 C.2.1 dX5_spreadOneDay_20 rfl (lv_at hl 0 rfl) ?_
      refine lv_iload_n C.1 C.2.1 dX5_spreadOneDay_21 rfl (lv_at hl 0 rfl) ?_
      refine xcV_i (n := 2) (As := [.int (nI i), .int (nI i)]) C hK hW (c_X5_weight l g v2 i i wh al on bk hI hN (by omega) (by omega) (by omega) hob fa2_0 fa2_1 fa2_2) gX5_spreadOneDay_X5_weight rfl ⟨rfl, rfl⟩ (by decide +kernel) ⟨Nat.le_of_ble_eq_true rfl, Nat.le_of_ble_eq_true rfl⟩ ⟨Nat.zero_le _, Nat.zero_le _⟩ rfl (by omega) fa2_0 rfl hl rfl (Nat.le_of_ble_eq_true rfl) dX5_spreadOneDay_22 (fun r7 w5 H locs q6 hW => ?_)
      obtain ⟨qw8, rfl⟩ := q6
      rw [qw8] at hW
      refine xtopN (b := wh - on i - bk i) (if_pos rfl) ?_
      refine xi2l C (by omega) dX5_spreadOneDay_25 ?_
      refine xlmul C dX5_spreadOneDay_26 ?_
      refine xlstK0 (v := (O i) * (wh - on i - bk i)) C hK hW (by omega) fa2_4 (by omega) (by decide) dX5_spreadOneDay_27 (fun w9 H locs e10 f11 hW => ?_)
      refine lv_iload_n C.1 C.2.1 dX5_spreadOneDay_28 rfl (lv_at hl 0 rfl) ?_
      refine x0le (tgt := 59) C (by omega) dX5_spreadOneDay_29 (by decide) (fun c29 => ?_) (fun c29 => ?_)
      · refine lv_iload_n C.1 C.2.1 dX5_spreadOneDay_59 rfl (lv_at hl 0 rfl) ?_
        refine lv_bipush (v := (nI 6)) C.1 C.2.1 dX5_spreadOneDay_60 (by decide) ?_
        refine xge (tgt := 92) C (by omega) (by omega) dX5_spreadOneDay_62 (by decide) (fun c62 => absurd c62 (by omega)) (fun c62 => ?_)
        refine lv_aload_n C.1 C.2.1 dX5_spreadOneDay_65 rfl (lv_at hl 1 rfl) ?_
        have h12 : w9 100 = .inr (5, [.ref (gad g 101), .ref (gad g 102), .int (nI wh), .ref (gad g 103), .ref (gad g 104), .long (lN al), .ref (gad g 105)]) := ((f11 100 (by omega)).trans fa2_0)
        refine xget C hK hW hinX5 rfl (by omega) h12 4 (by decide) (List.mem_of_getElem? (i := 1) rfl) rfl dX5_spreadOneDay_66 ?_
        refine lv_iload_n C.1 C.2.1 dX5_spreadOneDay_69 rfl (lv_at hl 0 rfl) ?_
        refine lv_dup2_11 C.1 C.2.1 dX5_spreadOneDay_70 rfl rfl ?_
        refine xlldK0 C hK hW (by omega) e10 (by omega) (by decide) dX5_spreadOneDay_71 ?_
        refine xtopL (b := (O i) * (wh - on i - bk i)) (va_up_self _ _ _) ?_
        refine lv_aload_n C.1 C.2.1 dX5_spreadOneDay_72 rfl (lv_at hl 1 rfl) ?_
        refine xget C hK hW hinX5 rfl (by omega) h12 3 (by decide) (List.mem_of_getElem? (i := 2) rfl) rfl dX5_spreadOneDay_73 ?_
        refine lv_iload_n C.1 C.2.1 dX5_spreadOneDay_76 rfl (lv_at hl 0 rfl) ?_
        refine lv_iconst (v := (nI 1)) C.1 C.2.1 dX5_spreadOneDay_77 (by decide) ?_
        refine xadd C dX5_spreadOneDay_78 ?_
        have h13 : w9 103 = .inl (gJ g, 7, .inr (.inl (cL 7 0 O))) := ((f11 103 (by omega)).trans fa2_3)
        refine xlldK0 C hK hW (by omega) h13 (by omega) (by decide) dX5_spreadOneDay_79 ?_
        refine lv_aload_n C.1 C.2.1 dX5_spreadOneDay_80 rfl (lv_at hl 1 rfl) ?_
        refine xget C hK hW hinX5 rfl (by omega) h12 1 (by decide) (List.mem_of_getElem? (i := 4) rfl) rfl dX5_spreadOneDay_81 ?_
        refine lv_iload_n C.1 C.2.1 dX5_spreadOneDay_84 rfl (lv_at hl 0 rfl) ?_
        refine lv_iconst (v := (nI 1)) C.1 C.2.1 dX5_spreadOneDay_85 (by decide) ?_
        refine xadd C dX5_spreadOneDay_86 ?_
        have h14 : w9 102 = .inl (gI g, 7, .inl (cK 7 0 bk)) := ((f11 102 (by omega)).trans fa2_2)
        refine xildK0 C hK hW (by omega) h14 (by omega) (by decide) dX5_spreadOneDay_87 ?_
        have hob2 := hob (i + 1) (by omega)
        refine xi2l C (by omega) dX5_spreadOneDay_88 ?_
        refine xlmul C dX5_spreadOneDay_89 ?_
        refine xladd C dX5_spreadOneDay_90 ?_
        refine xlstK0 (v := ((O i) * (wh - on i - bk i)) + ((O (i + 1)) * (bk (i + 1)))) C hK hW (by omega) e10 (by omega) (by decide) dX5_spreadOneDay_91 (fun w15 H locs e16 f17 hW => ?_)
        refine lv_iinc (v := nI (i + 1)) (lv' := [(1, .int (nI (i + 1))), (0, .ref (gad g 100))]) C.1 C.2.1 dX5_spreadOneDay_92 hl (k := 0) rfl (nI_add _ 1) (by decide) rfl (fun ls hl => ?_)
        refine lv_goto (tgt := 2) C.1 C.2.1 dX5_spreadOneDay_95 (by decide) ?_
        have h18 : w15 100 = .inr (5, [.ref (gad g 101), .ref (gad g 102), .int (nI wh), .ref (gad g 103), .ref (gad g 104), .long (lN al), .ref (gad g 105)]) := ((f17 100 (by omega)).trans h12)
        have h19 : w15 101 = .inl (gI g, 7, .inl (cK 7 0 on)) := ((f17 101 (by omega)).trans ((f11 101 (by omega)).trans fa2_1))
        have h20 : w15 102 = .inl (gI g, 7, .inl (cK 7 0 bk)) := ((f17 102 (by omega)).trans h14)
        have h21 : w15 103 = .inl (gJ g, 7, .inr (.inl (cL 7 0 O))) := ((f17 103 (by omega)).trans h13)
        exact ih2 (7 - (i + 1)) (by omega) (i + 1) w15 _ _ _ rfl h18 h19 h20 h21 ((e16).trans (by rw [bx_uu, mixF_up, stepO_a c29 (by omega)])) (fun j z0 => ((f17 j (by omega)).trans ((f11 j (by omega)).trans (hfr2 j z0)))) (by omega) hW hl
      · refine lv_aload_n C.1 C.2.1 dX5_spreadOneDay_32 rfl (lv_at hl 1 rfl) ?_
        have h22 : w9 100 = .inr (5, [.ref (gad g 101), .ref (gad g 102), .int (nI wh), .ref (gad g 103), .ref (gad g 104), .long (lN al), .ref (gad g 105)]) := ((f11 100 (by omega)).trans fa2_0)
        refine xget C hK hW hinX5 rfl (by omega) h22 4 (by decide) (List.mem_of_getElem? (i := 1) rfl) rfl dX5_spreadOneDay_33 ?_
        refine lv_iload_n C.1 C.2.1 dX5_spreadOneDay_36 rfl (lv_at hl 0 rfl) ?_
        refine lv_dup2_11 C.1 C.2.1 dX5_spreadOneDay_37 rfl rfl ?_
        refine xlldK0 C hK hW (by omega) e10 (by omega) (by decide) dX5_spreadOneDay_38 ?_
        refine xtopL (b := (O i) * (wh - on i - bk i)) (va_up_self _ _ _) ?_
        refine lv_aload_n C.1 C.2.1 dX5_spreadOneDay_39 rfl (lv_at hl 1 rfl) ?_
        refine xget C hK hW hinX5 rfl (by omega) h22 3 (by decide) (List.mem_of_getElem? (i := 2) rfl) rfl dX5_spreadOneDay_40 ?_
        refine lv_iload_n C.1 C.2.1 dX5_spreadOneDay_43 rfl (lv_at hl 0 rfl) ?_
        refine lv_iconst (v := (nI 1)) C.1 C.2.1 dX5_spreadOneDay_44 (by decide) ?_
        refine xsub C (by omega) dX5_spreadOneDay_45 ?_
        have h23 : w9 103 = .inl (gJ g, 7, .inr (.inl (cL 7 0 O))) := ((f11 103 (by omega)).trans fa2_3)
        refine xlldK0 C hK hW (by omega) h23 (by omega) (by decide) dX5_spreadOneDay_46 ?_
        refine lv_aload_n C.1 C.2.1 dX5_spreadOneDay_47 rfl (lv_at hl 1 rfl) ?_
        refine xget C hK hW hinX5 rfl (by omega) h22 0 (by decide) (List.mem_of_getElem? (i := 3) rfl) rfl dX5_spreadOneDay_48 ?_
        refine lv_iload_n C.1 C.2.1 dX5_spreadOneDay_51 rfl (lv_at hl 0 rfl) ?_
        refine lv_iconst (v := (nI 1)) C.1 C.2.1 dX5_spreadOneDay_52 (by decide) ?_
        refine xsub C (by omega) dX5_spreadOneDay_53 ?_
        have h24 : w9 101 = .inl (gI g, 7, .inl (cK 7 0 on)) := ((f11 101 (by omega)).trans fa2_1)
        refine xildK0 C hK hW (by omega) h24 (by omega) (by decide) dX5_spreadOneDay_54 ?_
        have hob1 := hob (i - 1) (by omega)
        refine xi2l C (by omega) dX5_spreadOneDay_55 ?_
        refine xlmul C dX5_spreadOneDay_56 ?_
        refine xladd C dX5_spreadOneDay_57 ?_
        refine xlstK0 (v := ((O i) * (wh - on i - bk i)) + ((O (i - 1)) * (on (i - 1)))) C hK hW (by omega) e10 (by omega) (by decide) dX5_spreadOneDay_58 (fun w25 H locs e26 f27 hW => ?_)
        refine lv_iload_n C.1 C.2.1 dX5_spreadOneDay_59 rfl (lv_at hl 0 rfl) ?_
        refine lv_bipush (v := (nI 6)) C.1 C.2.1 dX5_spreadOneDay_60 (by decide) ?_
        refine xge (tgt := 92) C (by omega) (by omega) dX5_spreadOneDay_62 (by decide) (fun c62 => ?_) (fun c62 => ?_)
        · refine lv_iinc (v := nI (i + 1)) (lv' := [(1, .int (nI (i + 1))), (0, .ref (gad g 100))]) C.1 C.2.1 dX5_spreadOneDay_92 hl (k := 0) rfl (nI_add _ 1) (by decide) rfl (fun ls hl => ?_)
          refine lv_goto (tgt := 2) C.1 C.2.1 dX5_spreadOneDay_95 (by decide) ?_
          have h28 : w25 100 = .inr (5, [.ref (gad g 101), .ref (gad g 102), .int (nI wh), .ref (gad g 103), .ref (gad g 104), .long (lN al), .ref (gad g 105)]) := ((f27 100 (by omega)).trans h22)
          have h29 : w25 101 = .inl (gI g, 7, .inl (cK 7 0 on)) := ((f27 101 (by omega)).trans h24)
          have h30 : w25 102 = .inl (gI g, 7, .inl (cK 7 0 bk)) := ((f27 102 (by omega)).trans ((f11 102 (by omega)).trans fa2_2))
          have h31 : w25 103 = .inl (gJ g, 7, .inr (.inl (cL 7 0 O))) := ((f27 103 (by omega)).trans h23)
          exact ih2 (7 - (i + 1)) (by omega) (i + 1) w25 _ _ _ rfl h28 h29 h30 h31 ((e26).trans (by rw [bx_uu, mixF_up, stepO_c c29 (by omega)])) (fun j z0 => ((f27 j (by omega)).trans ((f11 j (by omega)).trans (hfr2 j z0)))) (by omega) hW hl
        · refine lv_aload_n C.1 C.2.1 dX5_spreadOneDay_65 rfl (lv_at hl 1 rfl) ?_
          have h32 : w25 100 = .inr (5, [.ref (gad g 101), .ref (gad g 102), .int (nI wh), .ref (gad g 103), .ref (gad g 104), .long (lN al), .ref (gad g 105)]) := ((f27 100 (by omega)).trans h22)
          refine xget C hK hW hinX5 rfl (by omega) h32 4 (by decide) (List.mem_of_getElem? (i := 1) rfl) rfl dX5_spreadOneDay_66 ?_
          refine lv_iload_n C.1 C.2.1 dX5_spreadOneDay_69 rfl (lv_at hl 0 rfl) ?_
          refine lv_dup2_11 C.1 C.2.1 dX5_spreadOneDay_70 rfl rfl ?_
          refine xlldK0 C hK hW (by omega) e26 (by omega) (by decide) dX5_spreadOneDay_71 ?_
          refine xtopL (b := ((O i) * (wh - on i - bk i)) + ((O (i - 1)) * (on (i - 1)))) (va_up_self _ _ _) ?_
          refine lv_aload_n C.1 C.2.1 dX5_spreadOneDay_72 rfl (lv_at hl 1 rfl) ?_
          refine xget C hK hW hinX5 rfl (by omega) h32 3 (by decide) (List.mem_of_getElem? (i := 2) rfl) rfl dX5_spreadOneDay_73 ?_
          refine lv_iload_n C.1 C.2.1 dX5_spreadOneDay_76 rfl (lv_at hl 0 rfl) ?_
          refine lv_iconst (v := (nI 1)) C.1 C.2.1 dX5_spreadOneDay_77 (by decide) ?_
          refine xadd C dX5_spreadOneDay_78 ?_
          have h33 : w25 103 = .inl (gJ g, 7, .inr (.inl (cL 7 0 O))) := ((f27 103 (by omega)).trans h23)
          refine xlldK0 C hK hW (by omega) h33 (by omega) (by decide) dX5_spreadOneDay_79 ?_
          refine lv_aload_n C.1 C.2.1 dX5_spreadOneDay_80 rfl (lv_at hl 1 rfl) ?_
          refine xget C hK hW hinX5 rfl (by omega) h32 1 (by decide) (List.mem_of_getElem? (i := 4) rfl) rfl dX5_spreadOneDay_81 ?_
          refine lv_iload_n C.1 C.2.1 dX5_spreadOneDay_84 rfl (lv_at hl 0 rfl) ?_
          refine lv_iconst (v := (nI 1)) C.1 C.2.1 dX5_spreadOneDay_85 (by decide) ?_
          refine xadd C dX5_spreadOneDay_86 ?_
          have h34 : w25 102 = .inl (gI g, 7, .inl (cK 7 0 bk)) := ((f27 102 (by omega)).trans ((f11 102 (by omega)).trans fa2_2))
          refine xildK0 C hK hW (by omega) h34 (by omega) (by decide) dX5_spreadOneDay_87 ?_
          have hob2 := hob (i + 1) (by omega)
          refine xi2l C (by omega) dX5_spreadOneDay_88 ?_
          refine xlmul C dX5_spreadOneDay_89 ?_
          refine xladd C dX5_spreadOneDay_90 ?_
          refine xlstK0 (v := (((O i) * (wh - on i - bk i)) + ((O (i - 1)) * (on (i - 1)))) + ((O (i + 1)) * (bk (i + 1)))) C hK hW (by omega) e26 (by omega) (by decide) dX5_spreadOneDay_91 (fun w35 H locs e36 f37 hW => ?_)
          refine lv_iinc (v := nI (i + 1)) (lv' := [(1, .int (nI (i + 1))), (0, .ref (gad g 100))]) C.1 C.2.1 dX5_spreadOneDay_92 hl (k := 0) rfl (nI_add _ 1) (by decide) rfl (fun ls hl => ?_)
          refine lv_goto (tgt := 2) C.1 C.2.1 dX5_spreadOneDay_95 (by decide) ?_
          have h38 : w35 100 = .inr (5, [.ref (gad g 101), .ref (gad g 102), .int (nI wh), .ref (gad g 103), .ref (gad g 104), .long (lN al), .ref (gad g 105)]) := ((f37 100 (by omega)).trans h32)
          have h39 : w35 101 = .inl (gI g, 7, .inl (cK 7 0 on)) := ((f37 101 (by omega)).trans ((f27 101 (by omega)).trans h24))
          have h40 : w35 102 = .inl (gI g, 7, .inl (cK 7 0 bk)) := ((f37 102 (by omega)).trans h34)
          have h41 : w35 103 = .inl (gJ g, 7, .inr (.inl (cL 7 0 O))) := ((f37 103 (by omega)).trans h33)
          exact ih2 (7 - (i + 1)) (by omega) (i + 1) w35 _ _ _ rfl h38 h39 h40 h41 ((e36).trans (by rw [bx_uu, bx_uu, mixF_up, stepO_b c29 (by omega)])) (fun j z0 => ((f37 j (by omega)).trans ((f27 j (by omega)).trans ((f11 j (by omega)).trans (hfr2 j z0))))) (by omega) hW hl
  exact loop2 _ 0 w _ _ _ rfl pr0 pr1 pr2 pr3 (by first | exact pr4 | (rw [mixF_0]; exact pr4) | (rw [mixF_up]; exact pr4) | (refine (pr4).trans ?_; rw [cK_mixE (by omega)]; done) | (refine (pr4).trans ?_; rw [cL_mixE (by omega)]; done) | (refine (pr4).trans ?_; rw [cL_mixE (by omega)]; rfl)) (fun j z0 => rfl) (by omega) hW hl

set_option maxHeartbeats 4000000 in
set_option maxRecDepth 100000 in
theorem c_X5_spread (l : Launch) (g : GE) (w : Nat → va_E) (spot n wh al : Nat) (on bk O A : Nat → Nat) (hI : AdInj g) (hN : gN g = 130) (hs : spot < 7) (hn : n ≤ 9) (hwh : wh ≤ 100) (hob : ∀ f, f < 7 → on f + bk f ≤ wh) (pr0 : w 100 = .inr (5, [.ref (gad g 101), .ref (gad g 102), .int (nI wh), .ref (gad g 103), .ref (gad g 104), .long (lN al), .ref (gad g 105)])) (pr1 : w 101 = .inl (gI g, 7, .inl (cK 7 0 on))) (pr2 : w 102 = .inl (gI g, 7, .inl (cK 7 0 bk))) (pr3 : w 103 = .inl (gJ g, 7, .inr (.inl (cL 7 0 O)))) (pr4 : w 104 = .inl (gJ g, 7, .inr (.inl (cL 7 0 A)))) : Met l yX5_spread wsX5_spread ({ frames := 4, cells := 0, slots := 0, locals := 85 } : Room) (XPc g w [.ref (gad g 100), .int (nI spot), .int (nI n)]) (XQv g (fun w' => ∃ (A1 : Nat → Nat), w' 100 = .inr (5, [.ref (gad g 101), .ref (gad g 102), .int (nI wh), .ref (gad g 103), .ref (gad g 104), .long (lN (wh ^ n)), .ref (gad g 105)]) ∧ w' 103 = .inl (gJ g, 7, .inr (.inl (cL 7 0 (spreadO on bk wh spot n)))) ∧ w' 104 = .inl (gJ g, 7, .inr (.inl (cL 7 0 A1))) ∧ (∀ j : Nat, ¬ (100 ≤ j ∧ j < 101) → ¬ (103 ≤ j ∧ j < 105) → w' j = w j))) 0 0 (gA g) := by
  refine xmet (cc := cX5_spread) (maxL := 4) (ret := none) (by decide) rfl hI (Nat.le_of_ble_eq_true rfl) ?_
  intro pG eG sG mG belowG methG cG ls C hr hlk hK hW hl
  have hl : lv_has ls 4 [(0, .ref (gad g 100)), (1, .int (nI spot)), (2, .int (nI n))] := hl
  have hinX5 : ∀ x ∈ u_ws RX5 TX5 7, x ∈ wsX5_spread := by decide +kernel
  refine lv_iconst (v := (nI 0)) C.1 C.2.1 dX5_spread_0 (by decide) ?_
  refine lv_istore_n (lv' := [(3, .int (nI 0)), (0, .ref (gad g 100)), (1, .int (nI spot)), (2, .int (nI n))]) C.1 C.2.1 dX5_spread_1 rfl hl (by decide) rfl (fun ls hl => ?_)
  have loop2 : ∀ (kG : Nat) (i : Nat) (v2 : Nat → va_E) (H : Heap) (locs : List Loc) (ls : Array Slot), kG = 7 - i → (v2 100 = .inr (5, [.ref (gad g 101), .ref (gad g 102), .int (nI wh), .ref (gad g 103), .ref (gad g 104), .long (lN al), .ref (gad g 105)])) → (v2 101 = .inl (gI g, 7, .inl (cK 7 0 on))) → (v2 102 = .inl (gI g, 7, .inl (cK 7 0 bk))) → (v2 103 = .inl (gJ g, 7, .inr (.inl (cL 7 0 (mixF i (startO spot) O))))) → (v2 104 = .inl (gJ g, 7, .inr (.inl (cL 7 0 A)))) → (∀ j : Nat, ¬ (100 ≤ j ∧ j < 101) → ¬ (103 ≤ j ∧ j < 105) → v2 j = w j) → (i ≤ 7) → XW g v2 (gA g) sG.heap H locs → lv_has ls 4 [(3, .int (nI i)), (0, .ref (gad g 100)), (1, .int (nI spot)), (2, .int (nI n))] → W pG l eG ({ frames := 4, cells := 0, slots := 0, locals := 85 } : Room) sG mG ([.ref (gad g 100), .int (nI spot), .int (nI n)] : List Value).toArray belowG methG cG H locs 0 0 (MQ belowG (XQv g (fun w' => ∃ (A1 : Nat → Nat), w' 100 = .inr (5, [.ref (gad g 101), .ref (gad g 102), .int (nI wh), .ref (gad g 103), .ref (gad g 104), .long (lN (wh ^ n)), .ref (gad g 105)]) ∧ w' 103 = .inl (gJ g, 7, .inr (.inl (cL 7 0 (spreadO on bk wh spot n)))) ∧ w' 104 = .inl (gJ g, 7, .inr (.inl (cL 7 0 A1))) ∧ (∀ j : Nat, ¬ (100 ≤ j ∧ j < 101) → ¬ (103 ≤ j ∧ j < 105) → w' j = w j))) ([.ref (gad g 100), .int (nI spot), .int (nI n)] : List Value).toArray sG 0 0 (gA g)) (F0 mG 2 ls []) := by
    intro k2
    induction k2 using Nat.strongRecOn with
    | _ k2 ih2 =>
    intro i v2 H locs ls hk2 fa2_0 fa2_1 fa2_2 fa2_3 fa2_4 hfr2 hi hW hl
    refine lv_iload_n C.1 C.2.1 dX5_spread_2 rfl (lv_at hl 0 rfl) ?_
    refine lv_bipush (v := (nI 7)) C.1 C.2.1 dX5_spread_3 (by decide) ?_
    refine xge (tgt := 30) C (by omega) (by omega) dX5_spread_5 (by decide) (fun c5 => ?_) (fun c5 => ?_)
    · refine lv_iconst (v := (nI 0)) C.1 C.2.1 dX5_spread_30 (by decide) ?_
      refine lv_istore_n (lv' := [(3, .int (nI 0)), (0, .ref (gad g 100)), (1, .int (nI spot)), (2, .int (nI n))]) C.1 C.2.1 dX5_spread_31 rfl hl (by decide) rfl (fun ls hl => ?_)
      have loop32 : ∀ (kG : Nat) (d : Nat) (A1 : Nat → Nat) (v32 : Nat → va_E) (H : Heap) (locs : List Loc) (ls : Array Slot), kG = n - d → (v32 100 = .inr (5, [.ref (gad g 101), .ref (gad g 102), .int (nI wh), .ref (gad g 103), .ref (gad g 104), .long (lN al), .ref (gad g 105)])) → (v32 101 = .inl (gI g, 7, .inl (cK 7 0 on))) → (v32 102 = .inl (gI g, 7, .inl (cK 7 0 bk))) → (v32 103 = .inl (gJ g, 7, .inr (.inl (cL 7 0 (spreadO on bk wh spot d))))) → (v32 104 = .inl (gJ g, 7, .inr (.inl (cL 7 0 A1)))) → (∀ j : Nat, ¬ (100 ≤ j ∧ j < 101) → ¬ (103 ≤ j ∧ j < 105) → v32 j = w j) → (d ≤ n) → XW g v32 (gA g) sG.heap H locs → lv_has ls 4 [(3, .int (nI d)), (0, .ref (gad g 100)), (1, .int (nI spot)), (2, .int (nI n))] → W pG l eG ({ frames := 4, cells := 0, slots := 0, locals := 85 } : Room) sG mG ([.ref (gad g 100), .int (nI spot), .int (nI n)] : List Value).toArray belowG methG cG H locs 0 0 (MQ belowG (XQv g (fun w' => ∃ (A1 : Nat → Nat), w' 100 = .inr (5, [.ref (gad g 101), .ref (gad g 102), .int (nI wh), .ref (gad g 103), .ref (gad g 104), .long (lN (wh ^ n)), .ref (gad g 105)]) ∧ w' 103 = .inl (gJ g, 7, .inr (.inl (cL 7 0 (spreadO on bk wh spot n)))) ∧ w' 104 = .inl (gJ g, 7, .inr (.inl (cL 7 0 A1))) ∧ (∀ j : Nat, ¬ (100 ≤ j ∧ j < 101) → ¬ (103 ≤ j ∧ j < 105) → w' j = w j))) ([.ref (gad g 100), .int (nI spot), .int (nI n)] : List Value).toArray sG 0 0 (gA g)) (F0 mG 32 ls []) := by
        intro k32
        induction k32 using Nat.strongRecOn with
        | _ k32 ih32 =>
        intro d A1 v32 H locs ls hk32 fa32_0 fa32_1 fa32_2 fa32_3 fa32_4 hfr32 hd hW hl
        refine lv_iload_n C.1 C.2.1 dX5_spread_32 rfl (lv_at hl 0 rfl) ?_
        refine lv_iload_n C.1 C.2.1 dX5_spread_33 rfl (lv_at hl 3 rfl) ?_
        refine xge (tgt := 47) C (by omega) (by omega) dX5_spread_34 (by decide) (fun c34 => ?_) (fun c34 => ?_)
        · refine lv_aload_n C.1 C.2.1 dX5_spread_47 rfl (lv_at hl 1 rfl) ?_
          refine lv_aload_n C.1 C.2.1 dX5_spread_48 rfl (lv_at hl 1 rfl) ?_
          refine xget C hK hW hinX5 rfl (by omega) fa32_0 2 (by decide) (List.mem_of_getElem? (i := 2) rfl) rfl dX5_spread_49 ?_
          refine xi2l C (by omega) dX5_spread_52 ?_
          refine lv_iload_n C.1 C.2.1 dX5_spread_53 rfl (lv_at hl 3 rfl) ?_
          refine xcN_l (n := 2) (As := [.long (lN wh), .int (nI n)]) C hK hW (c_X6_power l g v32 wh n hI hN (by omega)) gX5_spread_X6_power_n56 rfl ⟨rfl, rfl⟩ hK.2.2.2.2.2 (List.mem_of_getElem? (i := 21) rfl) (List.mem_of_getElem? (i := 26) rfl) (by decide +kernel) ⟨Nat.le_of_ble_eq_true rfl, Nat.le_of_ble_eq_true rfl⟩ ⟨Nat.zero_le _, Nat.zero_le _⟩ rfl hl rfl (Nat.le_of_ble_eq_true rfl) dX5_spread_54 (fun r3 w1 H locs q2 hW => ?_)
          obtain ⟨qw4, rfl⟩ := q2
          rw [qw4] at hW
          refine xput (v := .long (lN (wh ^ n))) C hK hW hinX5 tyX5_ok nmX5 rfl (by omega) fa32_0 5 (by decide) (List.mem_of_getElem? (i := 3) rfl) rfl rfl rfl (Nat.le_of_ble_eq_true rfl) dX5_spread_57 (fun w5 H locs e6 f7 hW => ?_)
          have h8 : w5 103 = .inl (gJ g, 7, .inr (.inl (cL 7 0 (spreadO on bk wh spot d)))) := ((f7 103 (by omega)).trans fa32_3)
          have h9 : w5 104 = .inl (gJ g, 7, .inr (.inl (cL 7 0 A1))) := ((f7 104 (by omega)).trans fa32_4)
          exact xret_v C hr hlk hW ⟨A1, e6, (by rw [← show d = n by omega]; exact h8), h9, (fun j z0 z1 => ((f7 j (by omega)).trans (hfr32 j z0 z1)))⟩ dX5_spread_60
        · refine lv_aload_n C.1 C.2.1 dX5_spread_37 rfl (lv_at hl 1 rfl) ?_
          refine xcV_v (n := 0) (As := []) C hK hW (c_X5_spreadOneDay l g v32 wh al on bk (spreadO on bk wh spot d) A1 hI hN (by omega) hob fa32_0 fa32_1 fa32_2 fa32_3 fa32_4) gX5_spread_X5_spreadOneDay rfl ⟨rfl, rfl⟩ (by decide +kernel) ⟨Nat.le_of_ble_eq_true rfl, Nat.le_of_ble_eq_true rfl⟩ ⟨Nat.zero_le _, Nat.zero_le _⟩ rfl (by omega) fa32_0 rfl hl rfl (Nat.le_of_ble_eq_true rfl) dX5_spread_38 (fun w10 H locs q11 hW => ?_)
          obtain ⟨h13, h14, f15⟩ := q11
          refine lv_iinc (v := nI (d + 1)) (lv' := [(3, .int (nI (d + 1))), (0, .ref (gad g 100)), (1, .int (nI spot)), (2, .int (nI n))]) C.1 C.2.1 dX5_spread_41 hl (k := 0) rfl (nI_add _ 1) (by decide) rfl (fun ls hl => ?_)
          refine lv_goto (tgt := 32) C.1 C.2.1 dX5_spread_44 (by decide) ?_
          have h16 : w10 100 = .inr (5, [.ref (gad g 101), .ref (gad g 102), .int (nI wh), .ref (gad g 103), .ref (gad g 104), .long (lN al), .ref (gad g 105)]) := ((f15 100 (by omega)).trans fa32_0)
          have h17 : w10 101 = .inl (gI g, 7, .inl (cK 7 0 on)) := ((f15 101 (by omega)).trans fa32_1)
          have h18 : w10 102 = .inl (gI g, 7, .inl (cK 7 0 bk)) := ((f15 102 (by omega)).trans fa32_2)
          exact ih32 (n - (d + 1)) (by omega) (d + 1) (stepO on bk wh (spreadO on bk wh spot d)) w10 _ _ _ rfl h16 h17 h18 (by first | exact h13 | (rw [mixF_0]; exact h13) | (rw [mixF_up]; exact h13) | (refine (h13).trans ?_; rw [cK_mixE (by omega)]; done) | (refine (h13).trans ?_; rw [cL_mixE (by omega)]; done) | (refine (h13).trans ?_; rw [cL_mixE (by omega)]; rfl)) h14 (fun j z0 z1 => ((f15 j (by omega)).trans (hfr32 j z0 z1))) (by omega) hW hl
      exact loop32 _ 0 A v2 _ _ _ rfl fa2_0 fa2_1 fa2_2 (by first | exact fa2_3 | (rw [mixF_0]; exact fa2_3) | (rw [mixF_up]; exact fa2_3) | (refine (fa2_3).trans ?_; rw [cK_mixE (by omega)]; done) | (refine (fa2_3).trans ?_; rw [cL_mixE (by omega)]; done) | (refine (fa2_3).trans ?_; rw [cL_mixE (by omega)]; rfl)) fa2_4 (fun j z0 z1 => (hfr2 j z0 z1)) (by omega) hW hl
    · refine lv_aload_n C.1 C.2.1 dX5_spread_8 rfl (lv_at hl 1 rfl) ?_
      refine xget C hK hW hinX5 rfl (by omega) fa2_0 3 (by decide) (List.mem_of_getElem? (i := 1) rfl) rfl dX5_spread_9 ?_
      refine lv_iload_n C.1 C.2.1 dX5_spread_12 rfl (lv_at hl 0 rfl) ?_
      refine lv_iload_n C.1 C.2.1 dX5_spread_13 rfl (lv_at hl 0 rfl) ?_
      refine lv_iload_n C.1 C.2.1 dX5_spread_14 rfl (lv_at hl 2 rfl) ?_
      refine xne (tgt := 22) C (by omega) (by omega) dX5_spread_15 (by decide) (fun c15 => ?_) (fun c15 => ?_)
      · refine lv_lconst (v := lN 0) C.1 C.2.1 dX5_spread_22 (by decide) ?_
        refine xlstK0 (v := 0) C hK hW (by omega) fa2_3 (by omega) (by decide) dX5_spread_23 (fun w19 H locs e20 f21 hW => ?_)
        refine lv_iinc (v := nI (i + 1)) (lv' := [(3, .int (nI (i + 1))), (0, .ref (gad g 100)), (1, .int (nI spot)), (2, .int (nI n))]) C.1 C.2.1 dX5_spread_24 hl (k := 0) rfl (nI_add _ 1) (by decide) rfl (fun ls hl => ?_)
        refine lv_goto (tgt := 2) C.1 C.2.1 dX5_spread_27 (by decide) ?_
        have h22 : w19 100 = .inr (5, [.ref (gad g 101), .ref (gad g 102), .int (nI wh), .ref (gad g 103), .ref (gad g 104), .long (lN al), .ref (gad g 105)]) := ((f21 100 (by omega)).trans fa2_0)
        have h23 : w19 101 = .inl (gI g, 7, .inl (cK 7 0 on)) := ((f21 101 (by omega)).trans fa2_1)
        have h24 : w19 102 = .inl (gI g, 7, .inl (cK 7 0 bk)) := ((f21 102 (by omega)).trans fa2_2)
        have h25 : w19 104 = .inl (gJ g, 7, .inr (.inl (cL 7 0 A))) := ((f21 104 (by omega)).trans fa2_4)
        exact ih2 (7 - (i + 1)) (by omega) (i + 1) w19 _ _ _ rfl h22 h23 h24 (by rw [mixF_up, show startO spot i = 0 from if_neg c15]; exact e20) h25 (fun j z0 z1 => ((f21 j (by omega)).trans (hfr2 j z0 z1))) (by omega) hW hl
      · refine lv_lconst (v := lN 1) C.1 C.2.1 dX5_spread_18 (by decide) ?_
        refine lv_goto (tgt := 23) C.1 C.2.1 dX5_spread_19 (by decide) ?_
        refine xlstK0 (v := 1) C hK hW (by omega) fa2_3 (by omega) (by decide) dX5_spread_23 (fun w26 H locs e27 f28 hW => ?_)
        refine lv_iinc (v := nI (i + 1)) (lv' := [(3, .int (nI (i + 1))), (0, .ref (gad g 100)), (1, .int (nI spot)), (2, .int (nI n))]) C.1 C.2.1 dX5_spread_24 hl (k := 0) rfl (nI_add _ 1) (by decide) rfl (fun ls hl => ?_)
        refine lv_goto (tgt := 2) C.1 C.2.1 dX5_spread_27 (by decide) ?_
        have h29 : w26 100 = .inr (5, [.ref (gad g 101), .ref (gad g 102), .int (nI wh), .ref (gad g 103), .ref (gad g 104), .long (lN al), .ref (gad g 105)]) := ((f28 100 (by omega)).trans fa2_0)
        have h30 : w26 101 = .inl (gI g, 7, .inl (cK 7 0 on)) := ((f28 101 (by omega)).trans fa2_1)
        have h31 : w26 102 = .inl (gI g, 7, .inl (cK 7 0 bk)) := ((f28 102 (by omega)).trans fa2_2)
        have h32 : w26 104 = .inl (gJ g, 7, .inr (.inl (cL 7 0 A))) := ((f28 104 (by omega)).trans fa2_4)
        exact ih2 (7 - (i + 1)) (by omega) (i + 1) w26 _ _ _ rfl h29 h30 h31 (by rw [mixF_up, show startO spot i = 1 from if_pos c15]; exact e27) h32 (fun j z0 z1 => ((f28 j (by omega)).trans (hfr2 j z0 z1))) (by omega) hW hl
  exact loop2 _ 0 w _ _ _ rfl pr0 pr1 pr2 (by first | exact pr3 | (rw [mixF_0]; exact pr3) | (rw [mixF_up]; exact pr3) | (refine (pr3).trans ?_; rw [cK_mixE (by omega)]; done) | (refine (pr3).trans ?_; rw [cL_mixE (by omega)]; done) | (refine (pr3).trans ?_; rw [cL_mixE (by omega)]; rfl)) pr4 (fun j z0 z1 => rfl) (by omega) hW hl

set_option maxHeartbeats 4000000 in
set_option maxRecDepth 100000 in
theorem c_X5_isLikelyBy (l : Launch) (g : GE) (w : Nat → va_E) (f c wh al : Nat) (O : Nat → Nat) (hI : AdInj g) (hN : gN g = 130) (hf : f < 7) (hc : c ≤ 100) (ho : O f * 100 < 2 ^ 63) (ha : al * c < 2 ^ 63) (pr0 : w 100 = .inr (5, [.ref (gad g 101), .ref (gad g 102), .int (nI wh), .ref (gad g 103), .ref (gad g 104), .long (lN al), .ref (gad g 105)])) (pr1 : w 103 = .inl (gJ g, 7, .inr (.inl (cL 7 0 O)))) : Met l yX5_isLikelyBy wsX5_isLikelyBy ({ frames := 0, cells := 0, slots := 0, locals := 0 } : Room) (XPc g w [.ref (gad g 100), .int (nI f), .int (nI c)]) (XQi g (fun r w' => w' = w ∧ r = (bI (al * c ≤ O f * 100)))) 0 0 (gA g) := by
  refine xmet (cc := cX5_isLikelyBy) (maxL := 3) (ret := (some .boolean)) (by decide) rfl hI (Nat.le_of_ble_eq_true rfl) ?_
  intro pG eG sG mG belowG methG cG ls C hr hlk hK hW hl
  have hl : lv_has ls 3 [(0, .ref (gad g 100)), (1, .int (nI f)), (2, .int (nI c))] := hl
  have hinX5 : ∀ x ∈ u_ws RX5 TX5 7, x ∈ wsX5_isLikelyBy := by decide +kernel
  refine lv_aload_n C.1 C.2.1 dX5_isLikelyBy_0 rfl (lv_at hl 0 rfl) ?_
  refine xget C hK hW hinX5 rfl (by omega) pr0 3 (by decide) (List.mem_of_getElem? (i := 1) rfl) rfl dX5_isLikelyBy_1 ?_
  refine lv_iload_n C.1 C.2.1 dX5_isLikelyBy_4 rfl (lv_at hl 1 rfl) ?_
  refine xlldK0 C hK hW (by omega) pr1 (by omega) (by decide) dX5_isLikelyBy_5 ?_
  refine lv_ldc2 (v := (lN 100)) C.1 C.2.1 C.2.2.2.1 (C.2.2.2.2 _ (List.mem_of_getElem? (i := 2) rfl)) dX5_isLikelyBy_6 ?_
  refine xlmul C dX5_isLikelyBy_9 ?_
  refine lv_aload_n C.1 C.2.1 dX5_isLikelyBy_10 rfl (lv_at hl 0 rfl) ?_
  refine xget C hK hW hinX5 rfl (by omega) pr0 5 (by decide) (List.mem_of_getElem? (i := 3) rfl) rfl dX5_isLikelyBy_11 ?_
  refine lv_iload_n C.1 C.2.1 dX5_isLikelyBy_14 rfl (lv_at hl 2 rfl) ?_
  refine xi2l C (by omega) dX5_isLikelyBy_15 ?_
  refine xlmul C dX5_isLikelyBy_16 ?_
  refine xLlt (tgt := 25) C (by omega) (by omega) dX5_isLikelyBy_17 dX5_isLikelyBy_18 (by decide) (fun c17 => ?_) (fun c17 => ?_)
  · refine lv_iconst (v := (nI 0)) C.1 C.2.1 dX5_isLikelyBy_25 (by decide) ?_
    exact xret_z C hr hlk hW rfl ⟨rfl, (bI_f (by omega)).symm⟩ dX5_isLikelyBy_26
  · refine lv_iconst (v := (nI 1)) C.1 C.2.1 dX5_isLikelyBy_21 (by decide) ?_
    refine lv_goto (tgt := 26) C.1 C.2.1 dX5_isLikelyBy_22 (by decide) ?_
    exact xret_z C hr hlk hW rfl ⟨rfl, (bI_t (by omega)).symm⟩ dX5_isLikelyBy_26
