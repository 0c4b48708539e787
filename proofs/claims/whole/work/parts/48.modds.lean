/-! the reference: what is told of the odds -/
theorem mUD_congr {L M : Nat → Nat} {a t : Nat} (h : ∀ i, i < 24 → M i = L i) (ht : t ≤ 6) : mU M a t = mU L a t ∧ mD M a t = mD L a t := by
  unfold mU mD
  rw [mS_congr ht (fun f hf => onF_congr h (by omega)) (fun f hf => backF_congr h hf), mP_congr ht (fun f hf => onF_congr h (by omega))]
  exact ⟨rfl, rfl⟩
theorem od_congr {L M : Nat → Nat} {s n f : Nat} (h : ∀ i, i < 24 → M i = L i) (hf : f < 7) : spreadO (onF M) (backF M) 10 s n f = spreadO (onF L) (backF L) 10 s n f := spreadO_congr (fun f hf => onF_congr h hf) (fun f hf => backF_congr h hf) n f hf
theorem odC_0 {L : Nat → Nat} {n f : Nat} (hf : f < 7) : odC L 0 n f = 10 ^ n * odF L n f := spreadO_scale (on := onF L) (bk := backF L) (wh := 10) (spot := L 2) 10 n f hf
theorem p100_10 (n : Nat) : 100 ^ n = 10 ^ n * 10 ^ n := by
  rw [show (100 : Nat) = 10 * 10 by decide, Nat.mul_pow]
theorem red0U {L : Nat → Nat} {n f : Nat} (hf : f < 7) : redU (odC L 0 n f) (100 ^ n) = redU (odF L n f) (10 ^ n) := by
  rw [odC_0 hf, p100_10, redU_scale (Nat.pow_pos (by decide))]
theorem red0D {L : Nat → Nat} {n f : Nat} (hf : f < 7) : redD (odC L 0 n f) (100 ^ n) = redD (odF L n f) (10 ^ n) := by
  rw [odC_0 hf, p100_10, redD_scale (Nat.pow_pos (by decide))]
theorem rA0 {on bk : Nat → Nat} : redU (mA on bk 0) (mP on 0) = 0 := redU_0
theorem rA1 {on bk : Nat → Nat} : redD (mA on bk 0) (mP on 0) = 1 := redD_0 Nat.one_pos
theorem rS0 {on bk : Nat → Nat} {a : Nat} : redU (mS on bk a 0) (mP on 0) = 0 := redU_0
theorem rS1 {on bk : Nat → Nat} {a : Nat} : redD (mS on bk a 0) (mP on 0) = 1 := redD_0 Nat.one_pos

set_option maxHeartbeats 4000000 in
set_option maxRecDepth 100000 in
theorem c_X7_oddsOf (l : Launch) (g : GE) (w : Nat → va_E) (c hk tn po : Nat) (nu : Int32) (ao mu md bu bd : Nat) (L O : Nat → Nat) (hI : AdInj g) (hN : gN g = 130) (hc : c < 5) (hft : L (25 + c) ≤ L (30 + c)) (ht6 : L (30 + c) ≤ 6) (pr0 : w 119 = .inr (7, [.ref (gad g 120), .ref (gad g 121), .ref (gad g 122), .int (nI tn), .ref (gad g 123), .int (nI po), .int nu, .ref (gad g 124), .ref (gad g 125), .ref (gad g 126), .ref (gad g 127), .int (nI hk), .ref (gad g 128), .ref (gad g 129), .long (lN ao), .long (lN mu), .long (lN md), .long (lN bu), .long (lN bd)])) (pr1 : w 124 = .inl (gI g, 177, .inl (cK 177 0 L))) (pr2 : w 128 = .inl (gJ g, 7, .inr (.inl (cL 7 0 O)))) : Met l yX7_oddsOf wsX7_oddsOf ({ frames := 0, cells := 0, slots := 0, locals := 0 } : Room) (XPc g w [.ref (gad g 119), .int (nI c)]) (XQl g (fun r w' => w' = w ∧ r = (lN (sumO O (L (25 + c)) (L (30 + c) + 1 - L (25 + c)))))) 0 0 (gA g) := by
  refine xmet (cc := cX7_oddsOf) (maxL := 5) (ret := (some .long)) (by decide) rfl hI (Nat.le_of_ble_eq_true rfl) ?_
  intro pG eG sG mG belowG methG cG ls C hr hlk hK hW hl
  have hl : lv_has ls 5 [(0, .ref (gad g 119)), (1, .int (nI c))] := hl
  have hinX7 : ∀ x ∈ u_ws RX7 TX7 19, x ∈ wsX7_oddsOf := by decide +kernel
  refine lv_lconst (v := lN 0) C.1 C.2.1 dX7_oddsOf_0 (by decide) ?_
  refine lv_lstore_n (lv' := [(2, .long (lN 0)), (0, .ref (gad g 119)), (1, .int (nI c))]) C.1 C.2.1 dX7_oddsOf_1 rfl hl (by decide) rfl (fun ls hl => ?_)
  refine lv_aload_n C.1 C.2.1 dX7_oddsOf_2 rfl (lv_at hl 1 rfl) ?_
  refine xget C hK hW hinX7 rfl (by omega) pr0 7 (by decide) (List.mem_of_getElem? (i := 1) rfl) rfl dX7_oddsOf_3 ?_
  refine lv_bipush (v := (nI 25)) C.1 C.2.1 dX7_oddsOf_6 (by decide) ?_
  refine lv_iload_n C.1 C.2.1 dX7_oddsOf_8 rfl (lv_at hl 2 rfl) ?_
  refine xadd C dX7_oddsOf_9 ?_
  refine xildK0 C hK hW (by omega) pr1 (by omega) (by decide) dX7_oddsOf_10 ?_
  refine lv_istore (lv' := [(4, .int (nI (L (25 + c)))), (2, .long (lN 0)), (0, .ref (gad g 119)), (1, .int (nI c))]) C.1 C.2.1 dX7_oddsOf_11 hl (by decide) rfl (fun ls hl => ?_)
  have loop13 : ∀ (kG : Nat) (j : Nat) (H : Heap) (locs : List Loc) (ls : Array Slot), kG = L (30 + c) + 1 - (L (25 + c) + j) → (j ≤ L (30 + c) + 1 - L (25 + c)) → XW g w (gA g) sG.heap H locs → lv_has ls 5 [(4, .int (nI (L (25 + c) + j))), (2, .long (lN (sumO O (L (25 + c)) j))), (0, .ref (gad g 119)), (1, .int (nI c))] → W pG l eG ({ frames := 0, cells := 0, slots := 0, locals := 0 } : Room) sG mG ([.ref (gad g 119), .int (nI c)] : List Value).toArray belowG methG cG H locs 0 0 (MQ belowG (XQl g (fun r w' => w' = w ∧ r = (lN (sumO O (L (25 + c)) (L (30 + c) + 1 - L (25 + c)))))) ([.ref (gad g 119), .int (nI c)] : List Value).toArray sG 0 0 (gA g)) (F0 mG 13 ls []) := by
    intro k13
    induction k13 using Nat.strongRecOn with
    | _ k13 ih13 =>
    intro j H locs ls hk13 hj hW hl
    refine lv_iload C.1 C.2.1 dX7_oddsOf_13 (lv_at hl 0 rfl) ?_
    refine lv_aload_n C.1 C.2.1 dX7_oddsOf_15 rfl (lv_at hl 2 rfl) ?_
    refine xget C hK hW hinX7 rfl (by omega) pr0 7 (by decide) (List.mem_of_getElem? (i := 1) rfl) rfl dX7_oddsOf_16 ?_
    refine lv_bipush (v := (nI 30)) C.1 C.2.1 dX7_oddsOf_19 (by decide) ?_
    refine lv_iload_n C.1 C.2.1 dX7_oddsOf_21 rfl (lv_at hl 3 rfl) ?_
    refine xadd C dX7_oddsOf_22 ?_
    refine xildK0 C hK hW (by omega) pr1 (by omega) (by decide) dX7_oddsOf_23 ?_
    refine xgt (tgt := 43) C (by omega) (by omega) dX7_oddsOf_24 (by decide) (fun c24 => ?_) (fun c24 => ?_)
    · refine lv_lload_n C.1 C.2.1 dX7_oddsOf_43 rfl (lv_at hl 1 rfl) ?_
      exact xret_l C hr hlk hW ⟨rfl, by rw [show L (30 + c) + 1 - L (25 + c) = j by omega]⟩ dX7_oddsOf_44
    · refine lv_lload_n C.1 C.2.1 dX7_oddsOf_27 rfl (lv_at hl 1 rfl) ?_
      refine lv_aload_n C.1 C.2.1 dX7_oddsOf_28 rfl (lv_at hl 2 rfl) ?_
      refine xget C hK hW hinX7 rfl (by omega) pr0 12 (by decide) (List.mem_of_getElem? (i := 2) rfl) rfl dX7_oddsOf_29 ?_
      refine lv_iload C.1 C.2.1 dX7_oddsOf_32 (lv_at hl 0 rfl) ?_
      refine xlldK0 C hK hW (by omega) pr2 (by omega) (by decide) dX7_oddsOf_34 ?_
      refine xladd C dX7_oddsOf_35 ?_
      refine lv_lstore_n (lv' := [(2, .long (lN ((sumO O (L (25 + c)) j) + (O (L (25 + c) + j))))), (4, .int (nI (L (25 + c) + j))), (0, .ref (gad g 119)), (1, .int (nI c))]) C.1 C.2.1 dX7_oddsOf_36 rfl hl (by decide) rfl (fun ls hl => ?_)
      refine lv_iinc (v := nI ((L (25 + c) + j) + 1)) (lv' := [(4, .int (nI ((L (25 + c) + j) + 1))), (2, .long (lN ((sumO O (L (25 + c)) j) + (O (L (25 + c) + j))))), (0, .ref (gad g 119)), (1, .int (nI c))]) C.1 C.2.1 dX7_oddsOf_37 hl (k := 1) rfl (nI_add _ 1) (by decide) rfl (fun ls hl => ?_)
      refine lv_goto (tgt := 13) C.1 C.2.1 dX7_oddsOf_40 (by decide) ?_
      exact ih13 (L (30 + c) + 1 - (L (25 + c) + (j + 1))) (by omega) (j + 1) _ _ _ rfl (by omega) hW hl
  exact loop13 _ 0 _ _ _ rfl (by omega) hW hl

set_option maxHeartbeats 4000000 in
set_option maxRecDepth 100000 in
theorem c_X7_layMean (l : Launch) (g : GE) (w : Nat → va_E) (i t : Nat) (le po ik ao mu md bu bd : Nat) (nu : Int32) (L : Nat → Nat) (hI : AdInj g) (hN : gN g = 130) (hi : 119 < i) (hi2 : i < 130) (ht : t ≤ 6) (hs : L 2 < 7) (hok : Okg L) (pr0 : w 119 = .inr (7, [.ref (gad g 120), .ref (gad g 121), .ref (gad g 122), .int (nI le), .ref (gad g 123), .int (nI po), .int nu, .ref (gad g 124), .ref (gad g 125), .ref (gad g 126), .ref (gad g 127), .int (nI ik), .ref (gad g 128), .ref (gad g 129), .long (lN ao), .long (lN mu), .long (lN md), .long (lN bu), .long (lN bd)])) (pr1 : w i = .inl (gI g, 177, .inl (cK 177 0 L))) : Met l yX7_layMean wsX7_layMean ({ frames := 2, cells := 0, slots := 0, locals := 46 } : Room) (XPc g w [.ref (gad g 119), .ref (gad g i), .int (nI t)]) (XQv g (fun w' => w' 119 = .inr (7, [.ref (gad g 120), .ref (gad g 121), .ref (gad g 122), .int (nI le), .ref (gad g 123), .int (nI po), .int nu, .ref (gad g 124), .ref (gad g 125), .ref (gad g 126), .ref (gad g 127), .int (nI ik), .ref (gad g 128), .ref (gad g 129), .long (lN ao), .long (lN (mU L (L 2) t)), .long (lN (mD L (L 2) t)), .long (lN bu), .long (lN bd)]) ∧ (∀ j : Nat, ¬ (119 ≤ j ∧ j < 120) → w' j = w j))) 0 0 (gA g) := by
  refine xmet (cc := cX7_layMean) (maxL := 16) (ret := none) (by decide) rfl hI (Nat.le_of_ble_eq_true rfl) ?_
  intro pG eG sG mG belowG methG cG ls C hr hlk hK hW hl
  have hl : lv_has ls 16 [(0, .ref (gad g 119)), (1, .ref (gad g i)), (2, .int (nI t))] := hl
  have hinX7 : ∀ x ∈ u_ws RX7 TX7 19, x ∈ wsX7_layMean := by decide +kernel
  have hon := onF_9 hok
  have hbk := backF_4 hok
  refine lv_lconst (v := lN 0) C.1 C.2.1 dX7_layMean_0 (by decide) ?_
  refine lv_lstore_n (lv' := [(3, .long (lN 0)), (0, .ref (gad g 119)), (1, .ref (gad g i)), (2, .int (nI t))]) C.1 C.2.1 dX7_layMean_1 rfl hl (by decide) rfl (fun ls hl => ?_)
  refine lv_lconst (v := lN 1) C.1 C.2.1 dX7_layMean_2 (by decide) ?_
  refine lv_lstore (lv' := [(5, .long (lN 1)), (3, .long (lN 0)), (0, .ref (gad g 119)), (1, .ref (gad g i)), (2, .int (nI t))]) C.1 C.2.1 dX7_layMean_3 hl (by decide) rfl (fun ls hl => ?_)
  refine lv_aload_n C.1 C.2.1 dX7_layMean_5 rfl (lv_at hl 2 rfl) ?_
  refine lv_lconst (v := lN 0) C.1 C.2.1 dX7_layMean_6 (by decide) ?_
  refine xput (v := .long (lN 0)) C hK hW hinX7 tyX7_ok nmX7 rfl (by omega) pr0 15 (by decide) (List.mem_of_getElem? (i := 1) rfl) rfl rfl rfl (Nat.le_of_ble_eq_true rfl) dX7_layMean_7 (fun w1 H locs e2 f3 hW => ?_)
  refine lv_aload_n C.1 C.2.1 dX7_layMean_10 rfl (lv_at hl 2 rfl) ?_
  refine lv_lconst (v := lN 1) C.1 C.2.1 dX7_layMean_11 (by decide) ?_
  refine xput (v := .long (lN 1)) C hK hW hinX7 tyX7_ok nmX7 rfl (by omega) e2 16 (by decide) (List.mem_of_getElem? (i := 2) rfl) rfl rfl rfl (Nat.le_of_ble_eq_true rfl) dX7_layMean_12 (fun w4 H locs e5 f6 hW => ?_)
  refine lv_iconst (v := (nI 0)) C.1 C.2.1 dX7_layMean_15 (by decide) ?_
  have hl : lv_has ls 16 [(5, .long (lN 1)), (3, .long (lN (redU (mA (onF L) (backF L) 0) (mP (onF L) 0)))), (0, .ref (gad g 119)), (1, .ref (gad g i)), (2, .int (nI t))] := by rw [show redU (mA (onF L) (backF L) 0) (mP (onF L) 0) = 0 from rA0]; exact hl
  have hl : lv_has ls 16 [(5, .long (lN (redD (mA (onF L) (backF L) 0) (mP (onF L) 0)))), (3, .long (lN (redU (mA (onF L) (backF L) 0) (mP (onF L) 0)))), (0, .ref (gad g 119)), (1, .ref (gad g i)), (2, .int (nI t))] := by rw [show redD (mA (onF L) (backF L) 0) (mP (onF L) 0) = 1 from rA1]; exact hl
  refine lv_istore (lv' := [(7, .int (nI 0)), (5, .long (lN (redD (mA (onF L) (backF L) 0) (mP (onF L) 0)))), (3, .long (lN (redU (mA (onF L) (backF L) 0) (mP (onF L) 0)))), (0, .ref (gad g 119)), (1, .ref (gad g i)), (2, .int (nI t))]) C.1 C.2.1 dX7_layMean_16 hl (by decide) rfl (fun ls hl => ?_)
  have loop18 : ∀ (kG : Nat) (f : Nat) (v18 : Nat → va_E) (H : Heap) (locs : List Loc) (ls : Array Slot), kG = t - f → (v18 119 = .inr (7, [.ref (gad g 120), .ref (gad g 121), .ref (gad g 122), .int (nI le), .ref (gad g 123), .int (nI po), .int nu, .ref (gad g 124), .ref (gad g 125), .ref (gad g 126), .ref (gad g 127), .int (nI ik), .ref (gad g 128), .ref (gad g 129), .long (lN ao), .long (lN (redU (mS (onF L) (backF L) (L 2) f) (mP (onF L) f))), .long (lN (redD (mS (onF L) (backF L) (L 2) f) (mP (onF L) f))), .long (lN bu), .long (lN bd)])) → (v18 i = .inl (gI g, 177, .inl (cK 177 0 L))) → (∀ j : Nat, ¬ (119 ≤ j ∧ j < 120) → v18 j = w j) → (f ≤ t) → XW g v18 (gA g) sG.heap H locs → lv_has ls 16 [(7, .int (nI f)), (5, .long (lN (redD (mA (onF L) (backF L) f) (mP (onF L) f)))), (3, .long (lN (redU (mA (onF L) (backF L) f) (mP (onF L) f)))), (0, .ref (gad g 119)), (1, .ref (gad g i)), (2, .int (nI t))] → W pG l eG ({ frames := 2, cells := 0, slots := 0, locals := 46 } : Room) sG mG ([.ref (gad g 119), .ref (gad g i), .int (nI t)] : List Value).toArray belowG methG cG H locs 0 0 (MQ belowG (XQv g (fun w' => w' 119 = .inr (7, [.ref (gad g 120), .ref (gad g 121), .ref (gad g 122), .int (nI le), .ref (gad g 123), .int (nI po), .int nu, .ref (gad g 124), .ref (gad g 125), .ref (gad g 126), .ref (gad g 127), .int (nI ik), .ref (gad g 128), .ref (gad g 129), .long (lN ao), .long (lN (mU L (L 2) t)), .long (lN (mD L (L 2) t)), .long (lN bu), .long (lN bd)]) ∧ (∀ j : Nat, ¬ (119 ≤ j ∧ j < 120) → w' j = w j))) ([.ref (gad g 119), .ref (gad g i), .int (nI t)] : List Value).toArray sG 0 0 (gA g)) (F0 mG 18 ls []) := by
    intro k18
    induction k18 using Nat.strongRecOn with
    | _ k18 ih18 =>
    intro f v18 H locs ls hk18 fa18_0 fa18_1 hfr18 hf hW hl
    refine lv_iload C.1 C.2.1 dX7_layMean_18 (lv_at hl 0 rfl) ?_
    refine lv_iload_n C.1 C.2.1 dX7_layMean_20 rfl (lv_at hl 5 rfl) ?_
    refine xge (tgt := 136) C (by omega) (by omega) dX7_layMean_21 (by decide) (fun c21 => ?_) (fun c21 => ?_)
    · exact xret_v C hr hlk hW ⟨(by rw [mU, mD, ← show f = t by omega]; exact fa18_0), (fun j z0 => (hfr18 j z0))⟩ dX7_layMean_136
    · have hb := mB (L 2) hon hbk (f := f) (by omega)
      have hb1 := mB (L 2) hon hbk (f := f + 1) (by omega)
      have onf := hon f (by omega)
      have bkf := hbk f (by omega)
      have l1 := redU_le (mA (onF L) (backF L) f) (mP (onF L) f)
      have l2 := redD_le (mA (onF L) (backF L) f) (mP (onF L) f)
      have l3 := redD_pos (a := mA (onF L) (backF L) f) hb.1
      have p1 : backF L f * redU (mA (onF L) (backF L) f) (mP (onF L) f) ≤ 4 * 1062882 := Nat.mul_le_mul bkf (by omega)
      have p2 : onF L f * redD (mA (onF L) (backF L) f) (mP (onF L) f) ≤ 9 * 531441 := Nat.mul_le_mul onf.2 (by omega)
      have p3 : 0 < onF L f * redD (mA (onF L) (backF L) f) (mP (onF L) f) := Nat.mul_pos (by omega) l3
      have l4 := redU_le (mA (onF L) (backF L) (f + 1)) (mP (onF L) (f + 1))
      have l5 := redD_le (mA (onF L) (backF L) (f + 1)) (mP (onF L) (f + 1))
      have l6 := redU_le (mS (onF L) (backF L) (L 2) f) (mP (onF L) f)
      have l7 := redD_le (mS (onF L) (backF L) (L 2) f) (mP (onF L) f)
      have p4 : redU (mS (onF L) (backF L) (L 2) f) (mP (onF L) f) * redD (mA (onF L) (backF L) (f + 1)) (mP (onF L) (f + 1)) ≤ 6377292 * 531441 := Nat.mul_le_mul (by omega) (by omega)
      have p5 : redU (mA (onF L) (backF L) (f + 1)) (mP (onF L) (f + 1)) * redD (mS (onF L) (backF L) (L 2) f) (mP (onF L) f) ≤ 1062882 * 531441 := Nat.mul_le_mul (by omega) (by omega)
      have p6 : redD (mS (onF L) (backF L) (L 2) f) (mP (onF L) f) * redD (mA (onF L) (backF L) (f + 1)) (mP (onF L) (f + 1)) ≤ 531441 * 531441 := Nat.mul_le_mul (by omega) (by omega)
      have p7 : 0 < redD (mS (onF L) (backF L) (L 2) f) (mP (onF L) f) * redD (mA (onF L) (backF L) (f + 1)) (mP (onF L) (f + 1)) := Nat.mul_pos (redD_pos hb.1) (redD_pos hb1.1)
      refine lv_ldc2 (v := (lN 10)) C.1 C.2.1 C.2.2.2.1 (C.2.2.2.2 _ (List.mem_of_getElem? (i := 3) rfl)) dX7_layMean_24 ?_
      refine lv_lload C.1 C.2.1 dX7_layMean_27 (lv_at hl 1 rfl) ?_
      refine xlmul C dX7_layMean_29 ?_
      refine lv_aload_n C.1 C.2.1 dX7_layMean_30 rfl (lv_at hl 4 rfl) ?_
      refine lv_iload C.1 C.2.1 dX7_layMean_31 (lv_at hl 0 rfl) ?_
      refine xcS_i (n := 2) (As := [.ref (gad g i), .int (nI f)]) C hK hW (c_X7_backOf l g v18 i f L hI hN (by omega) (by omega) hok fa18_1) gX7_layMean_X7_backOf rfl ⟨rfl, rfl⟩ (by decide +kernel) ⟨Nat.le_of_ble_eq_true rfl, Nat.le_of_ble_eq_true rfl⟩ ⟨Nat.zero_le _, Nat.zero_le _⟩ rfl hl rfl (Nat.le_of_ble_eq_true rfl) dX7_layMean_33 (fun r9 w7 H locs q8 hW => ?_)
      obtain ⟨qw10, rfl⟩ := q8
      rw [qw10] at hW
      refine xi2l C (by omega) dX7_layMean_36 ?_
      refine lv_lload_n C.1 C.2.1 dX7_layMean_37 rfl (lv_at hl 2 rfl) ?_
      refine xlmul C dX7_layMean_38 ?_
      refine xladd C dX7_layMean_39 ?_
      refine lv_lstore (lv' := [(8, .long (lN ((10 * (redD (mA (onF L) (backF L) f) (mP (onF L) f))) + ((backF L f) * (redU (mA (onF L) (backF L) f) (mP (onF L) f)))))), (7, .int (nI f)), (5, .long (lN (redD (mA (onF L) (backF L) f) (mP (onF L) f)))), (3, .long (lN (redU (mA (onF L) (backF L) f) (mP (onF L) f)))), (0, .ref (gad g 119)), (1, .ref (gad g i)), (2, .int (nI t))]) C.1 C.2.1 dX7_layMean_40 hl (by decide) rfl (fun ls hl => ?_)
      refine lv_lload C.1 C.2.1 dX7_layMean_42 (lv_at hl 2 rfl) ?_
      refine lv_aload_n C.1 C.2.1 dX7_layMean_44 rfl (lv_at hl 5 rfl) ?_
      refine lv_iload C.1 C.2.1 dX7_layMean_45 (lv_at hl 1 rfl) ?_
      refine xcS_i (n := 2) (As := [.ref (gad g i), .int (nI f)]) C hK hW (c_X7_onOf l g v18 i f L hI hN (by omega) (by omega) hok fa18_1) gX7_layMean_X7_onOf rfl ⟨rfl, rfl⟩ (by decide +kernel) ⟨Nat.le_of_ble_eq_true rfl, Nat.le_of_ble_eq_true rfl⟩ ⟨Nat.zero_le _, Nat.zero_le _⟩ rfl hl rfl (Nat.le_of_ble_eq_true rfl) dX7_layMean_47 (fun r13 w11 H locs q12 hW => ?_)
      obtain ⟨qw14, rfl⟩ := q12
      rw [qw14] at hW
      refine xi2l C (by omega) dX7_layMean_50 ?_
      refine xlmul C dX7_layMean_51 ?_
      refine xtopL (b := onF L f * redD (mA (onF L) (backF L) f) (mP (onF L) f)) (Nat.mul_comm _ _) ?_
      refine lv_lstore (lv' := [(10, .long (lN (onF L f * redD (mA (onF L) (backF L) f) (mP (onF L) f)))), (8, .long (lN ((10 * (redD (mA (onF L) (backF L) f) (mP (onF L) f))) + ((backF L f) * (redU (mA (onF L) (backF L) f) (mP (onF L) f)))))), (7, .int (nI f)), (5, .long (lN (redD (mA (onF L) (backF L) f) (mP (onF L) f)))), (3, .long (lN (redU (mA (onF L) (backF L) f) (mP (onF L) f)))), (0, .ref (gad g 119)), (1, .ref (gad g i)), (2, .int (nI t))]) C.1 C.2.1 dX7_layMean_52 hl (by decide) rfl (fun ls hl => ?_)
      refine lv_lload C.1 C.2.1 dX7_layMean_54 (lv_at hl 1 rfl) ?_
      refine lv_lload C.1 C.2.1 dX7_layMean_56 (lv_at hl 0 rfl) ?_
      refine lv_iconst (v := (nI 0)) C.1 C.2.1 dX7_layMean_58 (by decide) ?_
      refine xcS_l (n := 3) (As := [.long (lN ((10 * (redD (mA (onF L) (backF L) f) (mP (onF L) f))) + ((backF L f) * (redU (mA (onF L) (backF L) f) (mP (onF L) f))))), .long (lN (onF L f * redD (mA (onF L) (backF L) f) (mP (onF L) f))), .int (nI 0)]) C hK hW (c_X7_part l g v18 ((10 * (redD (mA (onF L) (backF L) f) (mP (onF L) f))) + ((backF L f) * (redU (mA (onF L) (backF L) f) (mP (onF L) f)))) (onF L f * redD (mA (onF L) (backF L) f) (mP (onF L) f)) 0 hI hN (by omega) (by omega) (by omega) (by omega)) gX7_layMean_X7_part rfl ⟨rfl, rfl⟩ (by decide +kernel) ⟨Nat.le_of_ble_eq_true rfl, Nat.le_of_ble_eq_true rfl⟩ ⟨Nat.zero_le _, Nat.zero_le _⟩ rfl hl rfl (Nat.le_of_ble_eq_true rfl) dX7_layMean_59 (fun r17 w15 H locs q16 hW => ?_)
      obtain ⟨qw18, rfl⟩ := q16
      rw [qw18] at hW
      refine xtopL (b := redU (mA (onF L) (backF L) (f + 1)) (mP (onF L) (f + 1))) (by rw [if_pos rfl, (red_step hb.1).1]; rfl) ?_
      refine lv_lstore_n (lv' := [(3, .long (lN (redU (mA (onF L) (backF L) (f + 1)) (mP (onF L) (f + 1))))), (10, .long (lN (onF L f * redD (mA (onF L) (backF L) f) (mP (onF L) f)))), (8, .long (lN ((10 * (redD (mA (onF L) (backF L) f) (mP (onF L) f))) + ((backF L f) * (redU (mA (onF L) (backF L) f) (mP (onF L) f)))))), (7, .int (nI f)), (5, .long (lN (redD (mA (onF L) (backF L) f) (mP (onF L) f)))), (0, .ref (gad g 119)), (1, .ref (gad g i)), (2, .int (nI t))]) C.1 C.2.1 dX7_layMean_62 rfl hl (by decide) rfl (fun ls hl => ?_)
      refine lv_lload C.1 C.2.1 dX7_layMean_63 (lv_at hl 2 rfl) ?_
      refine lv_lload C.1 C.2.1 dX7_layMean_65 (lv_at hl 1 rfl) ?_
      refine lv_iconst (v := (nI 1)) C.1 C.2.1 dX7_layMean_67 (by decide) ?_
      refine xcS_l (n := 3) (As := [.long (lN ((10 * (redD (mA (onF L) (backF L) f) (mP (onF L) f))) + ((backF L f) * (redU (mA (onF L) (backF L) f) (mP (onF L) f))))), .long (lN (onF L f * redD (mA (onF L) (backF L) f) (mP (onF L) f))), .int (nI 1)]) C hK hW (c_X7_part l g v18 ((10 * (redD (mA (onF L) (backF L) f) (mP (onF L) f))) + ((backF L f) * (redU (mA (onF L) (backF L) f) (mP (onF L) f)))) (onF L f * redD (mA (onF L) (backF L) f) (mP (onF L) f)) 1 hI hN (by omega) (by omega) (by omega) (by omega)) gX7_layMean_X7_part rfl ⟨rfl, rfl⟩ (by decide +kernel) ⟨Nat.le_of_ble_eq_true rfl, Nat.le_of_ble_eq_true rfl⟩ ⟨Nat.zero_le _, Nat.zero_le _⟩ rfl hl rfl (Nat.le_of_ble_eq_true rfl) dX7_layMean_68 (fun r21 w19 H locs q20 hW => ?_)
      obtain ⟨qw22, rfl⟩ := q20
      rw [qw22] at hW
      refine xtopL (b := redD (mA (onF L) (backF L) (f + 1)) (mP (onF L) (f + 1))) (by rw [if_neg (by decide), (red_step hb.1).2]; rfl) ?_
      refine lv_lstore (lv' := [(5, .long (lN (redD (mA (onF L) (backF L) (f + 1)) (mP (onF L) (f + 1))))), (3, .long (lN (redU (mA (onF L) (backF L) (f + 1)) (mP (onF L) (f + 1))))), (10, .long (lN (onF L f * redD (mA (onF L) (backF L) f) (mP (onF L) f)))), (8, .long (lN ((10 * (redD (mA (onF L) (backF L) f) (mP (onF L) f))) + ((backF L f) * (redU (mA (onF L) (backF L) f) (mP (onF L) f)))))), (7, .int (nI f)), (0, .ref (gad g 119)), (1, .ref (gad g i)), (2, .int (nI t))]) C.1 C.2.1 dX7_layMean_71 hl (by decide) rfl (fun ls hl => ?_)
      refine lv_iload C.1 C.2.1 dX7_layMean_73 (lv_at hl 4 rfl) ?_
      refine lv_aload_n C.1 C.2.1 dX7_layMean_75 rfl (lv_at hl 6 rfl) ?_
      refine lv_iconst (v := (nI 2)) C.1 C.2.1 dX7_layMean_76 (by decide) ?_
      refine xildK0 C hK hW (by omega) fa18_1 (by omega) (by decide) dX7_layMean_77 ?_
      refine xlt (tgt := 130) C (by omega) (by omega) dX7_layMean_78 (by decide) (fun c78 => ?_) (fun c78 => ?_)
      · have h23 : v18 119 = .inr (7, [.ref (gad g 120), .ref (gad g 121), .ref (gad g 122), .int (nI le), .ref (gad g 123), .int (nI po), .int nu, .ref (gad g 124), .ref (gad g 125), .ref (gad g 126), .ref (gad g 127), .int (nI ik), .ref (gad g 128), .ref (gad g 129), .long (lN ao), .long (lN (redU (mS (onF L) (backF L) (L 2) (f + 1)) (mP (onF L) (f + 1)))), .long (lN (redD (mS (onF L) (backF L) (L 2) (f + 1)) (mP (onF L) (f + 1)))), .long (lN bu), .long (lN bd)]) := fa18_0.trans (by rw [mS_0 (f := f) (by omega), mS_0 (f := f + 1) (by omega), redU_0, redU_0, redD_0 hb.1, redD_0 hb1.1])
        refine lv_iinc (v := nI (f + 1)) (lv' := [(7, .int (nI (f + 1))), (5, .long (lN (redD (mA (onF L) (backF L) (f + 1)) (mP (onF L) (f + 1))))), (3, .long (lN (redU (mA (onF L) (backF L) (f + 1)) (mP (onF L) (f + 1))))), (10, .long (lN (onF L f * redD (mA (onF L) (backF L) f) (mP (onF L) f)))), (8, .long (lN ((10 * (redD (mA (onF L) (backF L) f) (mP (onF L) f))) + ((backF L f) * (redU (mA (onF L) (backF L) f) (mP (onF L) f)))))), (0, .ref (gad g 119)), (1, .ref (gad g i)), (2, .int (nI t))]) C.1 C.2.1 dX7_layMean_130 hl (k := 4) rfl (nI_add _ 1) (by decide) rfl (fun ls hl => ?_)
        refine lv_goto (tgt := 18) C.1 C.2.1 dX7_layMean_133 (by decide) ?_
        exact ih18 (t - (f + 1)) (by omega) (f + 1) v18 _ _ _ rfl h23 fa18_1 (fun j z0 => (hfr18 j z0)) (by omega) hW (lv_sub hl [0, 1, 2, 5, 6, 7] rfl)
      · refine lv_aload_n C.1 C.2.1 dX7_layMean_81 rfl (lv_at hl 5 rfl) ?_
        refine xget C hK hW hinX7 rfl (by omega) fa18_0 15 (by decide) (List.mem_of_getElem? (i := 1) rfl) rfl dX7_layMean_82 ?_
        refine lv_lload C.1 C.2.1 dX7_layMean_85 (lv_at hl 0 rfl) ?_
        refine xlmul C dX7_layMean_87 ?_
        refine lv_lload_n C.1 C.2.1 dX7_layMean_88 rfl (lv_at hl 1 rfl) ?_
        refine lv_aload_n C.1 C.2.1 dX7_layMean_89 rfl (lv_at hl 5 rfl) ?_
        refine xget C hK hW hinX7 rfl (by omega) fa18_0 16 (by decide) (List.mem_of_getElem? (i := 2) rfl) rfl dX7_layMean_90 ?_
        refine xlmul C dX7_layMean_93 ?_
        refine xladd C dX7_layMean_94 ?_
        refine lv_lstore (lv' := [(12, .long (lN (((redU (mS (onF L) (backF L) (L 2) f) (mP (onF L) f)) * (redD (mA (onF L) (backF L) (f + 1)) (mP (onF L) (f + 1)))) + ((redU (mA (onF L) (backF L) (f + 1)) (mP (onF L) (f + 1))) * (redD (mS (onF L) (backF L) (L 2) f) (mP (onF L) f)))))), (5, .long (lN (redD (mA (onF L) (backF L) (f + 1)) (mP (onF L) (f + 1))))), (3, .long (lN (redU (mA (onF L) (backF L) (f + 1)) (mP (onF L) (f + 1))))), (10, .long (lN (onF L f * redD (mA (onF L) (backF L) f) (mP (onF L) f)))), (8, .long (lN ((10 * (redD (mA (onF L) (backF L) f) (mP (onF L) f))) + ((backF L f) * (redU (mA (onF L) (backF L) f) (mP (onF L) f)))))), (7, .int (nI f)), (0, .ref (gad g 119)), (1, .ref (gad g i)), (2, .int (nI t))]) C.1 C.2.1 dX7_layMean_95 hl (by decide) rfl (fun ls hl => ?_)
        refine lv_aload_n C.1 C.2.1 dX7_layMean_97 rfl (lv_at hl 6 rfl) ?_
        refine xget C hK hW hinX7 rfl (by omega) fa18_0 16 (by decide) (List.mem_of_getElem? (i := 2) rfl) rfl dX7_layMean_98 ?_
        refine lv_lload C.1 C.2.1 dX7_layMean_101 (lv_at hl 1 rfl) ?_
        refine xlmul C dX7_layMean_103 ?_
        refine lv_lstore (lv' := [(14, .long (lN ((redD (mS (onF L) (backF L) (L 2) f) (mP (onF L) f)) * (redD (mA (onF L) (backF L) (f + 1)) (mP (onF L) (f + 1)))))), (12, .long (lN (((redU (mS (onF L) (backF L) (L 2) f) (mP (onF L) f)) * (redD (mA (onF L) (backF L) (f + 1)) (mP (onF L) (f + 1)))) + ((redU (mA (onF L) (backF L) (f + 1)) (mP (onF L) (f + 1))) * (redD (mS (onF L) (backF L) (L 2) f) (mP (onF L) f)))))), (5, .long (lN (redD (mA (onF L) (backF L) (f + 1)) (mP (onF L) (f + 1))))), (3, .long (lN (redU (mA (onF L) (backF L) (f + 1)) (mP (onF L) (f + 1))))), (10, .long (lN (onF L f * redD (mA (onF L) (backF L) f) (mP (onF L) f)))), (8, .long (lN ((10 * (redD (mA (onF L) (backF L) f) (mP (onF L) f))) + ((backF L f) * (redU (mA (onF L) (backF L) f) (mP (onF L) f)))))), (7, .int (nI f)), (0, .ref (gad g 119)), (1, .ref (gad g i)), (2, .int (nI t))]) C.1 C.2.1 dX7_layMean_104 hl (by decide) rfl (fun ls hl => ?_)
        refine lv_aload_n C.1 C.2.1 dX7_layMean_106 rfl (lv_at hl 7 rfl) ?_
        refine lv_lload C.1 C.2.1 dX7_layMean_107 (lv_at hl 1 rfl) ?_
        refine lv_lload C.1 C.2.1 dX7_layMean_109 (lv_at hl 0 rfl) ?_
        refine lv_iconst (v := (nI 0)) C.1 C.2.1 dX7_layMean_111 (by decide) ?_
        refine xcS_l (n := 3) (As := [.long (lN (((redU (mS (onF L) (backF L) (L 2) f) (mP (onF L) f)) * (redD (mA (onF L) (backF L) (f + 1)) (mP (onF L) (f + 1)))) + ((redU (mA (onF L) (backF L) (f + 1)) (mP (onF L) (f + 1))) * (redD (mS (onF L) (backF L) (L 2) f) (mP (onF L) f))))), .long (lN ((redD (mS (onF L) (backF L) (L 2) f) (mP (onF L) f)) * (redD (mA (onF L) (backF L) (f + 1)) (mP (onF L) (f + 1))))), .int (nI 0)]) C hK hW (c_X7_part l g v18 (((redU (mS (onF L) (backF L) (L 2) f) (mP (onF L) f)) * (redD (mA (onF L) (backF L) (f + 1)) (mP (onF L) (f + 1)))) + ((redU (mA (onF L) (backF L) (f + 1)) (mP (onF L) (f + 1))) * (redD (mS (onF L) (backF L) (L 2) f) (mP (onF L) f)))) ((redD (mS (onF L) (backF L) (L 2) f) (mP (onF L) f)) * (redD (mA (onF L) (backF L) (f + 1)) (mP (onF L) (f + 1)))) 0 hI hN (by omega) (by omega) (by omega) (by omega)) gX7_layMean_X7_part rfl ⟨rfl, rfl⟩ (by decide +kernel) ⟨Nat.le_of_ble_eq_true rfl, Nat.le_of_ble_eq_true rfl⟩ ⟨Nat.zero_le _, Nat.zero_le _⟩ rfl hl rfl (Nat.le_of_ble_eq_true rfl) dX7_layMean_112 (fun r26 w24 H locs q25 hW => ?_)
        obtain ⟨qw27, rfl⟩ := q25
        rw [qw27] at hW
        refine xtopL (b := redU (mS (onF L) (backF L) (L 2) (f + 1)) (mP (onF L) (f + 1))) (by rw [if_pos rfl, show mS (onF L) (backF L) (L 2) (f + 1) = mS (onF L) (backF L) (L 2) f * onF L f + mA (onF L) (backF L) (f + 1) from if_pos (by omega), show mP (onF L) (f + 1) = onF L f * mP (onF L) f from rfl, (red_sum hb.1 (by omega)).1]) ?_
        refine xput (v := .long (lN (redU (mS (onF L) (backF L) (L 2) (f + 1)) (mP (onF L) (f + 1))))) C hK hW hinX7 tyX7_ok nmX7 rfl (by omega) fa18_0 15 (by decide) (List.mem_of_getElem? (i := 1) rfl) rfl rfl rfl (Nat.le_of_ble_eq_true rfl) dX7_layMean_115 (fun w28 H locs e29 f30 hW => ?_)
        refine lv_aload_n C.1 C.2.1 dX7_layMean_118 rfl (lv_at hl 7 rfl) ?_
        refine lv_lload C.1 C.2.1 dX7_layMean_119 (lv_at hl 1 rfl) ?_
        refine lv_lload C.1 C.2.1 dX7_layMean_121 (lv_at hl 0 rfl) ?_
        refine lv_iconst (v := (nI 1)) C.1 C.2.1 dX7_layMean_123 (by decide) ?_
        refine xcS_l (n := 3) (As := [.long (lN (((redU (mS (onF L) (backF L) (L 2) f) (mP (onF L) f)) * (redD (mA (onF L) (backF L) (f + 1)) (mP (onF L) (f + 1)))) + ((redU (mA (onF L) (backF L) (f + 1)) (mP (onF L) (f + 1))) * (redD (mS (onF L) (backF L) (L 2) f) (mP (onF L) f))))), .long (lN ((redD (mS (onF L) (backF L) (L 2) f) (mP (onF L) f)) * (redD (mA (onF L) (backF L) (f + 1)) (mP (onF L) (f + 1))))), .int (nI 1)]) C hK hW (c_X7_part l g w28 (((redU (mS (onF L) (backF L) (L 2) f) (mP (onF L) f)) * (redD (mA (onF L) (backF L) (f + 1)) (mP (onF L) (f + 1)))) + ((redU (mA (onF L) (backF L) (f + 1)) (mP (onF L) (f + 1))) * (redD (mS (onF L) (backF L) (L 2) f) (mP (onF L) f)))) ((redD (mS (onF L) (backF L) (L 2) f) (mP (onF L) f)) * (redD (mA (onF L) (backF L) (f + 1)) (mP (onF L) (f + 1)))) 1 hI hN (by omega) (by omega) (by omega) (by omega)) gX7_layMean_X7_part rfl ⟨rfl, rfl⟩ (by decide +kernel) ⟨Nat.le_of_ble_eq_true rfl, Nat.le_of_ble_eq_true rfl⟩ ⟨Nat.zero_le _, Nat.zero_le _⟩ rfl hl rfl (Nat.le_of_ble_eq_true rfl) dX7_layMean_124 (fun r33 w31 H locs q32 hW => ?_)
        obtain ⟨qw34, rfl⟩ := q32
        rw [qw34] at hW
        refine xtopL (b := redD (mS (onF L) (backF L) (L 2) (f + 1)) (mP (onF L) (f + 1))) (by rw [if_neg (by decide), show mS (onF L) (backF L) (L 2) (f + 1) = mS (onF L) (backF L) (L 2) f * onF L f + mA (onF L) (backF L) (f + 1) from if_pos (by omega), show mP (onF L) (f + 1) = onF L f * mP (onF L) f from rfl, (red_sum hb.1 (by omega)).2]) ?_
        refine xput (v := .long (lN (redD (mS (onF L) (backF L) (L 2) (f + 1)) (mP (onF L) (f + 1))))) C hK hW hinX7 tyX7_ok nmX7 rfl (by omega) e29 16 (by decide) (List.mem_of_getElem? (i := 2) rfl) rfl rfl rfl (Nat.le_of_ble_eq_true rfl) dX7_layMean_127 (fun w35 H locs e36 f37 hW => ?_)
        refine lv_iinc (v := nI (f + 1)) (lv' := [(7, .int (nI (f + 1))), (14, .long (lN ((redD (mS (onF L) (backF L) (L 2) f) (mP (onF L) f)) * (redD (mA (onF L) (backF L) (f + 1)) (mP (onF L) (f + 1)))))), (12, .long (lN (((redU (mS (onF L) (backF L) (L 2) f) (mP (onF L) f)) * (redD (mA (onF L) (backF L) (f + 1)) (mP (onF L) (f + 1)))) + ((redU (mA (onF L) (backF L) (f + 1)) (mP (onF L) (f + 1))) * (redD (mS (onF L) (backF L) (L 2) f) (mP (onF L) f)))))), (5, .long (lN (redD (mA (onF L) (backF L) (f + 1)) (mP (onF L) (f + 1))))), (3, .long (lN (redU (mA (onF L) (backF L) (f + 1)) (mP (onF L) (f + 1))))), (10, .long (lN (onF L f * redD (mA (onF L) (backF L) f) (mP (onF L) f)))), (8, .long (lN ((10 * (redD (mA (onF L) (backF L) f) (mP (onF L) f))) + ((backF L f) * (redU (mA (onF L) (backF L) f) (mP (onF L) f)))))), (0, .ref (gad g 119)), (1, .ref (gad g i)), (2, .int (nI t))]) C.1 C.2.1 dX7_layMean_130 hl (k := 6) rfl (nI_add _ 1) (by decide) rfl (fun ls hl => ?_)
        refine lv_goto (tgt := 18) C.1 C.2.1 dX7_layMean_133 (by decide) ?_
        have h38 : w35 i = .inl (gI g, 177, .inl (cK 177 0 L)) := ((f37 i (by omega)).trans ((f30 i (by omega)).trans fa18_1))
        exact ih18 (t - (f + 1)) (by omega) (f + 1) w35 _ _ _ rfl e36 h38 (fun j z0 => ((f37 j (by omega)).trans ((f30 j (by omega)).trans (hfr18 j z0)))) (by omega) hW (lv_sub hl [0, 3, 4, 7, 8, 9] rfl)
  have h39 : w4 i = .inl (gI g, 177, .inl (cK 177 0 L)) := ((f6 i (by omega)).trans ((f3 i (by omega)).trans pr1))
  exact loop18 _ 0 w4 _ _ _ rfl (e5.trans (by rw [rS0, rS1]; rfl)) h39 (fun j z0 => ((f6 j (by omega)).trans (f3 j (by omega)))) (by omega) hW hl

set_option maxHeartbeats 4000000 in
set_option maxRecDepth 100000 in
theorem c_X7_chance (l : Launch) (g : GE) (w : Nat → va_E) (L K T ln sz : Nat → Nat) (hk tn : Nat) (Z : Nat → Int64) (x : Int32) (y : Int32) (z : Int32) (hI : AdInj g) (hN : gN g = 130) (hS : OkS (L, K, hk, tn, T, ln, sz, Z)) (pr0 : MAll g (L, K, hk, tn, T, ln, sz, Z) w) : Met l yX7_chance wsX7_chance ({ frames := 3, cells := 0, slots := 0, locals := 79 } : Room) (XPc g w [.ref (gad g 119), .int x, .int y, .int z]) (XQi g (fun r w' => MAll g (L, K, hk, tn, T, ln, sz, Z) w' ∧ (∀ j : Nat, ¬ (119 ≤ j ∧ j < 130) → w' j = w j) ∧ r = chanceS L x y z)) 0 0 (gA g) := by
  refine xmet (cc := cX7_chance) (maxL := 4) (ret := (some .int)) (by decide) rfl hI (Nat.le_of_ble_eq_true rfl) ?_
  intro pG eG sG mG belowG methG cG ls C hr hlk hK hW hl
  have hl : lv_has ls 4 [(0, .ref (gad g 119)), (1, .int x), (2, .int y), (3, .int z)] := hl
  have hinX7 : ∀ x ∈ u_ws RX7 TX7 19, x ∈ wsX7_chance := by decide +kernel
  obtain ⟨po, ao, mu, md, bu, bd, nu, TR, RD, KP, O, A, m0, m1, m2, m3, m4, m5, m6, m7, m8, m9, m10, m11⟩ := pr0
  have hokL : OkL L := hS.1
  obtain ⟨hok, hs2, hdy, hdr, hcl, hkn, hcs, hps⟩ := hokL
  have htn : tn ≤ 80 := hS.2.2.1
  have hlz : ∀ s, s < 4 → ln s ≤ 4 ∧ sz s ≤ 24 := hS.2.2.2.2
  have m0 : w 119 = .inr (7, [.ref (gad g 120), .ref (gad g 121), .ref (gad g 122), .int (nI tn), .ref (gad g 123), .int (nI po), .int nu, .ref (gad g 124), .ref (gad g 125), .ref (gad g 126), .ref (gad g 127), .int (nI hk), .ref (gad g 128), .ref (gad g 129), .long (lN ao), .long (lN mu), .long (lN md), .long (lN bu), .long (lN bd)]) := m0
  have m1 : w 120 = .inl (gI g, 4, .inl (kK 0 4 0 (laF ln))) := m1
  have m2 : w 121 = .inl (gI g, 4, .inl (cK 4 0 sz)) := m2
  have m3 : w 122 = .inl (gJ g, 96, .inr (.inl (kK 0 96 0 Z))) := m3
  have m4 : w 123 = .inl (gI g, 80, .inl (cK 80 0 T)) := m4
  have m5 : w 124 = .inl (gI g, 177, .inl (cK 177 0 L)) := m5
  have m9 : hk = 1 → KP = K := m9
  refine lv_iload_n C.1 C.2.1 dX7_chance_0 rfl (lv_at hl 1 rfl) ?_
  refine xcS_i (n := 1) (As := [.int x]) C hK hW (c_X7_isField l g w x hI hN) gX7_chance_X7_isField rfl ⟨rfl, rfl⟩ (by decide +kernel) ⟨Nat.le_of_ble_eq_true rfl, Nat.le_of_ble_eq_true rfl⟩ ⟨Nat.zero_le _, Nat.zero_le _⟩ rfl hl rfl (Nat.le_of_ble_eq_true rfl) dX7_chance_1 (fun r3 w1 H locs q2 hW => ?_)
  obtain ⟨qw4, rfl⟩ := q2
  rw [qw4] at hW
  refine xBeq (tgt := 26) C dX7_chance_4 (by decide) (fun c4 => ?_) (fun c4 => ?_)
  · refine lv_iconst (v := (-1 : Int32)) C.1 C.2.1 dX7_chance_26 (by decide) ?_
    exact xret_i C hr hlk hW ⟨⟨_, _, _, _, _, _, _, _, _, _, _, _, m0, m1, m2, m3, m4, m5, m6, m7, m8, m9, m10, m11⟩, (fun j z0 => rfl), (by rw [chanceS, if_neg (c := in6 x ∧ in9 y ∧ inR z (nI 0) (nI 1)) (fun h => c4 h.1)])⟩ dX7_chance_27
  · refine lv_iload_n C.1 C.2.1 dX7_chance_7 rfl (lv_at hl 2 rfl) ?_
    refine lv_iconst (v := (nI 0)) C.1 C.2.1 dX7_chance_8 (by decide) ?_
    refine lv_bipush (v := (nI 9)) C.1 C.2.1 dX7_chance_9 (by decide) ?_
    refine xcS_i (n := 3) (As := [.int y, .int (nI 0), .int (nI 9)]) C hK hW (c_X7_in l g w y (nI 0) (nI 9) hI hN) gX7_chance_X7_in rfl ⟨rfl, rfl⟩ (by decide +kernel) ⟨Nat.le_of_ble_eq_true rfl, Nat.le_of_ble_eq_true rfl⟩ ⟨Nat.zero_le _, Nat.zero_le _⟩ rfl hl rfl (Nat.le_of_ble_eq_true rfl) dX7_chance_11 (fun r7 w5 H locs q6 hW => ?_)
    obtain ⟨qw8, rfl⟩ := q6
    rw [qw8] at hW
    refine xBeq (tgt := 26) C dX7_chance_14 (by decide) (fun c14 => ?_) (fun c14 => ?_)
    · refine lv_iconst (v := (-1 : Int32)) C.1 C.2.1 dX7_chance_26 (by decide) ?_
      exact xret_i C hr hlk hW ⟨⟨_, _, _, _, _, _, _, _, _, _, _, _, m0, m1, m2, m3, m4, m5, m6, m7, m8, m9, m10, m11⟩, (fun j z0 => rfl), (by rw [chanceS, if_neg (c := in6 x ∧ in9 y ∧ inR z (nI 0) (nI 1)) (fun h => c14 h.2.1)])⟩ dX7_chance_27
    · refine lv_iload_n C.1 C.2.1 dX7_chance_17 rfl (lv_at hl 3 rfl) ?_
      refine lv_iconst (v := (nI 0)) C.1 C.2.1 dX7_chance_18 (by decide) ?_
      refine lv_iconst (v := (nI 1)) C.1 C.2.1 dX7_chance_19 (by decide) ?_
      refine xcS_i (n := 3) (As := [.int z, .int (nI 0), .int (nI 1)]) C hK hW (c_X7_in l g w z (nI 0) (nI 1) hI hN) gX7_chance_X7_in rfl ⟨rfl, rfl⟩ (by decide +kernel) ⟨Nat.le_of_ble_eq_true rfl, Nat.le_of_ble_eq_true rfl⟩ ⟨Nat.zero_le _, Nat.zero_le _⟩ rfl hl rfl (Nat.le_of_ble_eq_true rfl) dX7_chance_20 (fun r11 w9 H locs q10 hW => ?_)
      obtain ⟨qw12, rfl⟩ := q10
      rw [qw12] at hW
      refine xBne (tgt := 28) C dX7_chance_23 (by decide) (fun c23 => ?_) (fun c23 => ?_)
      · obtain ⟨k1, ha_k1, hb_k1, hx_k1⟩ := inR_N (by omega) (by omega) c4
        rw [hx_k1] at hl
        obtain ⟨k2, ha_k2, hb_k2, hx_k2⟩ := inR_N (by omega) (by omega) c14
        rw [hx_k2] at hl
        obtain ⟨k3, ha_k3, hb_k3, hx_k3⟩ := inR_N (by omega) (by omega) c23
        rw [hx_k3] at hl
        refine lv_aload_n C.1 C.2.1 dX7_chance_28 rfl (lv_at hl 0 rfl) ?_
        refine lv_aload_n C.1 C.2.1 dX7_chance_29 rfl (lv_at hl 0 rfl) ?_
        refine xget C hK hW hinX7 rfl (by omega) m0 7 (by decide) (List.mem_of_getElem? (i := 1) rfl) rfl dX7_chance_30 ?_
        refine lv_aload_n C.1 C.2.1 dX7_chance_33 rfl (lv_at hl 0 rfl) ?_
        refine xget C hK hW hinX7 rfl (by omega) m0 7 (by decide) (List.mem_of_getElem? (i := 1) rfl) rfl dX7_chance_34 ?_
        refine lv_iconst (v := (nI 2)) C.1 C.2.1 dX7_chance_37 (by decide) ?_
        refine xildK0 C hK hW (by omega) m5 (by omega) (by decide) dX7_chance_38 ?_
        refine lv_iload_n C.1 C.2.1 dX7_chance_39 rfl (lv_at hl 2 rfl) ?_
        refine lv_iconst (v := (nI 0)) C.1 C.2.1 dX7_chance_40 (by decide) ?_
        refine xcV_v (n := 4) (As := [.ref (gad g 124), .int (nI (L 2)), .int (nI k2), .int (nI 0)]) C hK hW (c_X7_layOdds l g w 124 (L 2) k2 tn po hk ao mu md bu bd nu L O A hI hN (by omega) (by omega) (by omega) hok m0 m5 m10 m11) gX7_chance_X7_layOdds rfl ⟨rfl, rfl⟩ (by decide +kernel) ⟨Nat.le_of_ble_eq_true rfl, Nat.le_of_ble_eq_true rfl⟩ ⟨Nat.zero_le _, Nat.zero_le _⟩ rfl (by omega) m0 rfl hl rfl (Nat.le_of_ble_eq_true rfl) dX7_chance_41 (fun w13 H locs q14 hW => ?_)
        obtain ⟨T1_20, h16, h17, h18, f19⟩ := q14
        have h21 : w13 128 = .inl (gJ g, 7, .inr (.inl (cL 7 0 (odF L k2)))) := h17
        have hO := fun f (hf : f < 7) => odF_le (L := L) (n := k2) (f := f) (by omega) hf
        have hp := p10 (k := k2) (by omega)
        have hO1 := hO k1 (by omega)
        refine lv_aload_n C.1 C.2.1 dX7_chance_44 rfl (lv_at hl 0 rfl) ?_
        refine xget C hK hW hinX7 rfl (by omega) h16 12 (by decide) (List.mem_of_getElem? (i := 2) rfl) rfl dX7_chance_45 ?_
        refine lv_iload_n C.1 C.2.1 dX7_chance_48 rfl (lv_at hl 1 rfl) ?_
        refine xlldK0 C hK hW (by omega) h21 (by omega) (by decide) dX7_chance_49 ?_
        refine lv_aload_n C.1 C.2.1 dX7_chance_50 rfl (lv_at hl 0 rfl) ?_
        refine xget C hK hW hinX7 rfl (by omega) h16 14 (by decide) (List.mem_of_getElem? (i := 3) rfl) rfl dX7_chance_51 ?_
        refine lv_iload_n C.1 C.2.1 dX7_chance_54 rfl (lv_at hl 3 rfl) ?_
        refine xcS_l (n := 3) (As := [.long (lN ((odF L k2) k1)), .long (lN (10 ^ k2)), .int (nI k3)]) C hK hW (c_X7_part l g w13 ((odF L k2) k1) (10 ^ k2) k3 hI hN (by omega) (by omega) (by omega) (by omega)) gX7_chance_X7_part rfl ⟨rfl, rfl⟩ (by decide +kernel) ⟨Nat.le_of_ble_eq_true rfl, Nat.le_of_ble_eq_true rfl⟩ ⟨Nat.zero_le _, Nat.zero_le _⟩ rfl hl rfl (Nat.le_of_ble_eq_true rfl) dX7_chance_55 (fun r24 w22 H locs q23 hW => ?_)
        obtain ⟨qw25, rfl⟩ := q23
        rw [qw25] at hW
        refine xl2i C dX7_chance_58 ?_
        have h26 : w13 120 = .inl (gI g, 4, .inl (kK 0 4 0 (laF ln))) := ((f19 120 (by omega) (by omega)).trans m1)
        have h27 : w13 121 = .inl (gI g, 4, .inl (cK 4 0 sz)) := ((f19 121 (by omega) (by omega)).trans m2)
        have h28 : w13 122 = .inl (gJ g, 96, .inr (.inl (kK 0 96 0 Z))) := ((f19 122 (by omega) (by omega)).trans m3)
        have h29 : w13 123 = .inl (gI g, 80, .inl (cK 80 0 T)) := ((f19 123 (by omega) (by omega)).trans m4)
        have h30 : w13 124 = .inl (gI g, 177, .inl (cK 177 0 L)) := ((f19 124 (by omega) (by omega)).trans m5)
        have h31 : w13 125 = .inl (gI g, 177, .inl (cK 177 0 TR)) := ((f19 125 (by omega) (by omega)).trans m6)
        have h32 : w13 126 = .inl (gI g, 177, .inl (cK 177 0 RD)) := ((f19 126 (by omega) (by omega)).trans m7)
        have h33 : w13 127 = .inl (gI g, 177, .inl (cK 177 0 KP)) := ((f19 127 (by omega) (by omega)).trans m8)
        exact xret_i C hr hlk hW ⟨⟨_, _, _, _, _, _, _, _, _, _, _, _, h16, h26, h27, h28, h29, h30, h31, h32, h33, m9, h21, h18⟩, (fun j z0 => (f19 j (by omega) (by omega))), (by rw [chanceS, if_pos (c := in6 x ∧ in9 y ∧ inR z (nI 0) (nI 1)) ⟨c4, c14, c23⟩, hx_k1, hx_k2, hx_k3, cl_nI (by omega), cl_nI (by omega), cl_nI (by omega)])⟩ dX7_chance_59
      · refine lv_iconst (v := (-1 : Int32)) C.1 C.2.1 dX7_chance_26 (by decide) ?_
        exact xret_i C hr hlk hW ⟨⟨_, _, _, _, _, _, _, _, _, _, _, _, m0, m1, m2, m3, m4, m5, m6, m7, m8, m9, m10, m11⟩, (fun j z0 => rfl), (by rw [chanceS, if_neg (c := in6 x ∧ in9 y ∧ inR z (nI 0) (nI 1)) (fun h => c23 h.2.2)])⟩ dX7_chance_27

set_option maxHeartbeats 4000000 in
set_option maxRecDepth 100000 in
theorem c_X7_likely (l : Launch) (g : GE) (w : Nat → va_E) (L K T ln sz : Nat → Nat) (hk tn : Nat) (Z : Nat → Int64) (y : Int32) (hI : AdInj g) (hN : gN g = 130) (hS : OkS (L, K, hk, tn, T, ln, sz, Z)) (pr0 : MAll g (L, K, hk, tn, T, ln, sz, Z) w) : Met l yX7_likely wsX7_likely ({ frames := 3, cells := 0, slots := 0, locals := 79 } : Room) (XPc g w [.ref (gad g 119), .int y]) (XQi g (fun r w' => MAll g (L, K, hk, tn, T, ln, sz, Z) w' ∧ (∀ j : Nat, ¬ (119 ≤ j ∧ j < 130) → w' j = w j) ∧ r = likelyS L y)) 0 0 (gA g) := by
  refine xmet (cc := cX7_likely) (maxL := 4) (ret := (some .int)) (by decide) rfl hI (Nat.le_of_ble_eq_true rfl) ?_
  intro pG eG sG mG belowG methG cG ls C hr hlk hK hW hl
  have hl : lv_has ls 4 [(0, .ref (gad g 119)), (1, .int y)] := hl
  have hinX7 : ∀ x ∈ u_ws RX7 TX7 19, x ∈ wsX7_likely := by decide +kernel
  obtain ⟨po, ao, mu, md, bu, bd, nu, TR, RD, KP, O, A, m0, m1, m2, m3, m4, m5, m6, m7, m8, m9, m10, m11⟩ := pr0
  have hokL : OkL L := hS.1
  obtain ⟨hok, hs2, hdy, hdr, hcl, hkn, hcs, hps⟩ := hokL
  have htn : tn ≤ 80 := hS.2.2.1
  have hlz : ∀ s, s < 4 → ln s ≤ 4 ∧ sz s ≤ 24 := hS.2.2.2.2
  have m0 : w 119 = .inr (7, [.ref (gad g 120), .ref (gad g 121), .ref (gad g 122), .int (nI tn), .ref (gad g 123), .int (nI po), .int nu, .ref (gad g 124), .ref (gad g 125), .ref (gad g 126), .ref (gad g 127), .int (nI hk), .ref (gad g 128), .ref (gad g 129), .long (lN ao), .long (lN mu), .long (lN md), .long (lN bu), .long (lN bd)]) := m0
  have m1 : w 120 = .inl (gI g, 4, .inl (kK 0 4 0 (laF ln))) := m1
  have m2 : w 121 = .inl (gI g, 4, .inl (cK 4 0 sz)) := m2
  have m3 : w 122 = .inl (gJ g, 96, .inr (.inl (kK 0 96 0 Z))) := m3
  have m4 : w 123 = .inl (gI g, 80, .inl (cK 80 0 T)) := m4
  have m5 : w 124 = .inl (gI g, 177, .inl (cK 177 0 L)) := m5
  have m9 : hk = 1 → KP = K := m9
  refine lv_iload_n C.1 C.2.1 dX7_likely_0 rfl (lv_at hl 1 rfl) ?_
  refine lv_iconst (v := (nI 0)) C.1 C.2.1 dX7_likely_1 (by decide) ?_
  refine lv_bipush (v := (nI 9)) C.1 C.2.1 dX7_likely_2 (by decide) ?_
  refine xcS_i (n := 3) (As := [.int y, .int (nI 0), .int (nI 9)]) C hK hW (c_X7_in l g w y (nI 0) (nI 9) hI hN) gX7_likely_X7_in rfl ⟨rfl, rfl⟩ (by decide +kernel) ⟨Nat.le_of_ble_eq_true rfl, Nat.le_of_ble_eq_true rfl⟩ ⟨Nat.zero_le _, Nat.zero_le _⟩ rfl hl rfl (Nat.le_of_ble_eq_true rfl) dX7_likely_4 (fun r3 w1 H locs q2 hW => ?_)
  obtain ⟨qw4, rfl⟩ := q2
  rw [qw4] at hW
  refine xBne (tgt := 12) C dX7_likely_7 (by decide) (fun c7 => ?_) (fun c7 => ?_)
  · obtain ⟨k2, ha_k2, hb_k2, hx_k2⟩ := inR_N (by omega) (by omega) c7
    rw [hx_k2] at hl
    refine lv_aload_n C.1 C.2.1 dX7_likely_12 rfl (lv_at hl 0 rfl) ?_
    refine lv_aload_n C.1 C.2.1 dX7_likely_13 rfl (lv_at hl 0 rfl) ?_
    refine xget C hK hW hinX7 rfl (by omega) m0 7 (by decide) (List.mem_of_getElem? (i := 1) rfl) rfl dX7_likely_14 ?_
    refine lv_aload_n C.1 C.2.1 dX7_likely_17 rfl (lv_at hl 0 rfl) ?_
    refine xget C hK hW hinX7 rfl (by omega) m0 7 (by decide) (List.mem_of_getElem? (i := 1) rfl) rfl dX7_likely_18 ?_
    refine lv_iconst (v := (nI 2)) C.1 C.2.1 dX7_likely_21 (by decide) ?_
    refine xildK0 C hK hW (by omega) m5 (by omega) (by decide) dX7_likely_22 ?_
    refine lv_iload_n C.1 C.2.1 dX7_likely_23 rfl (lv_at hl 1 rfl) ?_
    refine lv_iconst (v := (nI 0)) C.1 C.2.1 dX7_likely_24 (by decide) ?_
    refine xcV_v (n := 4) (As := [.ref (gad g 124), .int (nI (L 2)), .int (nI k2), .int (nI 0)]) C hK hW (c_X7_layOdds l g w 124 (L 2) k2 tn po hk ao mu md bu bd nu L O A hI hN (by omega) (by omega) (by omega) hok m0 m5 m10 m11) gX7_likely_X7_layOdds rfl ⟨rfl, rfl⟩ (by decide +kernel) ⟨Nat.le_of_ble_eq_true rfl, Nat.le_of_ble_eq_true rfl⟩ ⟨Nat.zero_le _, Nat.zero_le _⟩ rfl (by omega) m0 rfl hl rfl (Nat.le_of_ble_eq_true rfl) dX7_likely_25 (fun w5 H locs q6 hW => ?_)
    obtain ⟨T1_12, h8, h9, h10, f11⟩ := q6
    have h13 : w5 128 = .inl (gJ g, 7, .inr (.inl (cL 7 0 (odF L k2)))) := h9
    have hO := fun f (hf : f < 7) => odF_le (L := L) (n := k2) (f := f) (by omega) hf
    have hp := p10 (k := k2) (by omega)
    refine lv_iconst (v := (nI 0)) C.1 C.2.1 dX7_likely_28 (by decide) ?_
    refine lv_istore_n (lv' := [(2, .int (nI 0)), (0, .ref (gad g 119)), (1, .int (nI k2))]) C.1 C.2.1 dX7_likely_29 rfl hl (by decide) rfl (fun ls hl => ?_)
    refine lv_iconst (v := (nI 1)) C.1 C.2.1 dX7_likely_30 (by decide) ?_
    refine lv_istore_n (lv' := [(3, .int (nI 1)), (2, .int (nI 0)), (0, .ref (gad g 119)), (1, .int (nI k2))]) C.1 C.2.1 dX7_likely_31 rfl hl (by decide) rfl (fun ls hl => ?_)
    have h14 : w5 120 = .inl (gI g, 4, .inl (kK 0 4 0 (laF ln))) := ((f11 120 (by omega) (by omega)).trans m1)
    have h15 : w5 121 = .inl (gI g, 4, .inl (cK 4 0 sz)) := ((f11 121 (by omega) (by omega)).trans m2)
    have h16 : w5 122 = .inl (gJ g, 96, .inr (.inl (kK 0 96 0 Z))) := ((f11 122 (by omega) (by omega)).trans m3)
    have h17 : w5 123 = .inl (gI g, 80, .inl (cK 80 0 T)) := ((f11 123 (by omega) (by omega)).trans m4)
    have h18 : w5 124 = .inl (gI g, 177, .inl (cK 177 0 L)) := ((f11 124 (by omega) (by omega)).trans m5)
    have h19 : w5 125 = .inl (gI g, 177, .inl (cK 177 0 TR)) := ((f11 125 (by omega) (by omega)).trans m6)
    have h20 : w5 126 = .inl (gI g, 177, .inl (cK 177 0 RD)) := ((f11 126 (by omega) (by omega)).trans m7)
    have h21 : w5 127 = .inl (gI g, 177, .inl (cK 177 0 KP)) := ((f11 127 (by omega) (by omega)).trans m8)
    have loop32 : ∀ (kG : Nat) (i : Nat) (H : Heap) (locs : List Loc) (ls : Array Slot), kG = 6 - i → (i ≤ 6) → XW g w5 (gA g) sG.heap H locs → lv_has ls 4 [(3, .int (nI (i + 1))), (2, .int (nI (bestF (odF L k2) i))), (0, .ref (gad g 119)), (1, .int (nI k2))] → W pG l eG ({ frames := 3, cells := 0, slots := 0, locals := 79 } : Room) sG mG ([.ref (gad g 119), .int y] : List Value).toArray belowG methG cG H locs 0 0 (MQ belowG (XQi g (fun r w' => MAll g (L, K, hk, tn, T, ln, sz, Z) w' ∧ (∀ j : Nat, ¬ (119 ≤ j ∧ j < 130) → w' j = w j) ∧ r = likelyS L y)) ([.ref (gad g 119), .int y] : List Value).toArray sG 0 0 (gA g)) (F0 mG 32 ls []) := by
      intro k32
      induction k32 using Nat.strongRecOn with
      | _ k32 ih32 =>
      intro i H locs ls hk32 hi hW hl
      refine lv_iload_n C.1 C.2.1 dX7_likely_32 rfl (lv_at hl 0 rfl) ?_
      refine lv_bipush (v := (nI 7)) C.1 C.2.1 dX7_likely_33 (by decide) ?_
      refine xge (tgt := 66) C (by omega) (by omega) dX7_likely_35 (by decide) (fun c35 => ?_) (fun c35 => ?_)
      · refine lv_iload_n C.1 C.2.1 dX7_likely_66 rfl (lv_at hl 1 rfl) ?_
        exact xret_i C hr hlk hW ⟨⟨_, _, _, _, _, _, _, _, _, _, _, _, h8, h14, h15, h16, h17, h18, h19, h20, h21, m9, h13, h10⟩, (fun j z0 => (f11 j (by omega) (by omega))), (by rw [likelyS, if_pos (c := in9 y) c7, hx_k2, cl_nI (by omega), show i = 6 by omega])⟩ dX7_likely_67
      · have hbi := bestF_le (odF L k2) i
        have hO1 := hO (i + 1) (by omega)
        have hO2 := hO (bestF (odF L k2) i) (by omega)
        refine lv_aload_n C.1 C.2.1 dX7_likely_38 rfl (lv_at hl 2 rfl) ?_
        refine xget C hK hW hinX7 rfl (by omega) h8 12 (by decide) (List.mem_of_getElem? (i := 2) rfl) rfl dX7_likely_39 ?_
        refine lv_iload_n C.1 C.2.1 dX7_likely_42 rfl (lv_at hl 0 rfl) ?_
        refine xlldK0 C hK hW (by omega) h13 (by omega) (by decide) dX7_likely_43 ?_
        refine lv_aload_n C.1 C.2.1 dX7_likely_44 rfl (lv_at hl 2 rfl) ?_
        refine xget C hK hW hinX7 rfl (by omega) h8 12 (by decide) (List.mem_of_getElem? (i := 2) rfl) rfl dX7_likely_45 ?_
        refine lv_iload_n C.1 C.2.1 dX7_likely_48 rfl (lv_at hl 1 rfl) ?_
        refine xlldK0 C hK hW (by omega) h13 (by omega) (by decide) dX7_likely_49 ?_
        refine xLle (tgt := 58) C (by omega) (by omega) dX7_likely_50 dX7_likely_51 (by decide) (fun c50 => ?_) (fun c50 => ?_)
        · refine lv_iload_n C.1 C.2.1 dX7_likely_58 rfl (lv_at hl 1 rfl) ?_
          refine xtopN (b := bestF (odF L k2) (i + 1)) (bestF_n (by omega)).symm ?_
          refine lv_istore_n (lv' := [(2, .int (nI (bestF (odF L k2) (i + 1)))), (3, .int (nI (i + 1))), (0, .ref (gad g 119)), (1, .int (nI k2))]) C.1 C.2.1 dX7_likely_59 rfl hl (by decide) rfl (fun ls hl => ?_)
          refine lv_iinc (v := nI (i + 2)) (lv' := [(3, .int (nI (i + 2))), (2, .int (nI (bestF (odF L k2) (i + 1)))), (0, .ref (gad g 119)), (1, .int (nI k2))]) C.1 C.2.1 dX7_likely_60 hl (k := 1) rfl (nI_add _ 1) (by decide) rfl (fun ls hl => ?_)
          refine lv_goto (tgt := 32) C.1 C.2.1 dX7_likely_63 (by decide) ?_
          exact ih32 (6 - (i + 1)) (by omega) (i + 1) _ _ _ rfl (by omega) hW hl
        · refine lv_iload_n C.1 C.2.1 dX7_likely_54 rfl (lv_at hl 0 rfl) ?_
          refine lv_goto (tgt := 59) C.1 C.2.1 dX7_likely_55 (by decide) ?_
          refine xtopN (b := bestF (odF L k2) (i + 1)) (bestF_y (by omega)).symm ?_
          refine lv_istore_n (lv' := [(2, .int (nI (bestF (odF L k2) (i + 1)))), (3, .int (nI (i + 1))), (0, .ref (gad g 119)), (1, .int (nI k2))]) C.1 C.2.1 dX7_likely_59 rfl hl (by decide) rfl (fun ls hl => ?_)
          refine lv_iinc (v := nI (i + 2)) (lv' := [(3, .int (nI (i + 2))), (2, .int (nI (bestF (odF L k2) (i + 1)))), (0, .ref (gad g 119)), (1, .int (nI k2))]) C.1 C.2.1 dX7_likely_60 hl (k := 1) rfl (nI_add _ 1) (by decide) rfl (fun ls hl => ?_)
          refine lv_goto (tgt := 32) C.1 C.2.1 dX7_likely_63 (by decide) ?_
          exact ih32 (6 - (i + 1)) (by omega) (i + 1) _ _ _ rfl (by omega) hW hl
    exact loop32 _ 0 _ _ _ rfl (by omega) hW hl
  · refine lv_iconst (v := (-1 : Int32)) C.1 C.2.1 dX7_likely_10 (by decide) ?_
    exact xret_i C hr hlk hW ⟨⟨_, _, _, _, _, _, _, _, _, _, _, _, m0, m1, m2, m3, m4, m5, m6, m7, m8, m9, m10, m11⟩, (fun j z0 => rfl), (by rw [likelyS, if_neg (c := in9 y) (fun h => c7 h)])⟩ dX7_likely_11

set_option maxHeartbeats 4000000 in
set_option maxRecDepth 100000 in
theorem c_X7_sure (l : Launch) (g : GE) (w : Nat → va_E) (L K T ln sz : Nat → Nat) (hk tn : Nat) (Z : Nat → Int64) (y : Int32) (hI : AdInj g) (hN : gN g = 130) (hS : OkS (L, K, hk, tn, T, ln, sz, Z)) (pr0 : MAll g (L, K, hk, tn, T, ln, sz, Z) w) : Met l yX7_sure wsX7_sure ({ frames := 3, cells := 0, slots := 0, locals := 79 } : Room) (XPc g w [.ref (gad g 119), .int y]) (XQi g (fun r w' => MAll g (L, K, hk, tn, T, ln, sz, Z) w' ∧ (∀ j : Nat, ¬ (119 ≤ j ∧ j < 130) → w' j = w j) ∧ r = sureS L y)) 0 0 (gA g) := by
  refine xmet (cc := cX7_sure) (maxL := 4) (ret := (some .int)) (by decide) rfl hI (Nat.le_of_ble_eq_true rfl) ?_
  intro pG eG sG mG belowG methG cG ls C hr hlk hK hW hl
  have hl : lv_has ls 4 [(0, .ref (gad g 119)), (1, .int y)] := hl
  have hinX7 : ∀ x ∈ u_ws RX7 TX7 19, x ∈ wsX7_sure := by decide +kernel
  obtain ⟨po, ao, mu, md, bu, bd, nu, TR, RD, KP, O, A, m0, m1, m2, m3, m4, m5, m6, m7, m8, m9, m10, m11⟩ := pr0
  have hokL : OkL L := hS.1
  obtain ⟨hok, hs2, hdy, hdr, hcl, hkn, hcs, hps⟩ := hokL
  have htn : tn ≤ 80 := hS.2.2.1
  have hlz : ∀ s, s < 4 → ln s ≤ 4 ∧ sz s ≤ 24 := hS.2.2.2.2
  have m0 : w 119 = .inr (7, [.ref (gad g 120), .ref (gad g 121), .ref (gad g 122), .int (nI tn), .ref (gad g 123), .int (nI po), .int nu, .ref (gad g 124), .ref (gad g 125), .ref (gad g 126), .ref (gad g 127), .int (nI hk), .ref (gad g 128), .ref (gad g 129), .long (lN ao), .long (lN mu), .long (lN md), .long (lN bu), .long (lN bd)]) := m0
  have m1 : w 120 = .inl (gI g, 4, .inl (kK 0 4 0 (laF ln))) := m1
  have m2 : w 121 = .inl (gI g, 4, .inl (cK 4 0 sz)) := m2
  have m3 : w 122 = .inl (gJ g, 96, .inr (.inl (kK 0 96 0 Z))) := m3
  have m4 : w 123 = .inl (gI g, 80, .inl (cK 80 0 T)) := m4
  have m5 : w 124 = .inl (gI g, 177, .inl (cK 177 0 L)) := m5
  have m9 : hk = 1 → KP = K := m9
  refine lv_iload_n C.1 C.2.1 dX7_sure_0 rfl (lv_at hl 1 rfl) ?_
  refine lv_iconst (v := (nI 0)) C.1 C.2.1 dX7_sure_1 (by decide) ?_
  refine lv_bipush (v := (nI 9)) C.1 C.2.1 dX7_sure_2 (by decide) ?_
  refine xcS_i (n := 3) (As := [.int y, .int (nI 0), .int (nI 9)]) C hK hW (c_X7_in l g w y (nI 0) (nI 9) hI hN) gX7_sure_X7_in rfl ⟨rfl, rfl⟩ (by decide +kernel) ⟨Nat.le_of_ble_eq_true rfl, Nat.le_of_ble_eq_true rfl⟩ ⟨Nat.zero_le _, Nat.zero_le _⟩ rfl hl rfl (Nat.le_of_ble_eq_true rfl) dX7_sure_4 (fun r3 w1 H locs q2 hW => ?_)
  obtain ⟨qw4, rfl⟩ := q2
  rw [qw4] at hW
  refine xBne (tgt := 12) C dX7_sure_7 (by decide) (fun c7 => ?_) (fun c7 => ?_)
  · obtain ⟨k2, ha_k2, hb_k2, hx_k2⟩ := inR_N (by omega) (by omega) c7
    rw [hx_k2] at hl
    refine lv_aload_n C.1 C.2.1 dX7_sure_12 rfl (lv_at hl 0 rfl) ?_
    refine lv_aload_n C.1 C.2.1 dX7_sure_13 rfl (lv_at hl 0 rfl) ?_
    refine xget C hK hW hinX7 rfl (by omega) m0 7 (by decide) (List.mem_of_getElem? (i := 1) rfl) rfl dX7_sure_14 ?_
    refine lv_aload_n C.1 C.2.1 dX7_sure_17 rfl (lv_at hl 0 rfl) ?_
    refine xget C hK hW hinX7 rfl (by omega) m0 7 (by decide) (List.mem_of_getElem? (i := 1) rfl) rfl dX7_sure_18 ?_
    refine lv_iconst (v := (nI 2)) C.1 C.2.1 dX7_sure_21 (by decide) ?_
    refine xildK0 C hK hW (by omega) m5 (by omega) (by decide) dX7_sure_22 ?_
    refine lv_iload_n C.1 C.2.1 dX7_sure_23 rfl (lv_at hl 1 rfl) ?_
    refine lv_iconst (v := (nI 0)) C.1 C.2.1 dX7_sure_24 (by decide) ?_
    refine xcV_v (n := 4) (As := [.ref (gad g 124), .int (nI (L 2)), .int (nI k2), .int (nI 0)]) C hK hW (c_X7_layOdds l g w 124 (L 2) k2 tn po hk ao mu md bu bd nu L O A hI hN (by omega) (by omega) (by omega) hok m0 m5 m10 m11) gX7_sure_X7_layOdds rfl ⟨rfl, rfl⟩ (by decide +kernel) ⟨Nat.le_of_ble_eq_true rfl, Nat.le_of_ble_eq_true rfl⟩ ⟨Nat.zero_le _, Nat.zero_le _⟩ rfl (by omega) m0 rfl hl rfl (Nat.le_of_ble_eq_true rfl) dX7_sure_25 (fun w5 H locs q6 hW => ?_)
    obtain ⟨T1_12, h8, h9, h10, f11⟩ := q6
    have h13 : w5 128 = .inl (gJ g, 7, .inr (.inl (cL 7 0 (odF L k2)))) := h9
    have hO := fun f (hf : f < 7) => odF_le (L := L) (n := k2) (f := f) (by omega) hf
    have hp := p10 (k := k2) (by omega)
    refine lv_iconst (v := (nI 0)) C.1 C.2.1 dX7_sure_28 (by decide) ?_
    refine lv_istore_n (lv' := [(2, .int (nI 0)), (0, .ref (gad g 119)), (1, .int (nI k2))]) C.1 C.2.1 dX7_sure_29 rfl hl (by decide) rfl (fun ls hl => ?_)
    refine lv_iconst (v := (nI 0)) C.1 C.2.1 dX7_sure_30 (by decide) ?_
    refine lv_istore_n (lv' := [(3, .int (nI 0)), (2, .int (nI 0)), (0, .ref (gad g 119)), (1, .int (nI k2))]) C.1 C.2.1 dX7_sure_31 rfl hl (by decide) rfl (fun ls hl => ?_)
    have h14 : w5 120 = .inl (gI g, 4, .inl (kK 0 4 0 (laF ln))) := ((f11 120 (by omega) (by omega)).trans m1)
    have h15 : w5 121 = .inl (gI g, 4, .inl (cK 4 0 sz)) := ((f11 121 (by omega) (by omega)).trans m2)
    have h16 : w5 122 = .inl (gJ g, 96, .inr (.inl (kK 0 96 0 Z))) := ((f11 122 (by omega) (by omega)).trans m3)
    have h17 : w5 123 = .inl (gI g, 80, .inl (cK 80 0 T)) := ((f11 123 (by omega) (by omega)).trans m4)
    have h18 : w5 124 = .inl (gI g, 177, .inl (cK 177 0 L)) := ((f11 124 (by omega) (by omega)).trans m5)
    have h19 : w5 125 = .inl (gI g, 177, .inl (cK 177 0 TR)) := ((f11 125 (by omega) (by omega)).trans m6)
    have h20 : w5 126 = .inl (gI g, 177, .inl (cK 177 0 RD)) := ((f11 126 (by omega) (by omega)).trans m7)
    have h21 : w5 127 = .inl (gI g, 177, .inl (cK 177 0 KP)) := ((f11 127 (by omega) (by omega)).trans m8)
    have loop32 : ∀ (kG : Nat) (i : Nat) (H : Heap) (locs : List Loc) (ls : Array Slot), kG = 7 - i → (i ≤ 7) → XW g w5 (gA g) sG.heap H locs → lv_has ls 4 [(3, .int (nI i)), (2, .int (setF (fun f => decide (0 < odF L k2 f)) i)), (0, .ref (gad g 119)), (1, .int (nI k2))] → W pG l eG ({ frames := 3, cells := 0, slots := 0, locals := 79 } : Room) sG mG ([.ref (gad g 119), .int y] : List Value).toArray belowG methG cG H locs 0 0 (MQ belowG (XQi g (fun r w' => MAll g (L, K, hk, tn, T, ln, sz, Z) w' ∧ (∀ j : Nat, ¬ (119 ≤ j ∧ j < 130) → w' j = w j) ∧ r = sureS L y)) ([.ref (gad g 119), .int y] : List Value).toArray sG 0 0 (gA g)) (F0 mG 32 ls []) := by
      intro k32
      induction k32 using Nat.strongRecOn with
      | _ k32 ih32 =>
      intro i H locs ls hk32 hi hW hl
      refine lv_iload_n C.1 C.2.1 dX7_sure_32 rfl (lv_at hl 0 rfl) ?_
      refine lv_bipush (v := (nI 7)) C.1 C.2.1 dX7_sure_33 (by decide) ?_
      refine xge (tgt := 65) C (by omega) (by omega) dX7_sure_35 (by decide) (fun c35 => ?_) (fun c35 => ?_)
      · refine lv_iload_n C.1 C.2.1 dX7_sure_65 rfl (lv_at hl 1 rfl) ?_
        exact xret_i C hr hlk hW ⟨⟨_, _, _, _, _, _, _, _, _, _, _, _, h8, h14, h15, h16, h17, h18, h19, h20, h21, m9, h13, h10⟩, (fun j z0 => (f11 j (by omega) (by omega))), (by rw [sureS, if_pos (c := in9 y) c7, hx_k2, cl_nI (by omega), show i = 7 by omega])⟩ dX7_sure_66
      · have hO1 := hO i (by omega)
        refine lv_iload_n C.1 C.2.1 dX7_sure_38 rfl (lv_at hl 1 rfl) ?_
        refine lv_aload_n C.1 C.2.1 dX7_sure_39 rfl (lv_at hl 2 rfl) ?_
        refine xget C hK hW hinX7 rfl (by omega) h8 12 (by decide) (List.mem_of_getElem? (i := 2) rfl) rfl dX7_sure_40 ?_
        refine lv_iload_n C.1 C.2.1 dX7_sure_43 rfl (lv_at hl 0 rfl) ?_
        refine xlldK0 C hK hW (by omega) h13 (by omega) (by decide) dX7_sure_44 ?_
        refine lv_lconst (v := lN 0) C.1 C.2.1 dX7_sure_45 (by decide) ?_
        refine xLle (tgt := 56) C (by omega) (by omega) dX7_sure_46 dX7_sure_47 (by decide) (fun c46 => ?_) (fun c46 => ?_)
        · refine lv_iconst (v := (nI 0)) C.1 C.2.1 dX7_sure_56 (by decide) ?_
          refine lv_ior C.1 C.2.1 dX7_sure_57 ?_
          refine xtopI (b := setF (fun f => decide (0 < odF L k2 f)) (i + 1)) ((or_nI0 _).trans (setF_n (p := fun f => decide (0 < odF L k2 f)) (fun z => absurd (of_decide_eq_true z) (by omega))).symm) ?_
          refine lv_istore_n (lv' := [(2, .int (setF (fun f => decide (0 < odF L k2 f)) (i + 1))), (3, .int (nI i)), (0, .ref (gad g 119)), (1, .int (nI k2))]) C.1 C.2.1 dX7_sure_58 rfl hl (by decide) rfl (fun ls hl => ?_)
          refine lv_iinc (v := nI (i + 1)) (lv' := [(3, .int (nI (i + 1))), (2, .int (setF (fun f => decide (0 < odF L k2 f)) (i + 1))), (0, .ref (gad g 119)), (1, .int (nI k2))]) C.1 C.2.1 dX7_sure_59 hl (k := 1) rfl (nI_add _ 1) (by decide) rfl (fun ls hl => ?_)
          refine lv_goto (tgt := 32) C.1 C.2.1 dX7_sure_62 (by decide) ?_
          exact ih32 (7 - (i + 1)) (by omega) (i + 1) _ _ _ rfl (by omega) hW hl
        · refine lv_iconst (v := (nI 1)) C.1 C.2.1 dX7_sure_50 (by decide) ?_
          refine lv_iload_n C.1 C.2.1 dX7_sure_51 rfl (lv_at hl 0 rfl) ?_
          refine lv_ishl C.1 C.2.1 dX7_sure_52 ?_
          refine lv_goto (tgt := 57) C.1 C.2.1 dX7_sure_53 (by decide) ?_
          refine lv_ior C.1 C.2.1 dX7_sure_57 ?_
          refine xtopI (b := setF (fun f => decide (0 < odF L k2 f)) (i + 1)) (setF_y (p := fun f => decide (0 < odF L k2 f)) (decide_eq_true (by omega))).symm ?_
          refine lv_istore_n (lv' := [(2, .int (setF (fun f => decide (0 < odF L k2 f)) (i + 1))), (3, .int (nI i)), (0, .ref (gad g 119)), (1, .int (nI k2))]) C.1 C.2.1 dX7_sure_58 rfl hl (by decide) rfl (fun ls hl => ?_)
          refine lv_iinc (v := nI (i + 1)) (lv' := [(3, .int (nI (i + 1))), (2, .int (setF (fun f => decide (0 < odF L k2 f)) (i + 1))), (0, .ref (gad g 119)), (1, .int (nI k2))]) C.1 C.2.1 dX7_sure_59 hl (k := 1) rfl (nI_add _ 1) (by decide) rfl (fun ls hl => ?_)
          refine lv_goto (tgt := 32) C.1 C.2.1 dX7_sure_62 (by decide) ?_
          exact ih32 (7 - (i + 1)) (by omega) (i + 1) _ _ _ rfl (by omega) hW hl
    exact loop32 _ 0 _ _ _ rfl (by omega) hW hl
  · refine lv_iconst (v := (-1 : Int32)) C.1 C.2.1 dX7_sure_10 (by decide) ?_
    exact xret_i C hr hlk hW ⟨⟨_, _, _, _, _, _, _, _, _, _, _, _, m0, m1, m2, m3, m4, m5, m6, m7, m8, m9, m10, m11⟩, (fun j z0 => rfl), (by rw [sureS, if_neg (c := in9 y) (fun h => c7 h)])⟩ dX7_sure_11

set_option maxHeartbeats 4000000 in
set_option maxRecDepth 100000 in
theorem c_X7_mean (l : Launch) (g : GE) (w : Nat → va_E) (L K T ln sz : Nat → Nat) (hk tn : Nat) (Z : Nat → Int64) (x : Int32) (z : Int32) (hI : AdInj g) (hN : gN g = 130) (hS : OkS (L, K, hk, tn, T, ln, sz, Z)) (pr0 : MAll g (L, K, hk, tn, T, ln, sz, Z) w) : Met l yX7_mean wsX7_mean ({ frames := 3, cells := 0, slots := 0, locals := 81 } : Room) (XPc g w [.ref (gad g 119), .int x, .int z]) (XQl g (fun r w' => MAll g (L, K, hk, tn, T, ln, sz, Z) w' ∧ (∀ j : Nat, ¬ (119 ≤ j ∧ j < 130) → w' j = w j) ∧ r = meanS L x z)) 0 0 (gA g) := by
  refine xmet (cc := cX7_mean) (maxL := 3) (ret := (some .long)) (by decide) rfl hI (Nat.le_of_ble_eq_true rfl) ?_
  intro pG eG sG mG belowG methG cG ls C hr hlk hK hW hl
  have hl : lv_has ls 3 [(0, .ref (gad g 119)), (1, .int x), (2, .int z)] := hl
  have hinX7 : ∀ x ∈ u_ws RX7 TX7 19, x ∈ wsX7_mean := by decide +kernel
  obtain ⟨po, ao, mu, md, bu, bd, nu, TR, RD, KP, O, A, m0, m1, m2, m3, m4, m5, m6, m7, m8, m9, m10, m11⟩ := pr0
  have hokL : OkL L := hS.1
  obtain ⟨hok, hs2, hdy, hdr, hcl, hkn, hcs, hps⟩ := hokL
  have htn : tn ≤ 80 := hS.2.2.1
  have hlz : ∀ s, s < 4 → ln s ≤ 4 ∧ sz s ≤ 24 := hS.2.2.2.2
  have m0 : w 119 = .inr (7, [.ref (gad g 120), .ref (gad g 121), .ref (gad g 122), .int (nI tn), .ref (gad g 123), .int (nI po), .int nu, .ref (gad g 124), .ref (gad g 125), .ref (gad g 126), .ref (gad g 127), .int (nI hk), .ref (gad g 128), .ref (gad g 129), .long (lN ao), .long (lN mu), .long (lN md), .long (lN bu), .long (lN bd)]) := m0
  have m1 : w 120 = .inl (gI g, 4, .inl (kK 0 4 0 (laF ln))) := m1
  have m2 : w 121 = .inl (gI g, 4, .inl (cK 4 0 sz)) := m2
  have m3 : w 122 = .inl (gJ g, 96, .inr (.inl (kK 0 96 0 Z))) := m3
  have m4 : w 123 = .inl (gI g, 80, .inl (cK 80 0 T)) := m4
  have m5 : w 124 = .inl (gI g, 177, .inl (cK 177 0 L)) := m5
  have m9 : hk = 1 → KP = K := m9
  refine lv_iload_n C.1 C.2.1 dX7_mean_0 rfl (lv_at hl 1 rfl) ?_
  refine lv_aload_n C.1 C.2.1 dX7_mean_1 rfl (lv_at hl 0 rfl) ?_
  refine xget C hK hW hinX7 rfl (by omega) m0 7 (by decide) (List.mem_of_getElem? (i := 1) rfl) rfl dX7_mean_2 ?_
  refine lv_iconst (v := (nI 2)) C.1 C.2.1 dX7_mean_5 (by decide) ?_
  refine xildK0 C hK hW (by omega) m5 (by omega) (by decide) dX7_mean_6 ?_
  refine lv_bipush (v := (nI 6)) C.1 C.2.1 dX7_mean_7 (by decide) ?_
  refine xcS_i (n := 3) (As := [.int x, .int (nI (L 2)), .int (nI 6)]) C hK hW (c_X7_in l g w x (nI (L 2)) (nI 6) hI hN) gX7_mean_X7_in rfl ⟨rfl, rfl⟩ (by decide +kernel) ⟨Nat.le_of_ble_eq_true rfl, Nat.le_of_ble_eq_true rfl⟩ ⟨Nat.zero_le _, Nat.zero_le _⟩ rfl hl rfl (Nat.le_of_ble_eq_true rfl) dX7_mean_9 (fun r3 w1 H locs q2 hW => ?_)
  obtain ⟨qw4, rfl⟩ := q2
  rw [qw4] at hW
  refine xBeq (tgt := 24) C dX7_mean_12 (by decide) (fun c12 => ?_) (fun c12 => ?_)
  · refine lv_ldc2 (v := (-1 : Int64)) C.1 C.2.1 C.2.2.2.1 (C.2.2.2.2 _ (List.mem_of_getElem? (i := 2) rfl)) dX7_mean_24 ?_
    exact xret_l C hr hlk hW ⟨⟨_, _, _, _, _, _, _, _, _, _, _, _, m0, m1, m2, m3, m4, m5, m6, m7, m8, m9, m10, m11⟩, (fun j z0 => rfl), (by rw [meanS, if_neg (c := inR x (nI (L 2)) (nI 6) ∧ inR z (nI 0) (nI 1)) (fun h => c12 h.1)])⟩ dX7_mean_27
  · refine lv_iload_n C.1 C.2.1 dX7_mean_15 rfl (lv_at hl 2 rfl) ?_
    refine lv_iconst (v := (nI 0)) C.1 C.2.1 dX7_mean_16 (by decide) ?_
    refine lv_iconst (v := (nI 1)) C.1 C.2.1 dX7_mean_17 (by decide) ?_
    refine xcS_i (n := 3) (As := [.int z, .int (nI 0), .int (nI 1)]) C hK hW (c_X7_in l g w z (nI 0) (nI 1) hI hN) gX7_mean_X7_in rfl ⟨rfl, rfl⟩ (by decide +kernel) ⟨Nat.le_of_ble_eq_true rfl, Nat.le_of_ble_eq_true rfl⟩ ⟨Nat.zero_le _, Nat.zero_le _⟩ rfl hl rfl (Nat.le_of_ble_eq_true rfl) dX7_mean_18 (fun r7 w5 H locs q6 hW => ?_)
    obtain ⟨qw8, rfl⟩ := q6
    rw [qw8] at hW
    refine xBne (tgt := 28) C dX7_mean_21 (by decide) (fun c21 => ?_) (fun c21 => ?_)
    · obtain ⟨k1, ha_k1, hb_k1, hx_k1⟩ := inR_N (by omega) (by omega) c12
      rw [hx_k1] at hl
      obtain ⟨k3, ha_k3, hb_k3, hx_k3⟩ := inR_N (by omega) (by omega) c21
      rw [hx_k3] at hl
      refine lv_aload_n C.1 C.2.1 dX7_mean_28 rfl (lv_at hl 0 rfl) ?_
      refine lv_aload_n C.1 C.2.1 dX7_mean_29 rfl (lv_at hl 0 rfl) ?_
      refine xget C hK hW hinX7 rfl (by omega) m0 7 (by decide) (List.mem_of_getElem? (i := 1) rfl) rfl dX7_mean_30 ?_
      refine lv_iload_n C.1 C.2.1 dX7_mean_33 rfl (lv_at hl 1 rfl) ?_
      refine xcV_v (n := 2) (As := [.ref (gad g 124), .int (nI k1)]) C hK hW (c_X7_layMean l g w 124 k1 tn po hk ao mu md bu bd nu L hI hN (by omega) (by omega) (by omega) (by omega) hok m0 m5) gX7_mean_X7_layMean rfl ⟨rfl, rfl⟩ (by decide +kernel) ⟨Nat.le_of_ble_eq_true rfl, Nat.le_of_ble_eq_true rfl⟩ ⟨Nat.zero_le _, Nat.zero_le _⟩ rfl (by omega) m0 rfl hl rfl (Nat.le_of_ble_eq_true rfl) dX7_mean_34 (fun w9 H locs q10 hW => ?_)
      obtain ⟨h12, f13⟩ := q10
      refine lv_iload_n C.1 C.2.1 dX7_mean_37 rfl (lv_at hl 2 rfl) ?_
      refine x0ne (tgt := 48) C (by omega) dX7_mean_38 (by decide) (fun c38 => ?_) (fun c38 => ?_)
      · refine lv_aload_n C.1 C.2.1 dX7_mean_48 rfl (lv_at hl 0 rfl) ?_
        refine xget C hK hW hinX7 rfl (by omega) h12 16 (by decide) (List.mem_of_getElem? (i := 4) rfl) rfl dX7_mean_49 ?_
        have h14 : w9 120 = .inl (gI g, 4, .inl (kK 0 4 0 (laF ln))) := ((f13 120 (by omega)).trans m1)
        have h15 : w9 121 = .inl (gI g, 4, .inl (cK 4 0 sz)) := ((f13 121 (by omega)).trans m2)
        have h16 : w9 122 = .inl (gJ g, 96, .inr (.inl (kK 0 96 0 Z))) := ((f13 122 (by omega)).trans m3)
        have h17 : w9 123 = .inl (gI g, 80, .inl (cK 80 0 T)) := ((f13 123 (by omega)).trans m4)
        have h18 : w9 124 = .inl (gI g, 177, .inl (cK 177 0 L)) := ((f13 124 (by omega)).trans m5)
        have h19 : w9 125 = .inl (gI g, 177, .inl (cK 177 0 TR)) := ((f13 125 (by omega)).trans m6)
        have h20 : w9 126 = .inl (gI g, 177, .inl (cK 177 0 RD)) := ((f13 126 (by omega)).trans m7)
        have h21 : w9 127 = .inl (gI g, 177, .inl (cK 177 0 KP)) := ((f13 127 (by omega)).trans m8)
        have h22 : w9 128 = .inl (gJ g, 7, .inr (.inl (cL 7 0 O))) := ((f13 128 (by omega)).trans m10)
        have h23 : w9 129 = .inl (gJ g, 7, .inr (.inl (cL 7 0 A))) := ((f13 129 (by omega)).trans m11)
        exact xret_l C hr hlk hW ⟨⟨_, _, _, _, _, _, _, _, _, _, _, _, h12, h14, h15, h16, h17, h18, h19, h20, h21, m9, h22, h23⟩, (fun j z0 => (f13 j (by omega))), (by rw [meanS, if_pos (c := inR x (nI (L 2)) (nI 6) ∧ inR z (nI 0) (nI 1)) ⟨c12, c21⟩, hx_k1, hx_k3, cl_nI (by omega), cl_nI (by omega), if_neg (by omega)])⟩ dX7_mean_52
      · refine lv_aload_n C.1 C.2.1 dX7_mean_41 rfl (lv_at hl 0 rfl) ?_
        refine xget C hK hW hinX7 rfl (by omega) h12 15 (by decide) (List.mem_of_getElem? (i := 3) rfl) rfl dX7_mean_42 ?_
        refine lv_goto (tgt := 52) C.1 C.2.1 dX7_mean_45 (by decide) ?_
        have h24 : w9 120 = .inl (gI g, 4, .inl (kK 0 4 0 (laF ln))) := ((f13 120 (by omega)).trans m1)
        have h25 : w9 121 = .inl (gI g, 4, .inl (cK 4 0 sz)) := ((f13 121 (by omega)).trans m2)
        have h26 : w9 122 = .inl (gJ g, 96, .inr (.inl (kK 0 96 0 Z))) := ((f13 122 (by omega)).trans m3)
        have h27 : w9 123 = .inl (gI g, 80, .inl (cK 80 0 T)) := ((f13 123 (by omega)).trans m4)
        have h28 : w9 124 = .inl (gI g, 177, .inl (cK 177 0 L)) := ((f13 124 (by omega)).trans m5)
        have h29 : w9 125 = .inl (gI g, 177, .inl (cK 177 0 TR)) := ((f13 125 (by omega)).trans m6)
        have h30 : w9 126 = .inl (gI g, 177, .inl (cK 177 0 RD)) := ((f13 126 (by omega)).trans m7)
        have h31 : w9 127 = .inl (gI g, 177, .inl (cK 177 0 KP)) := ((f13 127 (by omega)).trans m8)
        have h32 : w9 128 = .inl (gJ g, 7, .inr (.inl (cL 7 0 O))) := ((f13 128 (by omega)).trans m10)
        have h33 : w9 129 = .inl (gJ g, 7, .inr (.inl (cL 7 0 A))) := ((f13 129 (by omega)).trans m11)
        exact xret_l C hr hlk hW ⟨⟨_, _, _, _, _, _, _, _, _, _, _, _, h12, h24, h25, h26, h27, h28, h29, h30, h31, m9, h32, h33⟩, (fun j z0 => (f13 j (by omega))), (by rw [meanS, if_pos (c := inR x (nI (L 2)) (nI 6) ∧ inR z (nI 0) (nI 1)) ⟨c12, c21⟩, hx_k1, hx_k3, cl_nI (by omega), cl_nI (by omega), if_pos (by omega)])⟩ dX7_mean_52
    · refine lv_ldc2 (v := (-1 : Int64)) C.1 C.2.1 C.2.2.2.1 (C.2.2.2.2 _ (List.mem_of_getElem? (i := 2) rfl)) dX7_mean_24 ?_
      exact xret_l C hr hlk hW ⟨⟨_, _, _, _, _, _, _, _, _, _, _, _, m0, m1, m2, m3, m4, m5, m6, m7, m8, m9, m10, m11⟩, (fun j z0 => rfl), (by rw [meanS, if_neg (c := inR x (nI (L 2)) (nI 6) ∧ inR z (nI 0) (nI 1)) (fun h => c21 h.2)])⟩ dX7_mean_27

set_option maxHeartbeats 4000000 in
set_option maxRecDepth 100000 in
theorem c_X7_right (l : Launch) (g : GE) (w : Nat → va_E) (L K T ln sz : Nat → Nat) (hk tn : Nat) (Z : Nat → Int64) (x : Int32) (y : Int32) (z : Int32) (hI : AdInj g) (hN : gN g = 130) (hS : OkS (L, K, hk, tn, T, ln, sz, Z)) (pr0 : MAll g (L, K, hk, tn, T, ln, sz, Z) w) : Met l yX7_right wsX7_right ({ frames := 3, cells := 0, slots := 0, locals := 79 } : Room) (XPc g w [.ref (gad g 119), .int x, .int y, .int z]) (XQi g (fun r w' => MAll g (L, K, hk, tn, T, ln, sz, Z) w' ∧ (∀ j : Nat, ¬ (119 ≤ j ∧ j < 130) → w' j = w j) ∧ r = rightS L x y z)) 0 0 (gA g) := by
  refine xmet (cc := cX7_right) (maxL := 6) (ret := (some .int)) (by decide) rfl hI (Nat.le_of_ble_eq_true rfl) ?_
  intro pG eG sG mG belowG methG cG ls C hr hlk hK hW hl
  have hl : lv_has ls 6 [(0, .ref (gad g 119)), (1, .int x), (2, .int y), (3, .int z)] := hl
  have hinX7 : ∀ x ∈ u_ws RX7 TX7 19, x ∈ wsX7_right := by decide +kernel
  obtain ⟨po, ao, mu, md, bu, bd, nu, TR, RD, KP, O, A, m0, m1, m2, m3, m4, m5, m6, m7, m8, m9, m10, m11⟩ := pr0
  have hokL : OkL L := hS.1
  obtain ⟨hok, hs2, hdy, hdr, hcl, hkn, hcs, hps⟩ := hokL
  have htn : tn ≤ 80 := hS.2.2.1
  have hlz : ∀ s, s < 4 → ln s ≤ 4 ∧ sz s ≤ 24 := hS.2.2.2.2
  have m0 : w 119 = .inr (7, [.ref (gad g 120), .ref (gad g 121), .ref (gad g 122), .int (nI tn), .ref (gad g 123), .int (nI po), .int nu, .ref (gad g 124), .ref (gad g 125), .ref (gad g 126), .ref (gad g 127), .int (nI hk), .ref (gad g 128), .ref (gad g 129), .long (lN ao), .long (lN mu), .long (lN md), .long (lN bu), .long (lN bd)]) := m0
  have m1 : w 120 = .inl (gI g, 4, .inl (kK 0 4 0 (laF ln))) := m1
  have m2 : w 121 = .inl (gI g, 4, .inl (cK 4 0 sz)) := m2
  have m3 : w 122 = .inl (gJ g, 96, .inr (.inl (kK 0 96 0 Z))) := m3
  have m4 : w 123 = .inl (gI g, 80, .inl (cK 80 0 T)) := m4
  have m5 : w 124 = .inl (gI g, 177, .inl (cK 177 0 L)) := m5
  have m9 : hk = 1 → KP = K := m9
  refine lv_aload_n C.1 C.2.1 dX7_right_0 rfl (lv_at hl 0 rfl) ?_
  refine lv_iload_n C.1 C.2.1 dX7_right_1 rfl (lv_at hl 1 rfl) ?_
  refine xcV_i (n := 1) (As := [.int x]) C hK hW (c_X7_isClaim l g w x hk tn po nu ao mu md bu bd L hI hN m0 m5) gX7_right_X7_isClaim rfl ⟨rfl, rfl⟩ (by decide +kernel) ⟨Nat.le_of_ble_eq_true rfl, Nat.le_of_ble_eq_true rfl⟩ ⟨Nat.zero_le _, Nat.zero_le _⟩ rfl (by omega) m0 rfl hl rfl (Nat.le_of_ble_eq_true rfl) dX7_right_2 (fun r3 w1 H locs q2 hW => ?_)
  obtain ⟨qw4, rfl⟩ := q2
  rw [qw4] at hW
  refine xBeq (tgt := 27) C dX7_right_5 (by decide) (fun c5 => ?_) (fun c5 => ?_)
  · refine lv_iconst (v := (-1 : Int32)) C.1 C.2.1 dX7_right_27 (by decide) ?_
    exact xret_i C hr hlk hW ⟨⟨_, _, _, _, _, _, _, _, _, _, _, _, m0, m1, m2, m3, m4, m5, m6, m7, m8, m9, m10, m11⟩, (fun j z0 => rfl), (by rw [rightS, if_neg (c := inR x (nI 0) (nI (L 24) - nI 1) ∧ in9 y ∧ inR z (nI 0) (nI 2)) (fun h => c5 h.1)])⟩ dX7_right_28
  · refine lv_iload_n C.1 C.2.1 dX7_right_8 rfl (lv_at hl 2 rfl) ?_
    refine lv_iconst (v := (nI 0)) C.1 C.2.1 dX7_right_9 (by decide) ?_
    refine lv_bipush (v := (nI 9)) C.1 C.2.1 dX7_right_10 (by decide) ?_
    refine xcS_i (n := 3) (As := [.int y, .int (nI 0), .int (nI 9)]) C hK hW (c_X7_in l g w y (nI 0) (nI 9) hI hN) gX7_right_X7_in rfl ⟨rfl, rfl⟩ (by decide +kernel) ⟨Nat.le_of_ble_eq_true rfl, Nat.le_of_ble_eq_true rfl⟩ ⟨Nat.zero_le _, Nat.zero_le _⟩ rfl hl rfl (Nat.le_of_ble_eq_true rfl) dX7_right_12 (fun r7 w5 H locs q6 hW => ?_)
    obtain ⟨qw8, rfl⟩ := q6
    rw [qw8] at hW
    refine xBeq (tgt := 27) C dX7_right_15 (by decide) (fun c15 => ?_) (fun c15 => ?_)
    · refine lv_iconst (v := (-1 : Int32)) C.1 C.2.1 dX7_right_27 (by decide) ?_
      exact xret_i C hr hlk hW ⟨⟨_, _, _, _, _, _, _, _, _, _, _, _, m0, m1, m2, m3, m4, m5, m6, m7, m8, m9, m10, m11⟩, (fun j z0 => rfl), (by rw [rightS, if_neg (c := inR x (nI 0) (nI (L 24) - nI 1) ∧ in9 y ∧ inR z (nI 0) (nI 2)) (fun h => c15 h.2.1)])⟩ dX7_right_28
    · refine lv_iload_n C.1 C.2.1 dX7_right_18 rfl (lv_at hl 3 rfl) ?_
      refine lv_iconst (v := (nI 0)) C.1 C.2.1 dX7_right_19 (by decide) ?_
      refine lv_iconst (v := (nI 2)) C.1 C.2.1 dX7_right_20 (by decide) ?_
      refine xcS_i (n := 3) (As := [.int z, .int (nI 0), .int (nI 2)]) C hK hW (c_X7_in l g w z (nI 0) (nI 2) hI hN) gX7_right_X7_in rfl ⟨rfl, rfl⟩ (by decide +kernel) ⟨Nat.le_of_ble_eq_true rfl, Nat.le_of_ble_eq_true rfl⟩ ⟨Nat.zero_le _, Nat.zero_le _⟩ rfl hl rfl (Nat.le_of_ble_eq_true rfl) dX7_right_21 (fun r11 w9 H locs q10 hW => ?_)
      obtain ⟨qw12, rfl⟩ := q10
      rw [qw12] at hW
      refine xBne (tgt := 29) C dX7_right_24 (by decide) (fun c24 => ?_) (fun c24 => ?_)
      · obtain ⟨k1, hb_k1, hx_k1⟩ := inR_claim hcl c5
        rw [hx_k1] at hl
        obtain ⟨k2, ha_k2, hb_k2, hx_k2⟩ := inR_N (by omega) (by omega) c15
        rw [hx_k2] at hl
        obtain ⟨k3, ha_k3, hb_k3, hx_k3⟩ := inR_N (by omega) (by omega) c24
        rw [hx_k3] at hl
        have hc1 := hcs k1 (by omega)
        refine lv_aload_n C.1 C.2.1 dX7_right_29 rfl (lv_at hl 0 rfl) ?_
        refine lv_aload_n C.1 C.2.1 dX7_right_30 rfl (lv_at hl 0 rfl) ?_
        refine xget C hK hW hinX7 rfl (by omega) m0 7 (by decide) (List.mem_of_getElem? (i := 1) rfl) rfl dX7_right_31 ?_
        refine lv_aload_n C.1 C.2.1 dX7_right_34 rfl (lv_at hl 0 rfl) ?_
        refine xget C hK hW hinX7 rfl (by omega) m0 7 (by decide) (List.mem_of_getElem? (i := 1) rfl) rfl dX7_right_35 ?_
        refine lv_iconst (v := (nI 2)) C.1 C.2.1 dX7_right_38 (by decide) ?_
        refine xildK0 C hK hW (by omega) m5 (by omega) (by decide) dX7_right_39 ?_
        refine lv_iload_n C.1 C.2.1 dX7_right_40 rfl (lv_at hl 2 rfl) ?_
        refine lv_iconst (v := (nI 0)) C.1 C.2.1 dX7_right_41 (by decide) ?_
        refine xcV_v (n := 4) (As := [.ref (gad g 124), .int (nI (L 2)), .int (nI k2), .int (nI 0)]) C hK hW (c_X7_layOdds l g w 124 (L 2) k2 tn po hk ao mu md bu bd nu L O A hI hN (by omega) (by omega) (by omega) hok m0 m5 m10 m11) gX7_right_X7_layOdds rfl ⟨rfl, rfl⟩ (by decide +kernel) ⟨Nat.le_of_ble_eq_true rfl, Nat.le_of_ble_eq_true rfl⟩ ⟨Nat.zero_le _, Nat.zero_le _⟩ rfl (by omega) m0 rfl hl rfl (Nat.le_of_ble_eq_true rfl) dX7_right_42 (fun w13 H locs q14 hW => ?_)
        obtain ⟨T1_20, h16, h17, h18, f19⟩ := q14
        have h21 : w13 128 = .inl (gJ g, 7, .inr (.inl (cL 7 0 (odF L k2)))) := h17
        have hO := fun f (hf : f < 7) => odF_le (L := L) (n := k2) (f := f) (by omega) hf
        have hp := p10 (k := k2) (by omega)
        refine lv_aload_n C.1 C.2.1 dX7_right_45 rfl (lv_at hl 0 rfl) ?_
        refine lv_iload_n C.1 C.2.1 dX7_right_46 rfl (lv_at hl 1 rfl) ?_
        have h22 : w13 124 = .inl (gI g, 177, .inl (cK 177 0 L)) := ((f19 124 (by omega) (by omega)).trans m5)
        refine xcV_l (n := 1) (As := [.int (nI k1)]) C hK hW (c_X7_oddsOf l g w13 k1 hk tn po nu (10 ^ k2) mu md bu bd L (odF L k2) hI hN (by omega) (by omega) (by omega) h16 h22 h21) gX7_right_X7_oddsOf rfl ⟨rfl, rfl⟩ (by decide +kernel) ⟨Nat.le_of_ble_eq_true rfl, Nat.le_of_ble_eq_true rfl⟩ ⟨Nat.zero_le _, Nat.zero_le _⟩ rfl (by omega) h16 rfl hl rfl (Nat.le_of_ble_eq_true rfl) dX7_right_47 (fun r25 w23 H locs q24 hW => ?_)
        obtain ⟨qw26, rfl⟩ := q24
        rw [qw26] at hW
        refine xtopL (b := rightN L k1 k2) rfl ?_
        have hsu : rightN L k1 k2 ≤ 7 * 1000000000 := Nat.le_trans (sumO_le (O := odF L k2) (a := L (25 + k1)) (n := L (30 + k1) + 1 - L (25 + k1)) (by omega) hO) (by omega)
        have hmm : L (35 + k1) * rightN L k1 k2 ≤ 99 * 7000000000 := Nat.mul_le_mul (by omega) (by omega)
        refine lv_lstore (lv' := [(4, .long (lN (rightN L k1 k2))), (0, .ref (gad g 119)), (1, .int (nI k1)), (2, .int (nI k2)), (3, .int (nI k3))]) C.1 C.2.1 dX7_right_50 hl (by decide) rfl (fun ls hl => ?_)
        refine lv_iload_n C.1 C.2.1 dX7_right_52 rfl (lv_at hl 4 rfl) ?_
        refine lv_iconst (v := (nI 2)) C.1 C.2.1 dX7_right_53 (by decide) ?_
        refine xne (tgt := 78) C (by omega) (by omega) dX7_right_54 (by decide) (fun c54 => ?_) (fun c54 => ?_)
        · refine lv_lload C.1 C.2.1 dX7_right_78 (lv_at hl 0 rfl) ?_
          refine lv_aload_n C.1 C.2.1 dX7_right_80 rfl (lv_at hl 1 rfl) ?_
          refine xget C hK hW hinX7 rfl (by omega) h16 14 (by decide) (List.mem_of_getElem? (i := 2) rfl) rfl dX7_right_81 ?_
          refine lv_iload_n C.1 C.2.1 dX7_right_84 rfl (lv_at hl 4 rfl) ?_
          refine xcS_l (n := 3) (As := [.long (lN (rightN L k1 k2)), .long (lN (10 ^ k2)), .int (nI k3)]) C hK hW (c_X7_part l g w13 (rightN L k1 k2) (10 ^ k2) k3 hI hN (by omega) (by omega) (by omega) (by omega)) gX7_right_X7_part rfl ⟨rfl, rfl⟩ (by decide +kernel) ⟨Nat.le_of_ble_eq_true rfl, Nat.le_of_ble_eq_true rfl⟩ ⟨Nat.zero_le _, Nat.zero_le _⟩ rfl hl rfl (Nat.le_of_ble_eq_true rfl) dX7_right_85 (fun r29 w27 H locs q28 hW => ?_)
          obtain ⟨qw30, rfl⟩ := q28
          rw [qw30] at hW
          refine xl2i C dX7_right_88 ?_
          have h31 : w13 120 = .inl (gI g, 4, .inl (kK 0 4 0 (laF ln))) := ((f19 120 (by omega) (by omega)).trans m1)
          have h32 : w13 121 = .inl (gI g, 4, .inl (cK 4 0 sz)) := ((f19 121 (by omega) (by omega)).trans m2)
          have h33 : w13 122 = .inl (gJ g, 96, .inr (.inl (kK 0 96 0 Z))) := ((f19 122 (by omega) (by omega)).trans m3)
          have h34 : w13 123 = .inl (gI g, 80, .inl (cK 80 0 T)) := ((f19 123 (by omega) (by omega)).trans m4)
          have h35 : w13 125 = .inl (gI g, 177, .inl (cK 177 0 TR)) := ((f19 125 (by omega) (by omega)).trans m6)
          have h36 : w13 126 = .inl (gI g, 177, .inl (cK 177 0 RD)) := ((f19 126 (by omega) (by omega)).trans m7)
          have h37 : w13 127 = .inl (gI g, 177, .inl (cK 177 0 KP)) := ((f19 127 (by omega) (by omega)).trans m8)
          exact xret_i C hr hlk hW ⟨⟨_, _, _, _, _, _, _, _, _, _, _, _, h16, h31, h32, h33, h34, h22, h35, h36, h37, m9, h21, h18⟩, (fun j z0 => (f19 j (by omega) (by omega))), (by rw [rightS, if_pos (c := inR x (nI 0) (nI (L 24) - nI 1) ∧ in9 y ∧ inR z (nI 0) (nI 2)) ⟨c5, c15, c24⟩, hx_k1, hx_k2, hx_k3, cl_nI (by omega), cl_nI (by omega), cl_nI (by omega), if_neg (c := k3 = 2) (by omega)])⟩ dX7_right_89
        · refine lv_aload_n C.1 C.2.1 dX7_right_57 rfl (lv_at hl 1 rfl) ?_
          refine xget C hK hW hinX7 rfl (by omega) h16 7 (by decide) (List.mem_of_getElem? (i := 1) rfl) rfl dX7_right_58 ?_
          refine lv_bipush (v := (nI 35)) C.1 C.2.1 dX7_right_61 (by decide) ?_
          refine lv_iload_n C.1 C.2.1 dX7_right_63 rfl (lv_at hl 2 rfl) ?_
          refine xadd C dX7_right_64 ?_
          refine xildK0 C hK hW (by omega) h22 (by omega) (by decide) dX7_right_65 ?_
          refine xi2l C (by omega) dX7_right_66 ?_
          refine lv_lload C.1 C.2.1 dX7_right_67 (lv_at hl 0 rfl) ?_
          refine xlmul C dX7_right_69 ?_
          refine lv_aload_n C.1 C.2.1 dX7_right_70 rfl (lv_at hl 1 rfl) ?_
          refine xget C hK hW hinX7 rfl (by omega) h16 14 (by decide) (List.mem_of_getElem? (i := 2) rfl) rfl dX7_right_71 ?_
          refine xldiv C (by omega) (by omega) (by omega) dX7_right_74 ?_
          refine lv_goto (tgt := 88) C.1 C.2.1 dX7_right_75 (by decide) ?_
          refine xl2i C dX7_right_88 ?_
          have h38 : w13 120 = .inl (gI g, 4, .inl (kK 0 4 0 (laF ln))) := ((f19 120 (by omega) (by omega)).trans m1)
          have h39 : w13 121 = .inl (gI g, 4, .inl (cK 4 0 sz)) := ((f19 121 (by omega) (by omega)).trans m2)
          have h40 : w13 122 = .inl (gJ g, 96, .inr (.inl (kK 0 96 0 Z))) := ((f19 122 (by omega) (by omega)).trans m3)
          have h41 : w13 123 = .inl (gI g, 80, .inl (cK 80 0 T)) := ((f19 123 (by omega) (by omega)).trans m4)
          have h42 : w13 125 = .inl (gI g, 177, .inl (cK 177 0 TR)) := ((f19 125 (by omega) (by omega)).trans m6)
          have h43 : w13 126 = .inl (gI g, 177, .inl (cK 177 0 RD)) := ((f19 126 (by omega) (by omega)).trans m7)
          have h44 : w13 127 = .inl (gI g, 177, .inl (cK 177 0 KP)) := ((f19 127 (by omega) (by omega)).trans m8)
          exact xret_i C hr hlk hW ⟨⟨_, _, _, _, _, _, _, _, _, _, _, _, h16, h38, h39, h40, h41, h22, h42, h43, h44, m9, h21, h18⟩, (fun j z0 => (f19 j (by omega) (by omega))), (by rw [rightS, if_pos (c := inR x (nI 0) (nI (L 24) - nI 1) ∧ in9 y ∧ inR z (nI 0) (nI 2)) ⟨c5, c15, c24⟩, hx_k1, hx_k2, hx_k3, cl_nI (by omega), cl_nI (by omega), cl_nI (by omega), if_pos (c := k3 = 2) (by omega)])⟩ dX7_right_89
      · refine lv_iconst (v := (-1 : Int32)) C.1 C.2.1 dX7_right_27 (by decide) ?_
        exact xret_i C hr hlk hW ⟨⟨_, _, _, _, _, _, _, _, _, _, _, _, m0, m1, m2, m3, m4, m5, m6, m7, m8, m9, m10, m11⟩, (fun j z0 => rfl), (by rw [rightS, if_neg (c := inR x (nI 0) (nI (L 24) - nI 1) ∧ in9 y ∧ inR z (nI 0) (nI 2)) (fun h => c24 h.2.2)])⟩ dX7_right_28

set_option maxHeartbeats 4000000 in
set_option maxRecDepth 100000 in
theorem c_X7_early (l : Launch) (g : GE) (w : Nat → va_E) (L K T ln sz : Nat → Nat) (hk tn : Nat) (Z : Nat → Int64) (x : Int32) (z : Int32) (hI : AdInj g) (hN : gN g = 130) (hS : OkS (L, K, hk, tn, T, ln, sz, Z)) (pr0 : MAll g (L, K, hk, tn, T, ln, sz, Z) w) : Met l yX7_early wsX7_early ({ frames := 3, cells := 0, slots := 0, locals := 79 } : Room) (XPc g w [.ref (gad g 119), .int x, .int z]) (XQi g (fun r w' => MAll g (L, K, hk, tn, T, ln, sz, Z) w' ∧ (∀ j : Nat, ¬ (119 ≤ j ∧ j < 130) → w' j = w j) ∧ r = earlyS L x z)) 0 0 (gA g) := by
  refine xmet (cc := cX7_early) (maxL := 4) (ret := (some .int)) (by decide) rfl hI (Nat.le_of_ble_eq_true rfl) ?_
  intro pG eG sG mG belowG methG cG ls C hr hlk hK hW hl
  have hl : lv_has ls 4 [(0, .ref (gad g 119)), (1, .int x), (2, .int z)] := hl
  have hinX7 : ∀ x ∈ u_ws RX7 TX7 19, x ∈ wsX7_early := by decide +kernel
  obtain ⟨po, ao, mu, md, bu, bd, nu, TR, RD, KP, O, A, m0, m1, m2, m3, m4, m5, m6, m7, m8, m9, m10, m11⟩ := pr0
  have hokL : OkL L := hS.1
  obtain ⟨hok, hs2, hdy, hdr, hcl, hkn, hcs, hps⟩ := hokL
  have htn : tn ≤ 80 := hS.2.2.1
  have hlz : ∀ s, s < 4 → ln s ≤ 4 ∧ sz s ≤ 24 := hS.2.2.2.2
  have m0 : w 119 = .inr (7, [.ref (gad g 120), .ref (gad g 121), .ref (gad g 122), .int (nI tn), .ref (gad g 123), .int (nI po), .int nu, .ref (gad g 124), .ref (gad g 125), .ref (gad g 126), .ref (gad g 127), .int (nI hk), .ref (gad g 128), .ref (gad g 129), .long (lN ao), .long (lN mu), .long (lN md), .long (lN bu), .long (lN bd)]) := m0
  have m1 : w 120 = .inl (gI g, 4, .inl (kK 0 4 0 (laF ln))) := m1
  have m2 : w 121 = .inl (gI g, 4, .inl (cK 4 0 sz)) := m2
  have m3 : w 122 = .inl (gJ g, 96, .inr (.inl (kK 0 96 0 Z))) := m3
  have m4 : w 123 = .inl (gI g, 80, .inl (cK 80 0 T)) := m4
  have m5 : w 124 = .inl (gI g, 177, .inl (cK 177 0 L)) := m5
  have m9 : hk = 1 → KP = K := m9
  refine lv_iload_n C.1 C.2.1 dX7_early_0 rfl (lv_at hl 1 rfl) ?_
  refine xcS_i (n := 1) (As := [.int x]) C hK hW (c_X7_isField l g w x hI hN) gX7_early_X7_isField rfl ⟨rfl, rfl⟩ (by decide +kernel) ⟨Nat.le_of_ble_eq_true rfl, Nat.le_of_ble_eq_true rfl⟩ ⟨Nat.zero_le _, Nat.zero_le _⟩ rfl hl rfl (Nat.le_of_ble_eq_true rfl) dX7_early_1 (fun r3 w1 H locs q2 hW => ?_)
  obtain ⟨qw4, rfl⟩ := q2
  rw [qw4] at hW
  refine xBeq (tgt := 17) C dX7_early_4 (by decide) (fun c4 => ?_) (fun c4 => ?_)
  · refine lv_iconst (v := (-1 : Int32)) C.1 C.2.1 dX7_early_17 (by decide) ?_
    exact xret_i C hr hlk hW ⟨⟨_, _, _, _, _, _, _, _, _, _, _, _, m0, m1, m2, m3, m4, m5, m6, m7, m8, m9, m10, m11⟩, (fun j z0 => rfl), (by rw [earlyS, if_neg (c := in6 x ∧ inR z (nI 0) (nI 100)) (fun h => c4 h.1)])⟩ dX7_early_18
  · refine lv_iload_n C.1 C.2.1 dX7_early_7 rfl (lv_at hl 2 rfl) ?_
    refine lv_iconst (v := (nI 0)) C.1 C.2.1 dX7_early_8 (by decide) ?_
    refine lv_bipush (v := (nI 100)) C.1 C.2.1 dX7_early_9 (by decide) ?_
    refine xcS_i (n := 3) (As := [.int z, .int (nI 0), .int (nI 100)]) C hK hW (c_X7_in l g w z (nI 0) (nI 100) hI hN) gX7_early_X7_in rfl ⟨rfl, rfl⟩ (by decide +kernel) ⟨Nat.le_of_ble_eq_true rfl, Nat.le_of_ble_eq_true rfl⟩ ⟨Nat.zero_le _, Nat.zero_le _⟩ rfl hl rfl (Nat.le_of_ble_eq_true rfl) dX7_early_11 (fun r7 w5 H locs q6 hW => ?_)
    obtain ⟨qw8, rfl⟩ := q6
    rw [qw8] at hW
    refine xBne (tgt := 19) C dX7_early_14 (by decide) (fun c14 => ?_) (fun c14 => ?_)
    · obtain ⟨k1, ha_k1, hb_k1, hx_k1⟩ := inR_N (by omega) (by omega) c4
      rw [hx_k1] at hl
      obtain ⟨k3, ha_k3, hb_k3, hx_k3⟩ := inR_N (by omega) (by omega) c14
      rw [hx_k3] at hl
      refine lv_iconst (v := (nI 0)) C.1 C.2.1 dX7_early_19 (by decide) ?_
      refine lv_istore_n (lv' := [(3, .int (nI 0)), (0, .ref (gad g 119)), (1, .int (nI k1)), (2, .int (nI k3))]) C.1 C.2.1 dX7_early_20 rfl hl (by decide) rfl (fun ls hl => ?_)
      have loop21 : ∀ (kG : Nat) (n ao2 : Nat) (O2 A2 : Nat → Nat) (v21 : Nat → va_E) (H : Heap) (locs : List Loc) (ls : Array Slot), kG = 10 - n → (v21 119 = .inr (7, [.ref (gad g 120), .ref (gad g 121), .ref (gad g 122), .int (nI tn), .ref (gad g 123), .int (nI po), .int nu, .ref (gad g 124), .ref (gad g 125), .ref (gad g 126), .ref (gad g 127), .int (nI hk), .ref (gad g 128), .ref (gad g 129), .long (lN ao2), .long (lN mu), .long (lN md), .long (lN bu), .long (lN bd)])) → (v21 120 = .inl (gI g, 4, .inl (kK 0 4 0 (laF ln)))) → (v21 121 = .inl (gI g, 4, .inl (cK 4 0 sz))) → (v21 122 = .inl (gJ g, 96, .inr (.inl (kK 0 96 0 Z)))) → (v21 123 = .inl (gI g, 80, .inl (cK 80 0 T))) → (v21 124 = .inl (gI g, 177, .inl (cK 177 0 L))) → (v21 125 = .inl (gI g, 177, .inl (cK 177 0 TR))) → (v21 126 = .inl (gI g, 177, .inl (cK 177 0 RD))) → (v21 127 = .inl (gI g, 177, .inl (cK 177 0 KP))) → (v21 128 = .inl (gJ g, 7, .inr (.inl (cL 7 0 O2)))) → (v21 129 = .inl (gJ g, 7, .inr (.inl (cL 7 0 A2)))) → (∀ j : Nat, ¬ (119 ≤ j ∧ j < 130) → v21 j = w j) → (n ≤ 10) → (firstF (fun n => decide (10 ^ n * cl z ≤ odF L n (cl x) * 100)) 0 10 = firstF (fun n => decide (10 ^ n * cl z ≤ odF L n (cl x) * 100)) n (10 - n)) → XW g v21 (gA g) sG.heap H locs → lv_has ls 4 [(3, .int (nI n)), (0, .ref (gad g 119)), (1, .int (nI k1)), (2, .int (nI k3))] → W pG l eG ({ frames := 3, cells := 0, slots := 0, locals := 79 } : Room) sG mG ([.ref (gad g 119), .int x, .int z] : List Value).toArray belowG methG cG H locs 0 0 (MQ belowG (XQi g (fun r w' => MAll g (L, K, hk, tn, T, ln, sz, Z) w' ∧ (∀ j : Nat, ¬ (119 ≤ j ∧ j < 130) → w' j = w j) ∧ r = earlyS L x z)) ([.ref (gad g 119), .int x, .int z] : List Value).toArray sG 0 0 (gA g)) (F0 mG 21 ls []) := by
        intro k21
        induction k21 using Nat.strongRecOn with
        | _ k21 ih21 =>
        intro n ao2 O2 A2 v21 H locs ls hk21 fa21_0 fa21_1 fa21_2 fa21_3 fa21_4 fa21_5 fa21_6 fa21_7 fa21_8 fa21_9 fa21_10 hfr21 hn hq hW hl
        refine lv_iload_n C.1 C.2.1 dX7_early_21 rfl (lv_at hl 0 rfl) ?_
        refine lv_bipush (v := (nI 9)) C.1 C.2.1 dX7_early_22 (by decide) ?_
        refine xgt (tgt := 72) C (by omega) (by omega) dX7_early_24 (by decide) (fun c24 => ?_) (fun c24 => ?_)
        · refine lv_bipush (v := (-4 : Int32)) C.1 C.2.1 dX7_early_72 (by decide) ?_
          exact xret_i C hr hlk hW ⟨⟨_, _, _, _, _, _, _, _, _, _, _, _, fa21_0, fa21_1, fa21_2, fa21_3, fa21_4, fa21_5, fa21_6, fa21_7, fa21_8, m9, fa21_9, fa21_10⟩, (fun j z0 => (hfr21 j z0)), (by rw [earlyS, if_pos (c := in6 x ∧ inR z (nI 0) (nI 100)) ⟨c4, c14⟩, hq, show n = 10 by omega]; rfl)⟩ dX7_early_74
        · refine lv_aload_n C.1 C.2.1 dX7_early_27 rfl (lv_at hl 1 rfl) ?_
          refine lv_aload_n C.1 C.2.1 dX7_early_28 rfl (lv_at hl 1 rfl) ?_
          refine xget C hK hW hinX7 rfl (by omega) fa21_0 7 (by decide) (List.mem_of_getElem? (i := 1) rfl) rfl dX7_early_29 ?_
          refine lv_aload_n C.1 C.2.1 dX7_early_32 rfl (lv_at hl 1 rfl) ?_
          refine xget C hK hW hinX7 rfl (by omega) fa21_0 7 (by decide) (List.mem_of_getElem? (i := 1) rfl) rfl dX7_early_33 ?_
          refine lv_iconst (v := (nI 2)) C.1 C.2.1 dX7_early_36 (by decide) ?_
          refine xildK0 C hK hW (by omega) fa21_5 (by omega) (by decide) dX7_early_37 ?_
          refine lv_iload_n C.1 C.2.1 dX7_early_38 rfl (lv_at hl 0 rfl) ?_
          refine lv_iconst (v := (nI 0)) C.1 C.2.1 dX7_early_39 (by decide) ?_
          refine xcV_v (n := 4) (As := [.ref (gad g 124), .int (nI (L 2)), .int (nI n), .int (nI 0)]) C hK hW (c_X7_layOdds l g v21 124 (L 2) n tn po hk ao2 mu md bu bd nu L O2 A2 hI hN (by omega) (by omega) (by omega) hok fa21_0 fa21_5 fa21_9 fa21_10) gX7_early_X7_layOdds rfl ⟨rfl, rfl⟩ (by decide +kernel) ⟨Nat.le_of_ble_eq_true rfl, Nat.le_of_ble_eq_true rfl⟩ ⟨Nat.zero_le _, Nat.zero_le _⟩ rfl (by omega) fa21_0 rfl hl rfl (Nat.le_of_ble_eq_true rfl) dX7_early_40 (fun w9 H locs q10 hW => ?_)
          obtain ⟨T1_16, h12, h13, h14, f15⟩ := q10
          have h17 : w9 128 = .inl (gJ g, 7, .inr (.inl (cL 7 0 (odF L n)))) := h13
          have hO := fun f (hf : f < 7) => odF_le (L := L) (n := n) (f := f) (by omega) hf
          have hp := p10 (k := n) (by omega)
          have hO1 := hO k1 (by omega)
          have hm : 10 ^ n * k3 ≤ 1000000000 * 100 := Nat.mul_le_mul hp.2 (by omega)
          refine lv_ldc2 (v := (lN 100)) C.1 C.2.1 C.2.2.2.1 (C.2.2.2.2 _ (List.mem_of_getElem? (i := 2) rfl)) dX7_early_43 ?_
          refine lv_aload_n C.1 C.2.1 dX7_early_46 rfl (lv_at hl 1 rfl) ?_
          refine xget C hK hW hinX7 rfl (by omega) h12 12 (by decide) (List.mem_of_getElem? (i := 3) rfl) rfl dX7_early_47 ?_
          refine lv_iload_n C.1 C.2.1 dX7_early_50 rfl (lv_at hl 2 rfl) ?_
          refine xlldK0 C hK hW (by omega) h17 (by omega) (by decide) dX7_early_51 ?_
          refine xlmul C dX7_early_52 ?_
          refine lv_iload_n C.1 C.2.1 dX7_early_53 rfl (lv_at hl 3 rfl) ?_
          refine xi2l C (by omega) dX7_early_54 ?_
          refine lv_aload_n C.1 C.2.1 dX7_early_55 rfl (lv_at hl 1 rfl) ?_
          refine xget C hK hW hinX7 rfl (by omega) h12 14 (by decide) (List.mem_of_getElem? (i := 4) rfl) rfl dX7_early_56 ?_
          refine xlmul C dX7_early_59 ?_
          refine xtopL (b := 10 ^ n * k3) (Nat.mul_comm _ _) ?_
          refine xLlt (tgt := 66) C (by omega) (by omega) dX7_early_60 dX7_early_61 (by decide) (fun c60 => ?_) (fun c60 => ?_)
          · have hq2 := hq.trans (firstF_n (p := fun n => decide (10 ^ n * cl z ≤ odF L n (cl x) * 100)) (by omega) (fun z9 => absurd c60 (by have := of_decide_eq_true z9; rw [hx_k1, hx_k3, cl_nI (by omega), cl_nI (by omega)] at this; omega)))
            refine lv_iinc (v := nI (n + 1)) (lv' := [(3, .int (nI (n + 1))), (0, .ref (gad g 119)), (1, .int (nI k1)), (2, .int (nI k3))]) C.1 C.2.1 dX7_early_66 hl (k := 0) rfl (nI_add _ 1) (by decide) rfl (fun ls hl => ?_)
            refine lv_goto (tgt := 21) C.1 C.2.1 dX7_early_69 (by decide) ?_
            have h18 : w9 120 = .inl (gI g, 4, .inl (kK 0 4 0 (laF ln))) := ((f15 120 (by omega) (by omega)).trans fa21_1)
            have h19 : w9 121 = .inl (gI g, 4, .inl (cK 4 0 sz)) := ((f15 121 (by omega) (by omega)).trans fa21_2)
            have h20 : w9 122 = .inl (gJ g, 96, .inr (.inl (kK 0 96 0 Z))) := ((f15 122 (by omega) (by omega)).trans fa21_3)
            have h21 : w9 123 = .inl (gI g, 80, .inl (cK 80 0 T)) := ((f15 123 (by omega) (by omega)).trans fa21_4)
            have h22 : w9 124 = .inl (gI g, 177, .inl (cK 177 0 L)) := ((f15 124 (by omega) (by omega)).trans fa21_5)
            have h23 : w9 125 = .inl (gI g, 177, .inl (cK 177 0 TR)) := ((f15 125 (by omega) (by omega)).trans fa21_6)
            have h24 : w9 126 = .inl (gI g, 177, .inl (cK 177 0 RD)) := ((f15 126 (by omega) (by omega)).trans fa21_7)
            have h25 : w9 127 = .inl (gI g, 177, .inl (cK 177 0 KP)) := ((f15 127 (by omega) (by omega)).trans fa21_8)
            exact ih21 (10 - (n + 1)) (by omega) (n + 1) (10 ^ n) (odF L n) T1_16 w9 _ _ _ rfl h12 h18 h19 h20 h21 h22 h23 h24 h25 h17 h14 (fun j z0 => ((f15 j (by omega) (by omega)).trans (hfr21 j z0))) (by omega) (hq2) hW hl
          · refine lv_iload_n C.1 C.2.1 dX7_early_64 rfl (lv_at hl 0 rfl) ?_
            have h26 : w9 120 = .inl (gI g, 4, .inl (kK 0 4 0 (laF ln))) := ((f15 120 (by omega) (by omega)).trans fa21_1)
            have h27 : w9 121 = .inl (gI g, 4, .inl (cK 4 0 sz)) := ((f15 121 (by omega) (by omega)).trans fa21_2)
            have h28 : w9 122 = .inl (gJ g, 96, .inr (.inl (kK 0 96 0 Z))) := ((f15 122 (by omega) (by omega)).trans fa21_3)
            have h29 : w9 123 = .inl (gI g, 80, .inl (cK 80 0 T)) := ((f15 123 (by omega) (by omega)).trans fa21_4)
            have h30 : w9 124 = .inl (gI g, 177, .inl (cK 177 0 L)) := ((f15 124 (by omega) (by omega)).trans fa21_5)
            have h31 : w9 125 = .inl (gI g, 177, .inl (cK 177 0 TR)) := ((f15 125 (by omega) (by omega)).trans fa21_6)
            have h32 : w9 126 = .inl (gI g, 177, .inl (cK 177 0 RD)) := ((f15 126 (by omega) (by omega)).trans fa21_7)
            have h33 : w9 127 = .inl (gI g, 177, .inl (cK 177 0 KP)) := ((f15 127 (by omega) (by omega)).trans fa21_8)
            exact xret_i C hr hlk hW ⟨⟨_, _, _, _, _, _, _, _, _, _, _, _, h12, h26, h27, h28, h29, h30, h31, h32, h33, m9, h17, h14⟩, (fun j z0 => ((f15 j (by omega) (by omega)).trans (hfr21 j z0))), (by rw [earlyS, if_pos (c := in6 x ∧ inR z (nI 0) (nI 100)) ⟨c4, c14⟩, ← firstF_y (p := fun n => decide (10 ^ n * cl z ≤ odF L n (cl x) * 100)) (by omega) (decide_eq_true (by rw [hx_k1, hx_k3, cl_nI (by omega), cl_nI (by omega)]; omega)), hq])⟩ dX7_early_65
      exact loop21 _ 0 ao O A w _ _ _ rfl m0 m1 m2 m3 m4 m5 m6 m7 m8 m10 m11 (fun j z0 => rfl) (by omega) (rfl) hW hl
    · refine lv_iconst (v := (-1 : Int32)) C.1 C.2.1 dX7_early_17 (by decide) ?_
      exact xret_i C hr hlk hW ⟨⟨_, _, _, _, _, _, _, _, _, _, _, _, m0, m1, m2, m3, m4, m5, m6, m7, m8, m9, m10, m11⟩, (fun j z0 => rfl), (by rw [earlyS, if_neg (c := in6 x ∧ inR z (nI 0) (nI 100)) (fun h => c14 h.2)])⟩ dX7_early_18

set_option maxHeartbeats 4000000 in
set_option maxRecDepth 100000 in
theorem c_X7_winter (l : Launch) (g : GE) (w : Nat → va_E) (L K T ln sz : Nat → Nat) (hk tn : Nat) (Z : Nat → Int64) (x : Int32) (y : Int32) (c : Int32) (z : Int32) (hI : AdInj g) (hN : gN g = 130) (hS : OkS (L, K, hk, tn, T, ln, sz, Z)) (pr0 : MAll g (L, K, hk, tn, T, ln, sz, Z) w) : Met l yX7_winter wsX7_winter ({ frames := 3, cells := 0, slots := 0, locals := 79 } : Room) (XPc g w [.ref (gad g 119), .int x, .int y, .int c, .int z]) (XQi g (fun r w' => MAll g (L, K, hk, tn, T, ln, sz, Z) w' ∧ (∀ j : Nat, ¬ (119 ≤ j ∧ j < 130) → w' j = w j) ∧ r = winterS L x y c z)) 0 0 (gA g) := by
  refine xmet (cc := cX7_winter) (maxL := 5) (ret := (some .int)) (by decide) rfl hI (Nat.le_of_ble_eq_true rfl) ?_
  intro pG eG sG mG belowG methG cG ls C hr hlk hK hW hl
  have hl : lv_has ls 5 [(0, .ref (gad g 119)), (1, .int x), (2, .int y), (3, .int c), (4, .int z)] := hl
  have hinX7 : ∀ x ∈ u_ws RX7 TX7 19, x ∈ wsX7_winter := by decide +kernel
  obtain ⟨po, ao, mu, md, bu, bd, nu, TR, RD, KP, O, A, m0, m1, m2, m3, m4, m5, m6, m7, m8, m9, m10, m11⟩ := pr0
  have hokL : OkL L := hS.1
  obtain ⟨hok, hs2, hdy, hdr, hcl, hkn, hcs, hps⟩ := hokL
  have htn : tn ≤ 80 := hS.2.2.1
  have hlz : ∀ s, s < 4 → ln s ≤ 4 ∧ sz s ≤ 24 := hS.2.2.2.2
  have m0 : w 119 = .inr (7, [.ref (gad g 120), .ref (gad g 121), .ref (gad g 122), .int (nI tn), .ref (gad g 123), .int (nI po), .int nu, .ref (gad g 124), .ref (gad g 125), .ref (gad g 126), .ref (gad g 127), .int (nI hk), .ref (gad g 128), .ref (gad g 129), .long (lN ao), .long (lN mu), .long (lN md), .long (lN bu), .long (lN bd)]) := m0
  have m1 : w 120 = .inl (gI g, 4, .inl (kK 0 4 0 (laF ln))) := m1
  have m2 : w 121 = .inl (gI g, 4, .inl (cK 4 0 sz)) := m2
  have m3 : w 122 = .inl (gJ g, 96, .inr (.inl (kK 0 96 0 Z))) := m3
  have m4 : w 123 = .inl (gI g, 80, .inl (cK 80 0 T)) := m4
  have m5 : w 124 = .inl (gI g, 177, .inl (cK 177 0 L)) := m5
  have m9 : hk = 1 → KP = K := m9
  refine lv_iload_n C.1 C.2.1 dX7_winter_0 rfl (lv_at hl 1 rfl) ?_
  refine xcS_i (n := 1) (As := [.int x]) C hK hW (c_X7_isField l g w x hI hN) gX7_winter_X7_isField rfl ⟨rfl, rfl⟩ (by decide +kernel) ⟨Nat.le_of_ble_eq_true rfl, Nat.le_of_ble_eq_true rfl⟩ ⟨Nat.zero_le _, Nat.zero_le _⟩ rfl hl rfl (Nat.le_of_ble_eq_true rfl) dX7_winter_1 (fun r3 w1 H locs q2 hW => ?_)
  obtain ⟨qw4, rfl⟩ := q2
  rw [qw4] at hW
  refine xBeq (tgt := 36) C dX7_winter_4 (by decide) (fun c4 => ?_) (fun c4 => ?_)
  · refine lv_iconst (v := (-1 : Int32)) C.1 C.2.1 dX7_winter_36 (by decide) ?_
    exact xret_i C hr hlk hW ⟨⟨_, _, _, _, _, _, _, _, _, _, _, _, m0, m1, m2, m3, m4, m5, m6, m7, m8, m9, m10, m11⟩, (fun j z0 => rfl), (by rw [winterS, if_neg (c := in6 x ∧ inR y (nI 0) (nI 4) ∧ inR c (nI 0) (nI 10) ∧ inR z (nI 0) (nI 1)) (fun h => c4 h.1)])⟩ dX7_winter_37
  · refine lv_iload_n C.1 C.2.1 dX7_winter_7 rfl (lv_at hl 2 rfl) ?_
    refine lv_iconst (v := (nI 0)) C.1 C.2.1 dX7_winter_8 (by decide) ?_
    refine lv_iconst (v := (nI 4)) C.1 C.2.1 dX7_winter_9 (by decide) ?_
    refine xcS_i (n := 3) (As := [.int y, .int (nI 0), .int (nI 4)]) C hK hW (c_X7_in l g w y (nI 0) (nI 4) hI hN) gX7_winter_X7_in rfl ⟨rfl, rfl⟩ (by decide +kernel) ⟨Nat.le_of_ble_eq_true rfl, Nat.le_of_ble_eq_true rfl⟩ ⟨Nat.zero_le _, Nat.zero_le _⟩ rfl hl rfl (Nat.le_of_ble_eq_true rfl) dX7_winter_10 (fun r7 w5 H locs q6 hW => ?_)
    obtain ⟨qw8, rfl⟩ := q6
    rw [qw8] at hW
    refine xBeq (tgt := 36) C dX7_winter_13 (by decide) (fun c13 => ?_) (fun c13 => ?_)
    · refine lv_iconst (v := (-1 : Int32)) C.1 C.2.1 dX7_winter_36 (by decide) ?_
      exact xret_i C hr hlk hW ⟨⟨_, _, _, _, _, _, _, _, _, _, _, _, m0, m1, m2, m3, m4, m5, m6, m7, m8, m9, m10, m11⟩, (fun j z0 => rfl), (by rw [winterS, if_neg (c := in6 x ∧ inR y (nI 0) (nI 4) ∧ inR c (nI 0) (nI 10) ∧ inR z (nI 0) (nI 1)) (fun h => c13 h.2.1)])⟩ dX7_winter_37
    · refine lv_iload_n C.1 C.2.1 dX7_winter_16 rfl (lv_at hl 3 rfl) ?_
      refine lv_iconst (v := (nI 0)) C.1 C.2.1 dX7_winter_17 (by decide) ?_
      refine lv_bipush (v := (nI 10)) C.1 C.2.1 dX7_winter_18 (by decide) ?_
      refine xcS_i (n := 3) (As := [.int c, .int (nI 0), .int (nI 10)]) C hK hW (c_X7_in l g w c (nI 0) (nI 10) hI hN) gX7_winter_X7_in rfl ⟨rfl, rfl⟩ (by decide +kernel) ⟨Nat.le_of_ble_eq_true rfl, Nat.le_of_ble_eq_true rfl⟩ ⟨Nat.zero_le _, Nat.zero_le _⟩ rfl hl rfl (Nat.le_of_ble_eq_true rfl) dX7_winter_20 (fun r11 w9 H locs q10 hW => ?_)
      obtain ⟨qw12, rfl⟩ := q10
      rw [qw12] at hW
      refine xBeq (tgt := 36) C dX7_winter_23 (by decide) (fun c23 => ?_) (fun c23 => ?_)
      · refine lv_iconst (v := (-1 : Int32)) C.1 C.2.1 dX7_winter_36 (by decide) ?_
        exact xret_i C hr hlk hW ⟨⟨_, _, _, _, _, _, _, _, _, _, _, _, m0, m1, m2, m3, m4, m5, m6, m7, m8, m9, m10, m11⟩, (fun j z0 => rfl), (by rw [winterS, if_neg (c := in6 x ∧ inR y (nI 0) (nI 4) ∧ inR c (nI 0) (nI 10) ∧ inR z (nI 0) (nI 1)) (fun h => c23 h.2.2.1)])⟩ dX7_winter_37
      · refine lv_iload C.1 C.2.1 dX7_winter_26 (lv_at hl 4 rfl) ?_
        refine lv_iconst (v := (nI 0)) C.1 C.2.1 dX7_winter_28 (by decide) ?_
        refine lv_iconst (v := (nI 1)) C.1 C.2.1 dX7_winter_29 (by decide) ?_
        refine xcS_i (n := 3) (As := [.int z, .int (nI 0), .int (nI 1)]) C hK hW (c_X7_in l g w z (nI 0) (nI 1) hI hN) gX7_winter_X7_in rfl ⟨rfl, rfl⟩ (by decide +kernel) ⟨Nat.le_of_ble_eq_true rfl, Nat.le_of_ble_eq_true rfl⟩ ⟨Nat.zero_le _, Nat.zero_le _⟩ rfl hl rfl (Nat.le_of_ble_eq_true rfl) dX7_winter_30 (fun r15 w13 H locs q14 hW => ?_)
        obtain ⟨qw16, rfl⟩ := q14
        rw [qw16] at hW
        refine xBne (tgt := 38) C dX7_winter_33 (by decide) (fun c33 => ?_) (fun c33 => ?_)
        · obtain ⟨k1, ha_k1, hb_k1, hx_k1⟩ := inR_N (by omega) (by omega) c4
          rw [hx_k1] at hl
          obtain ⟨k2, ha_k2, hb_k2, hx_k2⟩ := inR_N (by omega) (by omega) c13
          rw [hx_k2] at hl
          obtain ⟨kc, ha_kc, hb_kc, hx_kc⟩ := inR_N (by omega) (by omega) c23
          rw [hx_kc] at hl
          obtain ⟨k3, ha_k3, hb_k3, hx_k3⟩ := inR_N (by omega) (by omega) c33
          rw [hx_k3] at hl
          refine lv_aload_n C.1 C.2.1 dX7_winter_38 rfl (lv_at hl 0 rfl) ?_
          refine lv_aload_n C.1 C.2.1 dX7_winter_39 rfl (lv_at hl 0 rfl) ?_
          refine xget C hK hW hinX7 rfl (by omega) m0 7 (by decide) (List.mem_of_getElem? (i := 1) rfl) rfl dX7_winter_40 ?_
          refine lv_aload_n C.1 C.2.1 dX7_winter_43 rfl (lv_at hl 0 rfl) ?_
          refine xget C hK hW hinX7 rfl (by omega) m0 7 (by decide) (List.mem_of_getElem? (i := 1) rfl) rfl dX7_winter_44 ?_
          refine lv_iconst (v := (nI 2)) C.1 C.2.1 dX7_winter_47 (by decide) ?_
          refine xildK0 C hK hW (by omega) m5 (by omega) (by decide) dX7_winter_48 ?_
          refine lv_iload_n C.1 C.2.1 dX7_winter_49 rfl (lv_at hl 2 rfl) ?_
          refine lv_iload_n C.1 C.2.1 dX7_winter_50 rfl (lv_at hl 3 rfl) ?_
          by_cases z0 : kc = 0
          · refine xtopI (b := nI 0) (by rw [z0]) ?_
            refine xcV_v (n := 4) (As := [.ref (gad g 124), .int (nI (L 2)), .int (nI k2), .int (nI 0)]) C hK hW (c_X7_layOdds l g w 124 (L 2) k2 tn po hk ao mu md bu bd nu L O A hI hN (by omega) (by omega) (by omega) hok m0 m5 m10 m11) gX7_winter_X7_layOdds rfl ⟨rfl, rfl⟩ (by decide +kernel) ⟨Nat.le_of_ble_eq_true rfl, Nat.le_of_ble_eq_true rfl⟩ ⟨Nat.zero_le _, Nat.zero_le _⟩ rfl (by omega) m0 rfl hl rfl (Nat.le_of_ble_eq_true rfl) dX7_winter_51 (fun w17 H locs q18 hW => ?_)
            obtain ⟨T1_24, h20, h21, h22, f23⟩ := q18
            have h25 : w17 128 = .inl (gJ g, 7, .inr (.inl (cL 7 0 (odF L k2)))) := h21
            have hO := fun f (hf : f < 7) => odF_le (L := L) (n := k2) (f := f) (by omega) hf
            have hp := p10 (k := k2) (by omega)
            have hO1 := hO k1 (by omega)
            refine lv_aload_n C.1 C.2.1 dX7_winter_54 rfl (lv_at hl 0 rfl) ?_
            refine xget C hK hW hinX7 rfl (by omega) h20 12 (by decide) (List.mem_of_getElem? (i := 2) rfl) rfl dX7_winter_55 ?_
            refine lv_iload_n C.1 C.2.1 dX7_winter_58 rfl (lv_at hl 1 rfl) ?_
            refine xlldK0 C hK hW (by omega) h25 (by omega) (by decide) dX7_winter_59 ?_
            refine lv_aload_n C.1 C.2.1 dX7_winter_60 rfl (lv_at hl 0 rfl) ?_
            refine xget C hK hW hinX7 rfl (by omega) h20 14 (by decide) (List.mem_of_getElem? (i := 3) rfl) rfl dX7_winter_61 ?_
            refine lv_iload C.1 C.2.1 dX7_winter_64 (lv_at hl 4 rfl) ?_
            refine xcS_l (n := 3) (As := [.long (lN ((odF L k2) k1)), .long (lN (10 ^ k2)), .int (nI k3)]) C hK hW (c_X7_part l g w17 ((odF L k2) k1) (10 ^ k2) k3 hI hN (by omega) (by omega) (by omega) (by omega)) gX7_winter_X7_part rfl ⟨rfl, rfl⟩ (by decide +kernel) ⟨Nat.le_of_ble_eq_true rfl, Nat.le_of_ble_eq_true rfl⟩ ⟨Nat.zero_le _, Nat.zero_le _⟩ rfl hl rfl (Nat.le_of_ble_eq_true rfl) dX7_winter_66 (fun r28 w26 H locs q27 hW => ?_)
            obtain ⟨qw29, rfl⟩ := q27
            rw [qw29] at hW
            refine xl2i C dX7_winter_69 ?_
            have h30 : w17 120 = .inl (gI g, 4, .inl (kK 0 4 0 (laF ln))) := ((f23 120 (by omega) (by omega)).trans m1)
            have h31 : w17 121 = .inl (gI g, 4, .inl (cK 4 0 sz)) := ((f23 121 (by omega) (by omega)).trans m2)
            have h32 : w17 122 = .inl (gJ g, 96, .inr (.inl (kK 0 96 0 Z))) := ((f23 122 (by omega) (by omega)).trans m3)
            have h33 : w17 123 = .inl (gI g, 80, .inl (cK 80 0 T)) := ((f23 123 (by omega) (by omega)).trans m4)
            have h34 : w17 124 = .inl (gI g, 177, .inl (cK 177 0 L)) := ((f23 124 (by omega) (by omega)).trans m5)
            have h35 : w17 125 = .inl (gI g, 177, .inl (cK 177 0 TR)) := ((f23 125 (by omega) (by omega)).trans m6)
            have h36 : w17 126 = .inl (gI g, 177, .inl (cK 177 0 RD)) := ((f23 126 (by omega) (by omega)).trans m7)
            have h37 : w17 127 = .inl (gI g, 177, .inl (cK 177 0 KP)) := ((f23 127 (by omega) (by omega)).trans m8)
            exact xret_i C hr hlk hW ⟨⟨_, _, _, _, _, _, _, _, _, _, _, _, h20, h30, h31, h32, h33, h34, h35, h36, h37, m9, h25, h22⟩, (fun j z0 => (f23 j (by omega) (by omega))), (by rw [winterS, if_pos (c := in6 x ∧ inR y (nI 0) (nI 4) ∧ inR c (nI 0) (nI 10) ∧ inR z (nI 0) (nI 1)) ⟨c4, c13, c23, c33⟩, hx_k1, hx_k2, hx_kc, hx_k3, cl_nI (by omega), cl_nI (by omega), cl_nI (by omega), cl_nI (by omega), z0, red0U (by omega), red0D (by omega)])⟩ dX7_winter_70
          · refine xcV_v (n := 4) (As := [.ref (gad g 124), .int (nI (L 2)), .int (nI k2), .int (nI kc)]) C hK hW (c_X7_layOddsC l g w 124 (L 2) k2 kc tn po hk ao mu md bu bd nu L O A hI hN (by omega) (by omega) (by omega) hok (by omega) (by omega) m0 m5 m10 m11) gX7_winter_X7_layOdds rfl ⟨rfl, rfl⟩ (by decide +kernel) ⟨Nat.le_of_ble_eq_true rfl, Nat.le_of_ble_eq_true rfl⟩ ⟨Nat.zero_le _, Nat.zero_le _⟩ rfl (by omega) m0 rfl hl rfl (Nat.le_of_ble_eq_true rfl) dX7_winter_51 (fun w38 H locs q39 hW => ?_)
            obtain ⟨T1_45, h41, h42, h43, f44⟩ := q39
            have h46 : w38 128 = .inl (gJ g, 7, .inr (.inl (cL 7 0 (odC L kc k2)))) := h42
            have hO1 := odC_le (L := L) (c := kc) (n := k2) (f := k1) (by omega) (by omega)
            have hp := p100 (k := k2) (by omega)
            refine lv_aload_n C.1 C.2.1 dX7_winter_54 rfl (lv_at hl 0 rfl) ?_
            refine xget C hK hW hinX7 rfl (by omega) h41 12 (by decide) (List.mem_of_getElem? (i := 2) rfl) rfl dX7_winter_55 ?_
            refine lv_iload_n C.1 C.2.1 dX7_winter_58 rfl (lv_at hl 1 rfl) ?_
            refine xlldK0 C hK hW (by omega) h46 (by omega) (by decide) dX7_winter_59 ?_
            refine lv_aload_n C.1 C.2.1 dX7_winter_60 rfl (lv_at hl 0 rfl) ?_
            refine xget C hK hW hinX7 rfl (by omega) h41 14 (by decide) (List.mem_of_getElem? (i := 3) rfl) rfl dX7_winter_61 ?_
            refine lv_iload C.1 C.2.1 dX7_winter_64 (lv_at hl 4 rfl) ?_
            refine xcS_l (n := 3) (As := [.long (lN ((odC L kc k2) k1)), .long (lN (100 ^ k2)), .int (nI k3)]) C hK hW (c_X7_part l g w38 ((odC L kc k2) k1) (100 ^ k2) k3 hI hN (by omega) (by omega) (by omega) (by omega)) gX7_winter_X7_part rfl ⟨rfl, rfl⟩ (by decide +kernel) ⟨Nat.le_of_ble_eq_true rfl, Nat.le_of_ble_eq_true rfl⟩ ⟨Nat.zero_le _, Nat.zero_le _⟩ rfl hl rfl (Nat.le_of_ble_eq_true rfl) dX7_winter_66 (fun r49 w47 H locs q48 hW => ?_)
            obtain ⟨qw50, rfl⟩ := q48
            rw [qw50] at hW
            refine xl2i C dX7_winter_69 ?_
            have h51 : w38 120 = .inl (gI g, 4, .inl (kK 0 4 0 (laF ln))) := ((f44 120 (by omega) (by omega)).trans m1)
            have h52 : w38 121 = .inl (gI g, 4, .inl (cK 4 0 sz)) := ((f44 121 (by omega) (by omega)).trans m2)
            have h53 : w38 122 = .inl (gJ g, 96, .inr (.inl (kK 0 96 0 Z))) := ((f44 122 (by omega) (by omega)).trans m3)
            have h54 : w38 123 = .inl (gI g, 80, .inl (cK 80 0 T)) := ((f44 123 (by omega) (by omega)).trans m4)
            have h55 : w38 124 = .inl (gI g, 177, .inl (cK 177 0 L)) := ((f44 124 (by omega) (by omega)).trans m5)
            have h56 : w38 125 = .inl (gI g, 177, .inl (cK 177 0 TR)) := ((f44 125 (by omega) (by omega)).trans m6)
            have h57 : w38 126 = .inl (gI g, 177, .inl (cK 177 0 RD)) := ((f44 126 (by omega) (by omega)).trans m7)
            have h58 : w38 127 = .inl (gI g, 177, .inl (cK 177 0 KP)) := ((f44 127 (by omega) (by omega)).trans m8)
            exact xret_i C hr hlk hW ⟨⟨_, _, _, _, _, _, _, _, _, _, _, _, h41, h51, h52, h53, h54, h55, h56, h57, h58, m9, h46, h43⟩, (fun j z0 => (f44 j (by omega) (by omega))), (by rw [winterS, if_pos (c := in6 x ∧ inR y (nI 0) (nI 4) ∧ inR c (nI 0) (nI 10) ∧ inR z (nI 0) (nI 1)) ⟨c4, c13, c23, c33⟩, hx_k1, hx_k2, hx_kc, hx_k3, cl_nI (by omega), cl_nI (by omega), cl_nI (by omega), cl_nI (by omega)])⟩ dX7_winter_70
        · refine lv_iconst (v := (-1 : Int32)) C.1 C.2.1 dX7_winter_36 (by decide) ?_
          exact xret_i C hr hlk hW ⟨⟨_, _, _, _, _, _, _, _, _, _, _, _, m0, m1, m2, m3, m4, m5, m6, m7, m8, m9, m10, m11⟩, (fun j z0 => rfl), (by rw [winterS, if_neg (c := in6 x ∧ inR y (nI 0) (nI 4) ∧ inR c (nI 0) (nI 10) ∧ inR z (nI 0) (nI 1)) (fun h => c33 h.2.2.2)])⟩ dX7_winter_37
