/-! the hedge to open -/
theorem mU_red {L : Nat → Nat} (hok : Okg L) (a : Nat) {t : Nat} (ht : t ≤ 6) : redU (mU L a t) (mD L a t) = mU L a t ∧ redD (mU L a t) (mD L a t) = mD L a t := red_red (mB (on := onF L) (bk := backF L) a (onF_9 hok) (backF_4 hok) ht).1
theorem dnF_y {L : Nat → Nat} {t o : Nat} (h : o = 0 ∨ mU (va_up L (10 + o) 0) (L 2) t * mD (va_up L (10 + dnF L t o) 0) (L 2) t < mU (va_up L (10 + dnF L t o) 0) (L 2) t * mD (va_up L (10 + o) 0) (L 2) t) : dnF L t (o + 1) = o := if_pos h
theorem dnF_n {L : Nat → Nat} {t o : Nat} (h : ¬ (o = 0 ∨ mU (va_up L (10 + o) 0) (L 2) t * mD (va_up L (10 + dnF L t o) 0) (L 2) t < mU (va_up L (10 + dnF L t o) 0) (L 2) t * mD (va_up L (10 + o) 0) (L 2) t)) : dnF L t (o + 1) = dnF L t o := if_neg h

set_option maxHeartbeats 4000000 in
set_option maxRecDepth 100000 in
theorem c_X6_hedgeToOpen (l : Launch) (g : GE) (w : Nat → va_E) (t hk wh al u0 v0 p0 q0 r0 s0 : Nat) (x1 y1 tx ty : Int32) (L TL on bk : Nat → Nat) (hI : AdInj g) (hN : gN g = 130) (ht6 : t ≤ 6) (hok : Okg L) (hs : L 2 < 7) (pr0 : w 0 = .inr (6, [.ref (gad g 1), .ref (gad g 34), .ref (gad g 67), .ref (gad g 100), .ref (gad g 106), .ref (gad g 107), .ref (gad g 108), .ref (gad g 110), .int (nI hk)])) (pr1 : GAt g 1 x1 y1 L w) (pr2 : GAt g 67 tx ty TL w) (pr3 : w 100 = .inr (5, [.ref (gad g 101), .ref (gad g 102), .int (nI wh), .ref (gad g 103), .ref (gad g 104), .long (lN al), .ref (gad g 105)])) (pr4 : w 101 = .inl (gI g, 7, .inl (cK 7 0 on))) (pr5 : w 102 = .inl (gI g, 7, .inl (cK 7 0 bk))) (pr6 : w 105 = .inr (0, [.long (lN u0), .long (lN v0)])) (pr7 : w 106 = .inr (0, [.long (lN p0), .long (lN q0)])) (pr8 : w 107 = .inr (0, [.long (lN r0), .long (lN s0)])) : Met l yX6_hedgeToOpen wsX6_hedgeToOpen ({ frames := 4, cells := 0, slots := 0, locals := 97 } : Room) (XPc g w [.ref (gad g 0), .int (nI t)]) (XQi g (fun r w' => ∃ (L1 o1 b1 : Nat → Nat) (w1 u1 v1 r1 s1 : Nat), GAt g 67 tx ty L1 w' ∧ w' 100 = .inr (5, [.ref (gad g 101), .ref (gad g 102), .int (nI w1), .ref (gad g 103), .ref (gad g 104), .long (lN al), .ref (gad g 105)]) ∧ w' 101 = .inl (gI g, 7, .inl (cK 7 0 o1)) ∧ w' 102 = .inl (gI g, 7, .inl (cK 7 0 b1)) ∧ w' 105 = .inr (0, [.long (lN u1), .long (lN v1)]) ∧ w' 106 = .inr (0, [.long (lN (mU (va_up L (10 + dnF L t 7) 0) (L 2) t)), .long (lN (mD (va_up L (10 + dnF L t 7) 0) (L 2) t))]) ∧ w' 107 = .inr (0, [.long (lN r1), .long (lN s1)]) ∧ (∀ j : Nat, ¬ (68 ≤ j ∧ j < 72) → ¬ (100 ≤ j ∧ j < 103) → ¬ (105 ≤ j ∧ j < 108) → w' j = w j) ∧ r = (nI (dnF L t 7)))) 0 0 (gA g) := by
  refine xmet (cc := cX6_hedgeToOpen) (maxL := 4) (ret := (some .int)) (by decide) rfl hI (Nat.le_of_ble_eq_true rfl) ?_
  intro pG eG sG mG belowG methG cG ls C hr hlk hK hW hl
  have hl : lv_has ls 4 [(0, .ref (gad g 0)), (1, .int (nI t))] := hl
  have hinX0 : ∀ x ∈ u_ws RX0 TX0 2, x ∈ wsX6_hedgeToOpen := by decide +kernel
  have hinX1 : ∀ x ∈ u_ws RX1 TX1 8, x ∈ wsX6_hedgeToOpen := by decide +kernel
  have hinX2 : ∀ x ∈ u_ws RX2 TX2 5, x ∈ wsX6_hedgeToOpen := by decide +kernel
  have hinX6 : ∀ x ∈ u_ws RX6 TX6 9, x ∈ wsX6_hedgeToOpen := by decide +kernel
  refine lv_iconst (v := (nI 0)) C.1 C.2.1 dX6_hedgeToOpen_0 (by decide) ?_
  refine lv_istore_n (lv' := [(2, .int (nI 0)), (0, .ref (gad g 0)), (1, .int (nI t))]) C.1 C.2.1 dX6_hedgeToOpen_1 rfl hl (by decide) rfl (fun ls hl => ?_)
  refine lv_iconst (v := (nI 0)) C.1 C.2.1 dX6_hedgeToOpen_2 (by decide) ?_
  refine lv_istore_n (lv' := [(3, .int (nI 0)), (2, .int (nI 0)), (0, .ref (gad g 0)), (1, .int (nI t))]) C.1 C.2.1 dX6_hedgeToOpen_3 rfl hl (by decide) rfl (fun ls hl => ?_)
  have loop4 : ∀ (kG : Nat) (f : Nat) (TL2 o2 b2 : Nat → Nat) (wh2 u v p q r s : Nat) (v4 : Nat → va_E) (H : Heap) (locs : List Loc) (ls : Array Slot), kG = 7 - f → (v4 0 = .inr (6, [.ref (gad g 1), .ref (gad g 34), .ref (gad g 67), .ref (gad g 100), .ref (gad g 106), .ref (gad g 107), .ref (gad g 108), .ref (gad g 110), .int (nI hk)])) → (GAt g 1 x1 y1 L v4) → (GAt g 67 tx ty TL2 v4) → (v4 100 = .inr (5, [.ref (gad g 101), .ref (gad g 102), .int (nI wh2), .ref (gad g 103), .ref (gad g 104), .long (lN al), .ref (gad g 105)])) → (v4 101 = .inl (gI g, 7, .inl (cK 7 0 o2))) → (v4 102 = .inl (gI g, 7, .inl (cK 7 0 b2))) → (v4 105 = .inr (0, [.long (lN u), .long (lN v)])) → (v4 106 = .inr (0, [.long (lN p), .long (lN q)])) → (v4 107 = .inr (0, [.long (lN r), .long (lN s)])) → (∀ j : Nat, ¬ (68 ≤ j ∧ j < 72) → ¬ (100 ≤ j ∧ j < 103) → ¬ (105 ≤ j ∧ j < 108) → v4 j = w j) → (f ≤ 7) → (0 < f → p = mU (va_up L (10 + (dnF L t f)) 0) (L 2) t ∧ q = mD (va_up L (10 + (dnF L t f)) 0) (L 2) t) → XW g v4 (gA g) sG.heap H locs → lv_has ls 4 [(3, .int (nI f)), (2, .int (nI (dnF L t f))), (0, .ref (gad g 0)), (1, .int (nI t))] → W pG l eG ({ frames := 4, cells := 0, slots := 0, locals := 97 } : Room) sG mG ([.ref (gad g 0), .int (nI t)] : List Value).toArray belowG methG cG H locs 0 0 (MQ belowG (XQi g (fun r w' => ∃ (L1 o1 b1 : Nat → Nat) (w1 u1 v1 r1 s1 : Nat), GAt g 67 tx ty L1 w' ∧ w' 100 = .inr (5, [.ref (gad g 101), .ref (gad g 102), .int (nI w1), .ref (gad g 103), .ref (gad g 104), .long (lN al), .ref (gad g 105)]) ∧ w' 101 = .inl (gI g, 7, .inl (cK 7 0 o1)) ∧ w' 102 = .inl (gI g, 7, .inl (cK 7 0 b1)) ∧ w' 105 = .inr (0, [.long (lN u1), .long (lN v1)]) ∧ w' 106 = .inr (0, [.long (lN (mU (va_up L (10 + dnF L t 7) 0) (L 2) t)), .long (lN (mD (va_up L (10 + dnF L t 7) 0) (L 2) t))]) ∧ w' 107 = .inr (0, [.long (lN r1), .long (lN s1)]) ∧ (∀ j : Nat, ¬ (68 ≤ j ∧ j < 72) → ¬ (100 ≤ j ∧ j < 103) → ¬ (105 ≤ j ∧ j < 108) → w' j = w j) ∧ r = (nI (dnF L t 7)))) ([.ref (gad g 0), .int (nI t)] : List Value).toArray sG 0 0 (gA g)) (F0 mG 4 ls []) := by
    intro k4
    induction k4 using Nat.strongRecOn with
    | _ k4 ih4 =>
    intro f TL2 o2 b2 wh2 u v p q r s v4 H locs ls hk4 fa4_0 fa4_1 fa4_2 fa4_3 fa4_4 fa4_5 fa4_6 fa4_7 fa4_8 hfr4 hf7 hbest hW hl
    refine lv_iload_n C.1 C.2.1 dX6_hedgeToOpen_4 rfl (lv_at hl 0 rfl) ?_
    refine lv_bipush (v := (nI 7)) C.1 C.2.1 dX6_hedgeToOpen_5 (by decide) ?_
    refine xge (tgt := 114) C (by omega) (by omega) dX6_hedgeToOpen_7 (by decide) (fun c7 => ?_) (fun c7 => ?_)
    · have hb7 := hbest (by omega)
      have hf7 : f = 7 := by omega
      rw [hf7] at hb7
      refine lv_iload_n C.1 C.2.1 dX6_hedgeToOpen_114 rfl (lv_at hl 1 rfl) ?_
      exact xret_i C hr hlk hW ⟨_, _, _, _, _, _, _, _, fa4_2, fa4_3, fa4_4, fa4_5, fa4_6, (by rw [← hb7.1, ← hb7.2]; exact fa4_7), fa4_8, (fun j z0 z1 z2 => (hfr4 j z0 z1 z2)), (by rw [hf7])⟩ dX6_hedgeToOpen_115
    · refine lv_aload_n C.1 C.2.1 dX6_hedgeToOpen_10 rfl (lv_at hl 2 rfl) ?_
      refine xget C hK hW hinX6 rfl (by omega) fa4_0 2 (by decide) (List.mem_of_getElem? (i := 1) rfl) rfl dX6_hedgeToOpen_11 ?_
      refine lv_aload_n C.1 C.2.1 dX6_hedgeToOpen_14 rfl (lv_at hl 2 rfl) ?_
      refine xget C hK hW hinX6 rfl (by omega) fa4_0 0 (by decide) (List.mem_of_getElem? (i := 2) rfl) rfl dX6_hedgeToOpen_15 ?_
      refine xcV_v (n := 1) (As := [.ref (gad g 1)]) C hK hW (c_X1_takeGround l g v4 67 1 tx ty x1 y1 TL2 L hI hN (by omega) (by omega) (by omega) fa4_2 fa4_1) gX6_hedgeToOpen_X1_takeGround rfl ⟨rfl, rfl⟩ (by decide +kernel) ⟨Nat.le_of_ble_eq_true rfl, Nat.le_of_ble_eq_true rfl⟩ ⟨Nat.zero_le _, Nat.zero_le _⟩ rfl (by omega) fa4_2.1 rfl hl rfl (Nat.le_of_ble_eq_true rfl) dX6_hedgeToOpen_18 (fun w1 H locs q2 hW => ?_)
      obtain ⟨h4, f5⟩ := q2
      refine lv_aload_n C.1 C.2.1 dX6_hedgeToOpen_21 rfl (lv_at hl 2 rfl) ?_
      have h6 : w1 0 = .inr (6, [.ref (gad g 1), .ref (gad g 34), .ref (gad g 67), .ref (gad g 100), .ref (gad g 106), .ref (gad g 107), .ref (gad g 108), .ref (gad g 110), .int (nI hk)]) := ((f5 0 (by omega)).trans fa4_0)
      refine xget C hK hW hinX6 rfl (by omega) h6 2 (by decide) (List.mem_of_getElem? (i := 1) rfl) rfl dX6_hedgeToOpen_22 ?_
      refine xget C hK hW hinX1 rfl (by omega) h4.1 1 (by decide) (List.mem_of_getElem? (i := 3) rfl) rfl dX6_hedgeToOpen_25 ?_
      refine xget C hK hW hinX2 rfl (by omega) h4.2.2.1 4 (by decide) (List.mem_of_getElem? (i := 4) rfl) rfl dX6_hedgeToOpen_28 ?_
      refine lv_iload_n C.1 C.2.1 dX6_hedgeToOpen_31 rfl (lv_at hl 0 rfl) ?_
      refine lv_iconst (v := (nI 0)) C.1 C.2.1 dX6_hedgeToOpen_32 (by decide) ?_
      refine xistK (v := 0) C hK hW (by omega) h4.2.2.2.2 (by omega) (by decide) dX6_hedgeToOpen_33 (fun w7 H locs e8 f9 hW => ?_)
      have h10 : GAt g 67 tx ty (va_up L (10 + f) 0) w7 := GAt_hedge h4 (by omega) e8 f9
      have hokf := Okg_hedge (v := 0) hok (show f < 7 by omega) (by omega)
      refine lv_aload_n C.1 C.2.1 dX6_hedgeToOpen_34 rfl (lv_at hl 2 rfl) ?_
      have h11 : w7 0 = .inr (6, [.ref (gad g 1), .ref (gad g 34), .ref (gad g 67), .ref (gad g 100), .ref (gad g 106), .ref (gad g 107), .ref (gad g 108), .ref (gad g 110), .int (nI hk)]) := ((f9 0 (by omega)).trans h6)
      refine xget C hK hW hinX6 rfl (by omega) h11 3 (by decide) (List.mem_of_getElem? (i := 5) rfl) rfl dX6_hedgeToOpen_35 ?_
      refine lv_aload_n C.1 C.2.1 dX6_hedgeToOpen_38 rfl (lv_at hl 2 rfl) ?_
      refine xget C hK hW hinX6 rfl (by omega) h11 2 (by decide) (List.mem_of_getElem? (i := 1) rfl) rfl dX6_hedgeToOpen_39 ?_
      have h12 : w7 100 = .inr (5, [.ref (gad g 101), .ref (gad g 102), .int (nI wh2), .ref (gad g 103), .ref (gad g 104), .long (lN al), .ref (gad g 105)]) := ((f9 100 (by omega)).trans ((f5 100 (by omega)).trans fa4_3))
      have h13 : w7 101 = .inl (gI g, 7, .inl (cK 7 0 o2)) := ((f9 101 (by omega)).trans ((f5 101 (by omega)).trans fa4_4))
      have h14 : w7 102 = .inl (gI g, 7, .inl (cK 7 0 b2)) := ((f9 102 (by omega)).trans ((f5 102 (by omega)).trans fa4_5))
      refine xcV_v (n := 1) (As := [.ref (gad g 67)]) C hK hW (c_X5_learn l g w7 67 wh2 al tx ty (va_up L (10 + f) 0) o2 b2 hI hN (by omega) hokf h12 h13 h14 h10) gX6_hedgeToOpen_X5_learn rfl ⟨rfl, rfl⟩ (by decide +kernel) ⟨Nat.le_of_ble_eq_true rfl, Nat.le_of_ble_eq_true rfl⟩ ⟨Nat.zero_le _, Nat.zero_le _⟩ rfl (by omega) h12 rfl hl rfl (Nat.le_of_ble_eq_true rfl) dX6_hedgeToOpen_42 (fun w15 H locs q16 hW => ?_)
      obtain ⟨h18, h19, h20, f21⟩ := q16
      refine lv_aload_n C.1 C.2.1 dX6_hedgeToOpen_45 rfl (lv_at hl 2 rfl) ?_
      have h22 : w15 0 = .inr (6, [.ref (gad g 1), .ref (gad g 34), .ref (gad g 67), .ref (gad g 100), .ref (gad g 106), .ref (gad g 107), .ref (gad g 108), .ref (gad g 110), .int (nI hk)]) := ((f21 0 (by omega)).trans h11)
      refine xget C hK hW hinX6 rfl (by omega) h22 3 (by decide) (List.mem_of_getElem? (i := 5) rfl) rfl dX6_hedgeToOpen_46 ?_
      refine lv_aload_n C.1 C.2.1 dX6_hedgeToOpen_49 rfl (lv_at hl 2 rfl) ?_
      refine xget C hK hW hinX6 rfl (by omega) h22 0 (by decide) (List.mem_of_getElem? (i := 2) rfl) rfl dX6_hedgeToOpen_50 ?_
      have h23 : GAt g 1 x1 y1 L w15 := (GAt.fr (GAt.fr (GAt.fr fa4_1 (fun j h1 h2 => f5 j (by omega))) (fun j h1 h2 => f9 j (by omega))) (fun j h1 h2 => f21 j (by omega)))
      refine xget C hK hW hinX1 rfl (by omega) h23.1 1 (by decide) (List.mem_of_getElem? (i := 3) rfl) rfl dX6_hedgeToOpen_53 ?_
      refine xget C hK hW hinX2 rfl (by omega) h23.2.2.1 0 (by decide) (List.mem_of_getElem? (i := 6) rfl) rfl dX6_hedgeToOpen_56 ?_
      refine lv_iload_n C.1 C.2.1 dX6_hedgeToOpen_59 rfl (lv_at hl 3 rfl) ?_
      refine lv_aload_n C.1 C.2.1 dX6_hedgeToOpen_60 rfl (lv_at hl 2 rfl) ?_
      refine xget C hK hW hinX6 rfl (by omega) h22 5 (by decide) (List.mem_of_getElem? (i := 7) rfl) rfl dX6_hedgeToOpen_61 ?_
      have h24 : w15 105 = .inr (0, [.long (lN u), .long (lN v)]) := ((f21 105 (by omega)).trans ((f9 105 (by omega)).trans ((f5 105 (by omega)).trans fa4_6)))
      have h25 : w15 107 = .inr (0, [.long (lN r), .long (lN s)]) := ((f21 107 (by omega)).trans ((f9 107 (by omega)).trans ((f5 107 (by omega)).trans fa4_8)))
      refine xcV_v (n := 3) (As := [.int (nI (L 2)), .int (nI t), .ref (gad g 107)]) C hK hW (c_X5_average l g w15 (L 2) t 107 al (onF (va_up L (10 + f) 0)) (backF (va_up L (10 + f) 0)) (lN u) (lN v) (lN r) (lN s) hI hN (by omega) (by omega) (by omega) (by omega) (onF_9 hokf) (backF_4 hokf) h18 h19 h20 h24 h25) gX6_hedgeToOpen_X5_average rfl ⟨rfl, rfl⟩ (by decide +kernel) ⟨Nat.le_of_ble_eq_true rfl, Nat.le_of_ble_eq_true rfl⟩ ⟨Nat.zero_le _, Nat.zero_le _⟩ rfl (by omega) h18 rfl hl rfl (Nat.le_of_ble_eq_true rfl) dX6_hedgeToOpen_64 (fun w26 H locs q27 hW => ?_)
      obtain ⟨u1_32, v1_33, h29, h30, f31⟩ := q27
      have hmr := mU_red hokf (L 2) ht6
      have hm1 := mU_b hokf (L 2) ht6
      have h34 : w26 107 = .inr (0, [.long (lN (mU (va_up L (10 + f) 0) (L 2) t)), .long (lN (mD (va_up L (10 + f) 0) (L 2) t))]) := h29
      refine lv_iload_n C.1 C.2.1 dX6_hedgeToOpen_67 rfl (lv_at hl 0 rfl) ?_
      refine x0eq (tgt := 85) C (by omega) dX6_hedgeToOpen_68 (by decide) (fun c68 => ?_) (fun c68 => ?_)
      · refine lv_iload_n C.1 C.2.1 dX6_hedgeToOpen_85 rfl (lv_at hl 0 rfl) ?_
        refine lv_istore_n (lv' := [(2, .int (nI f)), (3, .int (nI f)), (0, .ref (gad g 0)), (1, .int (nI t))]) C.1 C.2.1 dX6_hedgeToOpen_86 rfl hl (by decide) rfl (fun ls hl => ?_)
        refine lv_aload_n C.1 C.2.1 dX6_hedgeToOpen_87 rfl (lv_at hl 2 rfl) ?_
        have h35 : w26 0 = .inr (6, [.ref (gad g 1), .ref (gad g 34), .ref (gad g 67), .ref (gad g 100), .ref (gad g 106), .ref (gad g 107), .ref (gad g 108), .ref (gad g 110), .int (nI hk)]) := ((f31 0 (by omega) (by omega)).trans h22)
        refine xget C hK hW hinX6 rfl (by omega) h35 4 (by decide) (List.mem_of_getElem? (i := 8) rfl) rfl dX6_hedgeToOpen_88 ?_
        refine lv_aload_n C.1 C.2.1 dX6_hedgeToOpen_91 rfl (lv_at hl 2 rfl) ?_
        refine xget C hK hW hinX6 rfl (by omega) h35 5 (by decide) (List.mem_of_getElem? (i := 7) rfl) rfl dX6_hedgeToOpen_92 ?_
        refine xget C hK hW hinX0 rfl (by omega) h34 0 (by decide) (List.mem_of_getElem? (i := 9) rfl) rfl dX6_hedgeToOpen_95 ?_
        refine lv_aload_n C.1 C.2.1 dX6_hedgeToOpen_98 rfl (lv_at hl 2 rfl) ?_
        refine xget C hK hW hinX6 rfl (by omega) h35 5 (by decide) (List.mem_of_getElem? (i := 7) rfl) rfl dX6_hedgeToOpen_99 ?_
        refine xget C hK hW hinX0 rfl (by omega) h34 1 (by decide) (List.mem_of_getElem? (i := 10) rfl) rfl dX6_hedgeToOpen_102 ?_
        have h36 : w26 106 = .inr (0, [.long (lN p), .long (lN q)]) := ((f31 106 (by omega) (by omega)).trans ((f21 106 (by omega)).trans ((f9 106 (by omega)).trans ((f5 106 (by omega)).trans fa4_7))))
        refine xcV_v (n := 2) (As := [.long (lN (mU (va_up L (10 + f) 0) (L 2) t)), .long (lN (mD (va_up L (10 + f) 0) (L 2) t))]) C hK hW (c_X0_become l g w26 106 (mU (va_up L (10 + f) 0) (L 2) t) (mD (va_up L (10 + f) 0) (L 2) t) (lN p) (lN q) hI hN (by omega) (by omega) (by omega) (by omega) h36) gX6_hedgeToOpen_X0_become rfl ⟨rfl, rfl⟩ (by decide +kernel) ⟨Nat.le_of_ble_eq_true rfl, Nat.le_of_ble_eq_true rfl⟩ ⟨Nat.zero_le _, Nat.zero_le _⟩ rfl (by omega) h36 rfl hl rfl (Nat.le_of_ble_eq_true rfl) dX6_hedgeToOpen_105 (fun w37 H locs q38 hW => ?_)
        obtain ⟨h40, f41⟩ := q38
        have hdn : dnF L t (f + 1) = f := dnF_y (Or.inl (by omega))
        have hl : lv_has ls 4 [(2, .int (nI (dnF L t (f + 1)))), (3, .int (nI f)), (0, .ref (gad g 0)), (1, .int (nI t))] := by rw [show dnF L t (f + 1) = f from hdn]; exact hl
        have h42 : w37 106 = .inr (0, [.long (lN (mU (va_up L (10 + f) 0) (L 2) t)), .long (lN (mD (va_up L (10 + f) 0) (L 2) t))]) := h40.trans (by rw [hmr.1, hmr.2])
        refine lv_iinc (v := nI (f + 1)) (lv' := [(3, .int (nI (f + 1))), (2, .int (nI (dnF L t (f + 1)))), (0, .ref (gad g 0)), (1, .int (nI t))]) C.1 C.2.1 dX6_hedgeToOpen_108 hl (k := 1) rfl (nI_add _ 1) (by decide) rfl (fun ls hl => ?_)
        refine lv_goto (tgt := 4) C.1 C.2.1 dX6_hedgeToOpen_111 (by decide) ?_
        have h43 : w37 0 = .inr (6, [.ref (gad g 1), .ref (gad g 34), .ref (gad g 67), .ref (gad g 100), .ref (gad g 106), .ref (gad g 107), .ref (gad g 108), .ref (gad g 110), .int (nI hk)]) := ((f41 0 (by omega)).trans h35)
        have h44 : GAt g 1 x1 y1 L w37 := (GAt.fr (GAt.fr h23 (fun j h1 h2 => f31 j (by omega) (by omega))) (fun j h1 h2 => f41 j (by omega)))
        have h45 : GAt g 67 tx ty (va_up L (10 + f) 0) w37 := (GAt.fr (GAt.fr (GAt.fr h10 (fun j h1 h2 => f21 j (by omega))) (fun j h1 h2 => f31 j (by omega) (by omega))) (fun j h1 h2 => f41 j (by omega)))
        have h46 : w37 100 = .inr (5, [.ref (gad g 101), .ref (gad g 102), .int (nI 10), .ref (gad g 103), .ref (gad g 104), .long (lN al), .ref (gad g 105)]) := ((f41 100 (by omega)).trans ((f31 100 (by omega) (by omega)).trans h18))
        have h47 : w37 101 = .inl (gI g, 7, .inl (cK 7 0 (onF (va_up L (10 + f) 0)))) := ((f41 101 (by omega)).trans ((f31 101 (by omega) (by omega)).trans h19))
        have h48 : w37 102 = .inl (gI g, 7, .inl (cK 7 0 (backF (va_up L (10 + f) 0)))) := ((f41 102 (by omega)).trans ((f31 102 (by omega) (by omega)).trans h20))
        have h49 : w37 105 = .inr (0, [.long (lN u1_32), .long (lN v1_33)]) := ((f41 105 (by omega)).trans h30)
        have h50 : w37 107 = .inr (0, [.long (lN (mU (va_up L (10 + f) 0) (L 2) t)), .long (lN (mD (va_up L (10 + f) 0) (L 2) t))]) := ((f41 107 (by omega)).trans h34)
        exact ih4 (7 - (f + 1)) (by omega) (f + 1) (va_up L (10 + f) 0) (onF (va_up L (10 + f) 0)) (backF (va_up L (10 + f) 0)) 10 u1_32 v1_33 (mU (va_up L (10 + f) 0) (L 2) t) (mD (va_up L (10 + f) 0) (L 2) t) (mU (va_up L (10 + f) 0) (L 2) t) (mD (va_up L (10 + f) 0) (L 2) t) w37 _ _ _ rfl h43 h44 h45 h46 h47 h48 h49 h42 h50 (fun j z0 z1 z2 => ((f41 j (by omega)).trans ((f31 j (by omega) (by omega)).trans ((f21 j (by omega)).trans ((f9 j (by omega)).trans ((f5 j (by omega)).trans (hfr4 j z0 z1 z2))))))) (by omega) (fun _ => by rw [hdn]; exact ⟨rfl, rfl⟩) hW hl
      · obtain ⟨hbp, hbq⟩ := hbest (by omega)
        have hdl := dnF_le L t f (by omega)
        have hm2 := mU_b (Okg_hedge (v := 0) hok hdl (by omega)) (L 2) ht6
        have hx1 : mU (va_up L (10 + f) 0) (L 2) t * q ≤ 6377292 * 531441 := Nat.mul_le_mul hm1.1 (by rw [hbq]; exact hm2.2.1)
        have hx2 : p * mD (va_up L (10 + f) 0) (L 2) t ≤ 6377292 * 531441 := Nat.mul_le_mul (by rw [hbp]; exact hm2.1) hm1.2.1
        refine lv_aload_n C.1 C.2.1 dX6_hedgeToOpen_71 rfl (lv_at hl 2 rfl) ?_
        have h51 : w26 0 = .inr (6, [.ref (gad g 1), .ref (gad g 34), .ref (gad g 67), .ref (gad g 100), .ref (gad g 106), .ref (gad g 107), .ref (gad g 108), .ref (gad g 110), .int (nI hk)]) := ((f31 0 (by omega) (by omega)).trans h22)
        refine xget C hK hW hinX6 rfl (by omega) h51 5 (by decide) (List.mem_of_getElem? (i := 7) rfl) rfl dX6_hedgeToOpen_72 ?_
        refine lv_aload_n C.1 C.2.1 dX6_hedgeToOpen_75 rfl (lv_at hl 2 rfl) ?_
        refine xget C hK hW hinX6 rfl (by omega) h51 4 (by decide) (List.mem_of_getElem? (i := 8) rfl) rfl dX6_hedgeToOpen_76 ?_
        have h52 : w26 106 = .inr (0, [.long (lN p), .long (lN q)]) := ((f31 106 (by omega) (by omega)).trans ((f21 106 (by omega)).trans ((f9 106 (by omega)).trans ((f5 106 (by omega)).trans fa4_7))))
        refine xcV_i (n := 1) (As := [.ref (gad g 106)]) C hK hW (c_X0_isBelow l g w26 107 106 (mU (va_up L (10 + f) 0) (L 2) t) (mD (va_up L (10 + f) 0) (L 2) t) p q hI hN (by omega) (by omega) (by omega) (by omega) h34 h52) gX6_hedgeToOpen_X0_isBelow rfl ⟨rfl, rfl⟩ (by decide +kernel) ⟨Nat.le_of_ble_eq_true rfl, Nat.le_of_ble_eq_true rfl⟩ ⟨Nat.zero_le _, Nat.zero_le _⟩ rfl (by omega) h34 rfl hl rfl (Nat.le_of_ble_eq_true rfl) dX6_hedgeToOpen_79 (fun r55 w53 H locs q54 hW => ?_)
        obtain ⟨qw56, rfl⟩ := q54
        rw [qw56] at hW
        refine xBeq (tgt := 108) C dX6_hedgeToOpen_82 (by decide) (fun c82 => ?_) (fun c82 => ?_)
        · have hdn : dnF L t (f + 1) = dnF L t f := dnF_n (fun z => z.elim (fun z => absurd z (by omega)) (fun z => c82 (by rw [hbp, hbq]; exact z)))
          have hl : lv_has ls 4 [(3, .int (nI f)), (2, .int (nI (dnF L t (f + 1)))), (0, .ref (gad g 0)), (1, .int (nI t))] := by rw [show dnF L t (f + 1) = dnF L t f from hdn]; exact hl
          refine lv_iinc (v := nI (f + 1)) (lv' := [(3, .int (nI (f + 1))), (2, .int (nI (dnF L t (f + 1)))), (0, .ref (gad g 0)), (1, .int (nI t))]) C.1 C.2.1 dX6_hedgeToOpen_108 hl (k := 0) rfl (nI_add _ 1) (by decide) rfl (fun ls hl => ?_)
          refine lv_goto (tgt := 4) C.1 C.2.1 dX6_hedgeToOpen_111 (by decide) ?_
          have h57 : GAt g 1 x1 y1 L w26 := (GAt.fr h23 (fun j h1 h2 => f31 j (by omega) (by omega)))
          have h58 : GAt g 67 tx ty (va_up L (10 + f) 0) w26 := (GAt.fr (GAt.fr h10 (fun j h1 h2 => f21 j (by omega))) (fun j h1 h2 => f31 j (by omega) (by omega)))
          have h59 : w26 100 = .inr (5, [.ref (gad g 101), .ref (gad g 102), .int (nI 10), .ref (gad g 103), .ref (gad g 104), .long (lN al), .ref (gad g 105)]) := ((f31 100 (by omega) (by omega)).trans h18)
          have h60 : w26 101 = .inl (gI g, 7, .inl (cK 7 0 (onF (va_up L (10 + f) 0)))) := ((f31 101 (by omega) (by omega)).trans h19)
          have h61 : w26 102 = .inl (gI g, 7, .inl (cK 7 0 (backF (va_up L (10 + f) 0)))) := ((f31 102 (by omega) (by omega)).trans h20)
          exact ih4 (7 - (f + 1)) (by omega) (f + 1) (va_up L (10 + f) 0) (onF (va_up L (10 + f) 0)) (backF (va_up L (10 + f) 0)) 10 u1_32 v1_33 p q (mU (va_up L (10 + f) 0) (L 2) t) (mD (va_up L (10 + f) 0) (L 2) t) w26 _ _ _ rfl h51 h57 h58 h59 h60 h61 h30 h52 h34 (fun j z0 z1 z2 => ((f31 j (by omega) (by omega)).trans ((f21 j (by omega)).trans ((f9 j (by omega)).trans ((f5 j (by omega)).trans (hfr4 j z0 z1 z2)))))) (by omega) (fun _ => by rw [hdn]; exact ⟨hbp, hbq⟩) hW hl
        · refine lv_iload_n C.1 C.2.1 dX6_hedgeToOpen_85 rfl (lv_at hl 0 rfl) ?_
          refine lv_istore_n (lv' := [(2, .int (nI f)), (3, .int (nI f)), (0, .ref (gad g 0)), (1, .int (nI t))]) C.1 C.2.1 dX6_hedgeToOpen_86 rfl hl (by decide) rfl (fun ls hl => ?_)
          refine lv_aload_n C.1 C.2.1 dX6_hedgeToOpen_87 rfl (lv_at hl 2 rfl) ?_
          refine xget C hK hW hinX6 rfl (by omega) h51 4 (by decide) (List.mem_of_getElem? (i := 8) rfl) rfl dX6_hedgeToOpen_88 ?_
          refine lv_aload_n C.1 C.2.1 dX6_hedgeToOpen_91 rfl (lv_at hl 2 rfl) ?_
          refine xget C hK hW hinX6 rfl (by omega) h51 5 (by decide) (List.mem_of_getElem? (i := 7) rfl) rfl dX6_hedgeToOpen_92 ?_
          refine xget C hK hW hinX0 rfl (by omega) h34 0 (by decide) (List.mem_of_getElem? (i := 9) rfl) rfl dX6_hedgeToOpen_95 ?_
          refine lv_aload_n C.1 C.2.1 dX6_hedgeToOpen_98 rfl (lv_at hl 2 rfl) ?_
          refine xget C hK hW hinX6 rfl (by omega) h51 5 (by decide) (List.mem_of_getElem? (i := 7) rfl) rfl dX6_hedgeToOpen_99 ?_
          refine xget C hK hW hinX0 rfl (by omega) h34 1 (by decide) (List.mem_of_getElem? (i := 10) rfl) rfl dX6_hedgeToOpen_102 ?_
          refine xcV_v (n := 2) (As := [.long (lN (mU (va_up L (10 + f) 0) (L 2) t)), .long (lN (mD (va_up L (10 + f) 0) (L 2) t))]) C hK hW (c_X0_become l g w26 106 (mU (va_up L (10 + f) 0) (L 2) t) (mD (va_up L (10 + f) 0) (L 2) t) (lN p) (lN q) hI hN (by omega) (by omega) (by omega) (by omega) h52) gX6_hedgeToOpen_X0_become rfl ⟨rfl, rfl⟩ (by decide +kernel) ⟨Nat.le_of_ble_eq_true rfl, Nat.le_of_ble_eq_true rfl⟩ ⟨Nat.zero_le _, Nat.zero_le _⟩ rfl (by omega) h52 rfl hl rfl (Nat.le_of_ble_eq_true rfl) dX6_hedgeToOpen_105 (fun w62 H locs q63 hW => ?_)
          obtain ⟨h65, f66⟩ := q63
          have hdn : dnF L t (f + 1) = f := dnF_y (Or.inr (by rw [← hbp, ← hbq]; exact c82))
          have hl : lv_has ls 4 [(2, .int (nI (dnF L t (f + 1)))), (3, .int (nI f)), (0, .ref (gad g 0)), (1, .int (nI t))] := by rw [show dnF L t (f + 1) = f from hdn]; exact hl
          have h67 : w62 106 = .inr (0, [.long (lN (mU (va_up L (10 + f) 0) (L 2) t)), .long (lN (mD (va_up L (10 + f) 0) (L 2) t))]) := h65.trans (by rw [hmr.1, hmr.2])
          refine lv_iinc (v := nI (f + 1)) (lv' := [(3, .int (nI (f + 1))), (2, .int (nI (dnF L t (f + 1)))), (0, .ref (gad g 0)), (1, .int (nI t))]) C.1 C.2.1 dX6_hedgeToOpen_108 hl (k := 1) rfl (nI_add _ 1) (by decide) rfl (fun ls hl => ?_)
          refine lv_goto (tgt := 4) C.1 C.2.1 dX6_hedgeToOpen_111 (by decide) ?_
          have h68 : w62 0 = .inr (6, [.ref (gad g 1), .ref (gad g 34), .ref (gad g 67), .ref (gad g 100), .ref (gad g 106), .ref (gad g 107), .ref (gad g 108), .ref (gad g 110), .int (nI hk)]) := ((f66 0 (by omega)).trans h51)
          have h69 : GAt g 1 x1 y1 L w62 := (GAt.fr (GAt.fr h23 (fun j h1 h2 => f31 j (by omega) (by omega))) (fun j h1 h2 => f66 j (by omega)))
          have h70 : GAt g 67 tx ty (va_up L (10 + f) 0) w62 := (GAt.fr (GAt.fr (GAt.fr h10 (fun j h1 h2 => f21 j (by omega))) (fun j h1 h2 => f31 j (by omega) (by omega))) (fun j h1 h2 => f66 j (by omega)))
          have h71 : w62 100 = .inr (5, [.ref (gad g 101), .ref (gad g 102), .int (nI 10), .ref (gad g 103), .ref (gad g 104), .long (lN al), .ref (gad g 105)]) := ((f66 100 (by omega)).trans ((f31 100 (by omega) (by omega)).trans h18))
          have h72 : w62 101 = .inl (gI g, 7, .inl (cK 7 0 (onF (va_up L (10 + f) 0)))) := ((f66 101 (by omega)).trans ((f31 101 (by omega) (by omega)).trans h19))
          have h73 : w62 102 = .inl (gI g, 7, .inl (cK 7 0 (backF (va_up L (10 + f) 0)))) := ((f66 102 (by omega)).trans ((f31 102 (by omega) (by omega)).trans h20))
          have h74 : w62 105 = .inr (0, [.long (lN u1_32), .long (lN v1_33)]) := ((f66 105 (by omega)).trans h30)
          have h75 : w62 107 = .inr (0, [.long (lN (mU (va_up L (10 + f) 0) (L 2) t)), .long (lN (mD (va_up L (10 + f) 0) (L 2) t))]) := ((f66 107 (by omega)).trans h34)
          exact ih4 (7 - (f + 1)) (by omega) (f + 1) (va_up L (10 + f) 0) (onF (va_up L (10 + f) 0)) (backF (va_up L (10 + f) 0)) 10 u1_32 v1_33 (mU (va_up L (10 + f) 0) (L 2) t) (mD (va_up L (10 + f) 0) (L 2) t) (mU (va_up L (10 + f) 0) (L 2) t) (mD (va_up L (10 + f) 0) (L 2) t) w62 _ _ _ rfl h68 h69 h70 h71 h72 h73 h74 h67 h75 (fun j z0 z1 z2 => ((f66 j (by omega)).trans ((f31 j (by omega) (by omega)).trans ((f21 j (by omega)).trans ((f9 j (by omega)).trans ((f5 j (by omega)).trans (hfr4 j z0 z1 z2))))))) (by omega) (fun _ => by rw [hdn]; exact ⟨rfl, rfl⟩) hW hl
  exact loop4 _ 0 TL on bk wh u0 v0 p0 q0 r0 s0 w _ _ _ rfl pr0 pr1 pr2 pr3 pr4 pr5 pr6 pr7 pr8 (fun j z0 z1 z2 => rfl) (by omega) (fun z => absurd z (Nat.lt_irrefl 0)) hW hl

set_option maxHeartbeats 4000000 in
set_option maxRecDepth 100000 in
theorem c_X6_down (l : Launch) (g : GE) (w : Nat → va_E) (L K T ln sz : Nat → Nat) (hk tn : Nat) (Z : Nat → Int64) (x : Int32) (z : Int32) (hI : AdInj g) (hN : gN g = 130) (hS : OkS (L, K, hk, tn, T, ln, sz, Z)) (pr0 : XAll g (L, K, hk, tn, T, ln, sz, Z) w) : Met l yX6_down wsX6_down ({ frames := 5, cells := 0, slots := 0, locals := 120 } : Room) (XPc g w [.ref (gad g 0), .int x, .int z]) (XQl g (fun r w' => XAll g (L, K, hk, tn, T, ln, sz, Z) w' ∧ (∀ j : Nat, ¬ (0 ≤ j ∧ j < 119) → w' j = w j) ∧ r = downS L x z)) 0 0 (gA g) := by
  refine xmet (cc := cX6_down) (maxL := 4) (ret := (some .long)) (by decide) rfl hI (Nat.le_of_ble_eq_true rfl) ?_
  intro pG eG sG mG belowG methG cG ls C hr hlk hK hW hl
  have hl : lv_has ls 4 [(0, .ref (gad g 0)), (1, .int x), (2, .int z)] := hl
  have hinX6 : ∀ x ∈ u_ws RX6 TX6 9, x ∈ wsX6_down := by decide +kernel
  obtain ⟨hXa, hXl, hXk, hXt, hXw, hXf, hXr, hXs⟩ := pr0
  have hXa : w 0 = cX0 g hk := hXa
  have hXl : XLand g 1 L w := hXl
  have hXk : XKept g hk K w := hXk
  have hXr : XRead g tn T w := hXr
  have hXs : XShs g ln sz Z w := hXs
  have hokL : OkL L := hS.1
  obtain ⟨hok, hs2, hdy, hdr, hcl, hkn, hcs, hps⟩ := hokL
  obtain ⟨π, P, CK, hG, hC, hCk, hPa, hPm, hPk⟩ := id hXl
  obtain ⟨tx, ty, TL, TC, hT, hTC⟩ := hXt
  obtain ⟨wh, al, sa, sb, on, bk, O, A, hw0, hw1, hw2, hw3, hw4, hw5⟩ := hXw
  obtain ⟨fa, fb, fc, fd, hf6, hf7⟩ := hXf
  refine lv_aload_n C.1 C.2.1 dX6_down_0 rfl (lv_at hl 0 rfl) ?_
  refine lv_iload_n C.1 C.2.1 dX6_down_1 rfl (lv_at hl 1 rfl) ?_
  refine xcV_i (n := 1) (As := [.int x]) C hK hW (c_X6_isAhead l g w x hk (nI (L 40)) (nI (L 24)) L hI hN hXa hG) gX6_down_X6_isAhead rfl ⟨rfl, rfl⟩ (by decide +kernel) ⟨Nat.le_of_ble_eq_true rfl, Nat.le_of_ble_eq_true rfl⟩ ⟨Nat.zero_le _, Nat.zero_le _⟩ rfl (by omega) hXa rfl hl rfl (Nat.le_of_ble_eq_true rfl) dX6_down_2 (fun r3 w1 H locs q2 hW => ?_)
  obtain ⟨qw4, rfl⟩ := q2
  rw [qw4] at hW
  refine xBeq (tgt := 17) C dX6_down_5 (by decide) (fun c5 => ?_) (fun c5 => ?_)
  · refine lv_ldc2 (v := (-1 : Int64)) C.1 C.2.1 C.2.2.2.1 (C.2.2.2.2 _ (List.mem_of_getElem? (i := 1) rfl)) dX6_down_17 ?_
    exact xret_l C hr hlk hW ⟨⟨hXa, hXl, hXk, ⟨_, _, _, _, hT, hTC⟩, ⟨_, _, _, _, _, _, _, _, hw0, hw1, hw2, hw3, hw4, hw5⟩, ⟨_, _, _, _, hf6, hf7⟩, hXr, hXs⟩, (fun j z0 => rfl), (by rw [downS, if_neg (c := inR x (nI (L 2)) (nI 6) ∧ inR z (nI 0) (nI 2)) (fun h => c5 h.1)])⟩ dX6_down_20
  · refine lv_iload_n C.1 C.2.1 dX6_down_8 rfl (lv_at hl 2 rfl) ?_
    refine lv_iconst (v := (nI 0)) C.1 C.2.1 dX6_down_9 (by decide) ?_
    refine lv_iconst (v := (nI 2)) C.1 C.2.1 dX6_down_10 (by decide) ?_
    refine xcS_i (n := 3) (As := [.int z, .int (nI 0), .int (nI 2)]) C hK hW (c_X6_isWithin l g w z (nI 0) (nI 2) hI hN) gX6_down_X6_isWithin rfl ⟨rfl, rfl⟩ (by decide +kernel) ⟨Nat.le_of_ble_eq_true rfl, Nat.le_of_ble_eq_true rfl⟩ ⟨Nat.zero_le _, Nat.zero_le _⟩ rfl hl rfl (Nat.le_of_ble_eq_true rfl) dX6_down_11 (fun r7 w5 H locs q6 hW => ?_)
    obtain ⟨qw8, rfl⟩ := q6
    rw [qw8] at hW
    refine xBne (tgt := 21) C dX6_down_14 (by decide) (fun c14 => ?_) (fun c14 => ?_)
    · obtain ⟨k1, ha_k1, hb_k1, hx_k1⟩ := inR_N (by omega) (by omega) c5
      rw [hx_k1] at hl
      obtain ⟨k3, ha_k3, hb_k3, hx_k3⟩ := inR_N (by omega) (by omega) c14
      rw [hx_k3] at hl
      have hdl := dnF_le L k1 7 (by omega)
      refine lv_aload_n C.1 C.2.1 dX6_down_21 rfl (lv_at hl 0 rfl) ?_
      refine lv_iload_n C.1 C.2.1 dX6_down_22 rfl (lv_at hl 1 rfl) ?_
      refine xcV_i (n := 1) (As := [.int (nI k1)]) C hK hW (c_X6_hedgeToOpen l g w k1 hk wh al sa sb fa fb fc fd (nI (L 40)) (nI (L 24)) tx ty L TL on bk hI hN (by omega) hok hs2 hXa hG hT hw0 hw1 hw2 hw5 hf6 hf7) gX6_down_X6_hedgeToOpen rfl ⟨rfl, rfl⟩ (by decide +kernel) ⟨Nat.le_of_ble_eq_true rfl, Nat.le_of_ble_eq_true rfl⟩ ⟨Nat.zero_le _, Nat.zero_le _⟩ rfl (by omega) hXa rfl hl rfl (Nat.le_of_ble_eq_true rfl) dX6_down_23 (fun r11 w9 H locs q10 hW => ?_)
      obtain ⟨L1_20, o1_21, b1_22, w1_23, u1_24, v1_25, r1_26, s1_27, h12, h13, h14, h15, h16, h17, h18, f19, rfl⟩ := q10
      refine lv_istore_n (lv' := [(3, .int (nI (dnF L k1 7))), (0, .ref (gad g 0)), (1, .int (nI k1)), (2, .int (nI k3))]) C.1 C.2.1 dX6_down_26 rfl hl (by decide) rfl (fun ls hl => ?_)
      refine lv_iload_n C.1 C.2.1 dX6_down_27 rfl (lv_at hl 3 rfl) ?_
      refine x0ne (tgt := 36) C (by omega) dX6_down_28 (by decide) (fun c28 => ?_) (fun c28 => ?_)
      · refine lv_aload_n C.1 C.2.1 dX6_down_36 rfl (lv_at hl 1 rfl) ?_
        have h28 : w9 0 = .inr (6, [.ref (gad g 1), .ref (gad g 34), .ref (gad g 67), .ref (gad g 100), .ref (gad g 106), .ref (gad g 107), .ref (gad g 108), .ref (gad g 110), .int (nI hk)]) := ((f19 0 (by omega) (by omega) (by omega)).trans hXa)
        refine xget C hK hW hinX6 rfl (by omega) h28 4 (by decide) (List.mem_of_getElem? (i := 2) rfl) rfl dX6_down_37 ?_
        refine lv_iload_n C.1 C.2.1 dX6_down_40 rfl (lv_at hl 3 rfl) ?_
        refine lv_iconst (v := (nI 1)) C.1 C.2.1 dX6_down_41 (by decide) ?_
        refine xsub C (by omega) dX6_down_42 ?_
        refine xcV_l (n := 1) (As := [.int (nI (k3 - 1))]) C hK hW (c_X0_told l g w9 106 (k3 - 1) (mU (va_up L (10 + dnF L k1 7) 0) (L 2) k1) (mD (va_up L (10 + dnF L k1 7) 0) (L 2) k1) hI hN (by omega) (by omega) h17) gX6_down_X0_told rfl ⟨rfl, rfl⟩ (by decide +kernel) ⟨Nat.le_of_ble_eq_true rfl, Nat.le_of_ble_eq_true rfl⟩ ⟨Nat.zero_le _, Nat.zero_le _⟩ rfl (by omega) h17 rfl hl rfl (Nat.le_of_ble_eq_true rfl) dX6_down_43 (fun r31 w29 H locs q30 hW => ?_)
        obtain ⟨qw32, rfl⟩ := q30
        rw [qw32] at hW
        by_cases h1 : k3 = 1
        · refine xtopL (b := mU (va_up L (10 + dnF L k1 7) 0) (L 2) k1) (if_pos (by omega)) ?_
          have h33 : XLand g 1 L w9 := (XLand.fr hXl (fun j h1 h2 => f19 j (by omega) (by omega) (by omega)))
          have h34 : XKept g hk K w9 := (XKept.fr hXk (fun j h1 h2 => f19 j (by omega) (by omega) (by omega)))
          have h35 : CAt g 67 TC w9 := (CAt.fr hTC (fun j h1 h2 => f19 j (by omega) (by omega) (by omega)))
          have h36 : w9 103 = .inl (gJ g, 7, .inr (.inl (cL 7 0 O))) := ((f19 103 (by omega) (by omega) (by omega)).trans hw3)
          have h37 : w9 104 = .inl (gJ g, 7, .inr (.inl (cL 7 0 A))) := ((f19 104 (by omega) (by omega) (by omega)).trans hw4)
          have h38 : XRead g tn T w9 := (XRead.fr hXr (fun j h1 h2 => f19 j (by omega) (by omega) (by omega)))
          have h39 : XShs g ln sz Z w9 := (XShs.fr hXs (fun j h1 h2 => f19 j (by omega) (by omega) (by omega)))
          exact xret_l C hr hlk hW ⟨⟨h28, h33, h34, ⟨_, _, _, _, h12, h35⟩, ⟨_, _, _, _, _, _, _, _, h13, h14, h15, h36, h37, h16⟩, ⟨_, _, _, _, h17, h18⟩, h38, h39⟩, (fun j z0 => (f19 j (by omega) (by omega) (by omega))), (by rw [downS, if_pos (c := inR x (nI (L 2)) (nI 6) ∧ inR z (nI 0) (nI 2)) ⟨c5, c14⟩, hx_k1, hx_k3, cl_nI (by omega), cl_nI (by omega), if_neg (c := k3 = 0) (by omega), if_pos (c := k3 = 1) (by omega)])⟩ dX6_down_46
        · refine xtopL (b := mD (va_up L (10 + dnF L k1 7) 0) (L 2) k1) (if_neg (by omega)) ?_
          have h40 : XLand g 1 L w9 := (XLand.fr hXl (fun j h1 h2 => f19 j (by omega) (by omega) (by omega)))
          have h41 : XKept g hk K w9 := (XKept.fr hXk (fun j h1 h2 => f19 j (by omega) (by omega) (by omega)))
          have h42 : CAt g 67 TC w9 := (CAt.fr hTC (fun j h1 h2 => f19 j (by omega) (by omega) (by omega)))
          have h43 : w9 103 = .inl (gJ g, 7, .inr (.inl (cL 7 0 O))) := ((f19 103 (by omega) (by omega) (by omega)).trans hw3)
          have h44 : w9 104 = .inl (gJ g, 7, .inr (.inl (cL 7 0 A))) := ((f19 104 (by omega) (by omega) (by omega)).trans hw4)
          have h45 : XRead g tn T w9 := (XRead.fr hXr (fun j h1 h2 => f19 j (by omega) (by omega) (by omega)))
          have h46 : XShs g ln sz Z w9 := (XShs.fr hXs (fun j h1 h2 => f19 j (by omega) (by omega) (by omega)))
          exact xret_l C hr hlk hW ⟨⟨h28, h40, h41, ⟨_, _, _, _, h12, h42⟩, ⟨_, _, _, _, _, _, _, _, h13, h14, h15, h43, h44, h16⟩, ⟨_, _, _, _, h17, h18⟩, h45, h46⟩, (fun j z0 => (f19 j (by omega) (by omega) (by omega))), (by rw [downS, if_pos (c := inR x (nI (L 2)) (nI 6) ∧ inR z (nI 0) (nI 2)) ⟨c5, c14⟩, hx_k1, hx_k3, cl_nI (by omega), cl_nI (by omega), if_neg (c := k3 = 0) (by omega), if_neg (c := k3 = 1) (by omega)])⟩ dX6_down_46
      · refine lv_iload_n C.1 C.2.1 dX6_down_31 rfl (lv_at hl 0 rfl) ?_
        refine xi2l C (by omega) dX6_down_32 ?_
        refine lv_goto (tgt := 46) C.1 C.2.1 dX6_down_33 (by decide) ?_
        have h47 : w9 0 = .inr (6, [.ref (gad g 1), .ref (gad g 34), .ref (gad g 67), .ref (gad g 100), .ref (gad g 106), .ref (gad g 107), .ref (gad g 108), .ref (gad g 110), .int (nI hk)]) := ((f19 0 (by omega) (by omega) (by omega)).trans hXa)
        have h48 : XLand g 1 L w9 := (XLand.fr hXl (fun j h1 h2 => f19 j (by omega) (by omega) (by omega)))
        have h49 : XKept g hk K w9 := (XKept.fr hXk (fun j h1 h2 => f19 j (by omega) (by omega) (by omega)))
        have h50 : CAt g 67 TC w9 := (CAt.fr hTC (fun j h1 h2 => f19 j (by omega) (by omega) (by omega)))
        have h51 : w9 103 = .inl (gJ g, 7, .inr (.inl (cL 7 0 O))) := ((f19 103 (by omega) (by omega) (by omega)).trans hw3)
        have h52 : w9 104 = .inl (gJ g, 7, .inr (.inl (cL 7 0 A))) := ((f19 104 (by omega) (by omega) (by omega)).trans hw4)
        have h53 : XRead g tn T w9 := (XRead.fr hXr (fun j h1 h2 => f19 j (by omega) (by omega) (by omega)))
        have h54 : XShs g ln sz Z w9 := (XShs.fr hXs (fun j h1 h2 => f19 j (by omega) (by omega) (by omega)))
        exact xret_l C hr hlk hW ⟨⟨h47, h48, h49, ⟨_, _, _, _, h12, h50⟩, ⟨_, _, _, _, _, _, _, _, h13, h14, h15, h51, h52, h16⟩, ⟨_, _, _, _, h17, h18⟩, h53, h54⟩, (fun j z0 => (f19 j (by omega) (by omega) (by omega))), (by rw [downS, if_pos (c := inR x (nI (L 2)) (nI 6) ∧ inR z (nI 0) (nI 2)) ⟨c5, c14⟩, hx_k1, hx_k3, cl_nI (by omega), cl_nI (by omega), if_pos (c := k3 = 0) (by omega)])⟩ dX6_down_46
    · refine lv_ldc2 (v := (-1 : Int64)) C.1 C.2.1 C.2.2.2.1 (C.2.2.2.2 _ (List.mem_of_getElem? (i := 1) rfl)) dX6_down_17 ?_
      exact xret_l C hr hlk hW ⟨⟨hXa, hXl, hXk, ⟨_, _, _, _, hT, hTC⟩, ⟨_, _, _, _, _, _, _, _, hw0, hw1, hw2, hw3, hw4, hw5⟩, ⟨_, _, _, _, hf6, hf7⟩, hXr, hXs⟩, (fun j z0 => rfl), (by rw [downS, if_neg (c := inR x (nI (L 2)) (nI 6) ∧ inR z (nI 0) (nI 2)) (fun h => c14 h.2)])⟩ dX6_down_20
