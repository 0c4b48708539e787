set_option maxHeartbeats 4000000 in
set_option maxRecDepth 100000 in
theorem c_X5_average (l : Launch) (g : GE) (w : Nat → va_E) (a t q al : Nat) (on bk : Nat → Nat) (x1 y1 x2 y2 : Int64) (hI : AdInj g) (hN : gN g = 130) (hq : 105 < q) (hq2 : q < 119) (ht : t ≤ 6) (ha : a < 7) (hon : ∀ f, f < 6 → 1 ≤ on f ∧ on f ≤ 9) (hbk : ∀ f, f < 7 → bk f ≤ 4) (pr0 : w 100 = .inr (5, [.ref (gad g 101), .ref (gad g 102), .int (nI 10), .ref (gad g 103), .ref (gad g 104), .long (lN al), .ref (gad g 105)])) (pr1 : w 101 = .inl (gI g, 7, .inl (cK 7 0 on))) (pr2 : w 102 = .inl (gI g, 7, .inl (cK 7 0 bk))) (pr3 : w 105 = .inr (0, [.long x1, .long y1])) (pr4 : w q = .inr (0, [.long x2, .long y2])) : Met l yX5_average wsX5_average ({ frames := 3, cells := 0, slots := 0, locals := 73 } : Room) (XPc g w [.ref (gad g 100), .int (nI a), .int (nI t), .ref (gad g q)]) (XQv g (fun w' => ∃ (u1 v1 : Nat), w' q = .inr (0, [.long (lN (redU (mS on bk a t) (mP on t))), .long (lN (redD (mS on bk a t) (mP on t)))]) ∧ w' 105 = .inr (0, [.long (lN u1), .long (lN v1)]) ∧ (∀ j : Nat, ¬ (105 ≤ j ∧ j < 106) → ¬ (q ≤ j ∧ j < q + 1) → w' j = w j))) 0 0 (gA g) := by
  refine xmet (cc := cX5_average) (maxL := 5) (ret := none) (by decide) rfl hI (Nat.le_of_ble_eq_true rfl) ?_
  intro pG eG sG mG belowG methG cG ls C hr hlk hK hW hl
  have hl : lv_has ls 5 [(0, .ref (gad g 100)), (1, .int (nI a)), (2, .int (nI t)), (3, .ref (gad g q))] := hl
  have hinX0 : ∀ x ∈ u_ws RX0 TX0 2, x ∈ wsX5_average := by decide +kernel
  have hinX5 : ∀ x ∈ u_ws RX5 TX5 7, x ∈ wsX5_average := by decide +kernel
  refine lv_aload_n C.1 C.2.1 dX5_average_0 rfl (lv_at hl 3 rfl) ?_
  refine lv_lconst (v := lN 0) C.1 C.2.1 dX5_average_1 (by decide) ?_
  refine lv_lconst (v := lN 1) C.1 C.2.1 dX5_average_2 (by decide) ?_
  refine xcV_v (n := 2) (As := [.long (lN 0), .long (lN 1)]) C hK hW (c_X0_become l g w q 0 1 x2 y2 hI hN (by omega) (by omega) (by omega) (by omega) pr4) gX5_average_X0_become rfl ⟨rfl, rfl⟩ (by decide +kernel) ⟨Nat.le_of_ble_eq_true rfl, Nat.le_of_ble_eq_true rfl⟩ ⟨Nat.zero_le _, Nat.zero_le _⟩ rfl (by omega) pr4 rfl hl rfl (Nat.le_of_ble_eq_true rfl) dX5_average_3 (fun w1 H locs q2 hW => ?_)
  obtain ⟨h4, f5⟩ := q2
  refine lv_aload_n C.1 C.2.1 dX5_average_6 rfl (lv_at hl 0 rfl) ?_
  have h6 : w1 100 = .inr (5, [.ref (gad g 101), .ref (gad g 102), .int (nI 10), .ref (gad g 103), .ref (gad g 104), .long (lN al), .ref (gad g 105)]) := ((f5 100 (by omega)).trans pr0)
  refine xget C hK hW hinX5 rfl (by omega) h6 6 (by decide) (List.mem_of_getElem? (i := 1) rfl) rfl dX5_average_7 ?_
  refine lv_lconst (v := lN 0) C.1 C.2.1 dX5_average_10 (by decide) ?_
  refine lv_lconst (v := lN 1) C.1 C.2.1 dX5_average_11 (by decide) ?_
  have h7 : w1 105 = .inr (0, [.long x1, .long y1]) := ((f5 105 (by omega)).trans pr3)
  refine xcV_v (n := 2) (As := [.long (lN 0), .long (lN 1)]) C hK hW (c_X0_become l g w1 105 0 1 x1 y1 hI hN (by omega) (by omega) (by omega) (by omega) h7) gX5_average_X0_become rfl ⟨rfl, rfl⟩ (by decide +kernel) ⟨Nat.le_of_ble_eq_true rfl, Nat.le_of_ble_eq_true rfl⟩ ⟨Nat.zero_le _, Nat.zero_le _⟩ rfl (by omega) h7 rfl hl rfl (Nat.le_of_ble_eq_true rfl) dX5_average_12 (fun w8 H locs q9 hW => ?_)
  obtain ⟨h11, f12⟩ := q9
  refine lv_iconst (v := (nI 0)) C.1 C.2.1 dX5_average_15 (by decide) ?_
  refine lv_istore (lv' := [(4, .int (nI 0)), (0, .ref (gad g 100)), (1, .int (nI a)), (2, .int (nI t)), (3, .ref (gad g q))]) C.1 C.2.1 dX5_average_16 hl (by decide) rfl (fun ls hl => ?_)
  have loop18 : ∀ (kG : Nat) (f : Nat) (v18 : Nat → va_E) (H : Heap) (locs : List Loc) (ls : Array Slot), kG = t - f → (v18 100 = .inr (5, [.ref (gad g 101), .ref (gad g 102), .int (nI 10), .ref (gad g 103), .ref (gad g 104), .long (lN al), .ref (gad g 105)])) → (v18 101 = .inl (gI g, 7, .inl (cK 7 0 on))) → (v18 102 = .inl (gI g, 7, .inl (cK 7 0 bk))) → (v18 105 = .inr (0, [.long (lN (redU (mA on bk f) (mP on f))), .long (lN (redD (mA on bk f) (mP on f)))])) → (v18 q = .inr (0, [.long (lN (redU (mS on bk a f) (mP on f))), .long (lN (redD (mS on bk a f) (mP on f)))])) → (∀ j : Nat, ¬ (105 ≤ j ∧ j < 106) → ¬ (q ≤ j ∧ j < q + 1) → v18 j = w j) → (f ≤ t) → XW g v18 (gA g) sG.heap H locs → lv_has ls 5 [(4, .int (nI f)), (0, .ref (gad g 100)), (1, .int (nI a)), (2, .int (nI t)), (3, .ref (gad g q))] → W pG l eG ({ frames := 3, cells := 0, slots := 0, locals := 73 } : Room) sG mG ([.ref (gad g 100), .int (nI a), .int (nI t), .ref (gad g q)] : List Value).toArray belowG methG cG H locs 0 0 (MQ belowG (XQv g (fun w' => ∃ (u1 v1 : Nat), w' q = .inr (0, [.long (lN (redU (mS on bk a t) (mP on t))), .long (lN (redD (mS on bk a t) (mP on t)))]) ∧ w' 105 = .inr (0, [.long (lN u1), .long (lN v1)]) ∧ (∀ j : Nat, ¬ (105 ≤ j ∧ j < 106) → ¬ (q ≤ j ∧ j < q + 1) → w' j = w j))) ([.ref (gad g 100), .int (nI a), .int (nI t), .ref (gad g q)] : List Value).toArray sG 0 0 (gA g)) (F0 mG 18 ls []) := by
    intro k18
    induction k18 using Nat.strongRecOn with
    | _ k18 ih18 =>
    intro f v18 H locs ls hk18 fa18_0 fa18_1 fa18_2 fa18_3 fa18_4 hfr18 hf hW hl
    refine lv_iload C.1 C.2.1 dX5_average_18 (lv_at hl 0 rfl) ?_
    refine lv_iload_n C.1 C.2.1 dX5_average_20 rfl (lv_at hl 3 rfl) ?_
    refine xge (tgt := 97) C (by omega) (by omega) dX5_average_21 (by decide) (fun c21 => ?_) (fun c21 => ?_)
    · exact xret_v C hr hlk hW ⟨_, _, (by rw [← show f = t by omega]; exact fa18_4), fa18_3, (fun j z0 z1 => (hfr18 j z0 z1))⟩ dX5_average_97
    · have hb := mB a hon hbk (f := f) (by omega)
      have hb1 := mB a hon hbk (f := f + 1) (by omega)
      have onf := hon f (by omega)
      have bkf := hbk f (by omega)
      have l1 := redU_le (mA on bk f) (mP on f)
      have l2 := redD_le (mA on bk f) (mP on f)
      have l3 := redD_pos (a := mA on bk f) hb.1
      have p1 : bk f * redU (mA on bk f) (mP on f) ≤ 4 * 1062882 := Nat.mul_le_mul bkf (by omega)
      have p2 : on f * redD (mA on bk f) (mP on f) ≤ 9 * 531441 := Nat.mul_le_mul onf.2 (by omega)
      have p3 : 0 < on f * redD (mA on bk f) (mP on f) := Nat.mul_pos (by omega) l3
      have l4 := redU_le (mA on bk (f + 1)) (mP on (f + 1))
      have l5 := redD_le (mA on bk (f + 1)) (mP on (f + 1))
      have l6 := redU_le (mS on bk a f) (mP on f)
      have l7 := redD_le (mS on bk a f) (mP on f)
      have p4 : redU (mS on bk a f) (mP on f) * redD (mA on bk (f + 1)) (mP on (f + 1)) ≤ 6377292 * 531441 := Nat.mul_le_mul (by omega) (by omega)
      have p5 : redU (mA on bk (f + 1)) (mP on (f + 1)) * redD (mS on bk a f) (mP on f) ≤ 1062882 * 531441 := Nat.mul_le_mul (by omega) (by omega)
      have p6 : redD (mS on bk a f) (mP on f) * redD (mA on bk (f + 1)) (mP on (f + 1)) ≤ 531441 * 531441 := Nat.mul_le_mul (by omega) (by omega)
      have p7 : 0 < redD (mS on bk a f) (mP on f) * redD (mA on bk (f + 1)) (mP on (f + 1)) := Nat.mul_pos (redD_pos hb.1) (redD_pos hb1.1)
      refine lv_aload_n C.1 C.2.1 dX5_average_24 rfl (lv_at hl 1 rfl) ?_
      refine xget C hK hW hinX5 rfl (by omega) fa18_0 6 (by decide) (List.mem_of_getElem? (i := 1) rfl) rfl dX5_average_25 ?_
      refine lv_aload_n C.1 C.2.1 dX5_average_28 rfl (lv_at hl 1 rfl) ?_
      refine xget C hK hW hinX5 rfl (by omega) fa18_0 2 (by decide) (List.mem_of_getElem? (i := 2) rfl) rfl dX5_average_29 ?_
      refine xi2l C (by omega) dX5_average_32 ?_
      refine lv_aload_n C.1 C.2.1 dX5_average_33 rfl (lv_at hl 1 rfl) ?_
      refine xget C hK hW hinX5 rfl (by omega) fa18_0 6 (by decide) (List.mem_of_getElem? (i := 1) rfl) rfl dX5_average_34 ?_
      refine xget C hK hW hinX0 rfl (by omega) fa18_3 1 (by decide) (List.mem_of_getElem? (i := 3) rfl) rfl dX5_average_37 ?_
      refine xlmul C dX5_average_40 ?_
      refine lv_aload_n C.1 C.2.1 dX5_average_41 rfl (lv_at hl 1 rfl) ?_
      refine xget C hK hW hinX5 rfl (by omega) fa18_0 1 (by decide) (List.mem_of_getElem? (i := 4) rfl) rfl dX5_average_42 ?_
      refine lv_iload C.1 C.2.1 dX5_average_45 (lv_at hl 0 rfl) ?_
      refine xildK0 C hK hW (by omega) fa18_2 (by omega) (by decide) dX5_average_47 ?_
      refine xi2l C (by omega) dX5_average_48 ?_
      refine lv_aload_n C.1 C.2.1 dX5_average_49 rfl (lv_at hl 1 rfl) ?_
      refine xget C hK hW hinX5 rfl (by omega) fa18_0 6 (by decide) (List.mem_of_getElem? (i := 1) rfl) rfl dX5_average_50 ?_
      refine xget C hK hW hinX0 rfl (by omega) fa18_3 0 (by decide) (List.mem_of_getElem? (i := 5) rfl) rfl dX5_average_53 ?_
      refine xlmul C dX5_average_56 ?_
      refine xladd C dX5_average_57 ?_
      refine lv_aload_n C.1 C.2.1 dX5_average_58 rfl (lv_at hl 1 rfl) ?_
      refine xget C hK hW hinX5 rfl (by omega) fa18_0 0 (by decide) (List.mem_of_getElem? (i := 6) rfl) rfl dX5_average_59 ?_
      refine lv_iload C.1 C.2.1 dX5_average_62 (lv_at hl 0 rfl) ?_
      refine xildK0 C hK hW (by omega) fa18_1 (by omega) (by decide) dX5_average_64 ?_
      refine xi2l C (by omega) dX5_average_65 ?_
      refine lv_aload_n C.1 C.2.1 dX5_average_66 rfl (lv_at hl 1 rfl) ?_
      refine xget C hK hW hinX5 rfl (by omega) fa18_0 6 (by decide) (List.mem_of_getElem? (i := 1) rfl) rfl dX5_average_67 ?_
      refine xget C hK hW hinX0 rfl (by omega) fa18_3 1 (by decide) (List.mem_of_getElem? (i := 3) rfl) rfl dX5_average_70 ?_
      refine xlmul C dX5_average_73 ?_
      refine xcV_v (n := 2) (As := [.long (lN ((10 * (redD (mA on bk f) (mP on f))) + ((bk f) * (redU (mA on bk f) (mP on f))))), .long (lN ((on f) * (redD (mA on bk f) (mP on f))))]) C hK hW (c_X0_become l g v18 105 ((10 * (redD (mA on bk f) (mP on f))) + ((bk f) * (redU (mA on bk f) (mP on f)))) ((on f) * (redD (mA on bk f) (mP on f))) (lN (redU (mA on bk f) (mP on f))) (lN (redD (mA on bk f) (mP on f))) hI hN (by omega) (by omega) (by omega) (by omega) fa18_3) gX5_average_X0_become rfl ⟨rfl, rfl⟩ (by decide +kernel) ⟨Nat.le_of_ble_eq_true rfl, Nat.le_of_ble_eq_true rfl⟩ ⟨Nat.zero_le _, Nat.zero_le _⟩ rfl (by omega) fa18_3 rfl hl rfl (Nat.le_of_ble_eq_true rfl) dX5_average_74 (fun w13 H locs q14 hW => ?_)
      obtain ⟨h16, f17⟩ := q14
      have h18 : w13 105 = .inr (0, [.long (lN (redU (mA on bk (f + 1)) (mP on (f + 1)))), .long (lN (redD (mA on bk (f + 1)) (mP on (f + 1))))]) := (h16).trans (by rw [(red_step hb.1).1, (red_step hb.1).2]; rfl)
      refine lv_iload C.1 C.2.1 dX5_average_77 (lv_at hl 0 rfl) ?_
      refine lv_iload_n C.1 C.2.1 dX5_average_79 rfl (lv_at hl 2 rfl) ?_
      refine xlt (tgt := 91) C (by omega) (by omega) dX5_average_80 (by decide) (fun c80 => ?_) (fun c80 => ?_)
      · have h19 : w13 q = .inr (0, [.long (lN (redU (mS on bk a f) (mP on f))), .long (lN (redD (mS on bk a f) (mP on f)))]) := ((f17 q (by omega)).trans fa18_4)
        have h20 : w13 q = .inr (0, [.long (lN (redU (mS on bk a (f + 1)) (mP on (f + 1)))), .long (lN (redD (mS on bk a (f + 1)) (mP on (f + 1))))]) := (h19).trans (by rw [mS_0 (f := f) (by omega), mS_0 (f := f + 1) (by omega), redU_0, redU_0, redD_0 hb.1, redD_0 hb1.1])
        refine lv_iinc (v := nI (f + 1)) (lv' := [(4, .int (nI (f + 1))), (0, .ref (gad g 100)), (1, .int (nI a)), (2, .int (nI t)), (3, .ref (gad g q))]) C.1 C.2.1 dX5_average_91 hl (k := 0) rfl (nI_add _ 1) (by decide) rfl (fun ls hl => ?_)
        refine lv_goto (tgt := 18) C.1 C.2.1 dX5_average_94 (by decide) ?_
        have h21 : w13 100 = .inr (5, [.ref (gad g 101), .ref (gad g 102), .int (nI 10), .ref (gad g 103), .ref (gad g 104), .long (lN al), .ref (gad g 105)]) := ((f17 100 (by omega)).trans fa18_0)
        have h22 : w13 101 = .inl (gI g, 7, .inl (cK 7 0 on)) := ((f17 101 (by omega)).trans fa18_1)
        have h23 : w13 102 = .inl (gI g, 7, .inl (cK 7 0 bk)) := ((f17 102 (by omega)).trans fa18_2)
        exact ih18 (t - (f + 1)) (by omega) (f + 1) w13 _ _ _ rfl h21 h22 h23 h18 h20 (fun j z0 z1 => ((f17 j (by omega)).trans (hfr18 j z0 z1))) (by omega) hW hl
      · refine lv_aload_n C.1 C.2.1 dX5_average_83 rfl (lv_at hl 4 rfl) ?_
        refine lv_aload_n C.1 C.2.1 dX5_average_84 rfl (lv_at hl 1 rfl) ?_
        have h24 : w13 100 = .inr (5, [.ref (gad g 101), .ref (gad g 102), .int (nI 10), .ref (gad g 103), .ref (gad g 104), .long (lN al), .ref (gad g 105)]) := ((f17 100 (by omega)).trans fa18_0)
        refine xget C hK hW hinX5 rfl (by omega) h24 6 (by decide) (List.mem_of_getElem? (i := 1) rfl) rfl dX5_average_85 ?_
        have h25 : w13 q = .inr (0, [.long (lN (redU (mS on bk a f) (mP on f))), .long (lN (redD (mS on bk a f) (mP on f)))]) := ((f17 q (by omega)).trans fa18_4)
        refine xcV_v (n := 1) (As := [.ref (gad g 105)]) C hK hW (c_X0_add l g w13 q 105 (redU (mS on bk a f) (mP on f)) (redD (mS on bk a f) (mP on f)) (redU (mA on bk (f + 1)) (mP on (f + 1))) (redD (mA on bk (f + 1)) (mP on (f + 1))) hI hN (by omega) (by omega) (by omega) (by omega) (by omega) h25 h18) gX5_average_X0_add rfl ⟨rfl, rfl⟩ (by decide +kernel) ⟨Nat.le_of_ble_eq_true rfl, Nat.le_of_ble_eq_true rfl⟩ ⟨Nat.zero_le _, Nat.zero_le _⟩ rfl (by omega) h25 rfl hl rfl (Nat.le_of_ble_eq_true rfl) dX5_average_88 (fun w26 H locs q27 hW => ?_)
        obtain ⟨h29, f30⟩ := q27
        have h31 : w26 q = .inr (0, [.long (lN (redU (mS on bk a (f + 1)) (mP on (f + 1)))), .long (lN (redD (mS on bk a (f + 1)) (mP on (f + 1))))]) := (h29).trans (by rw [show mS on bk a (f + 1) = mS on bk a f * on f + mA on bk (f + 1) from if_pos (by omega), show mP on (f + 1) = on f * mP on f from rfl, ← (red_sum hb.1 (by omega)).1, ← (red_sum hb.1 (by omega)).2])
        refine lv_iinc (v := nI (f + 1)) (lv' := [(4, .int (nI (f + 1))), (0, .ref (gad g 100)), (1, .int (nI a)), (2, .int (nI t)), (3, .ref (gad g q))]) C.1 C.2.1 dX5_average_91 hl (k := 0) rfl (nI_add _ 1) (by decide) rfl (fun ls hl => ?_)
        refine lv_goto (tgt := 18) C.1 C.2.1 dX5_average_94 (by decide) ?_
        have h32 : w26 100 = .inr (5, [.ref (gad g 101), .ref (gad g 102), .int (nI 10), .ref (gad g 103), .ref (gad g 104), .long (lN al), .ref (gad g 105)]) := ((f30 100 (by omega)).trans h24)
        have h33 : w26 101 = .inl (gI g, 7, .inl (cK 7 0 on)) := ((f30 101 (by omega)).trans ((f17 101 (by omega)).trans fa18_1))
        have h34 : w26 102 = .inl (gI g, 7, .inl (cK 7 0 bk)) := ((f30 102 (by omega)).trans ((f17 102 (by omega)).trans fa18_2))
        have h35 : w26 105 = .inr (0, [.long (lN (redU (mA on bk (f + 1)) (mP on (f + 1)))), .long (lN (redD (mA on bk (f + 1)) (mP on (f + 1))))]) := ((f30 105 (by omega)).trans h18)
        exact ih18 (t - (f + 1)) (by omega) (f + 1) w26 _ _ _ rfl h32 h33 h34 h35 h31 (fun j z0 z1 => ((f30 j (by omega)).trans ((f17 j (by omega)).trans (hfr18 j z0 z1)))) (by omega) hW hl
  have h36 : w8 100 = .inr (5, [.ref (gad g 101), .ref (gad g 102), .int (nI 10), .ref (gad g 103), .ref (gad g 104), .long (lN al), .ref (gad g 105)]) := ((f12 100 (by omega)).trans h6)
  have h37 : w8 101 = .inl (gI g, 7, .inl (cK 7 0 on)) := ((f12 101 (by omega)).trans ((f5 101 (by omega)).trans pr1))
  have h38 : w8 102 = .inl (gI g, 7, .inl (cK 7 0 bk)) := ((f12 102 (by omega)).trans ((f5 102 (by omega)).trans pr2))
  have h39 : w8 q = .inr (0, [.long (lN (redU 0 1)), .long (lN (redD 0 1))]) := ((f12 q (by omega)).trans h4)
  exact loop18 _ 0 w8 _ _ _ rfl h36 h37 h38 ((h11).trans rfl) ((h39).trans rfl) (fun j z0 z1 => ((f12 j (by omega)).trans (f5 j (by omega)))) (by omega) hW hl

set_option maxHeartbeats 4000000 in
set_option maxRecDepth 100000 in
theorem c_X6_foretell (l : Launch) (g : GE) (w : Nat → va_E) (b n hk wh al : Nat) (x y : Int32) (L on bk O A : Nat → Nat) (hI : AdInj g) (hN : gN g = 130) (hb : b + 33 ≤ 100) (hb0 : 0 < b) (hok : Okg L) (hs : L 2 < 7) (hn : n ≤ 9) (pr0 : w 0 = .inr (6, [.ref (gad g 1), .ref (gad g 34), .ref (gad g 67), .ref (gad g 100), .ref (gad g 106), .ref (gad g 107), .ref (gad g 108), .ref (gad g 110), .int (nI hk)])) (pr1 : w 100 = .inr (5, [.ref (gad g 101), .ref (gad g 102), .int (nI wh), .ref (gad g 103), .ref (gad g 104), .long (lN al), .ref (gad g 105)])) (pr2 : w 101 = .inl (gI g, 7, .inl (cK 7 0 on))) (pr3 : w 102 = .inl (gI g, 7, .inl (cK 7 0 bk))) (pr4 : w 103 = .inl (gJ g, 7, .inr (.inl (cL 7 0 O)))) (pr5 : w 104 = .inl (gJ g, 7, .inr (.inl (cL 7 0 A)))) (pr6 : GAt g b x y L w) : Met l yX6_foretell wsX6_foretell ({ frames := 5, cells := 0, slots := 0, locals := 108 } : Room) (XPc g w [.ref (gad g 0), .ref (gad g b), .int (nI n)]) (XQv g (fun w' => ∃ (A1 : Nat → Nat), w' 100 = .inr (5, [.ref (gad g 101), .ref (gad g 102), .int (nI 10), .ref (gad g 103), .ref (gad g 104), .long (lN (10 ^ n)), .ref (gad g 105)]) ∧ w' 101 = .inl (gI g, 7, .inl (cK 7 0 (onF L))) ∧ w' 102 = .inl (gI g, 7, .inl (cK 7 0 (backF L))) ∧ w' 103 = .inl (gJ g, 7, .inr (.inl (cL 7 0 (spreadO (onF L) (backF L) 10 (L 2) n)))) ∧ w' 104 = .inl (gJ g, 7, .inr (.inl (cL 7 0 A1))) ∧ (∀ j : Nat, ¬ (100 ≤ j ∧ j < 105) → w' j = w j))) 0 0 (gA g) := by
  refine xmet (cc := cX6_foretell) (maxL := 3) (ret := none) (by decide) rfl hI (Nat.le_of_ble_eq_true rfl) ?_
  intro pG eG sG mG belowG methG cG ls C hr hlk hK hW hl
  have hl : lv_has ls 3 [(0, .ref (gad g 0)), (1, .ref (gad g b)), (2, .int (nI n))] := hl
  have hinX1 : ∀ x ∈ u_ws RX1 TX1 8, x ∈ wsX6_foretell := by decide +kernel
  have hinX2 : ∀ x ∈ u_ws RX2 TX2 5, x ∈ wsX6_foretell := by decide +kernel
  have hinX6 : ∀ x ∈ u_ws RX6 TX6 9, x ∈ wsX6_foretell := by decide +kernel
  refine lv_aload_n C.1 C.2.1 dX6_foretell_0 rfl (lv_at hl 0 rfl) ?_
  refine xget C hK hW hinX6 rfl (by omega) pr0 3 (by decide) (List.mem_of_getElem? (i := 1) rfl) rfl dX6_foretell_1 ?_
  refine lv_aload_n C.1 C.2.1 dX6_foretell_4 rfl (lv_at hl 1 rfl) ?_
  refine xcV_v (n := 1) (As := [.ref (gad g b)]) C hK hW (c_X5_learn l g w b wh al x y L on bk hI hN (by omega) hok pr1 pr2 pr3 pr6) gX6_foretell_X5_learn rfl ⟨rfl, rfl⟩ (by decide +kernel) ⟨Nat.le_of_ble_eq_true rfl, Nat.le_of_ble_eq_true rfl⟩ ⟨Nat.zero_le _, Nat.zero_le _⟩ rfl (by omega) pr1 rfl hl rfl (Nat.le_of_ble_eq_true rfl) dX6_foretell_5 (fun w1 H locs q2 hW => ?_)
  obtain ⟨h4, h5, h6, f7⟩ := q2
  refine lv_aload_n C.1 C.2.1 dX6_foretell_8 rfl (lv_at hl 0 rfl) ?_
  have h8 : w1 0 = .inr (6, [.ref (gad g 1), .ref (gad g 34), .ref (gad g 67), .ref (gad g 100), .ref (gad g 106), .ref (gad g 107), .ref (gad g 108), .ref (gad g 110), .int (nI hk)]) := ((f7 0 (by omega)).trans pr0)
  refine xget C hK hW hinX6 rfl (by omega) h8 3 (by decide) (List.mem_of_getElem? (i := 1) rfl) rfl dX6_foretell_9 ?_
  refine lv_aload_n C.1 C.2.1 dX6_foretell_12 rfl (lv_at hl 1 rfl) ?_
  have h9 : GAt g b x y L w1 := (GAt.fr pr6 (fun j h1 h2 => f7 j (by omega)))
  refine xget C hK hW hinX1 rfl (by omega) h9.1 1 (by decide) (List.mem_of_getElem? (i := 2) rfl) rfl dX6_foretell_13 ?_
  refine xget C hK hW hinX2 rfl (by omega) h9.2.2.1 0 (by decide) (List.mem_of_getElem? (i := 3) rfl) rfl dX6_foretell_16 ?_
  refine lv_iload_n C.1 C.2.1 dX6_foretell_19 rfl (lv_at hl 2 rfl) ?_
  have h10 : w1 103 = .inl (gJ g, 7, .inr (.inl (cL 7 0 O))) := ((f7 103 (by omega)).trans pr4)
  have h11 : w1 104 = .inl (gJ g, 7, .inr (.inl (cL 7 0 A))) := ((f7 104 (by omega)).trans pr5)
  refine xcV_v (n := 2) (As := [.int (nI (L 2)), .int (nI n)]) C hK hW (c_X5_spread l g w1 (L 2) n 10 al (onF L) (backF L) O A hI hN (by omega) (by omega) (by omega) (fun f _ => onF_back L f) h4 h5 h6 h10 h11) gX6_foretell_X5_spread rfl ⟨rfl, rfl⟩ (by decide +kernel) ⟨Nat.le_of_ble_eq_true rfl, Nat.le_of_ble_eq_true rfl⟩ ⟨Nat.zero_le _, Nat.zero_le _⟩ rfl (by omega) h4 rfl hl rfl (Nat.le_of_ble_eq_true rfl) dX6_foretell_20 (fun w12 H locs q13 hW => ?_)
  obtain ⟨A1_19, h15, h16, h17, f18⟩ := q13
  have h20 : w12 101 = .inl (gI g, 7, .inl (cK 7 0 (onF L))) := ((f18 101 (by omega) (by omega)).trans h5)
  have h21 : w12 102 = .inl (gI g, 7, .inl (cK 7 0 (backF L))) := ((f18 102 (by omega) (by omega)).trans h6)
  exact xret_v C hr hlk hW ⟨_, h15, h20, h21, h16, h17, (fun j z0 => ((f18 j (by omega) (by omega)).trans (f7 j (by omega))))⟩ dX6_foretell_23

set_option maxHeartbeats 4000000 in
set_option maxRecDepth 100000 in
theorem c_X7_part (l : Launch) (g : GE) (w : Nat → va_E) (u v n : Nat) (hI : AdInj g) (hN : gN g = 130) (hu : u < 2 ^ 63) (hv : v < 2 ^ 63) (h0 : 0 < v) (hn : n < 3) : Met l yX7_part wsX7_part ({ frames := 0, cells := 0, slots := 0, locals := 0 } : Room) (XPc g w [.long (lN u), .long (lN v), .int (nI n)]) (XQl g (fun r w' => w' = w ∧ r = (lN (if n = 0 then redU u v else redD u v)))) 0 0 (gA g) := by
  refine xmet (cc := cX7_part) (maxL := 11) (ret := (some .long)) (by decide) rfl hI (Nat.le_of_ble_eq_true rfl) ?_
  intro pG eG sG mG belowG methG cG ls C hr hlk hK hW hl
  have hl : lv_has ls 11 [(0, .long (lN u)), (2, .long (lN v)), (4, .int (nI n))] := hl
  refine lv_lload_n C.1 C.2.1 dX7_part_0 rfl (lv_at hl 0 rfl) ?_
  refine lv_lstore (lv' := [(5, .long (lN u)), (0, .long (lN u)), (2, .long (lN v)), (4, .int (nI n))]) C.1 C.2.1 dX7_part_1 hl (by decide) rfl (fun ls hl => ?_)
  refine lv_lload_n C.1 C.2.1 dX7_part_3 rfl (lv_at hl 2 rfl) ?_
  refine lv_lstore (lv' := [(7, .long (lN v)), (5, .long (lN u)), (0, .long (lN u)), (2, .long (lN v)), (4, .int (nI n))]) C.1 C.2.1 dX7_part_4 hl (by decide) rfl (fun ls hl => ?_)
  have loop6 : ∀ (kG : Nat) (x y : Nat) (H : Heap) (locs : List Loc) (ls : Array Slot), kG = y → (Nat.gcd x y = Nat.gcd u v) → (x < 2 ^ 63) → (y < 2 ^ 63) → XW g w (gA g) sG.heap H locs → lv_has ls 11 [(7, .long (lN y)), (5, .long (lN x)), (0, .long (lN u)), (2, .long (lN v)), (4, .int (nI n))] → W pG l eG ({ frames := 0, cells := 0, slots := 0, locals := 0 } : Room) sG mG ([.long (lN u), .long (lN v), .int (nI n)] : List Value).toArray belowG methG cG H locs 0 0 (MQ belowG (XQl g (fun r w' => w' = w ∧ r = (lN (if n = 0 then redU u v else redD u v)))) ([.long (lN u), .long (lN v), .int (nI n)] : List Value).toArray sG 0 0 (gA g)) (F0 mG 6 ls []) := by
    intro k6
    induction k6 using Nat.strongRecOn with
    | _ k6 ih6 =>
    intro x y H locs ls hk6 hg hx hy hW hl
    refine lv_lload C.1 C.2.1 dX7_part_6 (lv_at hl 0 rfl) ?_
    refine lv_lconst (v := lN 0) C.1 C.2.1 dX7_part_8 (by decide) ?_
    refine xLle (tgt := 31) C (by omega) (by omega) dX7_part_9 dX7_part_10 (by decide) (fun c9 => ?_) (fun c9 => ?_)
    · have hxg : x = Nat.gcd u v := by rw [← hg, show y = 0 by omega, Nat.gcd_zero_right]
      have hxp := gcd_pos' (a := u) h0
      refine lv_iload C.1 C.2.1 dX7_part_31 (lv_at hl 4 rfl) ?_
      refine x0ne (tgt := 40) C (by omega) dX7_part_33 (by decide) (fun c33 => ?_) (fun c33 => ?_)
      · refine lv_lload_n C.1 C.2.1 dX7_part_40 rfl (lv_at hl 3 rfl) ?_
        refine lv_lload C.1 C.2.1 dX7_part_41 (lv_at hl 1 rfl) ?_
        refine xldiv C (by omega) (by omega) (by omega) dX7_part_43 ?_
        exact xret_l C hr hlk hW ⟨rfl, by rw [if_neg c33, redD, ← hxg]⟩ dX7_part_44
      · refine lv_lload_n C.1 C.2.1 dX7_part_36 rfl (lv_at hl 2 rfl) ?_
        refine lv_goto (tgt := 41) C.1 C.2.1 dX7_part_37 (by decide) ?_
        refine lv_lload C.1 C.2.1 dX7_part_41 (lv_at hl 1 rfl) ?_
        refine xldiv C (by omega) (by omega) (by omega) dX7_part_43 ?_
        exact xret_l C hr hlk hW ⟨rfl, by rw [if_pos c33, redU, ← hxg]⟩ dX7_part_44
    · have hm := Nat.mod_lt x (show 0 < y by omega)
      refine lv_lload C.1 C.2.1 dX7_part_13 (lv_at hl 1 rfl) ?_
      refine lv_lload C.1 C.2.1 dX7_part_15 (lv_at hl 0 rfl) ?_
      refine xlrem C (by omega) (by omega) (by omega) dX7_part_17 ?_
      refine lv_lstore (lv' := [(9, .long (lN (x % y))), (7, .long (lN y)), (5, .long (lN x)), (0, .long (lN u)), (2, .long (lN v)), (4, .int (nI n))]) C.1 C.2.1 dX7_part_18 hl (by decide) rfl (fun ls hl => ?_)
      refine lv_lload C.1 C.2.1 dX7_part_20 (lv_at hl 1 rfl) ?_
      refine lv_lstore (lv' := [(5, .long (lN y)), (9, .long (lN (x % y))), (7, .long (lN y)), (0, .long (lN u)), (2, .long (lN v)), (4, .int (nI n))]) C.1 C.2.1 dX7_part_22 hl (by decide) rfl (fun ls hl => ?_)
      refine lv_lload C.1 C.2.1 dX7_part_24 (lv_at hl 1 rfl) ?_
      refine lv_lstore (lv' := [(7, .long (lN (x % y))), (5, .long (lN y)), (9, .long (lN (x % y))), (0, .long (lN u)), (2, .long (lN v)), (4, .int (nI n))]) C.1 C.2.1 dX7_part_26 hl (by decide) rfl (fun ls hl => ?_)
      refine lv_goto (tgt := 6) C.1 C.2.1 dX7_part_28 (by decide) ?_
      exact ih6 ((x % y)) (by omega) y (x % y) _ _ _ rfl ((by rw [Nat.gcd_comm, ← Nat.gcd_rec, Nat.gcd_comm]; exact hg)) (by omega) (by omega) hW (lv_sub hl [0, 1, 3, 4, 5] rfl)
  exact loop6 _ u v _ _ _ rfl (rfl) (by omega) (by omega) hW hl

set_option maxHeartbeats 8000000 in
set_option maxRecDepth 100000 in
theorem c_X7_layOdds (l : Launch) (g : GE) (w : Nat → va_E) (i fr n : Nat) (le po ik ao mu md bu bd : Nat) (nu : Int32) (L O T : Nat → Nat) (hI : AdInj g) (hN : gN g = 130) (hi : i < 119 ∨ (123 < i ∧ i < 128)) (hfr : fr < 7) (hn : n ≤ 9) (hok : Okg L) (pr0 : w 119 = .inr (7, [.ref (gad g 120), .ref (gad g 121), .ref (gad g 122), .int (nI le), .ref (gad g 123), .int (nI po), .int nu, .ref (gad g 124), .ref (gad g 125), .ref (gad g 126), .ref (gad g 127), .int (nI ik), .ref (gad g 128), .ref (gad g 129), .long (lN ao), .long (lN mu), .long (lN md), .long (lN bu), .long (lN bd)])) (pr1 : w i = .inl (gI g, 177, .inl (cK 177 0 L))) (pr2 : w 128 = .inl (gJ g, 7, .inr (.inl (cL 7 0 O)))) (pr3 : w 129 = .inl (gJ g, 7, .inr (.inl (cL 7 0 T)))) : Met l yX7_layOdds wsX7_layOdds ({ frames := 2, cells := 0, slots := 0, locals := 46 } : Room) (XPc g w [.ref (gad g 119), .ref (gad g i), .int (nI fr), .int (nI n), .int (nI 0)]) (XQv g (fun w' => ∃ (T1 : Nat → Nat), w' 119 = .inr (7, [.ref (gad g 120), .ref (gad g 121), .ref (gad g 122), .int (nI le), .ref (gad g 123), .int (nI po), .int nu, .ref (gad g 124), .ref (gad g 125), .ref (gad g 126), .ref (gad g 127), .int (nI ik), .ref (gad g 128), .ref (gad g 129), .long (lN (10 ^ n)), .long (lN mu), .long (lN md), .long (lN bu), .long (lN bd)]) ∧ w' 128 = .inl (gJ g, 7, .inr (.inl (cL 7 0 (spreadO (onF L) (backF L) 10 fr n)))) ∧ w' 129 = .inl (gJ g, 7, .inr (.inl (cL 7 0 T1))) ∧ (∀ j : Nat, ¬ (119 ≤ j ∧ j < 120) → ¬ (128 ≤ j ∧ j < 130) → w' j = w j))) 0 0 (gA g) := by
  refine xmet (cc := cX7_layOdds) (maxL := 14) (ret := none) (by decide) rfl hI (Nat.le_of_ble_eq_true rfl) ?_
  intro pG eG sG mG belowG methG cG ls C hr hlk hK hW hl
  have hl : lv_has ls 14 [(0, .ref (gad g 119)), (1, .ref (gad g i)), (2, .int (nI fr)), (3, .int (nI n)), (4, .int (nI 0))] := hl
  have hinX7 : ∀ x ∈ u_ws RX7 TX7 19, x ∈ wsX7_layOdds := by decide +kernel
  refine lv_iconst (v := (nI 0)) C.1 C.2.1 dX7_layOdds_0 (by decide) ?_
  refine lv_istore (lv' := [(5, .int (nI 0)), (0, .ref (gad g 119)), (1, .ref (gad g i)), (2, .int (nI fr)), (3, .int (nI n)), (4, .int (nI 0))]) C.1 C.2.1 dX7_layOdds_1 hl (by decide) rfl (fun ls hl => ?_)
  have loop3 : ∀ (kG : Nat) (i5 : Nat) (v3 : Nat → va_E) (H : Heap) (locs : List Loc) (ls : Array Slot), kG = 7 - i5 → (v3 119 = .inr (7, [.ref (gad g 120), .ref (gad g 121), .ref (gad g 122), .int (nI le), .ref (gad g 123), .int (nI po), .int nu, .ref (gad g 124), .ref (gad g 125), .ref (gad g 126), .ref (gad g 127), .int (nI ik), .ref (gad g 128), .ref (gad g 129), .long (lN ao), .long (lN mu), .long (lN md), .long (lN bu), .long (lN bd)])) → (v3 128 = .inl (gJ g, 7, .inr (.inl (cL 7 0 (mixF i5 (startO fr) O))))) → (v3 129 = .inl (gJ g, 7, .inr (.inl (cL 7 0 T)))) → (v3 i = .inl (gI g, 177, .inl (cK 177 0 L))) → (∀ j : Nat, ¬ (119 ≤ j ∧ j < 120) → ¬ (128 ≤ j ∧ j < 130) → v3 j = w j) → (i5 ≤ 7) → XW g v3 (gA g) sG.heap H locs → lv_has ls 14 [(5, .int (nI i5)), (0, .ref (gad g 119)), (1, .ref (gad g i)), (2, .int (nI fr)), (3, .int (nI n)), (4, .int (nI 0))] → W pG l eG ({ frames := 2, cells := 0, slots := 0, locals := 46 } : Room) sG mG ([.ref (gad g 119), .ref (gad g i), .int (nI fr), .int (nI n), .int (nI 0)] : List Value).toArray belowG methG cG H locs 0 0 (MQ belowG (XQv g (fun w' => ∃ (T1 : Nat → Nat), w' 119 = .inr (7, [.ref (gad g 120), .ref (gad g 121), .ref (gad g 122), .int (nI le), .ref (gad g 123), .int (nI po), .int nu, .ref (gad g 124), .ref (gad g 125), .ref (gad g 126), .ref (gad g 127), .int (nI ik), .ref (gad g 128), .ref (gad g 129), .long (lN (10 ^ n)), .long (lN mu), .long (lN md), .long (lN bu), .long (lN bd)]) ∧ w' 128 = .inl (gJ g, 7, .inr (.inl (cL 7 0 (spreadO (onF L) (backF L) 10 fr n)))) ∧ w' 129 = .inl (gJ g, 7, .inr (.inl (cL 7 0 T1))) ∧ (∀ j : Nat, ¬ (119 ≤ j ∧ j < 120) → ¬ (128 ≤ j ∧ j < 130) → w' j = w j))) ([.ref (gad g 119), .ref (gad g i), .int (nI fr), .int (nI n), .int (nI 0)] : List Value).toArray sG 0 0 (gA g)) (F0 mG 3 ls []) := by
    intro k3
    induction k3 using Nat.strongRecOn with
    | _ k3 ih3 =>
    intro i5 v3 H locs ls hk3 fa3_0 fa3_1 fa3_2 fa3_3 hfr3 hi5 hW hl
    refine lv_iload C.1 C.2.1 dX7_layOdds_3 (lv_at hl 0 rfl) ?_
    refine lv_bipush (v := (nI 7)) C.1 C.2.1 dX7_layOdds_5 (by decide) ?_
    refine xge (tgt := 34) C (by omega) (by omega) dX7_layOdds_7 (by decide) (fun c7 => ?_) (fun c7 => ?_)
    · refine lv_iload C.1 C.2.1 dX7_layOdds_34 (lv_at hl 5 rfl) ?_
      refine x0ne (tgt := 45) C (by omega) dX7_layOdds_36 (by decide) (fun c36 => absurd c36 (by omega)) (fun c36 => ?_)
      refine lv_ldc2 (v := (lN 10)) C.1 C.2.1 C.2.2.2.1 (C.2.2.2.2 _ (List.mem_of_getElem? (i := 2) rfl)) dX7_layOdds_39 ?_
      refine lv_goto (tgt := 48) C.1 C.2.1 dX7_layOdds_42 (by decide) ?_
      refine lv_lstore (lv' := [(5, .long (lN 10)), (0, .ref (gad g 119)), (1, .ref (gad g i)), (2, .int (nI fr)), (3, .int (nI n)), (4, .int (nI 0))]) C.1 C.2.1 dX7_layOdds_48 hl (by decide) rfl (fun ls hl => ?_)
      refine lv_aload_n C.1 C.2.1 dX7_layOdds_50 rfl (lv_at hl 1 rfl) ?_
      refine lv_lconst (v := lN 1) C.1 C.2.1 dX7_layOdds_51 (by decide) ?_
      refine xput (v := .long (lN 1)) C hK hW hinX7 tyX7_ok nmX7 rfl (by omega) fa3_0 14 (by decide) (List.mem_of_getElem? (i := 4) rfl) rfl rfl rfl (Nat.le_of_ble_eq_true rfl) dX7_layOdds_52 (fun w1 H locs e2 f3 hW => ?_)
      refine lv_iconst (v := (nI 0)) C.1 C.2.1 dX7_layOdds_55 (by decide) ?_
      refine lv_istore (lv' := [(7, .int (nI 0)), (5, .long (lN 10)), (0, .ref (gad g 119)), (1, .ref (gad g i)), (2, .int (nI fr)), (3, .int (nI n)), (4, .int (nI 0))]) C.1 C.2.1 dX7_layOdds_56 hl (by decide) rfl (fun ls hl => ?_)
      have loop58 : ∀ (kG : Nat) (d : Nat) (T1 : Nat → Nat) (v58 : Nat → va_E) (H : Heap) (locs : List Loc) (ls : Array Slot), kG = n - d → (v58 119 = .inr (7, [.ref (gad g 120), .ref (gad g 121), .ref (gad g 122), .int (nI le), .ref (gad g 123), .int (nI po), .int nu, .ref (gad g 124), .ref (gad g 125), .ref (gad g 126), .ref (gad g 127), .int (nI ik), .ref (gad g 128), .ref (gad g 129), .long (lN (10 ^ d)), .long (lN mu), .long (lN md), .long (lN bu), .long (lN bd)])) → (v58 128 = .inl (gJ g, 7, .inr (.inl (cL 7 0 (spreadO (onF L) (backF L) 10 fr d))))) → (v58 129 = .inl (gJ g, 7, .inr (.inl (cL 7 0 T1)))) → (v58 i = .inl (gI g, 177, .inl (cK 177 0 L))) → (∀ j : Nat, ¬ (119 ≤ j ∧ j < 120) → ¬ (128 ≤ j ∧ j < 130) → v58 j = w j) → (d ≤ n) → XW g v58 (gA g) sG.heap H locs → lv_has ls 14 [(7, .int (nI d)), (5, .long (lN 10)), (0, .ref (gad g 119)), (1, .ref (gad g i)), (2, .int (nI fr)), (3, .int (nI n)), (4, .int (nI 0))] → W pG l eG ({ frames := 2, cells := 0, slots := 0, locals := 46 } : Room) sG mG ([.ref (gad g 119), .ref (gad g i), .int (nI fr), .int (nI n), .int (nI 0)] : List Value).toArray belowG methG cG H locs 0 0 (MQ belowG (XQv g (fun w' => ∃ (T1 : Nat → Nat), w' 119 = .inr (7, [.ref (gad g 120), .ref (gad g 121), .ref (gad g 122), .int (nI le), .ref (gad g 123), .int (nI po), .int nu, .ref (gad g 124), .ref (gad g 125), .ref (gad g 126), .ref (gad g 127), .int (nI ik), .ref (gad g 128), .ref (gad g 129), .long (lN (10 ^ n)), .long (lN mu), .long (lN md), .long (lN bu), .long (lN bd)]) ∧ w' 128 = .inl (gJ g, 7, .inr (.inl (cL 7 0 (spreadO (onF L) (backF L) 10 fr n)))) ∧ w' 129 = .inl (gJ g, 7, .inr (.inl (cL 7 0 T1))) ∧ (∀ j : Nat, ¬ (119 ≤ j ∧ j < 120) → ¬ (128 ≤ j ∧ j < 130) → w' j = w j))) ([.ref (gad g 119), .ref (gad g i), .int (nI fr), .int (nI n), .int (nI 0)] : List Value).toArray sG 0 0 (gA g)) (F0 mG 58 ls []) := by
        intro k58
        induction k58 using Nat.strongRecOn with
        | _ k58 ih58 =>
        intro d T1 v58 H locs ls hk58 fa58_0 fa58_1 fa58_2 fa58_3 hfr58 hd hW hl
        refine lv_iload C.1 C.2.1 dX7_layOdds_58 (lv_at hl 0 rfl) ?_
        refine lv_iload_n C.1 C.2.1 dX7_layOdds_60 rfl (lv_at hl 5 rfl) ?_
        refine xge (tgt := 277) C (by omega) (by omega) dX7_layOdds_61 (by decide) (fun c61 => ?_) (fun c61 => ?_)
        · exact xret_v C hr hlk hW ⟨T1, (by rw [← show d = n by omega]; exact fa58_0), (by rw [← show d = n by omega]; exact fa58_1), fa58_2, (fun j z0 z1 => (hfr58 j z0 z1))⟩ dX7_layOdds_277
        · refine lv_iconst (v := (nI 0)) C.1 C.2.1 dX7_layOdds_64 (by decide) ?_
          refine lv_istore (lv' := [(8, .int (nI 0)), (7, .int (nI d)), (5, .long (lN 10)), (0, .ref (gad g 119)), (1, .ref (gad g i)), (2, .int (nI fr)), (3, .int (nI n)), (4, .int (nI 0))]) C.1 C.2.1 dX7_layOdds_65 hl (by decide) rfl (fun ls hl => ?_)
          have loop67 : ∀ (kG : Nat) (j6 : Nat) (v67 : Nat → va_E) (H : Heap) (locs : List Loc) (ls : Array Slot), kG = 7 - j6 → (v67 119 = .inr (7, [.ref (gad g 120), .ref (gad g 121), .ref (gad g 122), .int (nI le), .ref (gad g 123), .int (nI po), .int nu, .ref (gad g 124), .ref (gad g 125), .ref (gad g 126), .ref (gad g 127), .int (nI ik), .ref (gad g 128), .ref (gad g 129), .long (lN (10 ^ d)), .long (lN mu), .long (lN md), .long (lN bu), .long (lN bd)])) → (v67 128 = .inl (gJ g, 7, .inr (.inl (cL 7 0 (spreadO (onF L) (backF L) 10 fr d))))) → (v67 129 = .inl (gJ g, 7, .inr (.inl (cL 7 0 (mixF j6 (fun _ => 0) T1))))) → (v67 i = .inl (gI g, 177, .inl (cK 177 0 L))) → (∀ j : Nat, ¬ (119 ≤ j ∧ j < 120) → ¬ (128 ≤ j ∧ j < 130) → v67 j = w j) → (j6 ≤ 7) → XW g v67 (gA g) sG.heap H locs → lv_has ls 14 [(8, .int (nI j6)), (7, .int (nI d)), (5, .long (lN 10)), (0, .ref (gad g 119)), (1, .ref (gad g i)), (2, .int (nI fr)), (3, .int (nI n)), (4, .int (nI 0))] → W pG l eG ({ frames := 2, cells := 0, slots := 0, locals := 46 } : Room) sG mG ([.ref (gad g 119), .ref (gad g i), .int (nI fr), .int (nI n), .int (nI 0)] : List Value).toArray belowG methG cG H locs 0 0 (MQ belowG (XQv g (fun w' => ∃ (T1 : Nat → Nat), w' 119 = .inr (7, [.ref (gad g 120), .ref (gad g 121), .ref (gad g 122), .int (nI le), .ref (gad g 123), .int (nI po), .int nu, .ref (gad g 124), .ref (gad g 125), .ref (gad g 126), .ref (gad g 127), .int (nI ik), .ref (gad g 128), .ref (gad g 129), .long (lN (10 ^ n)), .long (lN mu), .long (lN md), .long (lN bu), .long (lN bd)]) ∧ w' 128 = .inl (gJ g, 7, .inr (.inl (cL 7 0 (spreadO (onF L) (backF L) 10 fr n)))) ∧ w' 129 = .inl (gJ g, 7, .inr (.inl (cL 7 0 T1))) ∧ (∀ j : Nat, ¬ (119 ≤ j ∧ j < 120) → ¬ (128 ≤ j ∧ j < 130) → w' j = w j))) ([.ref (gad g 119), .ref (gad g i), .int (nI fr), .int (nI n), .int (nI 0)] : List Value).toArray sG 0 0 (gA g)) (F0 mG 67 ls []) := by
            intro k67
            induction k67 using Nat.strongRecOn with
            | _ k67 ih67 =>
            intro j6 v67 H locs ls hk67 fa67_0 fa67_1 fa67_2 fa67_3 hfr67 hj6 hW hl
            refine lv_iload C.1 C.2.1 dX7_layOdds_67 (lv_at hl 0 rfl) ?_
            refine lv_bipush (v := (nI 7)) C.1 C.2.1 dX7_layOdds_69 (by decide) ?_
            refine xge (tgt := 88) C (by omega) (by omega) dX7_layOdds_71 (by decide) (fun c71 => ?_) (fun c71 => ?_)
            · refine lv_iconst (v := (nI 0)) C.1 C.2.1 dX7_layOdds_88 (by decide) ?_
              refine lv_istore (lv' := [(8, .int (nI 0)), (7, .int (nI d)), (5, .long (lN 10)), (0, .ref (gad g 119)), (1, .ref (gad g i)), (2, .int (nI fr)), (3, .int (nI n)), (4, .int (nI 0))]) C.1 C.2.1 dX7_layOdds_89 hl (by decide) rfl (fun ls hl => ?_)
              have loop91 : ∀ (kG : Nat) (i8 : Nat) (v91 : Nat → va_E) (H : Heap) (locs : List Loc) (ls : Array Slot), kG = 7 - i8 → (v91 119 = .inr (7, [.ref (gad g 120), .ref (gad g 121), .ref (gad g 122), .int (nI le), .ref (gad g 123), .int (nI po), .int nu, .ref (gad g 124), .ref (gad g 125), .ref (gad g 126), .ref (gad g 127), .int (nI ik), .ref (gad g 128), .ref (gad g 129), .long (lN (10 ^ d)), .long (lN mu), .long (lN md), .long (lN bu), .long (lN bd)])) → (v91 128 = .inl (gJ g, 7, .inr (.inl (cL 7 0 (spreadO (onF L) (backF L) 10 fr d))))) → (v91 129 = .inl (gJ g, 7, .inr (.inl (cL 7 0 (accO (onF L) (backF L) 10 (spreadO (onF L) (backF L) 10 fr d) i8))))) → (v91 i = .inl (gI g, 177, .inl (cK 177 0 L))) → (∀ j : Nat, ¬ (119 ≤ j ∧ j < 120) → ¬ (128 ≤ j ∧ j < 130) → v91 j = w j) → (i8 ≤ 7) → XW g v91 (gA g) sG.heap H locs → lv_has ls 14 [(8, .int (nI i8)), (7, .int (nI d)), (5, .long (lN 10)), (0, .ref (gad g 119)), (1, .ref (gad g i)), (2, .int (nI fr)), (3, .int (nI n)), (4, .int (nI 0))] → W pG l eG ({ frames := 2, cells := 0, slots := 0, locals := 46 } : Room) sG mG ([.ref (gad g 119), .ref (gad g i), .int (nI fr), .int (nI n), .int (nI 0)] : List Value).toArray belowG methG cG H locs 0 0 (MQ belowG (XQv g (fun w' => ∃ (T1 : Nat → Nat), w' 119 = .inr (7, [.ref (gad g 120), .ref (gad g 121), .ref (gad g 122), .int (nI le), .ref (gad g 123), .int (nI po), .int nu, .ref (gad g 124), .ref (gad g 125), .ref (gad g 126), .ref (gad g 127), .int (nI ik), .ref (gad g 128), .ref (gad g 129), .long (lN (10 ^ n)), .long (lN mu), .long (lN md), .long (lN bu), .long (lN bd)]) ∧ w' 128 = .inl (gJ g, 7, .inr (.inl (cL 7 0 (spreadO (onF L) (backF L) 10 fr n)))) ∧ w' 129 = .inl (gJ g, 7, .inr (.inl (cL 7 0 T1))) ∧ (∀ j : Nat, ¬ (119 ≤ j ∧ j < 120) → ¬ (128 ≤ j ∧ j < 130) → w' j = w j))) ([.ref (gad g 119), .ref (gad g i), .int (nI fr), .int (nI n), .int (nI 0)] : List Value).toArray sG 0 0 (gA g)) (F0 mG 91 ls []) := by
                intro k91
                induction k91 using Nat.strongRecOn with
                | _ k91 ih91 =>
                intro i8 v91 H locs ls hk91 fa91_0 fa91_1 fa91_2 fa91_3 hfr91 hi8 hW hl
                refine lv_iload C.1 C.2.1 dX7_layOdds_91 (lv_at hl 0 rfl) ?_
                refine lv_bipush (v := (nI 7)) C.1 C.2.1 dX7_layOdds_93 (by decide) ?_
                refine xge (tgt := 230) C (by omega) (by omega) dX7_layOdds_95 (by decide) (fun c95 => ?_) (fun c95 => ?_)
                · refine lv_iconst (v := (nI 0)) C.1 C.2.1 dX7_layOdds_230 (by decide) ?_
                  refine lv_istore (lv' := [(8, .int (nI 0)), (7, .int (nI d)), (5, .long (lN 10)), (0, .ref (gad g 119)), (1, .ref (gad g i)), (2, .int (nI fr)), (3, .int (nI n)), (4, .int (nI 0))]) C.1 C.2.1 dX7_layOdds_231 hl (by decide) rfl (fun ls hl => ?_)
                  have loop233 : ∀ (kG : Nat) (j : Nat) (v233 : Nat → va_E) (H : Heap) (locs : List Loc) (ls : Array Slot), kG = 7 - j → (v233 119 = .inr (7, [.ref (gad g 120), .ref (gad g 121), .ref (gad g 122), .int (nI le), .ref (gad g 123), .int (nI po), .int nu, .ref (gad g 124), .ref (gad g 125), .ref (gad g 126), .ref (gad g 127), .int (nI ik), .ref (gad g 128), .ref (gad g 129), .long (lN (10 ^ d)), .long (lN mu), .long (lN md), .long (lN bu), .long (lN bd)])) → (v233 128 = .inl (gJ g, 7, .inr (.inl (cL 7 0 (mixF j (accO (onF L) (backF L) 10 (spreadO (onF L) (backF L) 10 fr d) 7) (spreadO (onF L) (backF L) 10 fr d)))))) → (v233 129 = .inl (gJ g, 7, .inr (.inl (cL 7 0 (accO (onF L) (backF L) 10 (spreadO (onF L) (backF L) 10 fr d) 7))))) → (v233 i = .inl (gI g, 177, .inl (cK 177 0 L))) → (∀ j : Nat, ¬ (119 ≤ j ∧ j < 120) → ¬ (128 ≤ j ∧ j < 130) → v233 j = w j) → (j ≤ 7) → XW g v233 (gA g) sG.heap H locs → lv_has ls 14 [(8, .int (nI j)), (7, .int (nI d)), (5, .long (lN 10)), (0, .ref (gad g 119)), (1, .ref (gad g i)), (2, .int (nI fr)), (3, .int (nI n)), (4, .int (nI 0))] → W pG l eG ({ frames := 2, cells := 0, slots := 0, locals := 46 } : Room) sG mG ([.ref (gad g 119), .ref (gad g i), .int (nI fr), .int (nI n), .int (nI 0)] : List Value).toArray belowG methG cG H locs 0 0 (MQ belowG (XQv g (fun w' => ∃ (T1 : Nat → Nat), w' 119 = .inr (7, [.ref (gad g 120), .ref (gad g 121), .ref (gad g 122), .int (nI le), .ref (gad g 123), .int (nI po), .int nu, .ref (gad g 124), .ref (gad g 125), .ref (gad g 126), .ref (gad g 127), .int (nI ik), .ref (gad g 128), .ref (gad g 129), .long (lN (10 ^ n)), .long (lN mu), .long (lN md), .long (lN bu), .long (lN bd)]) ∧ w' 128 = .inl (gJ g, 7, .inr (.inl (cL 7 0 (spreadO (onF L) (backF L) 10 fr n)))) ∧ w' 129 = .inl (gJ g, 7, .inr (.inl (cL 7 0 T1))) ∧ (∀ j : Nat, ¬ (119 ≤ j ∧ j < 120) → ¬ (128 ≤ j ∧ j < 130) → w' j = w j))) ([.ref (gad g 119), .ref (gad g i), .int (nI fr), .int (nI n), .int (nI 0)] : List Value).toArray sG 0 0 (gA g)) (F0 mG 233 ls []) := by
                    intro k233
                    induction k233 using Nat.strongRecOn with
                    | _ k233 ih233 =>
                    intro j v233 H locs ls hk233 fa233_0 fa233_1 fa233_2 fa233_3 hfr233 hj hW hl
                    refine lv_iload C.1 C.2.1 dX7_layOdds_233 (lv_at hl 0 rfl) ?_
                    refine lv_bipush (v := (nI 7)) C.1 C.2.1 dX7_layOdds_235 (by decide) ?_
                    refine xge (tgt := 260) C (by omega) (by omega) dX7_layOdds_237 (by decide) (fun c237 => ?_) (fun c237 => ?_)
                    · refine lv_aload_n C.1 C.2.1 dX7_layOdds_260 rfl (lv_at hl 3 rfl) ?_
                      refine lv_dup C.1 C.2.1 dX7_layOdds_261 rfl ?_
                      refine xget C hK hW hinX7 rfl (by omega) fa233_0 14 (by decide) (List.mem_of_getElem? (i := 4) rfl) rfl dX7_layOdds_262 ?_
                      refine lv_lload C.1 C.2.1 dX7_layOdds_265 (lv_at hl 2 rfl) ?_
                      refine xlmul C dX7_layOdds_267 ?_
                      refine xput (v := .long (lN ((10 ^ d) * 10))) C hK hW hinX7 tyX7_ok nmX7 rfl (by omega) fa233_0 14 (by decide) (List.mem_of_getElem? (i := 4) rfl) rfl rfl rfl (Nat.le_of_ble_eq_true rfl) dX7_layOdds_268 (fun w4 H locs e5 f6 hW => ?_)
                      refine lv_iinc (v := nI (d + 1)) (lv' := [(7, .int (nI (d + 1))), (8, .int (nI j)), (5, .long (lN 10)), (0, .ref (gad g 119)), (1, .ref (gad g i)), (2, .int (nI fr)), (3, .int (nI n)), (4, .int (nI 0))]) C.1 C.2.1 dX7_layOdds_271 hl (k := 1) rfl (nI_add _ 1) (by decide) rfl (fun ls hl => ?_)
                      refine lv_goto (tgt := 58) C.1 C.2.1 dX7_layOdds_274 (by decide) ?_
                      have h7 : w4 128 = .inl (gJ g, 7, .inr (.inl (cL 7 0 (mixF j (accO (onF L) (backF L) 10 (spreadO (onF L) (backF L) 10 fr d) 7) (spreadO (onF L) (backF L) 10 fr d))))) := ((f6 128 (by omega)).trans fa233_1)
                      have h8 : w4 129 = .inl (gJ g, 7, .inr (.inl (cL 7 0 (accO (onF L) (backF L) 10 (spreadO (onF L) (backF L) 10 fr d) 7)))) := ((f6 129 (by omega)).trans fa233_2)
                      have h9 : w4 i = .inl (gI g, 177, .inl (cK 177 0 L)) := ((f6 i (by omega)).trans fa233_3)
                      exact ih58 (n - (d + 1)) (by omega) (d + 1) (accO (onF L) (backF L) 10 (spreadO (onF L) (backF L) 10 fr d) 7) w4 _ _ _ rfl (by first | exact e5 | (rw [mixF_0]; exact e5) | (rw [mixF_up]; exact e5) | (refine (e5).trans ?_; rw [cK_mixE (by omega)]; done) | (refine (e5).trans ?_; rw [cL_mixE (by omega)]; done) | (refine (e5).trans ?_; rw [cL_mixE (by omega)]; rfl)) ((h7).trans (by rw [cL_mixE (by omega)]; exact congrArg (fun z => Sum.inl (gJ g, 7, Sum.inr (Sum.inl z))) (cL_congr (fun q hq => by rw [Nat.zero_add]; exact accO_7 hq)))) h8 h9 (fun j z0 z1 => ((f6 j (by omega)).trans (hfr233 j z0 z1))) (by omega) hW (lv_sub hl [0, 2, 3, 4, 5, 6, 7] rfl)
                    · refine lv_aload_n C.1 C.2.1 dX7_layOdds_240 rfl (lv_at hl 3 rfl) ?_
                      refine xget C hK hW hinX7 rfl (by omega) fa233_0 12 (by decide) (List.mem_of_getElem? (i := 1) rfl) rfl dX7_layOdds_241 ?_
                      refine lv_iload C.1 C.2.1 dX7_layOdds_244 (lv_at hl 0 rfl) ?_
                      refine lv_aload_n C.1 C.2.1 dX7_layOdds_246 rfl (lv_at hl 3 rfl) ?_
                      refine xget C hK hW hinX7 rfl (by omega) fa233_0 13 (by decide) (List.mem_of_getElem? (i := 5) rfl) rfl dX7_layOdds_247 ?_
                      refine lv_iload C.1 C.2.1 dX7_layOdds_250 (lv_at hl 0 rfl) ?_
                      refine xlldK0 C hK hW (by omega) fa233_2 (by omega) (by decide) dX7_layOdds_252 ?_
                      refine xlstK0 (v := (accO (onF L) (backF L) 10 (spreadO (onF L) (backF L) 10 fr d) 7) j) C hK hW (by omega) fa233_1 (by omega) (by decide) dX7_layOdds_253 (fun w10 H locs e11 f12 hW => ?_)
                      refine lv_iinc (v := nI (j + 1)) (lv' := [(8, .int (nI (j + 1))), (7, .int (nI d)), (5, .long (lN 10)), (0, .ref (gad g 119)), (1, .ref (gad g i)), (2, .int (nI fr)), (3, .int (nI n)), (4, .int (nI 0))]) C.1 C.2.1 dX7_layOdds_254 hl (k := 0) rfl (nI_add _ 1) (by decide) rfl (fun ls hl => ?_)
                      refine lv_goto (tgt := 233) C.1 C.2.1 dX7_layOdds_257 (by decide) ?_
                      have h13 : w10 119 = .inr (7, [.ref (gad g 120), .ref (gad g 121), .ref (gad g 122), .int (nI le), .ref (gad g 123), .int (nI po), .int nu, .ref (gad g 124), .ref (gad g 125), .ref (gad g 126), .ref (gad g 127), .int (nI ik), .ref (gad g 128), .ref (gad g 129), .long (lN (10 ^ d)), .long (lN mu), .long (lN md), .long (lN bu), .long (lN bd)]) := ((f12 119 (by omega)).trans fa233_0)
                      have h14 : w10 129 = .inl (gJ g, 7, .inr (.inl (cL 7 0 (accO (onF L) (backF L) 10 (spreadO (onF L) (backF L) 10 fr d) 7)))) := ((f12 129 (by omega)).trans fa233_2)
                      have h15 : w10 i = .inl (gI g, 177, .inl (cK 177 0 L)) := ((f12 i (by omega)).trans fa233_3)
                      exact ih233 (7 - (j + 1)) (by omega) (j + 1) w10 _ _ _ rfl h13 (by first | exact e11 | (rw [mixF_0]; exact e11) | (rw [mixF_up]; exact e11) | (refine (e11).trans ?_; rw [cK_mixE (by omega)]; done) | (refine (e11).trans ?_; rw [cL_mixE (by omega)]; done) | (refine (e11).trans ?_; rw [cL_mixE (by omega)]; rfl)) h14 h15 (fun j z0 z1 => ((f12 j (by omega)).trans (hfr233 j z0 z1))) (by omega) hW hl
                  exact loop233 _ 0 v91 _ _ _ rfl fa91_0 (by first | exact fa91_1 | (rw [mixF_0]; exact fa91_1) | (rw [mixF_up]; exact fa91_1) | (refine (fa91_1).trans ?_; rw [cK_mixE (by omega)]; done) | (refine (fa91_1).trans ?_; rw [cL_mixE (by omega)]; done) | (refine (fa91_1).trans ?_; rw [cL_mixE (by omega)]; rfl)) ((fa91_2).trans (by rw [show i8 = 7 by omega])) fa91_3 (fun j z0 z1 => (hfr91 j z0 z1)) (by omega) hW hl
                · have ho8 := onF_le L i8
                  have hb8 := back_le L i8
                  have hob8 := ((fun f _ => onF_back L f) : ∀ f, f < 7 → (onF L) f + (backF L) f ≤ 10) i8 (by omega)
                  refine lv_iload C.1 C.2.1 dX7_layOdds_98 (lv_at hl 7 rfl) ?_
                  refine x0ne (tgt := 107) C (by omega) dX7_layOdds_100 (by decide) (fun c100 => absurd c100 (by omega)) (fun c100 => ?_)
                  refine lv_iconst (v := (nI 1)) C.1 C.2.1 dX7_layOdds_103 (by decide) ?_
                  refine lv_goto (tgt := 112) C.1 C.2.1 dX7_layOdds_104 (by decide) ?_
                  refine lv_istore (lv' := [(9, .int (nI 1)), (8, .int (nI i8)), (7, .int (nI d)), (5, .long (lN 10)), (0, .ref (gad g 119)), (1, .ref (gad g i)), (2, .int (nI fr)), (3, .int (nI n)), (4, .int (nI 0))]) C.1 C.2.1 dX7_layOdds_112 hl (by decide) rfl (fun ls hl => ?_)
                  refine lv_iload C.1 C.2.1 dX7_layOdds_114 (lv_at hl 0 rfl) ?_
                  refine xi2l C (by omega) dX7_layOdds_116 ?_
                  refine lv_aload_n C.1 C.2.1 dX7_layOdds_117 rfl (lv_at hl 5 rfl) ?_
                  refine lv_iload C.1 C.2.1 dX7_layOdds_118 (lv_at hl 1 rfl) ?_
                  refine xcS_i (n := 2) (As := [.ref (gad g i), .int (nI i8)]) C hK hW (c_X7_onOf l g v91 i i8 L hI hN (by omega) (by omega) hok fa91_3) gX7_layOdds_X7_onOf rfl ⟨rfl, rfl⟩ (by decide +kernel) ⟨Nat.le_of_ble_eq_true rfl, Nat.le_of_ble_eq_true rfl⟩ ⟨Nat.zero_le _, Nat.zero_le _⟩ rfl hl rfl (Nat.le_of_ble_eq_true rfl) dX7_layOdds_120 (fun r18 w16 H locs q17 hW => ?_)
                  obtain ⟨qw19, rfl⟩ := q17
                  rw [qw19] at hW
                  refine xi2l C (by omega) dX7_layOdds_123 ?_
                  refine xlmul C dX7_layOdds_124 ?_
                  refine xtopL (b := onF L i8) (Nat.one_mul _) ?_
                  refine lv_lstore (lv' := [(10, .long (lN (onF L i8))), (9, .int (nI 1)), (8, .int (nI i8)), (7, .int (nI d)), (5, .long (lN 10)), (0, .ref (gad g 119)), (1, .ref (gad g i)), (2, .int (nI fr)), (3, .int (nI n)), (4, .int (nI 0))]) C.1 C.2.1 dX7_layOdds_125 hl (by decide) rfl (fun ls hl => ?_)
                  refine lv_iload C.1 C.2.1 dX7_layOdds_127 (lv_at hl 1 rfl) ?_
                  refine xi2l C (by omega) dX7_layOdds_129 ?_
                  refine lv_aload_n C.1 C.2.1 dX7_layOdds_130 rfl (lv_at hl 6 rfl) ?_
                  refine lv_iload C.1 C.2.1 dX7_layOdds_131 (lv_at hl 2 rfl) ?_
                  refine xcS_i (n := 2) (As := [.ref (gad g i), .int (nI i8)]) C hK hW (c_X7_backOf l g v91 i i8 L hI hN (by omega) (by omega) hok fa91_3) gX7_layOdds_X7_backOf rfl ⟨rfl, rfl⟩ (by decide +kernel) ⟨Nat.le_of_ble_eq_true rfl, Nat.le_of_ble_eq_true rfl⟩ ⟨Nat.zero_le _, Nat.zero_le _⟩ rfl hl rfl (Nat.le_of_ble_eq_true rfl) dX7_layOdds_133 (fun r22 w20 H locs q21 hW => ?_)
                  obtain ⟨qw23, rfl⟩ := q21
                  rw [qw23] at hW
                  refine xi2l C (by omega) dX7_layOdds_136 ?_
                  refine xlmul C dX7_layOdds_137 ?_
                  refine xtopL (b := backF L i8) (Nat.one_mul _) ?_
                  refine lv_lstore (lv' := [(12, .long (lN (backF L i8))), (10, .long (lN (onF L i8))), (9, .int (nI 1)), (8, .int (nI i8)), (7, .int (nI d)), (5, .long (lN 10)), (0, .ref (gad g 119)), (1, .ref (gad g i)), (2, .int (nI fr)), (3, .int (nI n)), (4, .int (nI 0))]) C.1 C.2.1 dX7_layOdds_138 hl (by decide) rfl (fun ls hl => ?_)
                  refine lv_aload_n C.1 C.2.1 dX7_layOdds_140 rfl (lv_at hl 6 rfl) ?_
                  refine xget C hK hW hinX7 rfl (by omega) fa91_0 13 (by decide) (List.mem_of_getElem? (i := 5) rfl) rfl dX7_layOdds_141 ?_
                  refine lv_iload C.1 C.2.1 dX7_layOdds_144 (lv_at hl 3 rfl) ?_
                  refine lv_dup2_11 C.1 C.2.1 dX7_layOdds_146 rfl rfl ?_
                  refine xlldK0 C hK hW (by omega) fa91_2 (by omega) (by decide) dX7_layOdds_147 ?_
                  refine lv_aload_n C.1 C.2.1 dX7_layOdds_148 rfl (lv_at hl 6 rfl) ?_
                  refine xget C hK hW hinX7 rfl (by omega) fa91_0 12 (by decide) (List.mem_of_getElem? (i := 1) rfl) rfl dX7_layOdds_149 ?_
                  refine lv_iload C.1 C.2.1 dX7_layOdds_152 (lv_at hl 3 rfl) ?_
                  refine xlldK0 C hK hW (by omega) fa91_1 (by omega) (by decide) dX7_layOdds_154 ?_
                  refine lv_lload C.1 C.2.1 dX7_layOdds_155 (lv_at hl 5 rfl) ?_
                  refine lv_lload C.1 C.2.1 dX7_layOdds_157 (lv_at hl 1 rfl) ?_
                  refine xlsub C (by omega) dX7_layOdds_159 ?_
                  refine lv_lload C.1 C.2.1 dX7_layOdds_160 (lv_at hl 0 rfl) ?_
                  refine xlsub C (by omega) dX7_layOdds_162 ?_
                  refine xlmul C dX7_layOdds_163 ?_
                  refine xladd C dX7_layOdds_164 ?_
                  refine xlstK0 (v := ((accO (onF L) (backF L) 10 (spreadO (onF L) (backF L) 10 fr d) i8) i8) + (((spreadO (onF L) (backF L) 10 fr d) i8) * ((10 - (onF L i8)) - (backF L i8)))) C hK hW (by omega) fa91_2 (by omega) (by decide) dX7_layOdds_165 (fun w24 H locs e25 f26 hW => ?_)
                  refine lv_lload C.1 C.2.1 dX7_layOdds_166 (lv_at hl 1 rfl) ?_
                  refine lv_lconst (v := lN 0) C.1 C.2.1 dX7_layOdds_168 (by decide) ?_
                  refine xLle (tgt := 195) C (by omega) (by omega) dX7_layOdds_169 dX7_layOdds_170 (by decide) (fun c169 => ?_) (fun c169 => ?_)
                  · refine lv_lload C.1 C.2.1 dX7_layOdds_195 (lv_at hl 0 rfl) ?_
                    refine lv_lconst (v := lN 0) C.1 C.2.1 dX7_layOdds_197 (by decide) ?_
                    refine xLle (tgt := 224) C (by omega) (by omega) dX7_layOdds_198 dX7_layOdds_199 (by decide) (fun c198 => ?_) (fun c198 => ?_)
                    · refine lv_iinc (v := nI (i8 + 1)) (lv' := [(8, .int (nI (i8 + 1))), (12, .long (lN (backF L i8))), (10, .long (lN (onF L i8))), (9, .int (nI 1)), (7, .int (nI d)), (5, .long (lN 10)), (0, .ref (gad g 119)), (1, .ref (gad g i)), (2, .int (nI fr)), (3, .int (nI n)), (4, .int (nI 0))]) C.1 C.2.1 dX7_layOdds_224 hl (k := 3) rfl (nI_add _ 1) (by decide) rfl (fun ls hl => ?_)
                      refine lv_goto (tgt := 91) C.1 C.2.1 dX7_layOdds_227 (by decide) ?_
                      have h27 : w24 119 = .inr (7, [.ref (gad g 120), .ref (gad g 121), .ref (gad g 122), .int (nI le), .ref (gad g 123), .int (nI po), .int nu, .ref (gad g 124), .ref (gad g 125), .ref (gad g 126), .ref (gad g 127), .int (nI ik), .ref (gad g 128), .ref (gad g 129), .long (lN (10 ^ d)), .long (lN mu), .long (lN md), .long (lN bu), .long (lN bd)]) := ((f26 119 (by omega)).trans fa91_0)
                      have h28 : w24 128 = .inl (gJ g, 7, .inr (.inl (cL 7 0 (spreadO (onF L) (backF L) 10 fr d)))) := ((f26 128 (by omega)).trans fa91_1)
                      have h29 : w24 i = .inl (gI g, 177, .inl (cK 177 0 L)) := ((f26 i (by omega)).trans fa91_3)
                      exact ih91 (7 - (i8 + 1)) (by omega) (i8 + 1) w24 _ _ _ rfl h27 h28 ((e25).trans (by rw [acc_tt (by omega) (by omega)])) h29 (fun j z0 z1 => ((f26 j (by omega)).trans (hfr91 j z0 z1))) (by omega) hW (lv_sub hl [0, 4, 5, 6, 7, 8, 9, 10] rfl)
                    · have hz2 := backF_z (L := L) (f := i8) (by omega)
                      refine lv_aload_n C.1 C.2.1 dX7_layOdds_202 rfl (lv_at hl 6 rfl) ?_
                      have h30 : w24 119 = .inr (7, [.ref (gad g 120), .ref (gad g 121), .ref (gad g 122), .int (nI le), .ref (gad g 123), .int (nI po), .int nu, .ref (gad g 124), .ref (gad g 125), .ref (gad g 126), .ref (gad g 127), .int (nI ik), .ref (gad g 128), .ref (gad g 129), .long (lN (10 ^ d)), .long (lN mu), .long (lN md), .long (lN bu), .long (lN bd)]) := ((f26 119 (by omega)).trans fa91_0)
                      refine xget C hK hW hinX7 rfl (by omega) h30 13 (by decide) (List.mem_of_getElem? (i := 5) rfl) rfl dX7_layOdds_203 ?_
                      refine lv_iload C.1 C.2.1 dX7_layOdds_206 (lv_at hl 3 rfl) ?_
                      refine lv_iconst (v := (nI 1)) C.1 C.2.1 dX7_layOdds_208 (by decide) ?_
                      refine xsub C (by omega) dX7_layOdds_209 ?_
                      refine lv_dup2_11 C.1 C.2.1 dX7_layOdds_210 rfl rfl ?_
                      refine xlldK0 C hK hW (by omega) e25 (by omega) (by decide) dX7_layOdds_211 ?_
                      refine lv_aload_n C.1 C.2.1 dX7_layOdds_212 rfl (lv_at hl 6 rfl) ?_
                      refine xget C hK hW hinX7 rfl (by omega) h30 12 (by decide) (List.mem_of_getElem? (i := 1) rfl) rfl dX7_layOdds_213 ?_
                      refine lv_iload C.1 C.2.1 dX7_layOdds_216 (lv_at hl 3 rfl) ?_
                      have h31 : w24 128 = .inl (gJ g, 7, .inr (.inl (cL 7 0 (spreadO (onF L) (backF L) 10 fr d)))) := ((f26 128 (by omega)).trans fa91_1)
                      refine xlldK0 C hK hW (by omega) h31 (by omega) (by decide) dX7_layOdds_218 ?_
                      refine lv_lload C.1 C.2.1 dX7_layOdds_219 (lv_at hl 0 rfl) ?_
                      refine xlmul C dX7_layOdds_221 ?_
                      refine xladd C dX7_layOdds_222 ?_
                      refine xlstK0 (v := ((va_up (accO (onF L) (backF L) 10 (spreadO (onF L) (backF L) 10 fr d) i8) i8 (((accO (onF L) (backF L) 10 (spreadO (onF L) (backF L) 10 fr d) i8) i8) + (((spreadO (onF L) (backF L) 10 fr d) i8) * ((10 - (onF L i8)) - (backF L i8))))) (i8 - 1)) + (((spreadO (onF L) (backF L) 10 fr d) i8) * (backF L i8))) C hK hW (by omega) e25 (by omega) (by decide) dX7_layOdds_223 (fun w32 H locs e33 f34 hW => ?_)
                      refine lv_iinc (v := nI (i8 + 1)) (lv' := [(8, .int (nI (i8 + 1))), (12, .long (lN (backF L i8))), (10, .long (lN (onF L i8))), (9, .int (nI 1)), (7, .int (nI d)), (5, .long (lN 10)), (0, .ref (gad g 119)), (1, .ref (gad g i)), (2, .int (nI fr)), (3, .int (nI n)), (4, .int (nI 0))]) C.1 C.2.1 dX7_layOdds_224 hl (k := 3) rfl (nI_add _ 1) (by decide) rfl (fun ls hl => ?_)
                      refine lv_goto (tgt := 91) C.1 C.2.1 dX7_layOdds_227 (by decide) ?_
                      have h35 : w32 119 = .inr (7, [.ref (gad g 120), .ref (gad g 121), .ref (gad g 122), .int (nI le), .ref (gad g 123), .int (nI po), .int nu, .ref (gad g 124), .ref (gad g 125), .ref (gad g 126), .ref (gad g 127), .int (nI ik), .ref (gad g 128), .ref (gad g 129), .long (lN (10 ^ d)), .long (lN mu), .long (lN md), .long (lN bu), .long (lN bd)]) := ((f34 119 (by omega)).trans h30)
                      have h36 : w32 128 = .inl (gJ g, 7, .inr (.inl (cL 7 0 (spreadO (onF L) (backF L) 10 fr d)))) := ((f34 128 (by omega)).trans h31)
                      have h37 : w32 i = .inl (gI g, 177, .inl (cK 177 0 L)) := ((f34 i (by omega)).trans ((f26 i (by omega)).trans fa91_3))
                      exact ih91 (7 - (i8 + 1)) (by omega) (i8 + 1) w32 _ _ _ rfl h35 h36 ((e33).trans (by rw [acc_tf hz2 (by omega)])) h37 (fun j z0 z1 => ((f34 j (by omega)).trans ((f26 j (by omega)).trans (hfr91 j z0 z1)))) (by omega) hW (lv_sub hl [0, 4, 5, 6, 7, 8, 9, 10] rfl)
                  · have hz1 := onF_z (L := L) (f := i8) (by omega)
                    refine lv_aload_n C.1 C.2.1 dX7_layOdds_173 rfl (lv_at hl 6 rfl) ?_
                    have h38 : w24 119 = .inr (7, [.ref (gad g 120), .ref (gad g 121), .ref (gad g 122), .int (nI le), .ref (gad g 123), .int (nI po), .int nu, .ref (gad g 124), .ref (gad g 125), .ref (gad g 126), .ref (gad g 127), .int (nI ik), .ref (gad g 128), .ref (gad g 129), .long (lN (10 ^ d)), .long (lN mu), .long (lN md), .long (lN bu), .long (lN bd)]) := ((f26 119 (by omega)).trans fa91_0)
                    refine xget C hK hW hinX7 rfl (by omega) h38 13 (by decide) (List.mem_of_getElem? (i := 5) rfl) rfl dX7_layOdds_174 ?_
                    refine lv_iload C.1 C.2.1 dX7_layOdds_177 (lv_at hl 3 rfl) ?_
                    refine lv_iconst (v := (nI 1)) C.1 C.2.1 dX7_layOdds_179 (by decide) ?_
                    refine xadd C dX7_layOdds_180 ?_
                    refine lv_dup2_11 C.1 C.2.1 dX7_layOdds_181 rfl rfl ?_
                    refine xlldK0 C hK hW (by omega) e25 (by omega) (by decide) dX7_layOdds_182 ?_
                    refine xtopL (b := (accO (onF L) (backF L) 10 (spreadO (onF L) (backF L) 10 fr d) i8) (i8 + 1)) (va_up_ne _ _ (by omega)) ?_
                    refine lv_aload_n C.1 C.2.1 dX7_layOdds_183 rfl (lv_at hl 6 rfl) ?_
                    refine xget C hK hW hinX7 rfl (by omega) h38 12 (by decide) (List.mem_of_getElem? (i := 1) rfl) rfl dX7_layOdds_184 ?_
                    refine lv_iload C.1 C.2.1 dX7_layOdds_187 (lv_at hl 3 rfl) ?_
                    have h39 : w24 128 = .inl (gJ g, 7, .inr (.inl (cL 7 0 (spreadO (onF L) (backF L) 10 fr d)))) := ((f26 128 (by omega)).trans fa91_1)
                    refine xlldK0 C hK hW (by omega) h39 (by omega) (by decide) dX7_layOdds_189 ?_
                    refine lv_lload C.1 C.2.1 dX7_layOdds_190 (lv_at hl 1 rfl) ?_
                    refine xlmul C dX7_layOdds_192 ?_
                    refine xladd C dX7_layOdds_193 ?_
                    refine xlstK0 (v := ((accO (onF L) (backF L) 10 (spreadO (onF L) (backF L) 10 fr d) i8) (i8 + 1)) + (((spreadO (onF L) (backF L) 10 fr d) i8) * (onF L i8))) C hK hW (by omega) e25 (by omega) (by decide) dX7_layOdds_194 (fun w40 H locs e41 f42 hW => ?_)
                    refine lv_lload C.1 C.2.1 dX7_layOdds_195 (lv_at hl 0 rfl) ?_
                    refine lv_lconst (v := lN 0) C.1 C.2.1 dX7_layOdds_197 (by decide) ?_
                    refine xLle (tgt := 224) C (by omega) (by omega) dX7_layOdds_198 dX7_layOdds_199 (by decide) (fun c198 => ?_) (fun c198 => ?_)
                    · refine lv_iinc (v := nI (i8 + 1)) (lv' := [(8, .int (nI (i8 + 1))), (12, .long (lN (backF L i8))), (10, .long (lN (onF L i8))), (9, .int (nI 1)), (7, .int (nI d)), (5, .long (lN 10)), (0, .ref (gad g 119)), (1, .ref (gad g i)), (2, .int (nI fr)), (3, .int (nI n)), (4, .int (nI 0))]) C.1 C.2.1 dX7_layOdds_224 hl (k := 3) rfl (nI_add _ 1) (by decide) rfl (fun ls hl => ?_)
                      refine lv_goto (tgt := 91) C.1 C.2.1 dX7_layOdds_227 (by decide) ?_
                      have h43 : w40 119 = .inr (7, [.ref (gad g 120), .ref (gad g 121), .ref (gad g 122), .int (nI le), .ref (gad g 123), .int (nI po), .int nu, .ref (gad g 124), .ref (gad g 125), .ref (gad g 126), .ref (gad g 127), .int (nI ik), .ref (gad g 128), .ref (gad g 129), .long (lN (10 ^ d)), .long (lN mu), .long (lN md), .long (lN bu), .long (lN bd)]) := ((f42 119 (by omega)).trans h38)
                      have h44 : w40 128 = .inl (gJ g, 7, .inr (.inl (cL 7 0 (spreadO (onF L) (backF L) 10 fr d)))) := ((f42 128 (by omega)).trans h39)
                      have h45 : w40 i = .inl (gI g, 177, .inl (cK 177 0 L)) := ((f42 i (by omega)).trans ((f26 i (by omega)).trans fa91_3))
                      exact ih91 (7 - (i8 + 1)) (by omega) (i8 + 1) w40 _ _ _ rfl h43 h44 ((e41).trans (by rw [acc_ft (by omega)])) h45 (fun j z0 z1 => ((f42 j (by omega)).trans ((f26 j (by omega)).trans (hfr91 j z0 z1)))) (by omega) hW (lv_sub hl [0, 4, 5, 6, 7, 8, 9, 10] rfl)
                    · have hz2 := backF_z (L := L) (f := i8) (by omega)
                      refine lv_aload_n C.1 C.2.1 dX7_layOdds_202 rfl (lv_at hl 6 rfl) ?_
                      have h46 : w40 119 = .inr (7, [.ref (gad g 120), .ref (gad g 121), .ref (gad g 122), .int (nI le), .ref (gad g 123), .int (nI po), .int nu, .ref (gad g 124), .ref (gad g 125), .ref (gad g 126), .ref (gad g 127), .int (nI ik), .ref (gad g 128), .ref (gad g 129), .long (lN (10 ^ d)), .long (lN mu), .long (lN md), .long (lN bu), .long (lN bd)]) := ((f42 119 (by omega)).trans h38)
                      refine xget C hK hW hinX7 rfl (by omega) h46 13 (by decide) (List.mem_of_getElem? (i := 5) rfl) rfl dX7_layOdds_203 ?_
                      refine lv_iload C.1 C.2.1 dX7_layOdds_206 (lv_at hl 3 rfl) ?_
                      refine lv_iconst (v := (nI 1)) C.1 C.2.1 dX7_layOdds_208 (by decide) ?_
                      refine xsub C (by omega) dX7_layOdds_209 ?_
                      refine lv_dup2_11 C.1 C.2.1 dX7_layOdds_210 rfl rfl ?_
                      refine xlldK0 C hK hW (by omega) e41 (by omega) (by decide) dX7_layOdds_211 ?_
                      refine lv_aload_n C.1 C.2.1 dX7_layOdds_212 rfl (lv_at hl 6 rfl) ?_
                      refine xget C hK hW hinX7 rfl (by omega) h46 12 (by decide) (List.mem_of_getElem? (i := 1) rfl) rfl dX7_layOdds_213 ?_
                      refine lv_iload C.1 C.2.1 dX7_layOdds_216 (lv_at hl 3 rfl) ?_
                      have h47 : w40 128 = .inl (gJ g, 7, .inr (.inl (cL 7 0 (spreadO (onF L) (backF L) 10 fr d)))) := ((f42 128 (by omega)).trans h39)
                      refine xlldK0 C hK hW (by omega) h47 (by omega) (by decide) dX7_layOdds_218 ?_
                      refine lv_lload C.1 C.2.1 dX7_layOdds_219 (lv_at hl 0 rfl) ?_
                      refine xlmul C dX7_layOdds_221 ?_
                      refine xladd C dX7_layOdds_222 ?_
                      refine xlstK0 (v := ((va_up (va_up (accO (onF L) (backF L) 10 (spreadO (onF L) (backF L) 10 fr d) i8) i8 (((accO (onF L) (backF L) 10 (spreadO (onF L) (backF L) 10 fr d) i8) i8) + (((spreadO (onF L) (backF L) 10 fr d) i8) * ((10 - (onF L i8)) - (backF L i8))))) (i8 + 1) (((accO (onF L) (backF L) 10 (spreadO (onF L) (backF L) 10 fr d) i8) (i8 + 1)) + (((spreadO (onF L) (backF L) 10 fr d) i8) * (onF L i8)))) (i8 - 1)) + (((spreadO (onF L) (backF L) 10 fr d) i8) * (backF L i8))) C hK hW (by omega) e41 (by omega) (by decide) dX7_layOdds_223 (fun w48 H locs e49 f50 hW => ?_)
                      refine lv_iinc (v := nI (i8 + 1)) (lv' := [(8, .int (nI (i8 + 1))), (12, .long (lN (backF L i8))), (10, .long (lN (onF L i8))), (9, .int (nI 1)), (7, .int (nI d)), (5, .long (lN 10)), (0, .ref (gad g 119)), (1, .ref (gad g i)), (2, .int (nI fr)), (3, .int (nI n)), (4, .int (nI 0))]) C.1 C.2.1 dX7_layOdds_224 hl (k := 3) rfl (nI_add _ 1) (by decide) rfl (fun ls hl => ?_)
                      refine lv_goto (tgt := 91) C.1 C.2.1 dX7_layOdds_227 (by decide) ?_
                      have h51 : w48 119 = .inr (7, [.ref (gad g 120), .ref (gad g 121), .ref (gad g 122), .int (nI le), .ref (gad g 123), .int (nI po), .int nu, .ref (gad g 124), .ref (gad g 125), .ref (gad g 126), .ref (gad g 127), .int (nI ik), .ref (gad g 128), .ref (gad g 129), .long (lN (10 ^ d)), .long (lN mu), .long (lN md), .long (lN bu), .long (lN bd)]) := ((f50 119 (by omega)).trans h46)
                      have h52 : w48 128 = .inl (gJ g, 7, .inr (.inl (cL 7 0 (spreadO (onF L) (backF L) 10 fr d)))) := ((f50 128 (by omega)).trans h47)
                      have h53 : w48 i = .inl (gI g, 177, .inl (cK 177 0 L)) := ((f50 i (by omega)).trans ((f42 i (by omega)).trans ((f26 i (by omega)).trans fa91_3)))
                      exact ih91 (7 - (i8 + 1)) (by omega) (i8 + 1) w48 _ _ _ rfl h51 h52 ((e49).trans (by rw [acc_ff hz2])) h53 (fun j z0 z1 => ((f50 j (by omega)).trans ((f42 j (by omega)).trans ((f26 j (by omega)).trans (hfr91 j z0 z1))))) (by omega) hW (lv_sub hl [0, 4, 5, 6, 7, 8, 9, 10] rfl)
              exact loop91 _ 0 v67 _ _ _ rfl fa67_0 fa67_1 ((fa67_2).trans (by rw [cL_mixE (by omega), accO_0])) fa67_3 (fun j z0 z1 => (hfr67 j z0 z1)) (by omega) hW hl
            · refine lv_aload_n C.1 C.2.1 dX7_layOdds_74 rfl (lv_at hl 3 rfl) ?_
              refine xget C hK hW hinX7 rfl (by omega) fa67_0 13 (by decide) (List.mem_of_getElem? (i := 5) rfl) rfl dX7_layOdds_75 ?_
              refine lv_iload C.1 C.2.1 dX7_layOdds_78 (lv_at hl 0 rfl) ?_
              refine lv_lconst (v := lN 0) C.1 C.2.1 dX7_layOdds_80 (by decide) ?_
              refine xlstK0 (v := 0) C hK hW (by omega) fa67_2 (by omega) (by decide) dX7_layOdds_81 (fun w54 H locs e55 f56 hW => ?_)
              refine lv_iinc (v := nI (j6 + 1)) (lv' := [(8, .int (nI (j6 + 1))), (7, .int (nI d)), (5, .long (lN 10)), (0, .ref (gad g 119)), (1, .ref (gad g i)), (2, .int (nI fr)), (3, .int (nI n)), (4, .int (nI 0))]) C.1 C.2.1 dX7_layOdds_82 hl (k := 0) rfl (nI_add _ 1) (by decide) rfl (fun ls hl => ?_)
              refine lv_goto (tgt := 67) C.1 C.2.1 dX7_layOdds_85 (by decide) ?_
              have h57 : w54 119 = .inr (7, [.ref (gad g 120), .ref (gad g 121), .ref (gad g 122), .int (nI le), .ref (gad g 123), .int (nI po), .int nu, .ref (gad g 124), .ref (gad g 125), .ref (gad g 126), .ref (gad g 127), .int (nI ik), .ref (gad g 128), .ref (gad g 129), .long (lN (10 ^ d)), .long (lN mu), .long (lN md), .long (lN bu), .long (lN bd)]) := ((f56 119 (by omega)).trans fa67_0)
              have h58 : w54 128 = .inl (gJ g, 7, .inr (.inl (cL 7 0 (spreadO (onF L) (backF L) 10 fr d)))) := ((f56 128 (by omega)).trans fa67_1)
              have h59 : w54 i = .inl (gI g, 177, .inl (cK 177 0 L)) := ((f56 i (by omega)).trans fa67_3)
              exact ih67 (7 - (j6 + 1)) (by omega) (j6 + 1) w54 _ _ _ rfl h57 h58 (by first | exact e55 | (rw [mixF_0]; exact e55) | (rw [mixF_up]; exact e55) | (refine (e55).trans ?_; rw [cK_mixE (by omega)]; done) | (refine (e55).trans ?_; rw [cL_mixE (by omega)]; done) | (refine (e55).trans ?_; rw [cL_mixE (by omega)]; rfl)) h59 (fun j z0 z1 => ((f56 j (by omega)).trans (hfr67 j z0 z1))) (by omega) hW hl
          exact loop67 _ 0 v58 _ _ _ rfl fa58_0 fa58_1 (by first | exact fa58_2 | (rw [mixF_0]; exact fa58_2) | (rw [mixF_up]; exact fa58_2) | (refine (fa58_2).trans ?_; rw [cK_mixE (by omega)]; done) | (refine (fa58_2).trans ?_; rw [cL_mixE (by omega)]; done) | (refine (fa58_2).trans ?_; rw [cL_mixE (by omega)]; rfl)) fa58_3 (fun j z0 z1 => (hfr58 j z0 z1)) (by omega) hW hl
      have h60 : w1 128 = .inl (gJ g, 7, .inr (.inl (cL 7 0 (mixF i5 (startO fr) O)))) := ((f3 128 (by omega)).trans fa3_1)
      have h61 : w1 129 = .inl (gJ g, 7, .inr (.inl (cL 7 0 T))) := ((f3 129 (by omega)).trans fa3_2)
      have h62 : w1 i = .inl (gI g, 177, .inl (cK 177 0 L)) := ((f3 i (by omega)).trans fa3_3)
      exact loop58 _ 0 T w1 _ _ _ rfl (by first | exact e2 | (rw [mixF_0]; exact e2) | (rw [mixF_up]; exact e2) | (refine (e2).trans ?_; rw [cK_mixE (by omega)]; done) | (refine (e2).trans ?_; rw [cL_mixE (by omega)]; done) | (refine (e2).trans ?_; rw [cL_mixE (by omega)]; rfl)) ((h60).trans (by rw [cL_mixE (by omega)]; rfl)) h61 h62 (fun j z0 z1 => ((f3 j (by omega)).trans (hfr3 j z0 z1))) (by omega) hW hl
    · refine lv_aload_n C.1 C.2.1 dX7_layOdds_10 rfl (lv_at hl 1 rfl) ?_
      refine xget C hK hW hinX7 rfl (by omega) fa3_0 12 (by decide) (List.mem_of_getElem? (i := 1) rfl) rfl dX7_layOdds_11 ?_
      refine lv_iload C.1 C.2.1 dX7_layOdds_14 (lv_at hl 0 rfl) ?_
      refine lv_iload C.1 C.2.1 dX7_layOdds_16 (lv_at hl 0 rfl) ?_
      refine lv_iload_n C.1 C.2.1 dX7_layOdds_18 rfl (lv_at hl 3 rfl) ?_
      refine xne (tgt := 26) C (by omega) (by omega) dX7_layOdds_19 (by decide) (fun c19 => ?_) (fun c19 => ?_)
      · refine lv_lconst (v := lN 0) C.1 C.2.1 dX7_layOdds_26 (by decide) ?_
        refine xlstK0 (v := 0) C hK hW (by omega) fa3_1 (by omega) (by decide) dX7_layOdds_27 (fun w63 H locs e64 f65 hW => ?_)
        refine lv_iinc (v := nI (i5 + 1)) (lv' := [(5, .int (nI (i5 + 1))), (0, .ref (gad g 119)), (1, .ref (gad g i)), (2, .int (nI fr)), (3, .int (nI n)), (4, .int (nI 0))]) C.1 C.2.1 dX7_layOdds_28 hl (k := 0) rfl (nI_add _ 1) (by decide) rfl (fun ls hl => ?_)
        refine lv_goto (tgt := 3) C.1 C.2.1 dX7_layOdds_31 (by decide) ?_
        have h66 : w63 119 = .inr (7, [.ref (gad g 120), .ref (gad g 121), .ref (gad g 122), .int (nI le), .ref (gad g 123), .int (nI po), .int nu, .ref (gad g 124), .ref (gad g 125), .ref (gad g 126), .ref (gad g 127), .int (nI ik), .ref (gad g 128), .ref (gad g 129), .long (lN ao), .long (lN mu), .long (lN md), .long (lN bu), .long (lN bd)]) := ((f65 119 (by omega)).trans fa3_0)
        have h67 : w63 129 = .inl (gJ g, 7, .inr (.inl (cL 7 0 T))) := ((f65 129 (by omega)).trans fa3_2)
        have h68 : w63 i = .inl (gI g, 177, .inl (cK 177 0 L)) := ((f65 i (by omega)).trans fa3_3)
        exact ih3 (7 - (i5 + 1)) (by omega) (i5 + 1) w63 _ _ _ rfl h66 (by rw [mixF_up, show startO fr i5 = 0 from if_neg c19]; exact e64) h67 h68 (fun j z0 z1 => ((f65 j (by omega)).trans (hfr3 j z0 z1))) (by omega) hW hl
      · refine lv_lconst (v := lN 1) C.1 C.2.1 dX7_layOdds_22 (by decide) ?_
        refine lv_goto (tgt := 27) C.1 C.2.1 dX7_layOdds_23 (by decide) ?_
        refine xlstK0 (v := 1) C hK hW (by omega) fa3_1 (by omega) (by decide) dX7_layOdds_27 (fun w69 H locs e70 f71 hW => ?_)
        refine lv_iinc (v := nI (i5 + 1)) (lv' := [(5, .int (nI (i5 + 1))), (0, .ref (gad g 119)), (1, .ref (gad g i)), (2, .int (nI fr)), (3, .int (nI n)), (4, .int (nI 0))]) C.1 C.2.1 dX7_layOdds_28 hl (k := 0) rfl (nI_add _ 1) (by decide) rfl (fun ls hl => ?_)
        refine lv_goto (tgt := 3) C.1 C.2.1 dX7_layOdds_31 (by decide) ?_
        have h72 : w69 119 = .inr (7, [.ref (gad g 120), .ref (gad g 121), .ref (gad g 122), .int (nI le), .ref (gad g 123), .int (nI po), .int nu, .ref (gad g 124), .ref (gad g 125), .ref (gad g 126), .ref (gad g 127), .int (nI ik), .ref (gad g 128), .ref (gad g 129), .long (lN ao), .long (lN mu), .long (lN md), .long (lN bu), .long (lN bd)]) := ((f71 119 (by omega)).trans fa3_0)
        have h73 : w69 129 = .inl (gJ g, 7, .inr (.inl (cL 7 0 T))) := ((f71 129 (by omega)).trans fa3_2)
        have h74 : w69 i = .inl (gI g, 177, .inl (cK 177 0 L)) := ((f71 i (by omega)).trans fa3_3)
        exact ih3 (7 - (i5 + 1)) (by omega) (i5 + 1) w69 _ _ _ rfl h72 (by rw [mixF_up, show startO fr i5 = 1 from if_pos c19]; exact e70) h73 h74 (fun j z0 z1 => ((f71 j (by omega)).trans (hfr3 j z0 z1))) (by omega) hW hl
  exact loop3 _ 0 w _ _ _ rfl pr0 (by first | exact pr2 | (rw [mixF_0]; exact pr2) | (rw [mixF_up]; exact pr2) | (refine (pr2).trans ?_; rw [cK_mixE (by omega)]; done) | (refine (pr2).trans ?_; rw [cL_mixE (by omega)]; done) | (refine (pr2).trans ?_; rw [cL_mixE (by omega)]; rfl)) pr3 pr1 (fun j z0 z1 => rfl) (by omega) hW hl

set_option maxHeartbeats 8000000 in
set_option maxRecDepth 100000 in
theorem c_X7_layOddsC (l : Launch) (g : GE) (w : Nat → va_E) (i fr n c : Nat) (le po ik ao mu md bu bd : Nat) (nu : Int32) (L O T : Nat → Nat) (hI : AdInj g) (hN : gN g = 130) (hi : i < 119 ∨ (123 < i ∧ i < 128)) (hfr : fr < 7) (hn : n ≤ 9) (hok : Okg L) (hc : 0 < c) (hc2 : c ≤ 10) (pr0 : w 119 = .inr (7, [.ref (gad g 120), .ref (gad g 121), .ref (gad g 122), .int (nI le), .ref (gad g 123), .int (nI po), .int nu, .ref (gad g 124), .ref (gad g 125), .ref (gad g 126), .ref (gad g 127), .int (nI ik), .ref (gad g 128), .ref (gad g 129), .long (lN ao), .long (lN mu), .long (lN md), .long (lN bu), .long (lN bd)])) (pr1 : w i = .inl (gI g, 177, .inl (cK 177 0 L))) (pr2 : w 128 = .inl (gJ g, 7, .inr (.inl (cL 7 0 O)))) (pr3 : w 129 = .inl (gJ g, 7, .inr (.inl (cL 7 0 T)))) : Met l yX7_layOdds wsX7_layOdds ({ frames := 2, cells := 0, slots := 0, locals := 46 } : Room) (XPc g w [.ref (gad g 119), .ref (gad g i), .int (nI fr), .int (nI n), .int (nI c)]) (XQv g (fun w' => ∃ (T1 : Nat → Nat), w' 119 = .inr (7, [.ref (gad g 120), .ref (gad g 121), .ref (gad g 122), .int (nI le), .ref (gad g 123), .int (nI po), .int nu, .ref (gad g 124), .ref (gad g 125), .ref (gad g 126), .ref (gad g 127), .int (nI ik), .ref (gad g 128), .ref (gad g 129), .long (lN (100 ^ n)), .long (lN mu), .long (lN md), .long (lN bu), .long (lN bd)]) ∧ w' 128 = .inl (gJ g, 7, .inr (.inl (cL 7 0 (spreadO (onC L c) (backC L c) 100 fr n)))) ∧ w' 129 = .inl (gJ g, 7, .inr (.inl (cL 7 0 T1))) ∧ (∀ j : Nat, ¬ (119 ≤ j ∧ j < 120) → ¬ (128 ≤ j ∧ j < 130) → w' j = w j))) 0 0 (gA g) := by
  refine xmet (cc := cX7_layOdds) (maxL := 14) (ret := none) (by decide) rfl hI (Nat.le_of_ble_eq_true rfl) ?_
  intro pG eG sG mG belowG methG cG ls C hr hlk hK hW hl
  have hl : lv_has ls 14 [(0, .ref (gad g 119)), (1, .ref (gad g i)), (2, .int (nI fr)), (3, .int (nI n)), (4, .int (nI c))] := hl
  have hinX7 : ∀ x ∈ u_ws RX7 TX7 19, x ∈ wsX7_layOdds := by decide +kernel
  refine lv_iconst (v := (nI 0)) C.1 C.2.1 dX7_layOdds_0 (by decide) ?_
  refine lv_istore (lv' := [(5, .int (nI 0)), (0, .ref (gad g 119)), (1, .ref (gad g i)), (2, .int (nI fr)), (3, .int (nI n)), (4, .int (nI c))]) C.1 C.2.1 dX7_layOdds_1 hl (by decide) rfl (fun ls hl => ?_)
  have loop3 : ∀ (kG : Nat) (i5 : Nat) (v3 : Nat → va_E) (H : Heap) (locs : List Loc) (ls : Array Slot), kG = 7 - i5 → (v3 119 = .inr (7, [.ref (gad g 120), .ref (gad g 121), .ref (gad g 122), .int (nI le), .ref (gad g 123), .int (nI po), .int nu, .ref (gad g 124), .ref (gad g 125), .ref (gad g 126), .ref (gad g 127), .int (nI ik), .ref (gad g 128), .ref (gad g 129), .long (lN ao), .long (lN mu), .long (lN md), .long (lN bu), .long (lN bd)])) → (v3 128 = .inl (gJ g, 7, .inr (.inl (cL 7 0 (mixF i5 (startO fr) O))))) → (v3 129 = .inl (gJ g, 7, .inr (.inl (cL 7 0 T)))) → (v3 i = .inl (gI g, 177, .inl (cK 177 0 L))) → (∀ j : Nat, ¬ (119 ≤ j ∧ j < 120) → ¬ (128 ≤ j ∧ j < 130) → v3 j = w j) → (i5 ≤ 7) → XW g v3 (gA g) sG.heap H locs → lv_has ls 14 [(5, .int (nI i5)), (0, .ref (gad g 119)), (1, .ref (gad g i)), (2, .int (nI fr)), (3, .int (nI n)), (4, .int (nI c))] → W pG l eG ({ frames := 2, cells := 0, slots := 0, locals := 46 } : Room) sG mG ([.ref (gad g 119), .ref (gad g i), .int (nI fr), .int (nI n), .int (nI c)] : List Value).toArray belowG methG cG H locs 0 0 (MQ belowG (XQv g (fun w' => ∃ (T1 : Nat → Nat), w' 119 = .inr (7, [.ref (gad g 120), .ref (gad g 121), .ref (gad g 122), .int (nI le), .ref (gad g 123), .int (nI po), .int nu, .ref (gad g 124), .ref (gad g 125), .ref (gad g 126), .ref (gad g 127), .int (nI ik), .ref (gad g 128), .ref (gad g 129), .long (lN (100 ^ n)), .long (lN mu), .long (lN md), .long (lN bu), .long (lN bd)]) ∧ w' 128 = .inl (gJ g, 7, .inr (.inl (cL 7 0 (spreadO (onC L c) (backC L c) 100 fr n)))) ∧ w' 129 = .inl (gJ g, 7, .inr (.inl (cL 7 0 T1))) ∧ (∀ j : Nat, ¬ (119 ≤ j ∧ j < 120) → ¬ (128 ≤ j ∧ j < 130) → w' j = w j))) ([.ref (gad g 119), .ref (gad g i), .int (nI fr), .int (nI n), .int (nI c)] : List Value).toArray sG 0 0 (gA g)) (F0 mG 3 ls []) := by
    intro k3
    induction k3 using Nat.strongRecOn with
    | _ k3 ih3 =>
    intro i5 v3 H locs ls hk3 fa3_0 fa3_1 fa3_2 fa3_3 hfr3 hi5 hW hl
    refine lv_iload C.1 C.2.1 dX7_layOdds_3 (lv_at hl 0 rfl) ?_
    refine lv_bipush (v := (nI 7)) C.1 C.2.1 dX7_layOdds_5 (by decide) ?_
    refine xge (tgt := 34) C (by omega) (by omega) dX7_layOdds_7 (by decide) (fun c7 => ?_) (fun c7 => ?_)
    · refine lv_iload C.1 C.2.1 dX7_layOdds_34 (lv_at hl 5 rfl) ?_
      refine x0ne (tgt := 45) C (by omega) dX7_layOdds_36 (by decide) (fun c36 => ?_) (fun c36 => absurd c36 (by omega))
      refine lv_ldc2 (v := (lN 100)) C.1 C.2.1 C.2.2.2.1 (C.2.2.2.2 _ (List.mem_of_getElem? (i := 3) rfl)) dX7_layOdds_45 ?_
      refine lv_lstore (lv' := [(5, .long (lN 100)), (0, .ref (gad g 119)), (1, .ref (gad g i)), (2, .int (nI fr)), (3, .int (nI n)), (4, .int (nI c))]) C.1 C.2.1 dX7_layOdds_48 hl (by decide) rfl (fun ls hl => ?_)
      refine lv_aload_n C.1 C.2.1 dX7_layOdds_50 rfl (lv_at hl 1 rfl) ?_
      refine lv_lconst (v := lN 1) C.1 C.2.1 dX7_layOdds_51 (by decide) ?_
      refine xput (v := .long (lN 1)) C hK hW hinX7 tyX7_ok nmX7 rfl (by omega) fa3_0 14 (by decide) (List.mem_of_getElem? (i := 4) rfl) rfl rfl rfl (Nat.le_of_ble_eq_true rfl) dX7_layOdds_52 (fun w1 H locs e2 f3 hW => ?_)
      refine lv_iconst (v := (nI 0)) C.1 C.2.1 dX7_layOdds_55 (by decide) ?_
      refine lv_istore (lv' := [(7, .int (nI 0)), (5, .long (lN 100)), (0, .ref (gad g 119)), (1, .ref (gad g i)), (2, .int (nI fr)), (3, .int (nI n)), (4, .int (nI c))]) C.1 C.2.1 dX7_layOdds_56 hl (by decide) rfl (fun ls hl => ?_)
      have loop58 : ∀ (kG : Nat) (d : Nat) (T1 : Nat → Nat) (v58 : Nat → va_E) (H : Heap) (locs : List Loc) (ls : Array Slot), kG = n - d → (v58 119 = .inr (7, [.ref (gad g 120), .ref (gad g 121), .ref (gad g 122), .int (nI le), .ref (gad g 123), .int (nI po), .int nu, .ref (gad g 124), .ref (gad g 125), .ref (gad g 126), .ref (gad g 127), .int (nI ik), .ref (gad g 128), .ref (gad g 129), .long (lN (100 ^ d)), .long (lN mu), .long (lN md), .long (lN bu), .long (lN bd)])) → (v58 128 = .inl (gJ g, 7, .inr (.inl (cL 7 0 (spreadO (onC L c) (backC L c) 100 fr d))))) → (v58 129 = .inl (gJ g, 7, .inr (.inl (cL 7 0 T1)))) → (v58 i = .inl (gI g, 177, .inl (cK 177 0 L))) → (∀ j : Nat, ¬ (119 ≤ j ∧ j < 120) → ¬ (128 ≤ j ∧ j < 130) → v58 j = w j) → (d ≤ n) → XW g v58 (gA g) sG.heap H locs → lv_has ls 14 [(7, .int (nI d)), (5, .long (lN 100)), (0, .ref (gad g 119)), (1, .ref (gad g i)), (2, .int (nI fr)), (3, .int (nI n)), (4, .int (nI c))] → W pG l eG ({ frames := 2, cells := 0, slots := 0, locals := 46 } : Room) sG mG ([.ref (gad g 119), .ref (gad g i), .int (nI fr), .int (nI n), .int (nI c)] : List Value).toArray belowG methG cG H locs 0 0 (MQ belowG (XQv g (fun w' => ∃ (T1 : Nat → Nat), w' 119 = .inr (7, [.ref (gad g 120), .ref (gad g 121), .ref (gad g 122), .int (nI le), .ref (gad g 123), .int (nI po), .int nu, .ref (gad g 124), .ref (gad g 125), .ref (gad g 126), .ref (gad g 127), .int (nI ik), .ref (gad g 128), .ref (gad g 129), .long (lN (100 ^ n)), .long (lN mu), .long (lN md), .long (lN bu), .long (lN bd)]) ∧ w' 128 = .inl (gJ g, 7, .inr (.inl (cL 7 0 (spreadO (onC L c) (backC L c) 100 fr n)))) ∧ w' 129 = .inl (gJ g, 7, .inr (.inl (cL 7 0 T1))) ∧ (∀ j : Nat, ¬ (119 ≤ j ∧ j < 120) → ¬ (128 ≤ j ∧ j < 130) → w' j = w j))) ([.ref (gad g 119), .ref (gad g i), .int (nI fr), .int (nI n), .int (nI c)] : List Value).toArray sG 0 0 (gA g)) (F0 mG 58 ls []) := by
        intro k58
        induction k58 using Nat.strongRecOn with
        | _ k58 ih58 =>
        intro d T1 v58 H locs ls hk58 fa58_0 fa58_1 fa58_2 fa58_3 hfr58 hd hW hl
        refine lv_iload C.1 C.2.1 dX7_layOdds_58 (lv_at hl 0 rfl) ?_
        refine lv_iload_n C.1 C.2.1 dX7_layOdds_60 rfl (lv_at hl 5 rfl) ?_
        refine xge (tgt := 277) C (by omega) (by omega) dX7_layOdds_61 (by decide) (fun c61 => ?_) (fun c61 => ?_)
        · exact xret_v C hr hlk hW ⟨T1, (by rw [← show d = n by omega]; exact fa58_0), (by rw [← show d = n by omega]; exact fa58_1), fa58_2, (fun j z0 z1 => (hfr58 j z0 z1))⟩ dX7_layOdds_277
        · refine lv_iconst (v := (nI 0)) C.1 C.2.1 dX7_layOdds_64 (by decide) ?_
          refine lv_istore (lv' := [(8, .int (nI 0)), (7, .int (nI d)), (5, .long (lN 100)), (0, .ref (gad g 119)), (1, .ref (gad g i)), (2, .int (nI fr)), (3, .int (nI n)), (4, .int (nI c))]) C.1 C.2.1 dX7_layOdds_65 hl (by decide) rfl (fun ls hl => ?_)
          have loop67 : ∀ (kG : Nat) (j6 : Nat) (v67 : Nat → va_E) (H : Heap) (locs : List Loc) (ls : Array Slot), kG = 7 - j6 → (v67 119 = .inr (7, [.ref (gad g 120), .ref (gad g 121), .ref (gad g 122), .int (nI le), .ref (gad g 123), .int (nI po), .int nu, .ref (gad g 124), .ref (gad g 125), .ref (gad g 126), .ref (gad g 127), .int (nI ik), .ref (gad g 128), .ref (gad g 129), .long (lN (100 ^ d)), .long (lN mu), .long (lN md), .long (lN bu), .long (lN bd)])) → (v67 128 = .inl (gJ g, 7, .inr (.inl (cL 7 0 (spreadO (onC L c) (backC L c) 100 fr d))))) → (v67 129 = .inl (gJ g, 7, .inr (.inl (cL 7 0 (mixF j6 (fun _ => 0) T1))))) → (v67 i = .inl (gI g, 177, .inl (cK 177 0 L))) → (∀ j : Nat, ¬ (119 ≤ j ∧ j < 120) → ¬ (128 ≤ j ∧ j < 130) → v67 j = w j) → (j6 ≤ 7) → XW g v67 (gA g) sG.heap H locs → lv_has ls 14 [(8, .int (nI j6)), (7, .int (nI d)), (5, .long (lN 100)), (0, .ref (gad g 119)), (1, .ref (gad g i)), (2, .int (nI fr)), (3, .int (nI n)), (4, .int (nI c))] → W pG l eG ({ frames := 2, cells := 0, slots := 0, locals := 46 } : Room) sG mG ([.ref (gad g 119), .ref (gad g i), .int (nI fr), .int (nI n), .int (nI c)] : List Value).toArray belowG methG cG H locs 0 0 (MQ belowG (XQv g (fun w' => ∃ (T1 : Nat → Nat), w' 119 = .inr (7, [.ref (gad g 120), .ref (gad g 121), .ref (gad g 122), .int (nI le), .ref (gad g 123), .int (nI po), .int nu, .ref (gad g 124), .ref (gad g 125), .ref (gad g 126), .ref (gad g 127), .int (nI ik), .ref (gad g 128), .ref (gad g 129), .long (lN (100 ^ n)), .long (lN mu), .long (lN md), .long (lN bu), .long (lN bd)]) ∧ w' 128 = .inl (gJ g, 7, .inr (.inl (cL 7 0 (spreadO (onC L c) (backC L c) 100 fr n)))) ∧ w' 129 = .inl (gJ g, 7, .inr (.inl (cL 7 0 T1))) ∧ (∀ j : Nat, ¬ (119 ≤ j ∧ j < 120) → ¬ (128 ≤ j ∧ j < 130) → w' j = w j))) ([.ref (gad g 119), .ref (gad g i), .int (nI fr), .int (nI n), .int (nI c)] : List Value).toArray sG 0 0 (gA g)) (F0 mG 67 ls []) := by
            intro k67
            induction k67 using Nat.strongRecOn with
            | _ k67 ih67 =>
            intro j6 v67 H locs ls hk67 fa67_0 fa67_1 fa67_2 fa67_3 hfr67 hj6 hW hl
            refine lv_iload C.1 C.2.1 dX7_layOdds_67 (lv_at hl 0 rfl) ?_
            refine lv_bipush (v := (nI 7)) C.1 C.2.1 dX7_layOdds_69 (by decide) ?_
            refine xge (tgt := 88) C (by omega) (by omega) dX7_layOdds_71 (by decide) (fun c71 => ?_) (fun c71 => ?_)
            · refine lv_iconst (v := (nI 0)) C.1 C.2.1 dX7_layOdds_88 (by decide) ?_
              refine lv_istore (lv' := [(8, .int (nI 0)), (7, .int (nI d)), (5, .long (lN 100)), (0, .ref (gad g 119)), (1, .ref (gad g i)), (2, .int (nI fr)), (3, .int (nI n)), (4, .int (nI c))]) C.1 C.2.1 dX7_layOdds_89 hl (by decide) rfl (fun ls hl => ?_)
              have loop91 : ∀ (kG : Nat) (i8 : Nat) (v91 : Nat → va_E) (H : Heap) (locs : List Loc) (ls : Array Slot), kG = 7 - i8 → (v91 119 = .inr (7, [.ref (gad g 120), .ref (gad g 121), .ref (gad g 122), .int (nI le), .ref (gad g 123), .int (nI po), .int nu, .ref (gad g 124), .ref (gad g 125), .ref (gad g 126), .ref (gad g 127), .int (nI ik), .ref (gad g 128), .ref (gad g 129), .long (lN (100 ^ d)), .long (lN mu), .long (lN md), .long (lN bu), .long (lN bd)])) → (v91 128 = .inl (gJ g, 7, .inr (.inl (cL 7 0 (spreadO (onC L c) (backC L c) 100 fr d))))) → (v91 129 = .inl (gJ g, 7, .inr (.inl (cL 7 0 (accO (onC L c) (backC L c) 100 (spreadO (onC L c) (backC L c) 100 fr d) i8))))) → (v91 i = .inl (gI g, 177, .inl (cK 177 0 L))) → (∀ j : Nat, ¬ (119 ≤ j ∧ j < 120) → ¬ (128 ≤ j ∧ j < 130) → v91 j = w j) → (i8 ≤ 7) → XW g v91 (gA g) sG.heap H locs → lv_has ls 14 [(8, .int (nI i8)), (7, .int (nI d)), (5, .long (lN 100)), (0, .ref (gad g 119)), (1, .ref (gad g i)), (2, .int (nI fr)), (3, .int (nI n)), (4, .int (nI c))] → W pG l eG ({ frames := 2, cells := 0, slots := 0, locals := 46 } : Room) sG mG ([.ref (gad g 119), .ref (gad g i), .int (nI fr), .int (nI n), .int (nI c)] : List Value).toArray belowG methG cG H locs 0 0 (MQ belowG (XQv g (fun w' => ∃ (T1 : Nat → Nat), w' 119 = .inr (7, [.ref (gad g 120), .ref (gad g 121), .ref (gad g 122), .int (nI le), .ref (gad g 123), .int (nI po), .int nu, .ref (gad g 124), .ref (gad g 125), .ref (gad g 126), .ref (gad g 127), .int (nI ik), .ref (gad g 128), .ref (gad g 129), .long (lN (100 ^ n)), .long (lN mu), .long (lN md), .long (lN bu), .long (lN bd)]) ∧ w' 128 = .inl (gJ g, 7, .inr (.inl (cL 7 0 (spreadO (onC L c) (backC L c) 100 fr n)))) ∧ w' 129 = .inl (gJ g, 7, .inr (.inl (cL 7 0 T1))) ∧ (∀ j : Nat, ¬ (119 ≤ j ∧ j < 120) → ¬ (128 ≤ j ∧ j < 130) → w' j = w j))) ([.ref (gad g 119), .ref (gad g i), .int (nI fr), .int (nI n), .int (nI c)] : List Value).toArray sG 0 0 (gA g)) (F0 mG 91 ls []) := by
                intro k91
                induction k91 using Nat.strongRecOn with
                | _ k91 ih91 =>
                intro i8 v91 H locs ls hk91 fa91_0 fa91_1 fa91_2 fa91_3 hfr91 hi8 hW hl
                refine lv_iload C.1 C.2.1 dX7_layOdds_91 (lv_at hl 0 rfl) ?_
                refine lv_bipush (v := (nI 7)) C.1 C.2.1 dX7_layOdds_93 (by decide) ?_
                refine xge (tgt := 230) C (by omega) (by omega) dX7_layOdds_95 (by decide) (fun c95 => ?_) (fun c95 => ?_)
                · refine lv_iconst (v := (nI 0)) C.1 C.2.1 dX7_layOdds_230 (by decide) ?_
                  refine lv_istore (lv' := [(8, .int (nI 0)), (7, .int (nI d)), (5, .long (lN 100)), (0, .ref (gad g 119)), (1, .ref (gad g i)), (2, .int (nI fr)), (3, .int (nI n)), (4, .int (nI c))]) C.1 C.2.1 dX7_layOdds_231 hl (by decide) rfl (fun ls hl => ?_)
                  have loop233 : ∀ (kG : Nat) (j : Nat) (v233 : Nat → va_E) (H : Heap) (locs : List Loc) (ls : Array Slot), kG = 7 - j → (v233 119 = .inr (7, [.ref (gad g 120), .ref (gad g 121), .ref (gad g 122), .int (nI le), .ref (gad g 123), .int (nI po), .int nu, .ref (gad g 124), .ref (gad g 125), .ref (gad g 126), .ref (gad g 127), .int (nI ik), .ref (gad g 128), .ref (gad g 129), .long (lN (100 ^ d)), .long (lN mu), .long (lN md), .long (lN bu), .long (lN bd)])) → (v233 128 = .inl (gJ g, 7, .inr (.inl (cL 7 0 (mixF j (accO (onC L c) (backC L c) 100 (spreadO (onC L c) (backC L c) 100 fr d) 7) (spreadO (onC L c) (backC L c) 100 fr d)))))) → (v233 129 = .inl (gJ g, 7, .inr (.inl (cL 7 0 (accO (onC L c) (backC L c) 100 (spreadO (onC L c) (backC L c) 100 fr d) 7))))) → (v233 i = .inl (gI g, 177, .inl (cK 177 0 L))) → (∀ j : Nat, ¬ (119 ≤ j ∧ j < 120) → ¬ (128 ≤ j ∧ j < 130) → v233 j = w j) → (j ≤ 7) → XW g v233 (gA g) sG.heap H locs → lv_has ls 14 [(8, .int (nI j)), (7, .int (nI d)), (5, .long (lN 100)), (0, .ref (gad g 119)), (1, .ref (gad g i)), (2, .int (nI fr)), (3, .int (nI n)), (4, .int (nI c))] → W pG l eG ({ frames := 2, cells := 0, slots := 0, locals := 46 } : Room) sG mG ([.ref (gad g 119), .ref (gad g i), .int (nI fr), .int (nI n), .int (nI c)] : List Value).toArray belowG methG cG H locs 0 0 (MQ belowG (XQv g (fun w' => ∃ (T1 : Nat → Nat), w' 119 = .inr (7, [.ref (gad g 120), .ref (gad g 121), .ref (gad g 122), .int (nI le), .ref (gad g 123), .int (nI po), .int nu, .ref (gad g 124), .ref (gad g 125), .ref (gad g 126), .ref (gad g 127), .int (nI ik), .ref (gad g 128), .ref (gad g 129), .long (lN (100 ^ n)), .long (lN mu), .long (lN md), .long (lN bu), .long (lN bd)]) ∧ w' 128 = .inl (gJ g, 7, .inr (.inl (cL 7 0 (spreadO (onC L c) (backC L c) 100 fr n)))) ∧ w' 129 = .inl (gJ g, 7, .inr (.inl (cL 7 0 T1))) ∧ (∀ j : Nat, ¬ (119 ≤ j ∧ j < 120) → ¬ (128 ≤ j ∧ j < 130) → w' j = w j))) ([.ref (gad g 119), .ref (gad g i), .int (nI fr), .int (nI n), .int (nI c)] : List Value).toArray sG 0 0 (gA g)) (F0 mG 233 ls []) := by
                    intro k233
                    induction k233 using Nat.strongRecOn with
                    | _ k233 ih233 =>
                    intro j v233 H locs ls hk233 fa233_0 fa233_1 fa233_2 fa233_3 hfr233 hj hW hl
                    refine lv_iload C.1 C.2.1 dX7_layOdds_233 (lv_at hl 0 rfl) ?_
                    refine lv_bipush (v := (nI 7)) C.1 C.2.1 dX7_layOdds_235 (by decide) ?_
                    refine xge (tgt := 260) C (by omega) (by omega) dX7_layOdds_237 (by decide) (fun c237 => ?_) (fun c237 => ?_)
                    · refine lv_aload_n C.1 C.2.1 dX7_layOdds_260 rfl (lv_at hl 3 rfl) ?_
                      refine lv_dup C.1 C.2.1 dX7_layOdds_261 rfl ?_
                      refine xget C hK hW hinX7 rfl (by omega) fa233_0 14 (by decide) (List.mem_of_getElem? (i := 4) rfl) rfl dX7_layOdds_262 ?_
                      refine lv_lload C.1 C.2.1 dX7_layOdds_265 (lv_at hl 2 rfl) ?_
                      refine xlmul C dX7_layOdds_267 ?_
                      refine xput (v := .long (lN ((100 ^ d) * 100))) C hK hW hinX7 tyX7_ok nmX7 rfl (by omega) fa233_0 14 (by decide) (List.mem_of_getElem? (i := 4) rfl) rfl rfl rfl (Nat.le_of_ble_eq_true rfl) dX7_layOdds_268 (fun w4 H locs e5 f6 hW => ?_)
                      refine lv_iinc (v := nI (d + 1)) (lv' := [(7, .int (nI (d + 1))), (8, .int (nI j)), (5, .long (lN 100)), (0, .ref (gad g 119)), (1, .ref (gad g i)), (2, .int (nI fr)), (3, .int (nI n)), (4, .int (nI c))]) C.1 C.2.1 dX7_layOdds_271 hl (k := 1) rfl (nI_add _ 1) (by decide) rfl (fun ls hl => ?_)
                      refine lv_goto (tgt := 58) C.1 C.2.1 dX7_layOdds_274 (by decide) ?_
                      have h7 : w4 128 = .inl (gJ g, 7, .inr (.inl (cL 7 0 (mixF j (accO (onC L c) (backC L c) 100 (spreadO (onC L c) (backC L c) 100 fr d) 7) (spreadO (onC L c) (backC L c) 100 fr d))))) := ((f6 128 (by omega)).trans fa233_1)
                      have h8 : w4 129 = .inl (gJ g, 7, .inr (.inl (cL 7 0 (accO (onC L c) (backC L c) 100 (spreadO (onC L c) (backC L c) 100 fr d) 7)))) := ((f6 129 (by omega)).trans fa233_2)
                      have h9 : w4 i = .inl (gI g, 177, .inl (cK 177 0 L)) := ((f6 i (by omega)).trans fa233_3)
                      exact ih58 (n - (d + 1)) (by omega) (d + 1) (accO (onC L c) (backC L c) 100 (spreadO (onC L c) (backC L c) 100 fr d) 7) w4 _ _ _ rfl (by first | exact e5 | (rw [mixF_0]; exact e5) | (rw [mixF_up]; exact e5) | (refine (e5).trans ?_; rw [cK_mixE (by omega)]; done) | (refine (e5).trans ?_; rw [cL_mixE (by omega)]; done) | (refine (e5).trans ?_; rw [cL_mixE (by omega)]; rfl)) ((h7).trans (by rw [cL_mixE (by omega)]; exact congrArg (fun z => Sum.inl (gJ g, 7, Sum.inr (Sum.inl z))) (cL_congr (fun q hq => by rw [Nat.zero_add]; exact accO_7 hq)))) h8 h9 (fun j z0 z1 => ((f6 j (by omega)).trans (hfr233 j z0 z1))) (by omega) hW (lv_sub hl [0, 2, 3, 4, 5, 6, 7] rfl)
                    · refine lv_aload_n C.1 C.2.1 dX7_layOdds_240 rfl (lv_at hl 3 rfl) ?_
                      refine xget C hK hW hinX7 rfl (by omega) fa233_0 12 (by decide) (List.mem_of_getElem? (i := 1) rfl) rfl dX7_layOdds_241 ?_
                      refine lv_iload C.1 C.2.1 dX7_layOdds_244 (lv_at hl 0 rfl) ?_
                      refine lv_aload_n C.1 C.2.1 dX7_layOdds_246 rfl (lv_at hl 3 rfl) ?_
                      refine xget C hK hW hinX7 rfl (by omega) fa233_0 13 (by decide) (List.mem_of_getElem? (i := 5) rfl) rfl dX7_layOdds_247 ?_
                      refine lv_iload C.1 C.2.1 dX7_layOdds_250 (lv_at hl 0 rfl) ?_
                      refine xlldK0 C hK hW (by omega) fa233_2 (by omega) (by decide) dX7_layOdds_252 ?_
                      refine xlstK0 (v := (accO (onC L c) (backC L c) 100 (spreadO (onC L c) (backC L c) 100 fr d) 7) j) C hK hW (by omega) fa233_1 (by omega) (by decide) dX7_layOdds_253 (fun w10 H locs e11 f12 hW => ?_)
                      refine lv_iinc (v := nI (j + 1)) (lv' := [(8, .int (nI (j + 1))), (7, .int (nI d)), (5, .long (lN 100)), (0, .ref (gad g 119)), (1, .ref (gad g i)), (2, .int (nI fr)), (3, .int (nI n)), (4, .int (nI c))]) C.1 C.2.1 dX7_layOdds_254 hl (k := 0) rfl (nI_add _ 1) (by decide) rfl (fun ls hl => ?_)
                      refine lv_goto (tgt := 233) C.1 C.2.1 dX7_layOdds_257 (by decide) ?_
                      have h13 : w10 119 = .inr (7, [.ref (gad g 120), .ref (gad g 121), .ref (gad g 122), .int (nI le), .ref (gad g 123), .int (nI po), .int nu, .ref (gad g 124), .ref (gad g 125), .ref (gad g 126), .ref (gad g 127), .int (nI ik), .ref (gad g 128), .ref (gad g 129), .long (lN (100 ^ d)), .long (lN mu), .long (lN md), .long (lN bu), .long (lN bd)]) := ((f12 119 (by omega)).trans fa233_0)
                      have h14 : w10 129 = .inl (gJ g, 7, .inr (.inl (cL 7 0 (accO (onC L c) (backC L c) 100 (spreadO (onC L c) (backC L c) 100 fr d) 7)))) := ((f12 129 (by omega)).trans fa233_2)
                      have h15 : w10 i = .inl (gI g, 177, .inl (cK 177 0 L)) := ((f12 i (by omega)).trans fa233_3)
                      exact ih233 (7 - (j + 1)) (by omega) (j + 1) w10 _ _ _ rfl h13 (by first | exact e11 | (rw [mixF_0]; exact e11) | (rw [mixF_up]; exact e11) | (refine (e11).trans ?_; rw [cK_mixE (by omega)]; done) | (refine (e11).trans ?_; rw [cL_mixE (by omega)]; done) | (refine (e11).trans ?_; rw [cL_mixE (by omega)]; rfl)) h14 h15 (fun j z0 z1 => ((f12 j (by omega)).trans (hfr233 j z0 z1))) (by omega) hW hl
                  exact loop233 _ 0 v91 _ _ _ rfl fa91_0 (by first | exact fa91_1 | (rw [mixF_0]; exact fa91_1) | (rw [mixF_up]; exact fa91_1) | (refine (fa91_1).trans ?_; rw [cK_mixE (by omega)]; done) | (refine (fa91_1).trans ?_; rw [cL_mixE (by omega)]; done) | (refine (fa91_1).trans ?_; rw [cL_mixE (by omega)]; rfl)) ((fa91_2).trans (by rw [show i8 = 7 by omega])) fa91_3 (fun j z0 z1 => (hfr91 j z0 z1)) (by omega) hW hl
                · have ho8 := onF_le L i8
                  have hb8 := back_le L i8
                  have hob8 := ((fun f _ => onC_back) : ∀ f, f < 7 → (onC L c) f + (backC L c) f ≤ 100) i8 (by omega)
                  refine lv_iload C.1 C.2.1 dX7_layOdds_98 (lv_at hl 7 rfl) ?_
                  refine x0ne (tgt := 107) C (by omega) dX7_layOdds_100 (by decide) (fun c100 => ?_) (fun c100 => absurd c100 (by omega))
                  refine lv_bipush (v := (nI 10)) C.1 C.2.1 dX7_layOdds_107 (by decide) ?_
                  refine lv_iload C.1 C.2.1 dX7_layOdds_109 (lv_at hl 7 rfl) ?_
                  refine xsub C (by omega) dX7_layOdds_111 ?_
                  refine lv_istore (lv' := [(9, .int (nI (10 - c))), (8, .int (nI i8)), (7, .int (nI d)), (5, .long (lN 100)), (0, .ref (gad g 119)), (1, .ref (gad g i)), (2, .int (nI fr)), (3, .int (nI n)), (4, .int (nI c))]) C.1 C.2.1 dX7_layOdds_112 hl (by decide) rfl (fun ls hl => ?_)
                  refine lv_iload C.1 C.2.1 dX7_layOdds_114 (lv_at hl 0 rfl) ?_
                  refine xi2l C (by omega) dX7_layOdds_116 ?_
                  refine lv_aload_n C.1 C.2.1 dX7_layOdds_117 rfl (lv_at hl 5 rfl) ?_
                  refine lv_iload C.1 C.2.1 dX7_layOdds_118 (lv_at hl 1 rfl) ?_
                  refine xcS_i (n := 2) (As := [.ref (gad g i), .int (nI i8)]) C hK hW (c_X7_onOf l g v91 i i8 L hI hN (by omega) (by omega) hok fa91_3) gX7_layOdds_X7_onOf rfl ⟨rfl, rfl⟩ (by decide +kernel) ⟨Nat.le_of_ble_eq_true rfl, Nat.le_of_ble_eq_true rfl⟩ ⟨Nat.zero_le _, Nat.zero_le _⟩ rfl hl rfl (Nat.le_of_ble_eq_true rfl) dX7_layOdds_120 (fun r18 w16 H locs q17 hW => ?_)
                  obtain ⟨qw19, rfl⟩ := q17
                  rw [qw19] at hW
                  refine xi2l C (by omega) dX7_layOdds_123 ?_
                  refine xlmul C dX7_layOdds_124 ?_
                  refine xtopL (b := onC L c i8) (Nat.mul_comm _ _) ?_
                  refine lv_lstore (lv' := [(10, .long (lN (onC L c i8))), (9, .int (nI (10 - c))), (8, .int (nI i8)), (7, .int (nI d)), (5, .long (lN 100)), (0, .ref (gad g 119)), (1, .ref (gad g i)), (2, .int (nI fr)), (3, .int (nI n)), (4, .int (nI c))]) C.1 C.2.1 dX7_layOdds_125 hl (by decide) rfl (fun ls hl => ?_)
                  refine lv_iload C.1 C.2.1 dX7_layOdds_127 (lv_at hl 1 rfl) ?_
                  refine xi2l C (by omega) dX7_layOdds_129 ?_
                  refine lv_aload_n C.1 C.2.1 dX7_layOdds_130 rfl (lv_at hl 6 rfl) ?_
                  refine lv_iload C.1 C.2.1 dX7_layOdds_131 (lv_at hl 2 rfl) ?_
                  refine xcS_i (n := 2) (As := [.ref (gad g i), .int (nI i8)]) C hK hW (c_X7_backOf l g v91 i i8 L hI hN (by omega) (by omega) hok fa91_3) gX7_layOdds_X7_backOf rfl ⟨rfl, rfl⟩ (by decide +kernel) ⟨Nat.le_of_ble_eq_true rfl, Nat.le_of_ble_eq_true rfl⟩ ⟨Nat.zero_le _, Nat.zero_le _⟩ rfl hl rfl (Nat.le_of_ble_eq_true rfl) dX7_layOdds_133 (fun r22 w20 H locs q21 hW => ?_)
                  obtain ⟨qw23, rfl⟩ := q21
                  rw [qw23] at hW
                  refine xi2l C (by omega) dX7_layOdds_136 ?_
                  refine xlmul C dX7_layOdds_137 ?_
                  refine xtopL (b := backC L c i8) (Nat.mul_comm _ _) ?_
                  refine lv_lstore (lv' := [(12, .long (lN (backC L c i8))), (10, .long (lN (onC L c i8))), (9, .int (nI (10 - c))), (8, .int (nI i8)), (7, .int (nI d)), (5, .long (lN 100)), (0, .ref (gad g 119)), (1, .ref (gad g i)), (2, .int (nI fr)), (3, .int (nI n)), (4, .int (nI c))]) C.1 C.2.1 dX7_layOdds_138 hl (by decide) rfl (fun ls hl => ?_)
                  refine lv_aload_n C.1 C.2.1 dX7_layOdds_140 rfl (lv_at hl 6 rfl) ?_
                  refine xget C hK hW hinX7 rfl (by omega) fa91_0 13 (by decide) (List.mem_of_getElem? (i := 5) rfl) rfl dX7_layOdds_141 ?_
                  refine lv_iload C.1 C.2.1 dX7_layOdds_144 (lv_at hl 3 rfl) ?_
                  refine lv_dup2_11 C.1 C.2.1 dX7_layOdds_146 rfl rfl ?_
                  refine xlldK0 C hK hW (by omega) fa91_2 (by omega) (by decide) dX7_layOdds_147 ?_
                  refine lv_aload_n C.1 C.2.1 dX7_layOdds_148 rfl (lv_at hl 6 rfl) ?_
                  refine xget C hK hW hinX7 rfl (by omega) fa91_0 12 (by decide) (List.mem_of_getElem? (i := 1) rfl) rfl dX7_layOdds_149 ?_
                  refine lv_iload C.1 C.2.1 dX7_layOdds_152 (lv_at hl 3 rfl) ?_
                  refine xlldK0 C hK hW (by omega) fa91_1 (by omega) (by decide) dX7_layOdds_154 ?_
                  refine lv_lload C.1 C.2.1 dX7_layOdds_155 (lv_at hl 5 rfl) ?_
                  refine lv_lload C.1 C.2.1 dX7_layOdds_157 (lv_at hl 1 rfl) ?_
                  refine xlsub C (by omega) dX7_layOdds_159 ?_
                  refine lv_lload C.1 C.2.1 dX7_layOdds_160 (lv_at hl 0 rfl) ?_
                  refine xlsub C (by omega) dX7_layOdds_162 ?_
                  refine xlmul C dX7_layOdds_163 ?_
                  refine xladd C dX7_layOdds_164 ?_
                  refine xlstK0 (v := ((accO (onC L c) (backC L c) 100 (spreadO (onC L c) (backC L c) 100 fr d) i8) i8) + (((spreadO (onC L c) (backC L c) 100 fr d) i8) * ((100 - (onC L c i8)) - (backC L c i8)))) C hK hW (by omega) fa91_2 (by omega) (by decide) dX7_layOdds_165 (fun w24 H locs e25 f26 hW => ?_)
                  refine lv_lload C.1 C.2.1 dX7_layOdds_166 (lv_at hl 1 rfl) ?_
                  refine lv_lconst (v := lN 0) C.1 C.2.1 dX7_layOdds_168 (by decide) ?_
                  refine xLle (tgt := 195) C (by omega) (by omega) dX7_layOdds_169 dX7_layOdds_170 (by decide) (fun c169 => ?_) (fun c169 => ?_)
                  · refine lv_lload C.1 C.2.1 dX7_layOdds_195 (lv_at hl 0 rfl) ?_
                    refine lv_lconst (v := lN 0) C.1 C.2.1 dX7_layOdds_197 (by decide) ?_
                    refine xLle (tgt := 224) C (by omega) (by omega) dX7_layOdds_198 dX7_layOdds_199 (by decide) (fun c198 => ?_) (fun c198 => ?_)
                    · refine lv_iinc (v := nI (i8 + 1)) (lv' := [(8, .int (nI (i8 + 1))), (12, .long (lN (backC L c i8))), (10, .long (lN (onC L c i8))), (9, .int (nI (10 - c))), (7, .int (nI d)), (5, .long (lN 100)), (0, .ref (gad g 119)), (1, .ref (gad g i)), (2, .int (nI fr)), (3, .int (nI n)), (4, .int (nI c))]) C.1 C.2.1 dX7_layOdds_224 hl (k := 3) rfl (nI_add _ 1) (by decide) rfl (fun ls hl => ?_)
                      refine lv_goto (tgt := 91) C.1 C.2.1 dX7_layOdds_227 (by decide) ?_
                      have h27 : w24 119 = .inr (7, [.ref (gad g 120), .ref (gad g 121), .ref (gad g 122), .int (nI le), .ref (gad g 123), .int (nI po), .int nu, .ref (gad g 124), .ref (gad g 125), .ref (gad g 126), .ref (gad g 127), .int (nI ik), .ref (gad g 128), .ref (gad g 129), .long (lN (100 ^ d)), .long (lN mu), .long (lN md), .long (lN bu), .long (lN bd)]) := ((f26 119 (by omega)).trans fa91_0)
                      have h28 : w24 128 = .inl (gJ g, 7, .inr (.inl (cL 7 0 (spreadO (onC L c) (backC L c) 100 fr d)))) := ((f26 128 (by omega)).trans fa91_1)
                      have h29 : w24 i = .inl (gI g, 177, .inl (cK 177 0 L)) := ((f26 i (by omega)).trans fa91_3)
                      exact ih91 (7 - (i8 + 1)) (by omega) (i8 + 1) w24 _ _ _ rfl h27 h28 ((e25).trans (by rw [acc_tt (by omega) (by omega)])) h29 (fun j z0 z1 => ((f26 j (by omega)).trans (hfr91 j z0 z1))) (by omega) hW (lv_sub hl [0, 4, 5, 6, 7, 8, 9, 10] rfl)
                    · have hz2 := backC_z (L := L) (c := c) (f := i8) (by omega)
                      refine lv_aload_n C.1 C.2.1 dX7_layOdds_202 rfl (lv_at hl 6 rfl) ?_
                      have h30 : w24 119 = .inr (7, [.ref (gad g 120), .ref (gad g 121), .ref (gad g 122), .int (nI le), .ref (gad g 123), .int (nI po), .int nu, .ref (gad g 124), .ref (gad g 125), .ref (gad g 126), .ref (gad g 127), .int (nI ik), .ref (gad g 128), .ref (gad g 129), .long (lN (100 ^ d)), .long (lN mu), .long (lN md), .long (lN bu), .long (lN bd)]) := ((f26 119 (by omega)).trans fa91_0)
                      refine xget C hK hW hinX7 rfl (by omega) h30 13 (by decide) (List.mem_of_getElem? (i := 5) rfl) rfl dX7_layOdds_203 ?_
                      refine lv_iload C.1 C.2.1 dX7_layOdds_206 (lv_at hl 3 rfl) ?_
                      refine lv_iconst (v := (nI 1)) C.1 C.2.1 dX7_layOdds_208 (by decide) ?_
                      refine xsub C (by omega) dX7_layOdds_209 ?_
                      refine lv_dup2_11 C.1 C.2.1 dX7_layOdds_210 rfl rfl ?_
                      refine xlldK0 C hK hW (by omega) e25 (by omega) (by decide) dX7_layOdds_211 ?_
                      refine lv_aload_n C.1 C.2.1 dX7_layOdds_212 rfl (lv_at hl 6 rfl) ?_
                      refine xget C hK hW hinX7 rfl (by omega) h30 12 (by decide) (List.mem_of_getElem? (i := 1) rfl) rfl dX7_layOdds_213 ?_
                      refine lv_iload C.1 C.2.1 dX7_layOdds_216 (lv_at hl 3 rfl) ?_
                      have h31 : w24 128 = .inl (gJ g, 7, .inr (.inl (cL 7 0 (spreadO (onC L c) (backC L c) 100 fr d)))) := ((f26 128 (by omega)).trans fa91_1)
                      refine xlldK0 C hK hW (by omega) h31 (by omega) (by decide) dX7_layOdds_218 ?_
                      refine lv_lload C.1 C.2.1 dX7_layOdds_219 (lv_at hl 0 rfl) ?_
                      refine xlmul C dX7_layOdds_221 ?_
                      refine xladd C dX7_layOdds_222 ?_
                      refine xlstK0 (v := ((va_up (accO (onC L c) (backC L c) 100 (spreadO (onC L c) (backC L c) 100 fr d) i8) i8 (((accO (onC L c) (backC L c) 100 (spreadO (onC L c) (backC L c) 100 fr d) i8) i8) + (((spreadO (onC L c) (backC L c) 100 fr d) i8) * ((100 - (onC L c i8)) - (backC L c i8))))) (i8 - 1)) + (((spreadO (onC L c) (backC L c) 100 fr d) i8) * (backC L c i8))) C hK hW (by omega) e25 (by omega) (by decide) dX7_layOdds_223 (fun w32 H locs e33 f34 hW => ?_)
                      refine lv_iinc (v := nI (i8 + 1)) (lv' := [(8, .int (nI (i8 + 1))), (12, .long (lN (backC L c i8))), (10, .long (lN (onC L c i8))), (9, .int (nI (10 - c))), (7, .int (nI d)), (5, .long (lN 100)), (0, .ref (gad g 119)), (1, .ref (gad g i)), (2, .int (nI fr)), (3, .int (nI n)), (4, .int (nI c))]) C.1 C.2.1 dX7_layOdds_224 hl (k := 3) rfl (nI_add _ 1) (by decide) rfl (fun ls hl => ?_)
                      refine lv_goto (tgt := 91) C.1 C.2.1 dX7_layOdds_227 (by decide) ?_
                      have h35 : w32 119 = .inr (7, [.ref (gad g 120), .ref (gad g 121), .ref (gad g 122), .int (nI le), .ref (gad g 123), .int (nI po), .int nu, .ref (gad g 124), .ref (gad g 125), .ref (gad g 126), .ref (gad g 127), .int (nI ik), .ref (gad g 128), .ref (gad g 129), .long (lN (100 ^ d)), .long (lN mu), .long (lN md), .long (lN bu), .long (lN bd)]) := ((f34 119 (by omega)).trans h30)
                      have h36 : w32 128 = .inl (gJ g, 7, .inr (.inl (cL 7 0 (spreadO (onC L c) (backC L c) 100 fr d)))) := ((f34 128 (by omega)).trans h31)
                      have h37 : w32 i = .inl (gI g, 177, .inl (cK 177 0 L)) := ((f34 i (by omega)).trans ((f26 i (by omega)).trans fa91_3))
                      exact ih91 (7 - (i8 + 1)) (by omega) (i8 + 1) w32 _ _ _ rfl h35 h36 ((e33).trans (by rw [acc_tf hz2 (by omega)])) h37 (fun j z0 z1 => ((f34 j (by omega)).trans ((f26 j (by omega)).trans (hfr91 j z0 z1)))) (by omega) hW (lv_sub hl [0, 4, 5, 6, 7, 8, 9, 10] rfl)
                  · have hz1 := onC_z (L := L) (c := c) (f := i8) (by omega)
                    refine lv_aload_n C.1 C.2.1 dX7_layOdds_173 rfl (lv_at hl 6 rfl) ?_
                    have h38 : w24 119 = .inr (7, [.ref (gad g 120), .ref (gad g 121), .ref (gad g 122), .int (nI le), .ref (gad g 123), .int (nI po), .int nu, .ref (gad g 124), .ref (gad g 125), .ref (gad g 126), .ref (gad g 127), .int (nI ik), .ref (gad g 128), .ref (gad g 129), .long (lN (100 ^ d)), .long (lN mu), .long (lN md), .long (lN bu), .long (lN bd)]) := ((f26 119 (by omega)).trans fa91_0)
                    refine xget C hK hW hinX7 rfl (by omega) h38 13 (by decide) (List.mem_of_getElem? (i := 5) rfl) rfl dX7_layOdds_174 ?_
                    refine lv_iload C.1 C.2.1 dX7_layOdds_177 (lv_at hl 3 rfl) ?_
                    refine lv_iconst (v := (nI 1)) C.1 C.2.1 dX7_layOdds_179 (by decide) ?_
                    refine xadd C dX7_layOdds_180 ?_
                    refine lv_dup2_11 C.1 C.2.1 dX7_layOdds_181 rfl rfl ?_
                    refine xlldK0 C hK hW (by omega) e25 (by omega) (by decide) dX7_layOdds_182 ?_
                    refine xtopL (b := (accO (onC L c) (backC L c) 100 (spreadO (onC L c) (backC L c) 100 fr d) i8) (i8 + 1)) (va_up_ne _ _ (by omega)) ?_
                    refine lv_aload_n C.1 C.2.1 dX7_layOdds_183 rfl (lv_at hl 6 rfl) ?_
                    refine xget C hK hW hinX7 rfl (by omega) h38 12 (by decide) (List.mem_of_getElem? (i := 1) rfl) rfl dX7_layOdds_184 ?_
                    refine lv_iload C.1 C.2.1 dX7_layOdds_187 (lv_at hl 3 rfl) ?_
                    have h39 : w24 128 = .inl (gJ g, 7, .inr (.inl (cL 7 0 (spreadO (onC L c) (backC L c) 100 fr d)))) := ((f26 128 (by omega)).trans fa91_1)
                    refine xlldK0 C hK hW (by omega) h39 (by omega) (by decide) dX7_layOdds_189 ?_
                    refine lv_lload C.1 C.2.1 dX7_layOdds_190 (lv_at hl 1 rfl) ?_
                    refine xlmul C dX7_layOdds_192 ?_
                    refine xladd C dX7_layOdds_193 ?_
                    refine xlstK0 (v := ((accO (onC L c) (backC L c) 100 (spreadO (onC L c) (backC L c) 100 fr d) i8) (i8 + 1)) + (((spreadO (onC L c) (backC L c) 100 fr d) i8) * (onC L c i8))) C hK hW (by omega) e25 (by omega) (by decide) dX7_layOdds_194 (fun w40 H locs e41 f42 hW => ?_)
                    refine lv_lload C.1 C.2.1 dX7_layOdds_195 (lv_at hl 0 rfl) ?_
                    refine lv_lconst (v := lN 0) C.1 C.2.1 dX7_layOdds_197 (by decide) ?_
                    refine xLle (tgt := 224) C (by omega) (by omega) dX7_layOdds_198 dX7_layOdds_199 (by decide) (fun c198 => ?_) (fun c198 => ?_)
                    · refine lv_iinc (v := nI (i8 + 1)) (lv' := [(8, .int (nI (i8 + 1))), (12, .long (lN (backC L c i8))), (10, .long (lN (onC L c i8))), (9, .int (nI (10 - c))), (7, .int (nI d)), (5, .long (lN 100)), (0, .ref (gad g 119)), (1, .ref (gad g i)), (2, .int (nI fr)), (3, .int (nI n)), (4, .int (nI c))]) C.1 C.2.1 dX7_layOdds_224 hl (k := 3) rfl (nI_add _ 1) (by decide) rfl (fun ls hl => ?_)
                      refine lv_goto (tgt := 91) C.1 C.2.1 dX7_layOdds_227 (by decide) ?_
                      have h43 : w40 119 = .inr (7, [.ref (gad g 120), .ref (gad g 121), .ref (gad g 122), .int (nI le), .ref (gad g 123), .int (nI po), .int nu, .ref (gad g 124), .ref (gad g 125), .ref (gad g 126), .ref (gad g 127), .int (nI ik), .ref (gad g 128), .ref (gad g 129), .long (lN (100 ^ d)), .long (lN mu), .long (lN md), .long (lN bu), .long (lN bd)]) := ((f42 119 (by omega)).trans h38)
                      have h44 : w40 128 = .inl (gJ g, 7, .inr (.inl (cL 7 0 (spreadO (onC L c) (backC L c) 100 fr d)))) := ((f42 128 (by omega)).trans h39)
                      have h45 : w40 i = .inl (gI g, 177, .inl (cK 177 0 L)) := ((f42 i (by omega)).trans ((f26 i (by omega)).trans fa91_3))
                      exact ih91 (7 - (i8 + 1)) (by omega) (i8 + 1) w40 _ _ _ rfl h43 h44 ((e41).trans (by rw [acc_ft (by omega)])) h45 (fun j z0 z1 => ((f42 j (by omega)).trans ((f26 j (by omega)).trans (hfr91 j z0 z1)))) (by omega) hW (lv_sub hl [0, 4, 5, 6, 7, 8, 9, 10] rfl)
                    · have hz2 := backC_z (L := L) (c := c) (f := i8) (by omega)
                      refine lv_aload_n C.1 C.2.1 dX7_layOdds_202 rfl (lv_at hl 6 rfl) ?_
                      have h46 : w40 119 = .inr (7, [.ref (gad g 120), .ref (gad g 121), .ref (gad g 122), .int (nI le), .ref (gad g 123), .int (nI po), .int nu, .ref (gad g 124), .ref (gad g 125), .ref (gad g 126), .ref (gad g 127), .int (nI ik), .ref (gad g 128), .ref (gad g 129), .long (lN (100 ^ d)), .long (lN mu), .long (lN md), .long (lN bu), .long (lN bd)]) := ((f42 119 (by omega)).trans h38)
                      refine xget C hK hW hinX7 rfl (by omega) h46 13 (by decide) (List.mem_of_getElem? (i := 5) rfl) rfl dX7_layOdds_203 ?_
                      refine lv_iload C.1 C.2.1 dX7_layOdds_206 (lv_at hl 3 rfl) ?_
                      refine lv_iconst (v := (nI 1)) C.1 C.2.1 dX7_layOdds_208 (by decide) ?_
                      refine xsub C (by omega) dX7_layOdds_209 ?_
                      refine lv_dup2_11 C.1 C.2.1 dX7_layOdds_210 rfl rfl ?_
                      refine xlldK0 C hK hW (by omega) e41 (by omega) (by decide) dX7_layOdds_211 ?_
                      refine lv_aload_n C.1 C.2.1 dX7_layOdds_212 rfl (lv_at hl 6 rfl) ?_
                      refine xget C hK hW hinX7 rfl (by omega) h46 12 (by decide) (List.mem_of_getElem? (i := 1) rfl) rfl dX7_layOdds_213 ?_
                      refine lv_iload C.1 C.2.1 dX7_layOdds_216 (lv_at hl 3 rfl) ?_
                      have h47 : w40 128 = .inl (gJ g, 7, .inr (.inl (cL 7 0 (spreadO (onC L c) (backC L c) 100 fr d)))) := ((f42 128 (by omega)).trans h39)
                      refine xlldK0 C hK hW (by omega) h47 (by omega) (by decide) dX7_layOdds_218 ?_
                      refine lv_lload C.1 C.2.1 dX7_layOdds_219 (lv_at hl 0 rfl) ?_
                      refine xlmul C dX7_layOdds_221 ?_
                      refine xladd C dX7_layOdds_222 ?_
                      refine xlstK0 (v := ((va_up (va_up (accO (onC L c) (backC L c) 100 (spreadO (onC L c) (backC L c) 100 fr d) i8) i8 (((accO (onC L c) (backC L c) 100 (spreadO (onC L c) (backC L c) 100 fr d) i8) i8) + (((spreadO (onC L c) (backC L c) 100 fr d) i8) * ((100 - (onC L c i8)) - (backC L c i8))))) (i8 + 1) (((accO (onC L c) (backC L c) 100 (spreadO (onC L c) (backC L c) 100 fr d) i8) (i8 + 1)) + (((spreadO (onC L c) (backC L c) 100 fr d) i8) * (onC L c i8)))) (i8 - 1)) + (((spreadO (onC L c) (backC L c) 100 fr d) i8) * (backC L c i8))) C hK hW (by omega) e41 (by omega) (by decide) dX7_layOdds_223 (fun w48 H locs e49 f50 hW => ?_)
                      refine lv_iinc (v := nI (i8 + 1)) (lv' := [(8, .int (nI (i8 + 1))), (12, .long (lN (backC L c i8))), (10, .long (lN (onC L c i8))), (9, .int (nI (10 - c))), (7, .int (nI d)), (5, .long (lN 100)), (0, .ref (gad g 119)), (1, .ref (gad g i)), (2, .int (nI fr)), (3, .int (nI n)), (4, .int (nI c))]) C.1 C.2.1 dX7_layOdds_224 hl (k := 3) rfl (nI_add _ 1) (by decide) rfl (fun ls hl => ?_)
                      refine lv_goto (tgt := 91) C.1 C.2.1 dX7_layOdds_227 (by decide) ?_
                      have h51 : w48 119 = .inr (7, [.ref (gad g 120), .ref (gad g 121), .ref (gad g 122), .int (nI le), .ref (gad g 123), .int (nI po), .int nu, .ref (gad g 124), .ref (gad g 125), .ref (gad g 126), .ref (gad g 127), .int (nI ik), .ref (gad g 128), .ref (gad g 129), .long (lN (100 ^ d)), .long (lN mu), .long (lN md), .long (lN bu), .long (lN bd)]) := ((f50 119 (by omega)).trans h46)
                      have h52 : w48 128 = .inl (gJ g, 7, .inr (.inl (cL 7 0 (spreadO (onC L c) (backC L c) 100 fr d)))) := ((f50 128 (by omega)).trans h47)
                      have h53 : w48 i = .inl (gI g, 177, .inl (cK 177 0 L)) := ((f50 i (by omega)).trans ((f42 i (by omega)).trans ((f26 i (by omega)).trans fa91_3)))
                      exact ih91 (7 - (i8 + 1)) (by omega) (i8 + 1) w48 _ _ _ rfl h51 h52 ((e49).trans (by rw [acc_ff hz2])) h53 (fun j z0 z1 => ((f50 j (by omega)).trans ((f42 j (by omega)).trans ((f26 j (by omega)).trans (hfr91 j z0 z1))))) (by omega) hW (lv_sub hl [0, 4, 5, 6, 7, 8, 9, 10] rfl)
              exact loop91 _ 0 v67 _ _ _ rfl fa67_0 fa67_1 ((fa67_2).trans (by rw [cL_mixE (by omega), accO_0])) fa67_3 (fun j z0 z1 => (hfr67 j z0 z1)) (by omega) hW hl
            · refine lv_aload_n C.1 C.2.1 dX7_layOdds_74 rfl (lv_at hl 3 rfl) ?_
              refine xget C hK hW hinX7 rfl (by omega) fa67_0 13 (by decide) (List.mem_of_getElem? (i := 5) rfl) rfl dX7_layOdds_75 ?_
              refine lv_iload C.1 C.2.1 dX7_layOdds_78 (lv_at hl 0 rfl) ?_
              refine lv_lconst (v := lN 0) C.1 C.2.1 dX7_layOdds_80 (by decide) ?_
              refine xlstK0 (v := 0) C hK hW (by omega) fa67_2 (by omega) (by decide) dX7_layOdds_81 (fun w54 H locs e55 f56 hW => ?_)
              refine lv_iinc (v := nI (j6 + 1)) (lv' := [(8, .int (nI (j6 + 1))), (7, .int (nI d)), (5, .long (lN 100)), (0, .ref (gad g 119)), (1, .ref (gad g i)), (2, .int (nI fr)), (3, .int (nI n)), (4, .int (nI c))]) C.1 C.2.1 dX7_layOdds_82 hl (k := 0) rfl (nI_add _ 1) (by decide) rfl (fun ls hl => ?_)
              refine lv_goto (tgt := 67) C.1 C.2.1 dX7_layOdds_85 (by decide) ?_
              have h57 : w54 119 = .inr (7, [.ref (gad g 120), .ref (gad g 121), .ref (gad g 122), .int (nI le), .ref (gad g 123), .int (nI po), .int nu, .ref (gad g 124), .ref (gad g 125), .ref (gad g 126), .ref (gad g 127), .int (nI ik), .ref (gad g 128), .ref (gad g 129), .long (lN (100 ^ d)), .long (lN mu), .long (lN md), .long (lN bu), .long (lN bd)]) := ((f56 119 (by omega)).trans fa67_0)
              have h58 : w54 128 = .inl (gJ g, 7, .inr (.inl (cL 7 0 (spreadO (onC L c) (backC L c) 100 fr d)))) := ((f56 128 (by omega)).trans fa67_1)
              have h59 : w54 i = .inl (gI g, 177, .inl (cK 177 0 L)) := ((f56 i (by omega)).trans fa67_3)
              exact ih67 (7 - (j6 + 1)) (by omega) (j6 + 1) w54 _ _ _ rfl h57 h58 (by first | exact e55 | (rw [mixF_0]; exact e55) | (rw [mixF_up]; exact e55) | (refine (e55).trans ?_; rw [cK_mixE (by omega)]; done) | (refine (e55).trans ?_; rw [cL_mixE (by omega)]; done) | (refine (e55).trans ?_; rw [cL_mixE (by omega)]; rfl)) h59 (fun j z0 z1 => ((f56 j (by omega)).trans (hfr67 j z0 z1))) (by omega) hW hl
          exact loop67 _ 0 v58 _ _ _ rfl fa58_0 fa58_1 (by first | exact fa58_2 | (rw [mixF_0]; exact fa58_2) | (rw [mixF_up]; exact fa58_2) | (refine (fa58_2).trans ?_; rw [cK_mixE (by omega)]; done) | (refine (fa58_2).trans ?_; rw [cL_mixE (by omega)]; done) | (refine (fa58_2).trans ?_; rw [cL_mixE (by omega)]; rfl)) fa58_3 (fun j z0 z1 => (hfr58 j z0 z1)) (by omega) hW hl
      have h60 : w1 128 = .inl (gJ g, 7, .inr (.inl (cL 7 0 (mixF i5 (startO fr) O)))) := ((f3 128 (by omega)).trans fa3_1)
      have h61 : w1 129 = .inl (gJ g, 7, .inr (.inl (cL 7 0 T))) := ((f3 129 (by omega)).trans fa3_2)
      have h62 : w1 i = .inl (gI g, 177, .inl (cK 177 0 L)) := ((f3 i (by omega)).trans fa3_3)
      exact loop58 _ 0 T w1 _ _ _ rfl (by first | exact e2 | (rw [mixF_0]; exact e2) | (rw [mixF_up]; exact e2) | (refine (e2).trans ?_; rw [cK_mixE (by omega)]; done) | (refine (e2).trans ?_; rw [cL_mixE (by omega)]; done) | (refine (e2).trans ?_; rw [cL_mixE (by omega)]; rfl)) ((h60).trans (by rw [cL_mixE (by omega)]; rfl)) h61 h62 (fun j z0 z1 => ((f3 j (by omega)).trans (hfr3 j z0 z1))) (by omega) hW hl
    · refine lv_aload_n C.1 C.2.1 dX7_layOdds_10 rfl (lv_at hl 1 rfl) ?_
      refine xget C hK hW hinX7 rfl (by omega) fa3_0 12 (by decide) (List.mem_of_getElem? (i := 1) rfl) rfl dX7_layOdds_11 ?_
      refine lv_iload C.1 C.2.1 dX7_layOdds_14 (lv_at hl 0 rfl) ?_
      refine lv_iload C.1 C.2.1 dX7_layOdds_16 (lv_at hl 0 rfl) ?_
      refine lv_iload_n C.1 C.2.1 dX7_layOdds_18 rfl (lv_at hl 3 rfl) ?_
      refine xne (tgt := 26) C (by omega) (by omega) dX7_layOdds_19 (by decide) (fun c19 => ?_) (fun c19 => ?_)
      · refine lv_lconst (v := lN 0) C.1 C.2.1 dX7_layOdds_26 (by decide) ?_
        refine xlstK0 (v := 0) C hK hW (by omega) fa3_1 (by omega) (by decide) dX7_layOdds_27 (fun w63 H locs e64 f65 hW => ?_)
        refine lv_iinc (v := nI (i5 + 1)) (lv' := [(5, .int (nI (i5 + 1))), (0, .ref (gad g 119)), (1, .ref (gad g i)), (2, .int (nI fr)), (3, .int (nI n)), (4, .int (nI c))]) C.1 C.2.1 dX7_layOdds_28 hl (k := 0) rfl (nI_add _ 1) (by decide) rfl (fun ls hl => ?_)
        refine lv_goto (tgt := 3) C.1 C.2.1 dX7_layOdds_31 (by decide) ?_
        have h66 : w63 119 = .inr (7, [.ref (gad g 120), .ref (gad g 121), .ref (gad g 122), .int (nI le), .ref (gad g 123), .int (nI po), .int nu, .ref (gad g 124), .ref (gad g 125), .ref (gad g 126), .ref (gad g 127), .int (nI ik), .ref (gad g 128), .ref (gad g 129), .long (lN ao), .long (lN mu), .long (lN md), .long (lN bu), .long (lN bd)]) := ((f65 119 (by omega)).trans fa3_0)
        have h67 : w63 129 = .inl (gJ g, 7, .inr (.inl (cL 7 0 T))) := ((f65 129 (by omega)).trans fa3_2)
        have h68 : w63 i = .inl (gI g, 177, .inl (cK 177 0 L)) := ((f65 i (by omega)).trans fa3_3)
        exact ih3 (7 - (i5 + 1)) (by omega) (i5 + 1) w63 _ _ _ rfl h66 (by rw [mixF_up, show startO fr i5 = 0 from if_neg c19]; exact e64) h67 h68 (fun j z0 z1 => ((f65 j (by omega)).trans (hfr3 j z0 z1))) (by omega) hW hl
      · refine lv_lconst (v := lN 1) C.1 C.2.1 dX7_layOdds_22 (by decide) ?_
        refine lv_goto (tgt := 27) C.1 C.2.1 dX7_layOdds_23 (by decide) ?_
        refine xlstK0 (v := 1) C hK hW (by omega) fa3_1 (by omega) (by decide) dX7_layOdds_27 (fun w69 H locs e70 f71 hW => ?_)
        refine lv_iinc (v := nI (i5 + 1)) (lv' := [(5, .int (nI (i5 + 1))), (0, .ref (gad g 119)), (1, .ref (gad g i)), (2, .int (nI fr)), (3, .int (nI n)), (4, .int (nI c))]) C.1 C.2.1 dX7_layOdds_28 hl (k := 0) rfl (nI_add _ 1) (by decide) rfl (fun ls hl => ?_)
        refine lv_goto (tgt := 3) C.1 C.2.1 dX7_layOdds_31 (by decide) ?_
        have h72 : w69 119 = .inr (7, [.ref (gad g 120), .ref (gad g 121), .ref (gad g 122), .int (nI le), .ref (gad g 123), .int (nI po), .int nu, .ref (gad g 124), .ref (gad g 125), .ref (gad g 126), .ref (gad g 127), .int (nI ik), .ref (gad g 128), .ref (gad g 129), .long (lN ao), .long (lN mu), .long (lN md), .long (lN bu), .long (lN bd)]) := ((f71 119 (by omega)).trans fa3_0)
        have h73 : w69 129 = .inl (gJ g, 7, .inr (.inl (cL 7 0 T))) := ((f71 129 (by omega)).trans fa3_2)
        have h74 : w69 i = .inl (gI g, 177, .inl (cK 177 0 L)) := ((f71 i (by omega)).trans fa3_3)
        exact ih3 (7 - (i5 + 1)) (by omega) (i5 + 1) w69 _ _ _ rfl h72 (by rw [mixF_up, show startO fr i5 = 1 from if_pos c19]; exact e70) h73 h74 (fun j z0 z1 => ((f71 j (by omega)).trans (hfr3 j z0 z1))) (by omega) hW hl
  exact loop3 _ 0 w _ _ _ rfl pr0 (by first | exact pr2 | (rw [mixF_0]; exact pr2) | (rw [mixF_up]; exact pr2) | (refine (pr2).trans ?_; rw [cK_mixE (by omega)]; done) | (refine (pr2).trans ?_; rw [cL_mixE (by omega)]; done) | (refine (pr2).trans ?_; rw [cL_mixE (by omega)]; rfl)) pr3 pr1 (fun j z0 z1 => rfl) (by omega) hW hl
