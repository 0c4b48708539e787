/-! what is borne out by a sheet -/
abbrev goes (L : Nat → Nat) (q : Nat → Int64) (n : Nat) : Prop := ∀ d, d < n → nI (daysF L (d + 1) 2) = fldX (q d)
theorem go_step {p : Nat → Prop} {d : Nat} (h : ∀ e, e < d → p e) (hd : p d) : ∀ e, e < d + 1 → p e := by
  intro e he
  by_cases q : e = d
  · rw [q]
    exact hd
  · exact h e (by omega)
theorem goes_congr {L : Nat → Nat} {q q' : Nat → Int64} {n : Nat} (h : ∀ d, d < n → q d = q' d) : decide (goes L q n) = decide (goes L q' n) := by
  refine decide_eq_decide.mpr ⟨fun z d hd => ?_, fun z d hd => ?_⟩
  · rw [← h d hd]
    exact z d hd
  · rw [h d hd]
    exact z d hd
abbrev seq8 (Y : Nat → Int64) (o i : Nat) : Nat → Int64 := fun d => Y (o + (i + d))
def kiB (L : Nat → Nat) (q : Nat → Int64) (n f : Nat) : Nat → Bool := fun k => decide (goes (va_up L (17 + f) k) q n)
def foB (L : Nat → Nat) (q : Nat → Int64) (n f : Nat) : Nat → Bool := fun k => decide (goes (va_up L (3 + f) k) q n)
abbrev okBo (x s c n z : Int32) : Prop := (in6 x ∧ in3 s ∧ in3 c) ∧ inR n (nI 1) (nI 8) ∧ inR z (nI 0) (nI 1)
def wrS (ln sz : Nat → Nat) (s c i n : Int32) : Int32 := wrongS (ln (cl s)) (sz (cl s)) c i n
def boS (L ln sz : Nat → Nat) (Z : Nat → Int64) (x s c i n z : Int32) : Int32 := if okBo x s c n z then (if wrS ln sz s c i n = 0 then (if cl z = 0 then setF (kiB L (seq8 Z (24 * cl s) (cl i)) (cl n) (cl x)) 5 else setF (foB L (seq8 Z (24 * cl s) (cl i)) (cl n) (cl x)) 10) else wrS ln sz s c i n) else -1

set_option maxHeartbeats 4000000 in
set_option maxRecDepth 100000 in
theorem c_X6_goesAsTold (l : Launch) (g : GE) (w : Nat → va_E) (b o hd la le i n hk : Nat) (tx ty : Int32) (L : Nat → Nat) (Y : Nat → Int64) (hI : AdInj g) (hN : gN g = 130) (hb : b + 1 < 130) (hb2 : 100 ≤ b) (hin : i + n ≤ 24) (hok : Okg L) (hs : L 2 < 7) (pr0 : w 0 = .inr (6, [.ref (gad g 1), .ref (gad g 34), .ref (gad g 67), .ref (gad g 100), .ref (gad g 106), .ref (gad g 107), .ref (gad g 108), .ref (gad g 110), .int (nI hk)])) (pr1 : GAt g 67 tx ty L w) (pr2 : w b = .inr (4, [.int (nI hd), .int (nI la), .int (nI le), .ref (gad g (b + 1))])) (pr3 : w (b + 1) = .inl (gJ g, 24, .inr (.inl (kK 0 24 o Y)))) : Met l yX6_goesAsTold wsX6_goesAsTold ({ frames := 4, cells := 0, slots := 0, locals := 89 } : Room) (XPc g w [.ref (gad g 0), .ref (gad g b), .int (nI i), .int (nI n)]) (XQi g (fun r w' => ∃ (L1 : Nat → Nat), GAt g 67 tx ty L1 w' ∧ (∀ j : Nat, ¬ (69 ≤ j ∧ j < 71) → w' j = w j) ∧ r = (bI (goes L (seq8 Y o i) n)))) 0 0 (gA g) := by
  refine xmet (cc := cX6_goesAsTold) (maxL := 5) (ret := (some .boolean)) (by decide) rfl hI (Nat.le_of_ble_eq_true rfl) ?_
  intro pG eG sG mG belowG methG cG ls C hr hlk hK hW hl
  have hl : lv_has ls 5 [(0, .ref (gad g 0)), (1, .ref (gad g b)), (2, .int (nI i)), (3, .int (nI n))] := hl
  have hinX1 : ∀ x ∈ u_ws RX1 TX1 8, x ∈ wsX6_goesAsTold := by decide +kernel
  have hinX2 : ∀ x ∈ u_ws RX2 TX2 5, x ∈ wsX6_goesAsTold := by decide +kernel
  have hinX6 : ∀ x ∈ u_ws RX6 TX6 9, x ∈ wsX6_goesAsTold := by decide +kernel
  refine lv_iconst (v := (nI 0)) C.1 C.2.1 dX6_goesAsTold_0 (by decide) ?_
  refine lv_istore (lv' := [(4, .int (nI 0)), (0, .ref (gad g 0)), (1, .ref (gad g b)), (2, .int (nI i)), (3, .int (nI n))]) C.1 C.2.1 dX6_goesAsTold_1 hl (by decide) rfl (fun ls hl => ?_)
  have loop3 : ∀ (kG : Nat) (d : Nat) (v3 : Nat → va_E) (H : Heap) (locs : List Loc) (ls : Array Slot), kG = n - d → (v3 0 = .inr (6, [.ref (gad g 1), .ref (gad g 34), .ref (gad g 67), .ref (gad g 100), .ref (gad g 106), .ref (gad g 107), .ref (gad g 108), .ref (gad g 110), .int (nI hk)])) → (GAt g 67 tx ty (daysF L d) v3) → (v3 b = .inr (4, [.int (nI hd), .int (nI la), .int (nI le), .ref (gad g (b + 1))])) → (v3 (b + 1) = .inl (gJ g, 24, .inr (.inl (kK 0 24 o Y)))) → (∀ j : Nat, ¬ (69 ≤ j ∧ j < 71) → v3 j = w j) → (d ≤ n) → (∀ e, e < d → nI (daysF L (e + 1) 2) = fldX (seq8 Y o i e)) → (Okg (daysF L d) ∧ daysF L d 2 < 7) → XW g v3 (gA g) sG.heap H locs → lv_has ls 5 [(4, .int (nI d)), (0, .ref (gad g 0)), (1, .ref (gad g b)), (2, .int (nI i)), (3, .int (nI n))] → W pG l eG ({ frames := 4, cells := 0, slots := 0, locals := 89 } : Room) sG mG ([.ref (gad g 0), .ref (gad g b), .int (nI i), .int (nI n)] : List Value).toArray belowG methG cG H locs 0 0 (MQ belowG (XQi g (fun r w' => ∃ (L1 : Nat → Nat), GAt g 67 tx ty L1 w' ∧ (∀ j : Nat, ¬ (69 ≤ j ∧ j < 71) → w' j = w j) ∧ r = (bI (goes L (seq8 Y o i) n)))) ([.ref (gad g 0), .ref (gad g b), .int (nI i), .int (nI n)] : List Value).toArray sG 0 0 (gA g)) (F0 mG 3 ls []) := by
    intro k3
    induction k3 using Nat.strongRecOn with
    | _ k3 ih3 =>
    intro d v3 H locs ls hk3 fa3_0 fa3_1 fa3_2 fa3_3 hfr3 hdn hgo hokd hW hl
    refine lv_iload C.1 C.2.1 dX6_goesAsTold_3 (lv_at hl 0 rfl) ?_
    refine lv_iload_n C.1 C.2.1 dX6_goesAsTold_5 rfl (lv_at hl 4 rfl) ?_
    refine xge (tgt := 45) C (by omega) (by omega) dX6_goesAsTold_6 (by decide) (fun c6 => ?_) (fun c6 => ?_)
    · refine lv_iconst (v := (nI 1)) C.1 C.2.1 dX6_goesAsTold_45 (by decide) ?_
      exact xret_z C hr hlk hW rfl ⟨_, fa3_1, (fun j z0 => (hfr3 j z0)), (bI_t (P := goes L (seq8 Y o i) n) (fun e he => hgo e (by omega))).symm⟩ dX6_goesAsTold_46
    · refine lv_aload_n C.1 C.2.1 dX6_goesAsTold_9 rfl (lv_at hl 1 rfl) ?_
      refine xget C hK hW hinX6 rfl (by omega) fa3_0 2 (by decide) (List.mem_of_getElem? (i := 1) rfl) rfl dX6_goesAsTold_10 ?_
      refine xcV_v (n := 0) (As := []) C hK hW (c_X1_passDay l g v3 67 tx ty (daysF L d) hI hN (by omega) hokd.1 hokd.2 fa3_1) gX6_goesAsTold_X1_passDay rfl ⟨rfl, rfl⟩ (by decide +kernel) ⟨Nat.le_of_ble_eq_true rfl, Nat.le_of_ble_eq_true rfl⟩ ⟨Nat.zero_le _, Nat.zero_le _⟩ rfl (by omega) fa3_1.1 rfl hl rfl (Nat.le_of_ble_eq_true rfl) dX6_goesAsTold_13 (fun w1 H locs q2 hW => ?_)
      obtain ⟨h4, f5⟩ := q2
      have h6 : GAt g 67 tx ty (daysF L (d + 1)) w1 := h4
      refine lv_aload_n C.1 C.2.1 dX6_goesAsTold_16 rfl (lv_at hl 1 rfl) ?_
      have h7 : w1 0 = .inr (6, [.ref (gad g 1), .ref (gad g 34), .ref (gad g 67), .ref (gad g 100), .ref (gad g 106), .ref (gad g 107), .ref (gad g 108), .ref (gad g 110), .int (nI hk)]) := ((f5 0 (by omega)).trans fa3_0)
      refine xget C hK hW hinX6 rfl (by omega) h7 2 (by decide) (List.mem_of_getElem? (i := 1) rfl) rfl dX6_goesAsTold_17 ?_
      refine xget C hK hW hinX1 rfl (by omega) h6.1 1 (by decide) (List.mem_of_getElem? (i := 2) rfl) rfl dX6_goesAsTold_20 ?_
      refine xget C hK hW hinX2 rfl (by omega) h6.2.2.1 0 (by decide) (List.mem_of_getElem? (i := 3) rfl) rfl dX6_goesAsTold_23 ?_
      refine lv_aload_n C.1 C.2.1 dX6_goesAsTold_26 rfl (lv_at hl 2 rfl) ?_
      refine lv_iload_n C.1 C.2.1 dX6_goesAsTold_27 rfl (lv_at hl 3 rfl) ?_
      refine lv_iload C.1 C.2.1 dX6_goesAsTold_28 (lv_at hl 0 rfl) ?_
      refine xadd C dX6_goesAsTold_30 ?_
      have h8 : w1 b = .inr (4, [.int (nI hd), .int (nI la), .int (nI le), .ref (gad g (b + 1))]) := ((f5 b (by omega)).trans fa3_2)
      have h9 : w1 (b + 1) = .inl (gJ g, 24, .inr (.inl (kK 0 24 o Y))) := ((f5 (b + 1) (by omega)).trans fa3_3)
      refine xcV_i (n := 1) (As := [.int (nI (i + d))]) C hK hW (c_X4_fieldAt l g w1 b o hd la le (i + d) Y hI hN (by omega) (by omega) h8 h9) gX6_goesAsTold_X4_fieldAt rfl ⟨rfl, rfl⟩ (by decide +kernel) ⟨Nat.le_of_ble_eq_true rfl, Nat.le_of_ble_eq_true rfl⟩ ⟨Nat.zero_le _, Nat.zero_le _⟩ rfl (by omega) h8 rfl hl rfl (Nat.le_of_ble_eq_true rfl) dX6_goesAsTold_31 (fun r12 w10 H locs q11 hW => ?_)
      obtain ⟨qw13, rfl⟩ := q11
      rw [qw13] at hW
      refine lv_icmp_eq (tgt := 39) C.1 C.2.1 dX6_goesAsTold_34 (by decide) (fun c34 => ?_) (fun c34 => ?_)
      · refine lv_iinc (v := nI (d + 1)) (lv' := [(4, .int (nI (d + 1))), (0, .ref (gad g 0)), (1, .ref (gad g b)), (2, .int (nI i)), (3, .int (nI n))]) C.1 C.2.1 dX6_goesAsTold_39 hl (k := 0) rfl (nI_add _ 1) (by decide) rfl (fun ls hl => ?_)
        refine lv_goto (tgt := 3) C.1 C.2.1 dX6_goesAsTold_42 (by decide) ?_
        exact ih3 (n - (d + 1)) (by omega) (d + 1) w1 _ _ _ rfl h7 h6 h8 h9 (fun j z0 => ((f5 j (by omega)).trans (hfr3 j z0))) (by omega) (go_step (p := fun e => nI (daysF L (e + 1) 2) = fldX (seq8 Y o i e)) hgo c34) (dayF_ok hokd.1 hokd.2) hW hl
      · refine lv_iconst (v := (nI 0)) C.1 C.2.1 dX6_goesAsTold_37 (by decide) ?_
        exact xret_z C hr hlk hW rfl ⟨_, h6, (fun j z0 => ((f5 j (by omega)).trans (hfr3 j z0))), (bI_f (P := goes L (seq8 Y o i) n) (fun z => c34 (z d (by omega)))).symm⟩ dX6_goesAsTold_38
  exact loop3 _ 0 w _ _ _ rfl pr0 pr1 pr2 pr3 (fun j z0 => rfl) (by omega) (fun e he => absurd he (Nat.not_lt_zero e)) (⟨hok, hs⟩) hW hl

set_option maxHeartbeats 4000000 in
set_option maxRecDepth 100000 in
theorem c_X6_kindsFor (l : Launch) (g : GE) (w : Nat → va_E) (b o hd la le i n hk fi : Nat) (x1 y1 tx ty : Int32) (L TL : Nat → Nat) (Y : Nat → Int64) (hI : AdInj g) (hN : gN g = 130) (hb : b + 1 < 130) (hb2 : 100 ≤ b) (hin : i + n ≤ 24) (hfi : fi < 7) (hok : Okg L) (hs : L 2 < 7) (pr0 : w 0 = .inr (6, [.ref (gad g 1), .ref (gad g 34), .ref (gad g 67), .ref (gad g 100), .ref (gad g 106), .ref (gad g 107), .ref (gad g 108), .ref (gad g 110), .int (nI hk)])) (pr1 : GAt g 1 x1 y1 L w) (pr2 : GAt g 67 tx ty TL w) (pr3 : w b = .inr (4, [.int (nI hd), .int (nI la), .int (nI le), .ref (gad g (b + 1))])) (pr4 : w (b + 1) = .inl (gJ g, 24, .inr (.inl (kK 0 24 o Y)))) : Met l yX6_kindsFor wsX6_kindsFor ({ frames := 5, cells := 0, slots := 0, locals := 113 } : Room) (XPc g w [.ref (gad g 0), .int (nI fi), .ref (gad g b), .int (nI i), .int (nI n)]) (XQi g (fun r w' => ∃ (L1 : Nat → Nat), GAt g 67 tx ty L1 w' ∧ (∀ j : Nat, ¬ (68 ≤ j ∧ j < 72) → w' j = w j) ∧ r = (setF (kiB L (seq8 Y o i) n fi) 5))) 0 0 (gA g) := by
  refine xmet (cc := cX6_kindsFor) (maxL := 7) (ret := (some .int)) (by decide) rfl hI (Nat.le_of_ble_eq_true rfl) ?_
  intro pG eG sG mG belowG methG cG ls C hr hlk hK hW hl
  have hl : lv_has ls 7 [(0, .ref (gad g 0)), (1, .int (nI fi)), (2, .ref (gad g b)), (3, .int (nI i)), (4, .int (nI n))] := hl
  have hinX1 : ∀ x ∈ u_ws RX1 TX1 8, x ∈ wsX6_kindsFor := by decide +kernel
  have hinX6 : ∀ x ∈ u_ws RX6 TX6 9, x ∈ wsX6_kindsFor := by decide +kernel
  refine lv_iconst (v := (nI 0)) C.1 C.2.1 dX6_kindsFor_0 (by decide) ?_
  refine lv_istore (lv' := [(5, .int (nI 0)), (0, .ref (gad g 0)), (1, .int (nI fi)), (2, .ref (gad g b)), (3, .int (nI i)), (4, .int (nI n))]) C.1 C.2.1 dX6_kindsFor_1 hl (by decide) rfl (fun ls hl => ?_)
  refine lv_iconst (v := (nI 0)) C.1 C.2.1 dX6_kindsFor_3 (by decide) ?_
  refine lv_istore (lv' := [(6, .int (nI 0)), (5, .int (nI 0)), (0, .ref (gad g 0)), (1, .int (nI fi)), (2, .ref (gad g b)), (3, .int (nI i)), (4, .int (nI n))]) C.1 C.2.1 dX6_kindsFor_4 hl (by decide) rfl (fun ls hl => ?_)
  have loop6 : ∀ (kG : Nat) (k : Nat) (TL2 : Nat → Nat) (v6 : Nat → va_E) (H : Heap) (locs : List Loc) (ls : Array Slot), kG = 5 - k → (v6 0 = .inr (6, [.ref (gad g 1), .ref (gad g 34), .ref (gad g 67), .ref (gad g 100), .ref (gad g 106), .ref (gad g 107), .ref (gad g 108), .ref (gad g 110), .int (nI hk)])) → (GAt g 1 x1 y1 L v6) → (GAt g 67 tx ty TL2 v6) → (v6 b = .inr (4, [.int (nI hd), .int (nI la), .int (nI le), .ref (gad g (b + 1))])) → (v6 (b + 1) = .inl (gJ g, 24, .inr (.inl (kK 0 24 o Y)))) → (∀ j : Nat, ¬ (68 ≤ j ∧ j < 72) → v6 j = w j) → (k ≤ 5) → XW g v6 (gA g) sG.heap H locs → lv_has ls 7 [(6, .int (nI k)), (5, .int (setF (kiB L (seq8 Y o i) n fi) k)), (0, .ref (gad g 0)), (1, .int (nI fi)), (2, .ref (gad g b)), (3, .int (nI i)), (4, .int (nI n))] → W pG l eG ({ frames := 5, cells := 0, slots := 0, locals := 113 } : Room) sG mG ([.ref (gad g 0), .int (nI fi), .ref (gad g b), .int (nI i), .int (nI n)] : List Value).toArray belowG methG cG H locs 0 0 (MQ belowG (XQi g (fun r w' => ∃ (L1 : Nat → Nat), GAt g 67 tx ty L1 w' ∧ (∀ j : Nat, ¬ (68 ≤ j ∧ j < 72) → w' j = w j) ∧ r = (setF (kiB L (seq8 Y o i) n fi) 5))) ([.ref (gad g 0), .int (nI fi), .ref (gad g b), .int (nI i), .int (nI n)] : List Value).toArray sG 0 0 (gA g)) (F0 mG 6 ls []) := by
    intro k6
    induction k6 using Nat.strongRecOn with
    | _ k6 ih6 =>
    intro k TL2 v6 H locs ls hk6 fa6_0 fa6_1 fa6_2 fa6_3 fa6_4 hfr6 hkc hW hl
    refine lv_iload C.1 C.2.1 dX6_kindsFor_6 (lv_at hl 0 rfl) ?_
    refine lv_iconst (v := (nI 5)) C.1 C.2.1 dX6_kindsFor_8 (by decide) ?_
    refine xge (tgt := 60) C (by omega) (by omega) dX6_kindsFor_9 (by decide) (fun c9 => ?_) (fun c9 => ?_)
    · refine lv_iload C.1 C.2.1 dX6_kindsFor_60 (lv_at hl 1 rfl) ?_
      exact xret_i C hr hlk hW ⟨_, fa6_2, (fun j z0 => (hfr6 j z0)), (by rw [show k = 5 by omega])⟩ dX6_kindsFor_62
    · refine lv_aload_n C.1 C.2.1 dX6_kindsFor_12 rfl (lv_at hl 2 rfl) ?_
      refine xget C hK hW hinX6 rfl (by omega) fa6_0 2 (by decide) (List.mem_of_getElem? (i := 1) rfl) rfl dX6_kindsFor_13 ?_
      refine lv_aload_n C.1 C.2.1 dX6_kindsFor_16 rfl (lv_at hl 2 rfl) ?_
      refine xget C hK hW hinX6 rfl (by omega) fa6_0 0 (by decide) (List.mem_of_getElem? (i := 2) rfl) rfl dX6_kindsFor_17 ?_
      refine xcV_v (n := 1) (As := [.ref (gad g 1)]) C hK hW (c_X1_takeGround l g v6 67 1 tx ty x1 y1 TL2 L hI hN (by omega) (by omega) (by omega) fa6_2 fa6_1) gX6_kindsFor_X1_takeGround rfl ⟨rfl, rfl⟩ (by decide +kernel) ⟨Nat.le_of_ble_eq_true rfl, Nat.le_of_ble_eq_true rfl⟩ ⟨Nat.zero_le _, Nat.zero_le _⟩ rfl (by omega) fa6_2.1 rfl hl rfl (Nat.le_of_ble_eq_true rfl) dX6_kindsFor_20 (fun w1 H locs q2 hW => ?_)
      obtain ⟨h4, f5⟩ := q2
      refine lv_aload_n C.1 C.2.1 dX6_kindsFor_23 rfl (lv_at hl 2 rfl) ?_
      have h6 : w1 0 = .inr (6, [.ref (gad g 1), .ref (gad g 34), .ref (gad g 67), .ref (gad g 100), .ref (gad g 106), .ref (gad g 107), .ref (gad g 108), .ref (gad g 110), .int (nI hk)]) := ((f5 0 (by omega)).trans fa6_0)
      refine xget C hK hW hinX6 rfl (by omega) h6 2 (by decide) (List.mem_of_getElem? (i := 1) rfl) rfl dX6_kindsFor_24 ?_
      refine xget C hK hW hinX1 rfl (by omega) h4.1 0 (by decide) (List.mem_of_getElem? (i := 3) rfl) rfl dX6_kindsFor_27 ?_
      refine lv_iload_n C.1 C.2.1 dX6_kindsFor_30 rfl (lv_at hl 3 rfl) ?_
      refine lv_iload C.1 C.2.1 dX6_kindsFor_31 (lv_at hl 0 rfl) ?_
      refine xistK (v := k) C hK hW (by omega) h4.2.1 (by omega) (by decide) dX6_kindsFor_33 (fun w7 H locs e8 f9 hW => ?_)
      have h10 : GAt g 67 tx ty (va_up L (17 + fi) k) w7 := GAt_kind h4 (by omega) e8 f9
      refine lv_aload_n C.1 C.2.1 dX6_kindsFor_34 rfl (lv_at hl 2 rfl) ?_
      refine lv_aload_n C.1 C.2.1 dX6_kindsFor_35 rfl (lv_at hl 4 rfl) ?_
      refine lv_iload_n C.1 C.2.1 dX6_kindsFor_36 rfl (lv_at hl 5 rfl) ?_
      refine lv_iload C.1 C.2.1 dX6_kindsFor_37 (lv_at hl 6 rfl) ?_
      have h11 : w7 0 = .inr (6, [.ref (gad g 1), .ref (gad g 34), .ref (gad g 67), .ref (gad g 100), .ref (gad g 106), .ref (gad g 107), .ref (gad g 108), .ref (gad g 110), .int (nI hk)]) := ((f9 0 (by omega)).trans h6)
      have h12 : w7 b = .inr (4, [.int (nI hd), .int (nI la), .int (nI le), .ref (gad g (b + 1))]) := ((f9 b (by omega)).trans ((f5 b (by omega)).trans fa6_3))
      have h13 : w7 (b + 1) = .inl (gJ g, 24, .inr (.inl (kK 0 24 o Y))) := ((f9 (b + 1) (by omega)).trans ((f5 (b + 1) (by omega)).trans fa6_4))
      refine xcV_i (n := 3) (As := [.ref (gad g b), .int (nI i), .int (nI n)]) C hK hW (c_X6_goesAsTold l g w7 b o hd la le i n hk tx ty (va_up L (17 + fi) k) Y hI hN (by omega) (by omega) (by omega) (Okg_kind hok hfi (by omega)) (by rw [va_up_ne _ _ (by omega)]; exact hs) h11 h10 h12 h13) gX6_kindsFor_X6_goesAsTold rfl ⟨rfl, rfl⟩ (by decide +kernel) ⟨Nat.le_of_ble_eq_true rfl, Nat.le_of_ble_eq_true rfl⟩ ⟨Nat.zero_le _, Nat.zero_le _⟩ rfl (by omega) h11 rfl hl rfl (Nat.le_of_ble_eq_true rfl) dX6_kindsFor_39 (fun r16 w14 H locs q15 hW => ?_)
      obtain ⟨L1_19, h17, f18, rfl⟩ := q15
      refine xBeq (tgt := 54) C dX6_kindsFor_42 (by decide) (fun c42 => ?_) (fun c42 => ?_)
      · have hl : lv_has ls 7 [(6, .int (nI k)), (5, .int (setF (kiB L (seq8 Y o i) n fi) (k + 1))), (0, .ref (gad g 0)), (1, .int (nI fi)), (2, .ref (gad g b)), (3, .int (nI i)), (4, .int (nI n))] := by rw [show (setF (kiB L (seq8 Y o i) n fi) (k + 1)) = (setF (kiB L (seq8 Y o i) n fi) k) from (setF_n (p := kiB L (seq8 Y o i) n fi) (fun z => c42 (of_decide_eq_true z)))]; exact hl
        refine lv_iinc (v := nI (k + 1)) (lv' := [(6, .int (nI (k + 1))), (5, .int (setF (kiB L (seq8 Y o i) n fi) (k + 1))), (0, .ref (gad g 0)), (1, .int (nI fi)), (2, .ref (gad g b)), (3, .int (nI i)), (4, .int (nI n))]) C.1 C.2.1 dX6_kindsFor_54 hl (k := 0) rfl (nI_add _ 1) (by decide) rfl (fun ls hl => ?_)
        refine lv_goto (tgt := 6) C.1 C.2.1 dX6_kindsFor_57 (by decide) ?_
        have h20 : w14 0 = .inr (6, [.ref (gad g 1), .ref (gad g 34), .ref (gad g 67), .ref (gad g 100), .ref (gad g 106), .ref (gad g 107), .ref (gad g 108), .ref (gad g 110), .int (nI hk)]) := ((f18 0 (by omega)).trans h11)
        have h21 : GAt g 1 x1 y1 L w14 := (GAt.fr (GAt.fr (GAt.fr fa6_1 (fun j h1 h2 => f5 j (by omega))) (fun j h1 h2 => f9 j (by omega))) (fun j h1 h2 => f18 j (by omega)))
        have h22 : w14 b = .inr (4, [.int (nI hd), .int (nI la), .int (nI le), .ref (gad g (b + 1))]) := ((f18 b (by omega)).trans h12)
        have h23 : w14 (b + 1) = .inl (gJ g, 24, .inr (.inl (kK 0 24 o Y))) := ((f18 (b + 1) (by omega)).trans h13)
        exact ih6 (5 - (k + 1)) (by omega) (k + 1) L1_19 w14 _ _ _ rfl h20 h21 h17 h22 h23 (fun j z0 => ((f18 j (by omega)).trans ((f9 j (by omega)).trans ((f5 j (by omega)).trans (hfr6 j z0))))) (by omega) hW hl
      · refine lv_iload C.1 C.2.1 dX6_kindsFor_45 (lv_at hl 1 rfl) ?_
        refine lv_iconst (v := (nI 1)) C.1 C.2.1 dX6_kindsFor_47 (by decide) ?_
        refine lv_iload C.1 C.2.1 dX6_kindsFor_48 (lv_at hl 0 rfl) ?_
        refine lv_ishl C.1 C.2.1 dX6_kindsFor_50 ?_
        refine lv_ior C.1 C.2.1 dX6_kindsFor_51 ?_
        refine lv_istore (lv' := [(5, .int ((setF (kiB L (seq8 Y o i) n fi) k) ||| ((nI 1) <<< ((nI k) &&& 31)))), (6, .int (nI k)), (0, .ref (gad g 0)), (1, .int (nI fi)), (2, .ref (gad g b)), (3, .int (nI i)), (4, .int (nI n))]) C.1 C.2.1 dX6_kindsFor_52 hl (by decide) rfl (fun ls hl => ?_)
        have hl : lv_has ls 7 [(5, .int (setF (kiB L (seq8 Y o i) n fi) (k + 1))), (6, .int (nI k)), (0, .ref (gad g 0)), (1, .int (nI fi)), (2, .ref (gad g b)), (3, .int (nI i)), (4, .int (nI n))] := by rw [show (setF (kiB L (seq8 Y o i) n fi) (k + 1)) = ((setF (kiB L (seq8 Y o i) n fi) k) ||| ((nI 1) <<< ((nI k) &&& 31))) from (setF_y (p := kiB L (seq8 Y o i) n fi) (decide_eq_true c42))]; exact hl
        refine lv_iinc (v := nI (k + 1)) (lv' := [(6, .int (nI (k + 1))), (5, .int (setF (kiB L (seq8 Y o i) n fi) (k + 1))), (0, .ref (gad g 0)), (1, .int (nI fi)), (2, .ref (gad g b)), (3, .int (nI i)), (4, .int (nI n))]) C.1 C.2.1 dX6_kindsFor_54 hl (k := 1) rfl (nI_add _ 1) (by decide) rfl (fun ls hl => ?_)
        refine lv_goto (tgt := 6) C.1 C.2.1 dX6_kindsFor_57 (by decide) ?_
        have h24 : w14 0 = .inr (6, [.ref (gad g 1), .ref (gad g 34), .ref (gad g 67), .ref (gad g 100), .ref (gad g 106), .ref (gad g 107), .ref (gad g 108), .ref (gad g 110), .int (nI hk)]) := ((f18 0 (by omega)).trans h11)
        have h25 : GAt g 1 x1 y1 L w14 := (GAt.fr (GAt.fr (GAt.fr fa6_1 (fun j h1 h2 => f5 j (by omega))) (fun j h1 h2 => f9 j (by omega))) (fun j h1 h2 => f18 j (by omega)))
        have h26 : w14 b = .inr (4, [.int (nI hd), .int (nI la), .int (nI le), .ref (gad g (b + 1))]) := ((f18 b (by omega)).trans h12)
        have h27 : w14 (b + 1) = .inl (gJ g, 24, .inr (.inl (kK 0 24 o Y))) := ((f18 (b + 1) (by omega)).trans h13)
        exact ih6 (5 - (k + 1)) (by omega) (k + 1) L1_19 w14 _ _ _ rfl h24 h25 h17 h26 h27 (fun j z0 => ((f18 j (by omega)).trans ((f9 j (by omega)).trans ((f5 j (by omega)).trans (hfr6 j z0))))) (by omega) hW hl
  exact loop6 _ 0 TL w _ _ _ rfl pr0 pr1 pr2 pr3 pr4 (fun j z0 => rfl) (by omega) hW hl

set_option maxHeartbeats 4000000 in
set_option maxRecDepth 100000 in
theorem c_X6_foodsFor (l : Launch) (g : GE) (w : Nat → va_E) (b o hd la le i n hk fi : Nat) (x1 y1 tx ty : Int32) (L TL : Nat → Nat) (Y : Nat → Int64) (hI : AdInj g) (hN : gN g = 130) (hb : b + 1 < 130) (hb2 : 100 ≤ b) (hin : i + n ≤ 24) (hfi : fi < 7) (hok : Okg L) (hs : L 2 < 7) (pr0 : w 0 = .inr (6, [.ref (gad g 1), .ref (gad g 34), .ref (gad g 67), .ref (gad g 100), .ref (gad g 106), .ref (gad g 107), .ref (gad g 108), .ref (gad g 110), .int (nI hk)])) (pr1 : GAt g 1 x1 y1 L w) (pr2 : GAt g 67 tx ty TL w) (pr3 : w b = .inr (4, [.int (nI hd), .int (nI la), .int (nI le), .ref (gad g (b + 1))])) (pr4 : w (b + 1) = .inl (gJ g, 24, .inr (.inl (kK 0 24 o Y)))) : Met l yX6_foodsFor wsX6_foodsFor ({ frames := 5, cells := 0, slots := 0, locals := 113 } : Room) (XPc g w [.ref (gad g 0), .int (nI fi), .ref (gad g b), .int (nI i), .int (nI n)]) (XQi g (fun r w' => ∃ (L1 : Nat → Nat), GAt g 67 tx ty L1 w' ∧ (∀ j : Nat, ¬ (68 ≤ j ∧ j < 72) → w' j = w j) ∧ r = (setF (foB L (seq8 Y o i) n fi) 10))) 0 0 (gA g) := by
  refine xmet (cc := cX6_foodsFor) (maxL := 7) (ret := (some .int)) (by decide) rfl hI (Nat.le_of_ble_eq_true rfl) ?_
  intro pG eG sG mG belowG methG cG ls C hr hlk hK hW hl
  have hl : lv_has ls 7 [(0, .ref (gad g 0)), (1, .int (nI fi)), (2, .ref (gad g b)), (3, .int (nI i)), (4, .int (nI n))] := hl
  have hinX1 : ∀ x ∈ u_ws RX1 TX1 8, x ∈ wsX6_foodsFor := by decide +kernel
  have hinX2 : ∀ x ∈ u_ws RX2 TX2 5, x ∈ wsX6_foodsFor := by decide +kernel
  have hinX6 : ∀ x ∈ u_ws RX6 TX6 9, x ∈ wsX6_foodsFor := by decide +kernel
  refine lv_iconst (v := (nI 0)) C.1 C.2.1 dX6_foodsFor_0 (by decide) ?_
  refine lv_istore (lv' := [(5, .int (nI 0)), (0, .ref (gad g 0)), (1, .int (nI fi)), (2, .ref (gad g b)), (3, .int (nI i)), (4, .int (nI n))]) C.1 C.2.1 dX6_foodsFor_1 hl (by decide) rfl (fun ls hl => ?_)
  refine lv_iconst (v := (nI 0)) C.1 C.2.1 dX6_foodsFor_3 (by decide) ?_
  refine lv_istore (lv' := [(6, .int (nI 0)), (5, .int (nI 0)), (0, .ref (gad g 0)), (1, .int (nI fi)), (2, .ref (gad g b)), (3, .int (nI i)), (4, .int (nI n))]) C.1 C.2.1 dX6_foodsFor_4 hl (by decide) rfl (fun ls hl => ?_)
  have loop6 : ∀ (kG : Nat) (k : Nat) (TL2 : Nat → Nat) (v6 : Nat → va_E) (H : Heap) (locs : List Loc) (ls : Array Slot), kG = 10 - k → (v6 0 = .inr (6, [.ref (gad g 1), .ref (gad g 34), .ref (gad g 67), .ref (gad g 100), .ref (gad g 106), .ref (gad g 107), .ref (gad g 108), .ref (gad g 110), .int (nI hk)])) → (GAt g 1 x1 y1 L v6) → (GAt g 67 tx ty TL2 v6) → (v6 b = .inr (4, [.int (nI hd), .int (nI la), .int (nI le), .ref (gad g (b + 1))])) → (v6 (b + 1) = .inl (gJ g, 24, .inr (.inl (kK 0 24 o Y)))) → (∀ j : Nat, ¬ (68 ≤ j ∧ j < 72) → v6 j = w j) → (k ≤ 10) → XW g v6 (gA g) sG.heap H locs → lv_has ls 7 [(6, .int (nI k)), (5, .int (setF (foB L (seq8 Y o i) n fi) k)), (0, .ref (gad g 0)), (1, .int (nI fi)), (2, .ref (gad g b)), (3, .int (nI i)), (4, .int (nI n))] → W pG l eG ({ frames := 5, cells := 0, slots := 0, locals := 113 } : Room) sG mG ([.ref (gad g 0), .int (nI fi), .ref (gad g b), .int (nI i), .int (nI n)] : List Value).toArray belowG methG cG H locs 0 0 (MQ belowG (XQi g (fun r w' => ∃ (L1 : Nat → Nat), GAt g 67 tx ty L1 w' ∧ (∀ j : Nat, ¬ (68 ≤ j ∧ j < 72) → w' j = w j) ∧ r = (setF (foB L (seq8 Y o i) n fi) 10))) ([.ref (gad g 0), .int (nI fi), .ref (gad g b), .int (nI i), .int (nI n)] : List Value).toArray sG 0 0 (gA g)) (F0 mG 6 ls []) := by
    intro k6
    induction k6 using Nat.strongRecOn with
    | _ k6 ih6 =>
    intro k TL2 v6 H locs ls hk6 fa6_0 fa6_1 fa6_2 fa6_3 fa6_4 hfr6 hkc hW hl
    refine lv_iload C.1 C.2.1 dX6_foodsFor_6 (lv_at hl 0 rfl) ?_
    refine lv_bipush (v := (nI 9)) C.1 C.2.1 dX6_foodsFor_8 (by decide) ?_
    refine xgt (tgt := 64) C (by omega) (by omega) dX6_foodsFor_10 (by decide) (fun c10 => ?_) (fun c10 => ?_)
    · refine lv_iload C.1 C.2.1 dX6_foodsFor_64 (lv_at hl 1 rfl) ?_
      exact xret_i C hr hlk hW ⟨_, fa6_2, (fun j z0 => (hfr6 j z0)), (by rw [show k = 10 by omega])⟩ dX6_foodsFor_66
    · refine lv_aload_n C.1 C.2.1 dX6_foodsFor_13 rfl (lv_at hl 2 rfl) ?_
      refine xget C hK hW hinX6 rfl (by omega) fa6_0 2 (by decide) (List.mem_of_getElem? (i := 1) rfl) rfl dX6_foodsFor_14 ?_
      refine lv_aload_n C.1 C.2.1 dX6_foodsFor_17 rfl (lv_at hl 2 rfl) ?_
      refine xget C hK hW hinX6 rfl (by omega) fa6_0 0 (by decide) (List.mem_of_getElem? (i := 2) rfl) rfl dX6_foodsFor_18 ?_
      refine xcV_v (n := 1) (As := [.ref (gad g 1)]) C hK hW (c_X1_takeGround l g v6 67 1 tx ty x1 y1 TL2 L hI hN (by omega) (by omega) (by omega) fa6_2 fa6_1) gX6_foodsFor_X1_takeGround rfl ⟨rfl, rfl⟩ (by decide +kernel) ⟨Nat.le_of_ble_eq_true rfl, Nat.le_of_ble_eq_true rfl⟩ ⟨Nat.zero_le _, Nat.zero_le _⟩ rfl (by omega) fa6_2.1 rfl hl rfl (Nat.le_of_ble_eq_true rfl) dX6_foodsFor_21 (fun w1 H locs q2 hW => ?_)
      obtain ⟨h4, f5⟩ := q2
      refine lv_aload_n C.1 C.2.1 dX6_foodsFor_24 rfl (lv_at hl 2 rfl) ?_
      have h6 : w1 0 = .inr (6, [.ref (gad g 1), .ref (gad g 34), .ref (gad g 67), .ref (gad g 100), .ref (gad g 106), .ref (gad g 107), .ref (gad g 108), .ref (gad g 110), .int (nI hk)]) := ((f5 0 (by omega)).trans fa6_0)
      refine xget C hK hW hinX6 rfl (by omega) h6 2 (by decide) (List.mem_of_getElem? (i := 1) rfl) rfl dX6_foodsFor_25 ?_
      refine xget C hK hW hinX1 rfl (by omega) h4.1 1 (by decide) (List.mem_of_getElem? (i := 3) rfl) rfl dX6_foodsFor_28 ?_
      refine xget C hK hW hinX2 rfl (by omega) h4.2.2.1 3 (by decide) (List.mem_of_getElem? (i := 4) rfl) rfl dX6_foodsFor_31 ?_
      refine lv_iload_n C.1 C.2.1 dX6_foodsFor_34 rfl (lv_at hl 3 rfl) ?_
      refine lv_iload C.1 C.2.1 dX6_foodsFor_35 (lv_at hl 0 rfl) ?_
      refine xistK (v := k) C hK hW (by omega) h4.2.2.2.1 (by omega) (by decide) dX6_foodsFor_37 (fun w7 H locs e8 f9 hW => ?_)
      have h10 : GAt g 67 tx ty (va_up L (3 + fi) k) w7 := GAt_food h4 (by omega) e8 f9
      refine lv_aload_n C.1 C.2.1 dX6_foodsFor_38 rfl (lv_at hl 2 rfl) ?_
      refine lv_aload_n C.1 C.2.1 dX6_foodsFor_39 rfl (lv_at hl 4 rfl) ?_
      refine lv_iload_n C.1 C.2.1 dX6_foodsFor_40 rfl (lv_at hl 5 rfl) ?_
      refine lv_iload C.1 C.2.1 dX6_foodsFor_41 (lv_at hl 6 rfl) ?_
      have h11 : w7 0 = .inr (6, [.ref (gad g 1), .ref (gad g 34), .ref (gad g 67), .ref (gad g 100), .ref (gad g 106), .ref (gad g 107), .ref (gad g 108), .ref (gad g 110), .int (nI hk)]) := ((f9 0 (by omega)).trans h6)
      have h12 : w7 b = .inr (4, [.int (nI hd), .int (nI la), .int (nI le), .ref (gad g (b + 1))]) := ((f9 b (by omega)).trans ((f5 b (by omega)).trans fa6_3))
      have h13 : w7 (b + 1) = .inl (gJ g, 24, .inr (.inl (kK 0 24 o Y))) := ((f9 (b + 1) (by omega)).trans ((f5 (b + 1) (by omega)).trans fa6_4))
      refine xcV_i (n := 3) (As := [.ref (gad g b), .int (nI i), .int (nI n)]) C hK hW (c_X6_goesAsTold l g w7 b o hd la le i n hk tx ty (va_up L (3 + fi) k) Y hI hN (by omega) (by omega) (by omega) (Okg_food hok hfi (by omega)) (by rw [va_up_ne _ _ (by omega)]; exact hs) h11 h10 h12 h13) gX6_foodsFor_X6_goesAsTold rfl ⟨rfl, rfl⟩ (by decide +kernel) ⟨Nat.le_of_ble_eq_true rfl, Nat.le_of_ble_eq_true rfl⟩ ⟨Nat.zero_le _, Nat.zero_le _⟩ rfl (by omega) h11 rfl hl rfl (Nat.le_of_ble_eq_true rfl) dX6_foodsFor_43 (fun r16 w14 H locs q15 hW => ?_)
      obtain ⟨L1_19, h17, f18, rfl⟩ := q15
      refine xBeq (tgt := 58) C dX6_foodsFor_46 (by decide) (fun c46 => ?_) (fun c46 => ?_)
      · have hl : lv_has ls 7 [(6, .int (nI k)), (5, .int (setF (foB L (seq8 Y o i) n fi) (k + 1))), (0, .ref (gad g 0)), (1, .int (nI fi)), (2, .ref (gad g b)), (3, .int (nI i)), (4, .int (nI n))] := by rw [show (setF (foB L (seq8 Y o i) n fi) (k + 1)) = (setF (foB L (seq8 Y o i) n fi) k) from (setF_n (p := foB L (seq8 Y o i) n fi) (fun z => c46 (of_decide_eq_true z)))]; exact hl
        refine lv_iinc (v := nI (k + 1)) (lv' := [(6, .int (nI (k + 1))), (5, .int (setF (foB L (seq8 Y o i) n fi) (k + 1))), (0, .ref (gad g 0)), (1, .int (nI fi)), (2, .ref (gad g b)), (3, .int (nI i)), (4, .int (nI n))]) C.1 C.2.1 dX6_foodsFor_58 hl (k := 0) rfl (nI_add _ 1) (by decide) rfl (fun ls hl => ?_)
        refine lv_goto (tgt := 6) C.1 C.2.1 dX6_foodsFor_61 (by decide) ?_
        have h20 : w14 0 = .inr (6, [.ref (gad g 1), .ref (gad g 34), .ref (gad g 67), .ref (gad g 100), .ref (gad g 106), .ref (gad g 107), .ref (gad g 108), .ref (gad g 110), .int (nI hk)]) := ((f18 0 (by omega)).trans h11)
        have h21 : GAt g 1 x1 y1 L w14 := (GAt.fr (GAt.fr (GAt.fr fa6_1 (fun j h1 h2 => f5 j (by omega))) (fun j h1 h2 => f9 j (by omega))) (fun j h1 h2 => f18 j (by omega)))
        have h22 : w14 b = .inr (4, [.int (nI hd), .int (nI la), .int (nI le), .ref (gad g (b + 1))]) := ((f18 b (by omega)).trans h12)
        have h23 : w14 (b + 1) = .inl (gJ g, 24, .inr (.inl (kK 0 24 o Y))) := ((f18 (b + 1) (by omega)).trans h13)
        exact ih6 (10 - (k + 1)) (by omega) (k + 1) L1_19 w14 _ _ _ rfl h20 h21 h17 h22 h23 (fun j z0 => ((f18 j (by omega)).trans ((f9 j (by omega)).trans ((f5 j (by omega)).trans (hfr6 j z0))))) (by omega) hW hl
      · refine lv_iload C.1 C.2.1 dX6_foodsFor_49 (lv_at hl 1 rfl) ?_
        refine lv_iconst (v := (nI 1)) C.1 C.2.1 dX6_foodsFor_51 (by decide) ?_
        refine lv_iload C.1 C.2.1 dX6_foodsFor_52 (lv_at hl 0 rfl) ?_
        refine lv_ishl C.1 C.2.1 dX6_foodsFor_54 ?_
        refine lv_ior C.1 C.2.1 dX6_foodsFor_55 ?_
        refine lv_istore (lv' := [(5, .int ((setF (foB L (seq8 Y o i) n fi) k) ||| ((nI 1) <<< ((nI k) &&& 31)))), (6, .int (nI k)), (0, .ref (gad g 0)), (1, .int (nI fi)), (2, .ref (gad g b)), (3, .int (nI i)), (4, .int (nI n))]) C.1 C.2.1 dX6_foodsFor_56 hl (by decide) rfl (fun ls hl => ?_)
        have hl : lv_has ls 7 [(5, .int (setF (foB L (seq8 Y o i) n fi) (k + 1))), (6, .int (nI k)), (0, .ref (gad g 0)), (1, .int (nI fi)), (2, .ref (gad g b)), (3, .int (nI i)), (4, .int (nI n))] := by rw [show (setF (foB L (seq8 Y o i) n fi) (k + 1)) = ((setF (foB L (seq8 Y o i) n fi) k) ||| ((nI 1) <<< ((nI k) &&& 31))) from (setF_y (p := foB L (seq8 Y o i) n fi) (decide_eq_true c46))]; exact hl
        refine lv_iinc (v := nI (k + 1)) (lv' := [(6, .int (nI (k + 1))), (5, .int (setF (foB L (seq8 Y o i) n fi) (k + 1))), (0, .ref (gad g 0)), (1, .int (nI fi)), (2, .ref (gad g b)), (3, .int (nI i)), (4, .int (nI n))]) C.1 C.2.1 dX6_foodsFor_58 hl (k := 1) rfl (nI_add _ 1) (by decide) rfl (fun ls hl => ?_)
        refine lv_goto (tgt := 6) C.1 C.2.1 dX6_foodsFor_61 (by decide) ?_
        have h24 : w14 0 = .inr (6, [.ref (gad g 1), .ref (gad g 34), .ref (gad g 67), .ref (gad g 100), .ref (gad g 106), .ref (gad g 107), .ref (gad g 108), .ref (gad g 110), .int (nI hk)]) := ((f18 0 (by omega)).trans h11)
        have h25 : GAt g 1 x1 y1 L w14 := (GAt.fr (GAt.fr (GAt.fr fa6_1 (fun j h1 h2 => f5 j (by omega))) (fun j h1 h2 => f9 j (by omega))) (fun j h1 h2 => f18 j (by omega)))
        have h26 : w14 b = .inr (4, [.int (nI hd), .int (nI la), .int (nI le), .ref (gad g (b + 1))]) := ((f18 b (by omega)).trans h12)
        have h27 : w14 (b + 1) = .inl (gJ g, 24, .inr (.inl (kK 0 24 o Y))) := ((f18 (b + 1) (by omega)).trans h13)
        exact ih6 (10 - (k + 1)) (by omega) (k + 1) L1_19 w14 _ _ _ rfl h24 h25 h17 h26 h27 (fun j z0 => ((f18 j (by omega)).trans ((f9 j (by omega)).trans ((f5 j (by omega)).trans (hfr6 j z0))))) (by omega) hW hl
  exact loop6 _ 0 TL w _ _ _ rfl pr0 pr1 pr2 pr3 pr4 (fun j z0 => rfl) (by omega) hW hl

set_option maxHeartbeats 4000000 in
set_option maxRecDepth 100000 in
theorem c_X6_bore (l : Launch) (g : GE) (w : Nat → va_E) (L K T ln sz : Nat → Nat) (hk tn : Nat) (Z : Nat → Int64) (x : Int32) (s : Int32) (c : Int32) (i : Int32) (n : Int32) (z : Int32) (hI : AdInj g) (hN : gN g = 130) (hS : OkS (L, K, hk, tn, T, ln, sz, Z)) (pr0 : XAll g (L, K, hk, tn, T, ln, sz, Z) w) : Met l yX6_bore wsX6_bore ({ frames := 6, cells := 0, slots := 0, locals := 139 } : Room) (XPc g w [.ref (gad g 0), .int x, .int s, .int c, .int i, .int n, .int z]) (XQi g (fun r w' => XAll g (L, K, hk, tn, T, ln, sz, Z) w' ∧ (∀ j : Nat, ¬ (0 ≤ j ∧ j < 119) → w' j = w j) ∧ r = boS L ln sz Z x s c i n z)) 0 0 (gA g) := by
  refine xmet (cc := cX6_bore) (maxL := 9) (ret := (some .int)) (by decide) rfl hI (Nat.le_of_ble_eq_true rfl) ?_
  intro pG eG sG mG belowG methG cG ls C hr hlk hK hW hl
  have hl : lv_has ls 9 [(0, .ref (gad g 0)), (1, .int x), (2, .int s), (3, .int c), (4, .int i), (5, .int n), (6, .int z)] := hl
  have hinX6 : ∀ x ∈ u_ws RX6 TX6 9, x ∈ wsX6_bore := by decide +kernel
  obtain ⟨hXa, hXl, hXk, hXt, hXw, hXf, hXr, hXs⟩ := pr0
  have hXa : w 0 = cX0 g hk := hXa
  have hXl : XLand g 1 L w := hXl
  have hXk : XKept g hk K w := hXk
  have hXr : XRead g tn T w := hXr
  have hXs : XShs g ln sz Z w := hXs
  have hokL : OkL L := hS.1
  obtain ⟨hok, hs2, hdy, hdr, hcl, hkn, hcs, hps⟩ := hokL
  obtain ⟨π, P, CK, hG, hC, hCk, hPa, hPm, hPk⟩ := id hXl
  obtain ⟨tx, ty, TL, TC, hT, hTC⟩ := hXt
  have hlz : ∀ s, s < 4 → ln s ≤ 4 ∧ sz s ≤ 24 := hS.2.2.2.2
  have hXs1 := hXs.1
  refine lv_iload_n C.1 C.2.1 dX6_bore_0 rfl (lv_at hl 1 rfl) ?_
  refine xcS_i (n := 1) (As := [.int x]) C hK hW (c_X6_isField l g w x hI hN) gX6_bore_X6_isField rfl ⟨rfl, rfl⟩ (by decide +kernel) ⟨Nat.le_of_ble_eq_true rfl, Nat.le_of_ble_eq_true rfl⟩ ⟨Nat.zero_le _, Nat.zero_le _⟩ rfl hl rfl (Nat.le_of_ble_eq_true rfl) dX6_bore_1 (fun r3 w1 H locs q2 hW => ?_)
  obtain ⟨qw4, rfl⟩ := q2
  rw [qw4] at hW
  refine xBeq (tgt := 21) C dX6_bore_4 (by decide) (fun c4 => ?_) (fun c4 => ?_)
  · refine lv_iconst (v := (-1 : Int32)) C.1 C.2.1 dX6_bore_21 (by decide) ?_
    exact xret_i C hr hlk hW ⟨⟨hXa, hXl, hXk, ⟨_, _, _, _, hT, hTC⟩, hXw, hXf, hXr, hXs⟩, (fun j z0 => rfl), (by rw [boS, if_neg (c := okBo x s c n z) (fun h => c4 h.1.1)])⟩ dX6_bore_22
  · refine lv_iload_n C.1 C.2.1 dX6_bore_7 rfl (lv_at hl 2 rfl) ?_
    refine xcS_i (n := 1) (As := [.int s]) C hK hW (c_X6_isSheet l g w s hI hN) gX6_bore_X6_isSheet rfl ⟨rfl, rfl⟩ (by decide +kernel) ⟨Nat.le_of_ble_eq_true rfl, Nat.le_of_ble_eq_true rfl⟩ ⟨Nat.zero_le _, Nat.zero_le _⟩ rfl hl rfl (Nat.le_of_ble_eq_true rfl) dX6_bore_8 (fun r7 w5 H locs q6 hW => ?_)
    obtain ⟨qw8, rfl⟩ := q6
    rw [qw8] at hW
    refine xBeq (tgt := 21) C dX6_bore_11 (by decide) (fun c11 => ?_) (fun c11 => ?_)
    · refine lv_iconst (v := (-1 : Int32)) C.1 C.2.1 dX6_bore_21 (by decide) ?_
      exact xret_i C hr hlk hW ⟨⟨hXa, hXl, hXk, ⟨_, _, _, _, hT, hTC⟩, hXw, hXf, hXr, hXs⟩, (fun j z0 => rfl), (by rw [boS, if_neg (c := okBo x s c n z) (fun h => c11 h.1.2.1)])⟩ dX6_bore_22
    · refine lv_iload_n C.1 C.2.1 dX6_bore_14 rfl (lv_at hl 3 rfl) ?_
      refine xcS_i (n := 1) (As := [.int c]) C hK hW (c_X6_isLane l g w c hI hN) gX6_bore_X6_isLane rfl ⟨rfl, rfl⟩ (by decide +kernel) ⟨Nat.le_of_ble_eq_true rfl, Nat.le_of_ble_eq_true rfl⟩ ⟨Nat.zero_le _, Nat.zero_le _⟩ rfl hl rfl (Nat.le_of_ble_eq_true rfl) dX6_bore_15 (fun r11 w9 H locs q10 hW => ?_)
      obtain ⟨qw12, rfl⟩ := q10
      rw [qw12] at hW
      refine xBne (tgt := 23) C dX6_bore_18 (by decide) (fun c18 => ?_) (fun c18 => ?_)
      · refine lv_iload C.1 C.2.1 dX6_bore_23 (lv_at hl 5 rfl) ?_
        refine lv_iconst (v := (nI 1)) C.1 C.2.1 dX6_bore_25 (by decide) ?_
        refine lv_bipush (v := (nI 8)) C.1 C.2.1 dX6_bore_26 (by decide) ?_
        refine xcS_i (n := 3) (As := [.int n, .int (nI 1), .int (nI 8)]) C hK hW (c_X6_isWithin l g w n (nI 1) (nI 8) hI hN) gX6_bore_X6_isWithin rfl ⟨rfl, rfl⟩ (by decide +kernel) ⟨Nat.le_of_ble_eq_true rfl, Nat.le_of_ble_eq_true rfl⟩ ⟨Nat.zero_le _, Nat.zero_le _⟩ rfl hl rfl (Nat.le_of_ble_eq_true rfl) dX6_bore_28 (fun r15 w13 H locs q14 hW => ?_)
        obtain ⟨qw16, rfl⟩ := q14
        rw [qw16] at hW
        refine xBeq (tgt := 44) C dX6_bore_31 (by decide) (fun c31 => ?_) (fun c31 => ?_)
        · refine lv_iconst (v := (-1 : Int32)) C.1 C.2.1 dX6_bore_44 (by decide) ?_
          exact xret_i C hr hlk hW ⟨⟨hXa, hXl, hXk, ⟨_, _, _, _, hT, hTC⟩, hXw, hXf, hXr, hXs⟩, (fun j z0 => rfl), (by rw [boS, if_neg (c := okBo x s c n z) (fun h => c31 h.2.1)])⟩ dX6_bore_45
        · refine lv_iload C.1 C.2.1 dX6_bore_34 (lv_at hl 6 rfl) ?_
          refine lv_iconst (v := (nI 0)) C.1 C.2.1 dX6_bore_36 (by decide) ?_
          refine lv_iconst (v := (nI 1)) C.1 C.2.1 dX6_bore_37 (by decide) ?_
          refine xcS_i (n := 3) (As := [.int z, .int (nI 0), .int (nI 1)]) C hK hW (c_X6_isWithin l g w z (nI 0) (nI 1) hI hN) gX6_bore_X6_isWithin rfl ⟨rfl, rfl⟩ (by decide +kernel) ⟨Nat.le_of_ble_eq_true rfl, Nat.le_of_ble_eq_true rfl⟩ ⟨Nat.zero_le _, Nat.zero_le _⟩ rfl hl rfl (Nat.le_of_ble_eq_true rfl) dX6_bore_38 (fun r19 w17 H locs q18 hW => ?_)
          obtain ⟨qw20, rfl⟩ := q18
          rw [qw20] at hW
          refine xBne (tgt := 46) C dX6_bore_41 (by decide) (fun c41 => ?_) (fun c41 => ?_)
          · obtain ⟨k1, ha_k1, hb_k1, hx_k1⟩ := inR_N (by omega) (by omega) c4
            rw [hx_k1] at hl
            obtain ⟨k2, ha_k2, hb_k2, hx_k2⟩ := inR_N (by omega) (by omega) c11
            rw [hx_k2] at hl
            obtain ⟨k3, ha_k3, hb_k3, hx_k3⟩ := inR_N (by omega) (by omega) c41
            rw [hx_k3] at hl
            obtain ⟨b, hb⟩ : ∃ b, b = 111 + 2 * k2 := ⟨_, rfl⟩
            obtain ⟨hd, la, le, Y, hb0, hb1, hd1, hcc⟩ := XSheet_b hb (hXs.2 k2 (by omega))
            have hl4 := hlz k2 (by omega)
            have hiw : wrS ln sz s c i n = wrongS (ln k2) (sz k2) c i n := by rw [wrS, hx_k2, cl_nI (by omega)]
            refine lv_aload_n C.1 C.2.1 dX6_bore_46 rfl (lv_at hl 0 rfl) ?_
            refine xget C hK hW hinX6 rfl (by omega) hXa 7 (by decide) (List.mem_of_getElem? (i := 1) rfl) rfl dX6_bore_47 ?_
            refine lv_iload_n C.1 C.2.1 dX6_bore_50 rfl (lv_at hl 2 rfl) ?_
            refine xaldS (q := gad g b) C hK hW (by omega) hXs1 (vp_in_nI (by omega) (by decide)) (by rw [nI_clamp (by omega)]; exact sh_at (by omega) hb) dX6_bore_51 ?_
            refine lv_astore (lv' := [(7, .ref (gad g b)), (0, .ref (gad g 0)), (1, .int (nI k1)), (2, .int (nI k2)), (3, .int c), (4, .int i), (5, .int n), (6, .int (nI k3))]) C.1 C.2.1 dX6_bore_52 hl (by decide) rfl (fun ls hl => ?_)
            refine lv_aload C.1 C.2.1 dX6_bore_54 (lv_at hl 0 rfl) ?_
            refine lv_iload_n C.1 C.2.1 dX6_bore_56 rfl (lv_at hl 4 rfl) ?_
            refine lv_iload C.1 C.2.1 dX6_bore_57 (lv_at hl 5 rfl) ?_
            refine lv_iload C.1 C.2.1 dX6_bore_59 (lv_at hl 6 rfl) ?_
            refine xcV_i (n := 3) (As := [.int c, .int i, .int n]) C hK hW (c_X4_refusal l g w b hd la le c i n hI hN (by omega) hd1 hb0) gX6_bore_X4_refusal rfl ⟨rfl, rfl⟩ (by decide +kernel) ⟨Nat.le_of_ble_eq_true rfl, Nat.le_of_ble_eq_true rfl⟩ ⟨Nat.zero_le _, Nat.zero_le _⟩ rfl (by omega) hb0 rfl hl rfl (Nat.le_of_ble_eq_true rfl) dX6_bore_61 (fun r23 w21 H locs q22 hW => ?_)
            obtain ⟨qw24, rfl⟩ := q22
            rw [qw24] at hW
            refine xtopI (b := wrongS (ln k2) (sz k2) c i n) (ref_w hcc) ?_
            refine lv_istore (lv' := [(8, .int (wrongS (ln k2) (sz k2) c i n)), (7, .ref (gad g b)), (0, .ref (gad g 0)), (1, .int (nI k1)), (2, .int (nI k2)), (3, .int c), (4, .int i), (5, .int n), (6, .int (nI k3))]) C.1 C.2.1 dX6_bore_64 hl (by decide) rfl (fun ls hl => ?_)
            refine lv_iload C.1 C.2.1 dX6_bore_66 (lv_at hl 0 rfl) ?_
            refine lv_if_eq (tgt := 74) C.1 C.2.1 dX6_bore_68 (by decide) (fun c68 => ?_) (fun c68 => ?_)
            · obtain ⟨hu1, hu2, hu3⟩ := wrong_ok c68
              obtain ⟨a, m, hx_a, hx_m, ham⟩ := isPt_nat hl4.2 hu3
              obtain ⟨hq1, hq2, hq3, hq4, hq5⟩ := hcc.resolve_left (fun h => absurd h.2 (by omega))
              rw [hx_a, hx_m] at hl
              refine lv_iload C.1 C.2.1 dX6_bore_74 (lv_at hl 8 rfl) ?_
              refine x0ne (tgt := 93) C (by omega) dX6_bore_76 (by decide) (fun c76 => ?_) (fun c76 => ?_)
              · refine lv_aload_n C.1 C.2.1 dX6_bore_93 rfl (lv_at hl 2 rfl) ?_
                refine lv_iload_n C.1 C.2.1 dX6_bore_94 rfl (lv_at hl 3 rfl) ?_
                refine lv_aload C.1 C.2.1 dX6_bore_95 (lv_at hl 1 rfl) ?_
                refine lv_iload C.1 C.2.1 dX6_bore_97 (lv_at hl 6 rfl) ?_
                refine lv_iload C.1 C.2.1 dX6_bore_99 (lv_at hl 7 rfl) ?_
                refine xcV_i (n := 4) (As := [.int (nI k1), .ref (gad g b), .int (nI a), .int (nI m)]) C hK hW (c_X6_foodsFor l g w b (24 * k2) hd la le a m hk k1 (nI (L 40)) (nI (L 24)) tx ty L TL Y hI hN (by omega) (by omega) (by omega) (by omega) hok hs2 hXa hG hT hb0 hb1) gX6_bore_X6_foodsFor rfl ⟨rfl, rfl⟩ (by decide +kernel) ⟨Nat.le_of_ble_eq_true rfl, Nat.le_of_ble_eq_true rfl⟩ ⟨Nat.zero_le _, Nat.zero_le _⟩ rfl (by omega) hXa rfl hl rfl (Nat.le_of_ble_eq_true rfl) dX6_bore_101 (fun r27 w25 H locs q26 hW => ?_)
                obtain ⟨L1_30, h28, f29, rfl⟩ := q26
                have h31 : w25 0 = .inr (6, [.ref (gad g 1), .ref (gad g 34), .ref (gad g 67), .ref (gad g 100), .ref (gad g 106), .ref (gad g 107), .ref (gad g 108), .ref (gad g 110), .int (nI hk)]) := ((f29 0 (by omega)).trans hXa)
                have h32 : XLand g 1 L w25 := (XLand.fr hXl (fun j h1 h2 => f29 j (by omega)))
                have h33 : XKept g hk K w25 := (XKept.fr hXk (fun j h1 h2 => f29 j (by omega)))
                have h34 : CAt g 67 TC w25 := (CAt.fr hTC (fun j h1 h2 => f29 j (by omega)))
                have h35 : XWays g  w25 := (XWays.fr hXw (fun j h1 h2 => f29 j (by omega)))
                have h36 : XFr g  w25 := (XFr.fr hXf (fun j h1 h2 => f29 j (by omega)))
                have h37 : XRead g tn T w25 := (XRead.fr hXr (fun j h1 h2 => f29 j (by omega)))
                have h38 : XShs g ln sz Z w25 := (XShs.fr hXs (fun j h1 h2 => f29 j (by omega)))
                exact xret_i C hr hlk hW ⟨⟨h31, h32, h33, ⟨_, _, _, _, h28, h34⟩, h35, h36, h37, h38⟩, (fun j z0 => (f29 j (by omega))), (by rw [boS, if_pos (c := okBo x s c n z) ⟨⟨c4, c11, c18⟩, c31, c41⟩, hiw, if_pos c68, hx_k1, hx_k2, hx_a, hx_m, hx_k3, cl_nI (by omega), cl_nI (by omega), cl_nI (by omega), cl_nI (by omega), cl_nI (by omega), if_neg (by omega)]; exact setF_congr (fun k hk => goes_congr (fun d hd => hq5 (a + d) (by omega))))⟩ dX6_bore_104
              · refine lv_aload_n C.1 C.2.1 dX6_bore_79 rfl (lv_at hl 2 rfl) ?_
                refine lv_iload_n C.1 C.2.1 dX6_bore_80 rfl (lv_at hl 3 rfl) ?_
                refine lv_aload C.1 C.2.1 dX6_bore_81 (lv_at hl 1 rfl) ?_
                refine lv_iload C.1 C.2.1 dX6_bore_83 (lv_at hl 6 rfl) ?_
                refine lv_iload C.1 C.2.1 dX6_bore_85 (lv_at hl 7 rfl) ?_
                refine xcV_i (n := 4) (As := [.int (nI k1), .ref (gad g b), .int (nI a), .int (nI m)]) C hK hW (c_X6_kindsFor l g w b (24 * k2) hd la le a m hk k1 (nI (L 40)) (nI (L 24)) tx ty L TL Y hI hN (by omega) (by omega) (by omega) (by omega) hok hs2 hXa hG hT hb0 hb1) gX6_bore_X6_kindsFor rfl ⟨rfl, rfl⟩ (by decide +kernel) ⟨Nat.le_of_ble_eq_true rfl, Nat.le_of_ble_eq_true rfl⟩ ⟨Nat.zero_le _, Nat.zero_le _⟩ rfl (by omega) hXa rfl hl rfl (Nat.le_of_ble_eq_true rfl) dX6_bore_87 (fun r41 w39 H locs q40 hW => ?_)
                obtain ⟨L1_44, h42, f43, rfl⟩ := q40
                refine lv_goto (tgt := 104) C.1 C.2.1 dX6_bore_90 (by decide) ?_
                have h45 : w39 0 = .inr (6, [.ref (gad g 1), .ref (gad g 34), .ref (gad g 67), .ref (gad g 100), .ref (gad g 106), .ref (gad g 107), .ref (gad g 108), .ref (gad g 110), .int (nI hk)]) := ((f43 0 (by omega)).trans hXa)
                have h46 : XLand g 1 L w39 := (XLand.fr hXl (fun j h1 h2 => f43 j (by omega)))
                have h47 : XKept g hk K w39 := (XKept.fr hXk (fun j h1 h2 => f43 j (by omega)))
                have h48 : CAt g 67 TC w39 := (CAt.fr hTC (fun j h1 h2 => f43 j (by omega)))
                have h49 : XWays g  w39 := (XWays.fr hXw (fun j h1 h2 => f43 j (by omega)))
                have h50 : XFr g  w39 := (XFr.fr hXf (fun j h1 h2 => f43 j (by omega)))
                have h51 : XRead g tn T w39 := (XRead.fr hXr (fun j h1 h2 => f43 j (by omega)))
                have h52 : XShs g ln sz Z w39 := (XShs.fr hXs (fun j h1 h2 => f43 j (by omega)))
                exact xret_i C hr hlk hW ⟨⟨h45, h46, h47, ⟨_, _, _, _, h42, h48⟩, h49, h50, h51, h52⟩, (fun j z0 => (f43 j (by omega))), (by rw [boS, if_pos (c := okBo x s c n z) ⟨⟨c4, c11, c18⟩, c31, c41⟩, hiw, if_pos c68, hx_k1, hx_k2, hx_a, hx_m, hx_k3, cl_nI (by omega), cl_nI (by omega), cl_nI (by omega), cl_nI (by omega), cl_nI (by omega), if_pos (by omega)]; exact setF_congr (fun k hk => goes_congr (fun d hd => hq5 (a + d) (by omega))))⟩ dX6_bore_104
            · refine lv_iload C.1 C.2.1 dX6_bore_71 (lv_at hl 0 rfl) ?_
              exact xret_i C hr hlk hW ⟨⟨hXa, hXl, hXk, ⟨_, _, _, _, hT, hTC⟩, hXw, hXf, hXr, hXs⟩, (fun j z0 => rfl), (by rw [boS, if_pos (c := okBo x s c n z) ⟨⟨c4, c11, c18⟩, c31, c41⟩, hiw, if_neg c68])⟩ dX6_bore_73
          · refine lv_iconst (v := (-1 : Int32)) C.1 C.2.1 dX6_bore_44 (by decide) ?_
            exact xret_i C hr hlk hW ⟨⟨hXa, hXl, hXk, ⟨_, _, _, _, hT, hTC⟩, hXw, hXf, hXr, hXs⟩, (fun j z0 => rfl), (by rw [boS, if_neg (c := okBo x s c n z) (fun h => c41 h.2.2)])⟩ dX6_bore_45
      · refine lv_iconst (v := (-1 : Int32)) C.1 C.2.1 dX6_bore_21 (by decide) ?_
        exact xret_i C hr hlk hW ⟨⟨hXa, hXl, hXk, ⟨_, _, _, _, hT, hTC⟩, hXw, hXf, hXr, hXs⟩, (fun j z0 => rfl), (by rw [boS, if_neg (c := okBo x s c n z) (fun h => c18 h.1.2.2)])⟩ dX6_bore_22
