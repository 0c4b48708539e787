/-! sheets: a row of items, k of them nought from o on; a part; what refuses; an item cut to its lane -/
def zk (o k : Nat) (Z : Nat → Int64) : Nat → Int64 := fun t => if o ≤ t ∧ t < o + k then lN 0 else Z t
theorem zk_0 {o : Nat} {Z : Nat → Int64} : zk o 0 Z = Z := by
  funext t
  exact if_neg (by omega)
theorem zk_up {o k : Nat} {Z : Nat → Int64} : zk o (k + 1) Z = va_up (zk o k Z) (o + k) (lN 0) := by
  funext t
  by_cases h : t = o + k
  · rw [h, va_up_self]
    exact if_pos (by omega)
  · rw [va_up_ne _ _ h]
    unfold zk
    by_cases q : o ≤ t ∧ t < o + k
    · rw [if_pos q, if_pos (by omega)]
    · rw [if_neg q, if_neg (by omega)]
abbrev isPt (i n : Int32) (le : Nat) : Prop := ¬ n < 0 ∧ n ≤ nI le ∧ ¬ i < 0 ∧ i ≤ nI le - n
def wrongS (ln sz : Nat) (y i n : Int32) : Int32 := if ln = 0 then -11 else if nI (ln - 1) = y then (if isPt i n sz then nI 0 else -13) else -12
def cutL (k : Nat) (v : Int64) : Int64 := if k = 0 then v.toInt32.toInt8.toInt32.toInt64 else if k = 1 then v.toInt32.toInt16.toInt32.toInt64 else if k = 2 then v.toInt32.toInt64 else v
def fldX (v : Int64) : Int32 := if ¬ v < lN 0 ∧ ¬ lN 6 < v then v.toInt32 else -1
theorem isPt_nat {i n : Int32} {le : Nat} (hle : le ≤ 24) (h : isPt i n le) : ∃ a m, i = nI a ∧ n = nI m ∧ a + m ≤ le := by
  obtain ⟨h1, h2, h3, h4⟩ := h
  obtain ⟨m, hm, rfl⟩ := nI_of h1
  obtain ⟨a, ha, rfl⟩ := nI_of h3
  rw [nI_leI hm (by omega)] at h2
  rw [pk_sub h2, nI_leI ha (by omega)] at h4
  exact ⟨a, m, rfl, rfl, by omega⟩

set_option maxHeartbeats 4000000 in
set_option maxRecDepth 100000 in
theorem c_X4_begin (l : Launch) (g : GE) (w : Nat → va_E) (b o hd la le la1 le1 : Nat) (Y : Nat → Int64) (hI : AdInj g) (hN : gN g = 130) (hb : b + 1 < 130) (pr0 : w b = .inr (4, [.int (nI hd), .int (nI la), .int (nI le), .ref (gad g (b + 1))])) (pr1 : w (b + 1) = .inl (gJ g, 24, .inr (.inl (kK 0 24 o Y)))) : Met l yX4_begin wsX4_begin ({ frames := 0, cells := 0, slots := 0, locals := 0 } : Room) (XPc g w [.ref (gad g b), .int (nI la1), .int (nI le1)]) (XQv g (fun w' => w' b = .inr (4, [.int (nI 1), .int (nI la1), .int (nI le1), .ref (gad g (b + 1))]) ∧ w' (b + 1) = .inl (gJ g, 24, .inr (.inl (kK 0 24 o (zk o 24 Y)))) ∧ (∀ j : Nat, ¬ (b ≤ j ∧ j < b + 2) → w' j = w j))) 0 0 (gA g) := by
  refine xmet (cc := cX4_begin) (maxL := 4) (ret := none) (by decide) rfl hI (Nat.le_of_ble_eq_true rfl) ?_
  intro pG eG sG mG belowG methG cG ls C hr hlk hK hW hl
  have hl : lv_has ls 4 [(0, .ref (gad g b)), (1, .int (nI la1)), (2, .int (nI le1))] := hl
  have hinX4 : ∀ x ∈ u_ws RX4 TX4 4, x ∈ wsX4_begin := by decide +kernel
  refine lv_aload_n C.1 C.2.1 dX4_begin_0 rfl (lv_at hl 0 rfl) ?_
  refine lv_iconst (v := (nI 1)) C.1 C.2.1 dX4_begin_1 (by decide) ?_
  refine xput (v := .int (nI 1)) C hK hW hinX4 tyX4_ok nmX4 rfl (by omega) pr0 0 (by decide) (List.mem_of_getElem? (i := 1) rfl) rfl rfl rfl (Nat.le_of_ble_eq_true rfl) dX4_begin_2 (fun w1 H locs e2 f3 hW => ?_)
  refine lv_aload_n C.1 C.2.1 dX4_begin_5 rfl (lv_at hl 0 rfl) ?_
  refine lv_iload_n C.1 C.2.1 dX4_begin_6 rfl (lv_at hl 1 rfl) ?_
  refine xput (v := .int (nI la1)) C hK hW hinX4 tyX4_ok nmX4 rfl (by omega) e2 1 (by decide) (List.mem_of_getElem? (i := 2) rfl) rfl rfl rfl (Nat.le_of_ble_eq_true rfl) dX4_begin_7 (fun w4 H locs e5 f6 hW => ?_)
  refine lv_aload_n C.1 C.2.1 dX4_begin_10 rfl (lv_at hl 0 rfl) ?_
  refine lv_iload_n C.1 C.2.1 dX4_begin_11 rfl (lv_at hl 2 rfl) ?_
  refine xput (v := .int (nI le1)) C hK hW hinX4 tyX4_ok nmX4 rfl (by omega) e5 2 (by decide) (List.mem_of_getElem? (i := 3) rfl) rfl rfl rfl (Nat.le_of_ble_eq_true rfl) dX4_begin_12 (fun w7 H locs e8 f9 hW => ?_)
  refine lv_iconst (v := (nI 0)) C.1 C.2.1 dX4_begin_15 (by decide) ?_
  refine lv_istore_n (lv' := [(3, .int (nI 0)), (0, .ref (gad g b)), (1, .int (nI la1)), (2, .int (nI le1))]) C.1 C.2.1 dX4_begin_16 rfl hl (by decide) rfl (fun ls hl => ?_)
  have loop17 : ∀ (kG : Nat) (k : Nat) (v17 : Nat → va_E) (H : Heap) (locs : List Loc) (ls : Array Slot), kG = 24 - k → (v17 b = .inr (4, [.int (nI 1), .int (nI la1), .int (nI le1), .ref (gad g (b + 1))])) → (v17 (b + 1) = .inl (gJ g, 24, .inr (.inl (kK 0 24 o (zk o k Y))))) → (∀ j : Nat, ¬ (b ≤ j ∧ j < b + 2) → v17 j = w j) → (k ≤ 24) → XW g v17 (gA g) sG.heap H locs → lv_has ls 4 [(3, .int (nI k)), (0, .ref (gad g b)), (1, .int (nI la1)), (2, .int (nI le1))] → W pG l eG ({ frames := 0, cells := 0, slots := 0, locals := 0 } : Room) sG mG ([.ref (gad g b), .int (nI la1), .int (nI le1)] : List Value).toArray belowG methG cG H locs 0 0 (MQ belowG (XQv g (fun w' => w' b = .inr (4, [.int (nI 1), .int (nI la1), .int (nI le1), .ref (gad g (b + 1))]) ∧ w' (b + 1) = .inl (gJ g, 24, .inr (.inl (kK 0 24 o (zk o 24 Y)))) ∧ (∀ j : Nat, ¬ (b ≤ j ∧ j < b + 2) → w' j = w j))) ([.ref (gad g b), .int (nI la1), .int (nI le1)] : List Value).toArray sG 0 0 (gA g)) (F0 mG 17 ls []) := by
    intro k17
    induction k17 using Nat.strongRecOn with
    | _ k17 ih17 =>
    intro k v17 H locs ls hk17 fa17_0 fa17_1 hfr17 hk24 hW hl
    refine lv_iload_n C.1 C.2.1 dX4_begin_17 rfl (lv_at hl 0 rfl) ?_
    refine lv_bipush (v := (nI 24)) C.1 C.2.1 dX4_begin_18 (by decide) ?_
    refine xge (tgt := 36) C (by omega) (by omega) dX4_begin_20 (by decide) (fun c20 => ?_) (fun c20 => ?_)
    · exact xret_v C hr hlk hW ⟨fa17_0, (by rw [show zk o 24 Y = zk o k Y by rw [show k = 24 by omega]]; exact fa17_1), (fun j z0 => (hfr17 j z0))⟩ dX4_begin_36
    · refine lv_aload_n C.1 C.2.1 dX4_begin_23 rfl (lv_at hl 1 rfl) ?_
      refine xget C hK hW hinX4 rfl (by omega) fa17_0 3 (by decide) (List.mem_of_getElem? (i := 4) rfl) rfl dX4_begin_24 ?_
      refine lv_iload_n C.1 C.2.1 dX4_begin_27 rfl (lv_at hl 0 rfl) ?_
      refine lv_lconst (v := lN 0) C.1 C.2.1 dX4_begin_28 (by decide) ?_
      refine xlstR (v := (lN 0)) C hK hW (by omega) fa17_1 (by omega) (by decide) dX4_begin_29 (fun w10 H locs e11 f12 hW => ?_)
      refine lv_iinc (v := nI (k + 1)) (lv' := [(3, .int (nI (k + 1))), (0, .ref (gad g b)), (1, .int (nI la1)), (2, .int (nI le1))]) C.1 C.2.1 dX4_begin_30 hl (k := 0) rfl (nI_add _ 1) (by decide) rfl (fun ls hl => ?_)
      refine lv_goto (tgt := 17) C.1 C.2.1 dX4_begin_33 (by decide) ?_
      have h13 : w10 b = .inr (4, [.int (nI 1), .int (nI la1), .int (nI le1), .ref (gad g (b + 1))]) := ((f12 b (by omega)).trans fa17_0)
      exact ih17 (24 - (k + 1)) (by omega) (k + 1) w10 _ _ _ rfl h13 (by rw [zk_up]; exact e11) (fun j z0 => ((f12 j (by omega)).trans (hfr17 j z0))) (by omega) hW hl
  have h14 : w7 (b + 1) = .inl (gJ g, 24, .inr (.inl (kK 0 24 o Y))) := ((f9 (b + 1) (by omega)).trans ((f6 (b + 1) (by omega)).trans ((f3 (b + 1) (by omega)).trans pr1)))
  exact loop17 _ 0 w7 _ _ _ rfl e8 (by rw [zk_0]; exact h14) (fun j z0 => ((f9 j (by omega)).trans ((f6 j (by omega)).trans (f3 j (by omega))))) (by omega) hW hl

set_option maxHeartbeats 4000000 in
set_option maxRecDepth 100000 in
theorem c_X4_hasItems (l : Launch) (g : GE) (w : Nat → va_E) (b hd la le : Nat) (i n : Int32) (hI : AdInj g) (hN : gN g = 130) (hb : b + 1 < 130) (pr0 : w b = .inr (4, [.int (nI hd), .int (nI la), .int (nI le), .ref (gad g (b + 1))])) : Met l yX4_hasItems wsX4_hasItems ({ frames := 0, cells := 0, slots := 0, locals := 0 } : Room) (XPc g w [.ref (gad g b), .int i, .int n]) (XQi g (fun r w' => w' = w ∧ r = (bI (isPt i n le)))) 0 0 (gA g) := by
  refine xmet (cc := cX4_hasItems) (maxL := 3) (ret := (some .boolean)) (by decide) rfl hI (Nat.le_of_ble_eq_true rfl) ?_
  intro pG eG sG mG belowG methG cG ls C hr hlk hK hW hl
  have hl : lv_has ls 3 [(0, .ref (gad g b)), (1, .int i), (2, .int n)] := hl
  have hinX4 : ∀ x ∈ u_ws RX4 TX4 4, x ∈ wsX4_hasItems := by decide +kernel
  refine lv_iload_n C.1 C.2.1 dX4_hasItems_0 rfl (lv_at hl 2 rfl) ?_
  refine lv_if_lt (tgt := 30) C.1 C.2.1 dX4_hasItems_1 (by decide) (fun c1 => ?_) (fun c1 => ?_)
  · refine lv_iconst (v := (nI 0)) C.1 C.2.1 dX4_hasItems_30 (by decide) ?_
    exact xret_z C hr hlk hW rfl ⟨rfl, (bI_f (P := isPt i n le) (fun z => z.1 c1)).symm⟩ dX4_hasItems_31
  · refine lv_iload_n C.1 C.2.1 dX4_hasItems_4 rfl (lv_at hl 2 rfl) ?_
    refine lv_aload_n C.1 C.2.1 dX4_hasItems_5 rfl (lv_at hl 0 rfl) ?_
    refine xget C hK hW hinX4 rfl (by omega) pr0 2 (by decide) (List.mem_of_getElem? (i := 1) rfl) rfl dX4_hasItems_6 ?_
    refine lv_icmp_gt (tgt := 30) C.1 C.2.1 dX4_hasItems_9 (by decide) (fun c9 => ?_) (fun c9 => ?_)
    · refine lv_iconst (v := (nI 0)) C.1 C.2.1 dX4_hasItems_30 (by decide) ?_
      exact xret_z C hr hlk hW rfl ⟨rfl, (bI_f (P := isPt i n le) (fun z => absurd z.2.1 (Int32.not_le.mpr c9))).symm⟩ dX4_hasItems_31
    · refine lv_iload_n C.1 C.2.1 dX4_hasItems_12 rfl (lv_at hl 1 rfl) ?_
      refine lv_if_lt (tgt := 30) C.1 C.2.1 dX4_hasItems_13 (by decide) (fun c13 => ?_) (fun c13 => ?_)
      · refine lv_iconst (v := (nI 0)) C.1 C.2.1 dX4_hasItems_30 (by decide) ?_
        exact xret_z C hr hlk hW rfl ⟨rfl, (bI_f (P := isPt i n le) (fun z => z.2.2.1 c13)).symm⟩ dX4_hasItems_31
      · refine lv_iload_n C.1 C.2.1 dX4_hasItems_16 rfl (lv_at hl 1 rfl) ?_
        refine lv_aload_n C.1 C.2.1 dX4_hasItems_17 rfl (lv_at hl 0 rfl) ?_
        refine xget C hK hW hinX4 rfl (by omega) pr0 2 (by decide) (List.mem_of_getElem? (i := 1) rfl) rfl dX4_hasItems_18 ?_
        refine lv_iload_n C.1 C.2.1 dX4_hasItems_21 rfl (lv_at hl 2 rfl) ?_
        refine lv_isub C.1 C.2.1 dX4_hasItems_22 ?_
        refine lv_icmp_gt (tgt := 30) C.1 C.2.1 dX4_hasItems_23 (by decide) (fun c23 => ?_) (fun c23 => ?_)
        · refine lv_iconst (v := (nI 0)) C.1 C.2.1 dX4_hasItems_30 (by decide) ?_
          exact xret_z C hr hlk hW rfl ⟨rfl, (bI_f (P := isPt i n le) (fun z => absurd z.2.2.2 (Int32.not_le.mpr c23))).symm⟩ dX4_hasItems_31
        · refine lv_iconst (v := (nI 1)) C.1 C.2.1 dX4_hasItems_26 (by decide) ?_
          refine lv_goto (tgt := 31) C.1 C.2.1 dX4_hasItems_27 (by decide) ?_
          exact xret_z C hr hlk hW rfl ⟨rfl, (bI_t (P := isPt i n le) ⟨c1, Int32.not_lt.mp c9, c13, Int32.not_lt.mp c23⟩).symm⟩ dX4_hasItems_31

set_option maxHeartbeats 4000000 in
set_option maxRecDepth 100000 in
theorem c_X4_refusal (l : Launch) (g : GE) (w : Nat → va_E) (b hd la le : Nat) (y i n : Int32) (hI : AdInj g) (hN : gN g = 130) (hb : b + 1 < 130) (hh : hd ≤ 1) (pr0 : w b = .inr (4, [.int (nI hd), .int (nI la), .int (nI le), .ref (gad g (b + 1))])) : Met l yX4_refusal wsX4_refusal ({ frames := 1, cells := 0, slots := 0, locals := 22 } : Room) (XPc g w [.ref (gad g b), .int y, .int i, .int n]) (XQi g (fun r w' => w' = w ∧ r = (if hd = 0 then -11 else if nI la = y then (if isPt i n le then nI 0 else -13) else -12))) 0 0 (gA g) := by
  refine xmet (cc := cX4_refusal) (maxL := 4) (ret := (some .int)) (by decide) rfl hI (Nat.le_of_ble_eq_true rfl) ?_
  intro pG eG sG mG belowG methG cG ls C hr hlk hK hW hl
  have hl : lv_has ls 4 [(0, .ref (gad g b)), (1, .int y), (2, .int i), (3, .int n)] := hl
  have hinX4 : ∀ x ∈ u_ws RX4 TX4 4, x ∈ wsX4_refusal := by decide +kernel
  refine lv_aload_n C.1 C.2.1 dX4_refusal_0 rfl (lv_at hl 0 rfl) ?_
  refine xget C hK hW hinX4 rfl (by omega) pr0 0 (by decide) (List.mem_of_getElem? (i := 1) rfl) rfl dX4_refusal_1 ?_
  refine x0ne (tgt := 10) C (by omega) dX4_refusal_4 (by decide) (fun c4 => ?_) (fun c4 => ?_)
  · refine lv_aload_n C.1 C.2.1 dX4_refusal_10 rfl (lv_at hl 0 rfl) ?_
    refine xget C hK hW hinX4 rfl (by omega) pr0 1 (by decide) (List.mem_of_getElem? (i := 2) rfl) rfl dX4_refusal_11 ?_
    refine lv_iload_n C.1 C.2.1 dX4_refusal_14 rfl (lv_at hl 1 rfl) ?_
    refine lv_icmp_eq (tgt := 21) C.1 C.2.1 dX4_refusal_15 (by decide) (fun c15 => ?_) (fun c15 => ?_)
    · refine lv_aload_n C.1 C.2.1 dX4_refusal_21 rfl (lv_at hl 0 rfl) ?_
      refine lv_iload_n C.1 C.2.1 dX4_refusal_22 rfl (lv_at hl 2 rfl) ?_
      refine lv_iload_n C.1 C.2.1 dX4_refusal_23 rfl (lv_at hl 3 rfl) ?_
      refine xcV_i (n := 2) (As := [.int i, .int n]) C hK hW (c_X4_hasItems l g w b hd la le i n hI hN (by omega) pr0) gX4_refusal_X4_hasItems rfl ⟨rfl, rfl⟩ (by decide +kernel) ⟨Nat.le_of_ble_eq_true rfl, Nat.le_of_ble_eq_true rfl⟩ ⟨Nat.zero_le _, Nat.zero_le _⟩ rfl (by omega) pr0 rfl hl rfl (Nat.le_of_ble_eq_true rfl) dX4_refusal_24 (fun r3 w1 H locs q2 hW => ?_)
      obtain ⟨qw4, rfl⟩ := q2
      rw [qw4] at hW
      refine xBeq (tgt := 34) C dX4_refusal_27 (by decide) (fun c27 => ?_) (fun c27 => ?_)
      · refine lv_bipush (v := (-13 : Int32)) C.1 C.2.1 dX4_refusal_34 (by decide) ?_
        exact xret_i C hr hlk hW ⟨rfl, (by rw [if_neg (by omega), if_pos c15, if_neg c27])⟩ dX4_refusal_36
      · refine lv_iconst (v := (nI 0)) C.1 C.2.1 dX4_refusal_30 (by decide) ?_
        refine lv_goto (tgt := 36) C.1 C.2.1 dX4_refusal_31 (by decide) ?_
        exact xret_i C hr hlk hW ⟨rfl, (by rw [if_neg (by omega), if_pos c15, if_pos c27])⟩ dX4_refusal_36
    · refine lv_bipush (v := (-12 : Int32)) C.1 C.2.1 dX4_refusal_18 (by decide) ?_
      exact xret_i C hr hlk hW ⟨rfl, (by rw [if_neg (by omega), if_neg c15])⟩ dX4_refusal_20
  · refine lv_bipush (v := (-11 : Int32)) C.1 C.2.1 dX4_refusal_7 (by decide) ?_
    exact xret_i C hr hlk hW ⟨rfl, (by rw [if_pos (by omega)])⟩ dX4_refusal_9

set_option maxHeartbeats 4000000 in
set_option maxRecDepth 100000 in
theorem c_X4_put (l : Launch) (g : GE) (w : Nat → va_E) (b o hd la le i : Nat) (v : Int64) (Y : Nat → Int64) (hI : AdInj g) (hN : gN g = 130) (hb : b + 1 < 130) (hi : i < 24) (hla : la ≤ 3) (pr0 : w b = .inr (4, [.int (nI hd), .int (nI la), .int (nI le), .ref (gad g (b + 1))])) (pr1 : w (b + 1) = .inl (gJ g, 24, .inr (.inl (kK 0 24 o Y)))) : Met l yX4_put wsX4_put ({ frames := 0, cells := 0, slots := 0, locals := 0 } : Room) (XPc g w [.ref (gad g b), .int (nI i), .long v]) (XQv g (fun w' => w' (b + 1) = .inl (gJ g, 24, .inr (.inl (kK 0 24 o (va_up Y (o + i) (cutL la v))))) ∧ (∀ j : Nat, ¬ (b + 1 ≤ j ∧ j < b + 2) → w' j = w j))) 0 0 (gA g) := by
  refine xmet (cc := cX4_put) (maxL := 4) (ret := none) (by decide) rfl hI (Nat.le_of_ble_eq_true rfl) ?_
  intro pG eG sG mG belowG methG cG ls C hr hlk hK hW hl
  have hl : lv_has ls 4 [(0, .ref (gad g b)), (1, .int (nI i)), (2, .long v)] := hl
  have hinX4 : ∀ x ∈ u_ws RX4 TX4 4, x ∈ wsX4_put := by decide +kernel
  refine lv_aload_n C.1 C.2.1 dX4_put_0 rfl (lv_at hl 0 rfl) ?_
  refine xget C hK hW hinX4 rfl (by omega) pr0 1 (by decide) (List.mem_of_getElem? (i := 1) rfl) rfl dX4_put_1 ?_
  rcases (show la = 0 ∨ la = 1 ∨ la = 2 ∨ (2 < la) by omega) with c1 | c1 | c1 | c1
  · refine lv_tableIn (off := 28) (tgt := 32) C.1 C.2.1 dX4_put_4 (by rw [c1]; decide) (by rw [c1]; decide) (by rw [c1]; decide) (by decide) ?_
    refine lv_aload_n C.1 C.2.1 dX4_put_32 rfl (lv_at hl 0 rfl) ?_
    refine xget C hK hW hinX4 rfl (by omega) pr0 3 (by decide) (List.mem_of_getElem? (i := 2) rfl) rfl dX4_put_33 ?_
    refine lv_iload_n C.1 C.2.1 dX4_put_36 rfl (lv_at hl 1 rfl) ?_
    refine lv_lload_n C.1 C.2.1 dX4_put_37 rfl (lv_at hl 2 rfl) ?_
    refine lv_l2i (v := v.toInt32) C.1 C.2.1 dX4_put_38 rfl ?_
    refine lv_i2b (v := v.toInt32.toInt8.toInt32) C.1 C.2.1 dX4_put_39 rfl ?_
    refine lv_i2l (v := v.toInt32.toInt8.toInt32.toInt64) C.1 C.2.1 dX4_put_40 rfl ?_
    refine xlstR (v := v.toInt32.toInt8.toInt32.toInt64) C hK hW (by omega) pr1 (by omega) (by decide) dX4_put_41 (fun w2 H locs e3 f4 hW => ?_)
    refine lv_goto (tgt := 77) C.1 C.2.1 dX4_put_42 (by decide) ?_
    exact xret_v C hr hlk hW ⟨(by rw [cutL, if_pos (by omega)]; exact e3), (fun j z0 => (f4 j (by omega)))⟩ dX4_put_77
  · refine lv_tableIn (off := 41) (tgt := 45) C.1 C.2.1 dX4_put_4 (by rw [c1]; decide) (by rw [c1]; decide) (by rw [c1]; decide) (by decide) ?_
    refine lv_aload_n C.1 C.2.1 dX4_put_45 rfl (lv_at hl 0 rfl) ?_
    refine xget C hK hW hinX4 rfl (by omega) pr0 3 (by decide) (List.mem_of_getElem? (i := 2) rfl) rfl dX4_put_46 ?_
    refine lv_iload_n C.1 C.2.1 dX4_put_49 rfl (lv_at hl 1 rfl) ?_
    refine lv_lload_n C.1 C.2.1 dX4_put_50 rfl (lv_at hl 2 rfl) ?_
    refine lv_l2i (v := v.toInt32) C.1 C.2.1 dX4_put_51 rfl ?_
    refine lv_i2s (v := v.toInt32.toInt16.toInt32) C.1 C.2.1 dX4_put_52 rfl ?_
    refine lv_i2l (v := v.toInt32.toInt16.toInt32.toInt64) C.1 C.2.1 dX4_put_53 rfl ?_
    refine xlstR (v := v.toInt32.toInt16.toInt32.toInt64) C hK hW (by omega) pr1 (by omega) (by decide) dX4_put_54 (fun w5 H locs e6 f7 hW => ?_)
    refine lv_goto (tgt := 77) C.1 C.2.1 dX4_put_55 (by decide) ?_
    exact xret_v C hr hlk hW ⟨(by rw [cutL, if_neg (by omega), if_pos (by omega)]; exact e6), (fun j z0 => (f7 j (by omega)))⟩ dX4_put_77
  · refine lv_tableIn (off := 54) (tgt := 58) C.1 C.2.1 dX4_put_4 (by rw [c1]; decide) (by rw [c1]; decide) (by rw [c1]; decide) (by decide) ?_
    refine lv_aload_n C.1 C.2.1 dX4_put_58 rfl (lv_at hl 0 rfl) ?_
    refine xget C hK hW hinX4 rfl (by omega) pr0 3 (by decide) (List.mem_of_getElem? (i := 2) rfl) rfl dX4_put_59 ?_
    refine lv_iload_n C.1 C.2.1 dX4_put_62 rfl (lv_at hl 1 rfl) ?_
    refine lv_lload_n C.1 C.2.1 dX4_put_63 rfl (lv_at hl 2 rfl) ?_
    refine lv_l2i (v := v.toInt32) C.1 C.2.1 dX4_put_64 rfl ?_
    refine lv_i2l (v := v.toInt32.toInt64) C.1 C.2.1 dX4_put_65 rfl ?_
    refine xlstR (v := v.toInt32.toInt64) C hK hW (by omega) pr1 (by omega) (by decide) dX4_put_66 (fun w8 H locs e9 f10 hW => ?_)
    refine lv_goto (tgt := 77) C.1 C.2.1 dX4_put_67 (by decide) ?_
    exact xret_v C hr hlk hW ⟨(by rw [cutL, if_neg (by omega), if_neg (by omega), if_pos (by omega)]; exact e9), (fun j z0 => (f10 j (by omega)))⟩ dX4_put_77
  · refine lv_tableOut (tgt := 70) C.1 C.2.1 dX4_put_4 (Or.inr (by rw [nI_toInt (by omega)]; omega)) (by decide) ?_
    refine lv_aload_n C.1 C.2.1 dX4_put_70 rfl (lv_at hl 0 rfl) ?_
    refine xget C hK hW hinX4 rfl (by omega) pr0 3 (by decide) (List.mem_of_getElem? (i := 2) rfl) rfl dX4_put_71 ?_
    refine lv_iload_n C.1 C.2.1 dX4_put_74 rfl (lv_at hl 1 rfl) ?_
    refine lv_lload_n C.1 C.2.1 dX4_put_75 rfl (lv_at hl 2 rfl) ?_
    refine xlstR (v := v) C hK hW (by omega) pr1 (by omega) (by decide) dX4_put_76 (fun w11 H locs e12 f13 hW => ?_)
    exact xret_v C hr hlk hW ⟨(by rw [cutL, if_neg (by omega), if_neg (by omega), if_neg (by omega)]; exact e12), (fun j z0 => (f13 j (by omega)))⟩ dX4_put_77

set_option maxHeartbeats 4000000 in
set_option maxRecDepth 100000 in
theorem c_X4_fieldAt (l : Launch) (g : GE) (w : Nat → va_E) (b o hd la le i : Nat) (Y : Nat → Int64) (hI : AdInj g) (hN : gN g = 130) (hb : b + 1 < 130) (hi : i < 24) (pr0 : w b = .inr (4, [.int (nI hd), .int (nI la), .int (nI le), .ref (gad g (b + 1))])) (pr1 : w (b + 1) = .inl (gJ g, 24, .inr (.inl (kK 0 24 o Y)))) : Met l yX4_fieldAt wsX4_fieldAt ({ frames := 0, cells := 0, slots := 0, locals := 0 } : Room) (XPc g w [.ref (gad g b), .int (nI i)]) (XQi g (fun r w' => w' = w ∧ r = (fldX (Y (o + i))))) 0 0 (gA g) := by
  refine xmet (cc := cX4_fieldAt) (maxL := 4) (ret := (some .int)) (by decide) rfl hI (Nat.le_of_ble_eq_true rfl) ?_
  intro pG eG sG mG belowG methG cG ls C hr hlk hK hW hl
  have hl : lv_has ls 4 [(0, .ref (gad g b)), (1, .int (nI i))] := hl
  have hinX4 : ∀ x ∈ u_ws RX4 TX4 4, x ∈ wsX4_fieldAt := by decide +kernel
  refine lv_aload_n C.1 C.2.1 dX4_fieldAt_0 rfl (lv_at hl 0 rfl) ?_
  refine xget C hK hW hinX4 rfl (by omega) pr0 3 (by decide) (List.mem_of_getElem? (i := 1) rfl) rfl dX4_fieldAt_1 ?_
  refine lv_iload_n C.1 C.2.1 dX4_fieldAt_4 rfl (lv_at hl 1 rfl) ?_
  refine xlldR C hK hW (by omega) pr1 (by omega) (by decide) dX4_fieldAt_5 ?_
  refine lv_lstore_n (lv' := [(2, .long (Y (o + i))), (0, .ref (gad g b)), (1, .int (nI i))]) C.1 C.2.1 dX4_fieldAt_6 rfl hl (by decide) rfl (fun ls hl => ?_)
  refine lv_lload_n C.1 C.2.1 dX4_fieldAt_7 rfl (lv_at hl 0 rfl) ?_
  refine lv_lconst (v := lN 0) C.1 C.2.1 dX4_fieldAt_8 (by decide) ?_
  refine xRlt (tgt := 26) C dX4_fieldAt_9 dX4_fieldAt_10 (by decide) (fun c9 => ?_) (fun c9 => ?_)
  · refine lv_iconst (v := (-1 : Int32)) C.1 C.2.1 dX4_fieldAt_26 (by decide) ?_
    exact xret_i C hr hlk hW ⟨rfl, (by rw [fldX, if_neg (fun z => z.1 c9)])⟩ dX4_fieldAt_27
  · refine lv_lload_n C.1 C.2.1 dX4_fieldAt_13 rfl (lv_at hl 0 rfl) ?_
    refine lv_ldc2 (v := (lN 6)) C.1 C.2.1 C.2.2.2.1 (C.2.2.2.2 _ (List.mem_of_getElem? (i := 2) rfl)) dX4_fieldAt_14 ?_
    refine xRgt (tgt := 26) C dX4_fieldAt_17 dX4_fieldAt_18 (by decide) (fun c17 => ?_) (fun c17 => ?_)
    · refine lv_iconst (v := (-1 : Int32)) C.1 C.2.1 dX4_fieldAt_26 (by decide) ?_
      exact xret_i C hr hlk hW ⟨rfl, (by rw [fldX, if_neg (fun z => z.2 c17)])⟩ dX4_fieldAt_27
    · refine lv_lload_n C.1 C.2.1 dX4_fieldAt_21 rfl (lv_at hl 0 rfl) ?_
      refine lv_l2i (v := (Y (o + i)).toInt32) C.1 C.2.1 dX4_fieldAt_22 rfl ?_
      refine lv_goto (tgt := 27) C.1 C.2.1 dX4_fieldAt_23 (by decide) ?_
      exact xret_i C hr hlk hW ⟨rfl, (by rw [fldX, if_pos ⟨c9, c17⟩])⟩ dX4_fieldAt_27
