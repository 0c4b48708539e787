/-! a way seen: its weight -/
def wtI (on bk : Nat → Nat) (wh : Nat) (x y : Int32) : Nat := if in6 x ∧ in6 y then wtN on bk wh (cl x) (cl y) else 0
theorem wtI_le {on bk : Nat → Nat} {wh : Nat} (hob : ∀ f, f < 7 → on f + bk f ≤ wh) (hwh : wh ≤ 10) {x y : Int32} : wtI on bk wh x y ≤ 10 := by
  unfold wtI
  split
  · rename_i h
    obtain ⟨a, _, ha, rfl⟩ := inR_N (by decide) (by decide) h.1
    rw [cl_nI (by omega)]
    have := hob a (by omega)
    unfold wtN
    repeat' split
    all_goals omega
  · omega
def frA (x : Int32) (q : Nat → Int64) : Nat → Int32
  | 0 => x
  | d + 1 => fldX (q d)
def wgA (on bk : Nat → Nat) (wh : Nat) (x : Int32) (q : Nat → Int64) : Nat → Nat
  | 0 => 1
  | d + 1 => wgA on bk wh x q d * wtI on bk wh (frA x q d) (fldX (q d))
theorem wgA_le {on bk : Nat → Nat} {wh : Nat} (hob : ∀ f, f < 7 → on f + bk f ≤ wh) (hwh : wh ≤ 10) {x : Int32} {q : Nat → Int64} : ∀ n, wgA on bk wh x q n ≤ 10 ^ n
  | 0 => Nat.le_refl 1
  | n + 1 => by
    rw [Nat.pow_succ]
    exact Nat.mul_le_mul (wgA_le hob hwh n) (wtI_le hob hwh)
theorem wgA_b {on bk : Nat → Nat} {wh : Nat} (hob : ∀ f, f < 7 → on f + bk f ≤ wh) (hwh : wh ≤ 10) {x : Int32} {q : Nat → Int64} {n : Nat} (hn : n ≤ 8) : wgA on bk wh x q n ≤ 100000000 :=
  Nat.le_trans (wgA_le hob hwh n) (Nat.pow_le_pow_right (by omega) hn)
theorem wgA_congr {on bk : Nat → Nat} {wh : Nat} {x : Int32} {q q' : Nat → Int64} : ∀ {n : Nat}, (∀ d, d < n → q d = q' d) → wgA on bk wh x q n = wgA on bk wh x q' n
  | 0, _ => rfl
  | n + 1, h => by
    have hf : frA x q n = frA x q' n := by
      cases n with
      | zero => rfl
      | succ m =>
        show fldX (q m) = fldX (q' m)
        rw [h m (by omega)]
    show wgA on bk wh x q n * wtI on bk wh (frA x q n) (fldX (q n)) = wgA on bk wh x q' n * wtI on bk wh (frA x q' n) (fldX (q' n))
    rw [wgA_congr (fun d hd => h d (by omega)), hf, h n (by omega)]
abbrev okSe (s c n z : Int32) : Prop := (in3 s ∧ in3 c) ∧ inR n (nI 1) (nI 8) ∧ inR z (nI 0) (nI 2)
def waW (L : Nat → Nat) (q : Nat → Int64) (n f : Nat) : Nat := wgA (onF L) (backF L) 10 (nI f) q n
def seenS (L ln sz : Nat → Nat) (Z : Nat → Int64) (s c i n z : Int32) : Int32 := if okSe s c n z then (if wrS ln sz s c i n = 0 then (if cl z = 2 then setF (fun f => decide (0 < waW L (seq8 Z (24 * cl s) (cl i)) (cl n) f)) 7 else nI (if cl z = 0 then redU (waW L (seq8 Z (24 * cl s) (cl i)) (cl n) (L 2)) (10 ^ cl n) else redD (waW L (seq8 Z (24 * cl s) (cl i)) (cl n) (L 2)) (10 ^ cl n))) else wrS ln sz s c i n) else -1

theorem c_X5_weightI (l : Launch) (g : GE) (w : Nat → va_E) (x y : Int32) (wh al : Nat) (on bk : Nat → Nat) (hI : AdInj g) (hN : gN g = 130) (hwh : wh ≤ 100) (hob : ∀ f, f < 7 → on f + bk f ≤ wh) (pr0 : w 100 = .inr (5, [.ref (gad g 101), .ref (gad g 102), .int (nI wh), .ref (gad g 103), .ref (gad g 104), .long (lN al), .ref (gad g 105)])) (pr1 : w 101 = .inl (gI g, 7, .inl (cK 7 0 on))) (pr2 : w 102 = .inl (gI g, 7, .inl (cK 7 0 bk))) : Met l yX5_weight wsX5_weight ({ frames := 2, cells := 0, slots := 0, locals := 42 } : Room) (XPc g w [.ref (gad g 100), .int x, .int y]) (XQi g (fun r w' => w' = w ∧ r = (nI (wtI on bk wh x y)))) 0 0 (gA g) := by
  by_cases h : in6 x ∧ in6 y
  · obtain ⟨a, _, ha, rfl⟩ := inR_N (by decide) (by decide) h.1
    obtain ⟨b, _, hb, rfl⟩ := inR_N (by decide) (by decide) h.2
    rw [show wtI on bk wh (nI a) (nI b) = wtN on bk wh a b by rw [wtI, if_pos h, cl_nI (by omega), cl_nI (by omega)]]
    exact c_X5_weight l g w a b wh al on bk hI hN (by omega) (by omega) hwh hob pr0 pr1 pr2
  · rw [show wtI on bk wh x y = 0 by rw [wtI, if_neg h]]
    exact c_X5_weight0 l g w x y wh al on bk hI hN h pr0 pr1 pr2

set_option maxHeartbeats 4000000 in
set_option maxRecDepth 100000 in
theorem c_X6_weightOf (l : Launch) (g : GE) (w : Nat → va_E) (b o hd la le i n hk st wh al : Nat) (on bk : Nat → Nat) (Y : Nat → Int64) (hI : AdInj g) (hN : gN g = 130) (hb : b + 1 < 130) (hin : i + n ≤ 24) (hn8 : n ≤ 8) (hwh : wh ≤ 10) (hob : ∀ f, f < 7 → on f + bk f ≤ wh) (pr0 : w 0 = .inr (6, [.ref (gad g 1), .ref (gad g 34), .ref (gad g 67), .ref (gad g 100), .ref (gad g 106), .ref (gad g 107), .ref (gad g 108), .ref (gad g 110), .int (nI hk)])) (pr1 : w 100 = .inr (5, [.ref (gad g 101), .ref (gad g 102), .int (nI wh), .ref (gad g 103), .ref (gad g 104), .long (lN al), .ref (gad g 105)])) (pr2 : w 101 = .inl (gI g, 7, .inl (cK 7 0 on))) (pr3 : w 102 = .inl (gI g, 7, .inl (cK 7 0 bk))) (pr4 : w b = .inr (4, [.int (nI hd), .int (nI la), .int (nI le), .ref (gad g (b + 1))])) (pr5 : w (b + 1) = .inl (gJ g, 24, .inr (.inl (kK 0 24 o Y)))) : Met l yX6_weightOf wsX6_weightOf ({ frames := 3, cells := 0, slots := 0, locals := 64 } : Room) (XPc g w [.ref (gad g 0), .int (nI st), .ref (gad g b), .int (nI i), .int (nI n)]) (XQl g (fun r w' => w' = w ∧ r = (lN (wgA on bk wh (nI st) (seq8 Y o i) n)))) 0 0 (gA g) := by
  refine xmet (cc := cX6_weightOf) (maxL := 10) (ret := (some .long)) (by decide) rfl hI (Nat.le_of_ble_eq_true rfl) ?_
  intro pG eG sG mG belowG methG cG ls C hr hlk hK hW hl
  have hl : lv_has ls 10 [(0, .ref (gad g 0)), (1, .int (nI st)), (2, .ref (gad g b)), (3, .int (nI i)), (4, .int (nI n))] := hl
  have hinX6 : ∀ x ∈ u_ws RX6 TX6 9, x ∈ wsX6_weightOf := by decide +kernel
  refine lv_lconst (v := lN 1) C.1 C.2.1 dX6_weightOf_0 (by decide) ?_
  refine lv_lstore (lv' := [(5, .long (lN 1)), (0, .ref (gad g 0)), (1, .int (nI st)), (2, .ref (gad g b)), (3, .int (nI i)), (4, .int (nI n))]) C.1 C.2.1 dX6_weightOf_1 hl (by decide) rfl (fun ls hl => ?_)
  refine lv_iload_n C.1 C.2.1 dX6_weightOf_3 rfl (lv_at hl 2 rfl) ?_
  refine lv_istore (lv' := [(7, .int (nI st)), (5, .long (lN 1)), (0, .ref (gad g 0)), (1, .int (nI st)), (2, .ref (gad g b)), (3, .int (nI i)), (4, .int (nI n))]) C.1 C.2.1 dX6_weightOf_4 hl (by decide) rfl (fun ls hl => ?_)
  refine lv_iconst (v := (nI 0)) C.1 C.2.1 dX6_weightOf_6 (by decide) ?_
  refine lv_istore (lv' := [(8, .int (nI 0)), (7, .int (nI st)), (5, .long (lN 1)), (0, .ref (gad g 0)), (1, .int (nI st)), (2, .ref (gad g b)), (3, .int (nI i)), (4, .int (nI n))]) C.1 C.2.1 dX6_weightOf_7 hl (by decide) rfl (fun ls hl => ?_)
  have loop9 : ∀ (kG : Nat) (d : Nat) (H : Heap) (locs : List Loc) (ls : Array Slot), kG = n - d → (d ≤ n) → XW g w (gA g) sG.heap H locs → lv_has ls 10 [(8, .int (nI d)), (7, .int (frA (nI st) (seq8 Y o i) d)), (5, .long (lN (wgA on bk wh (nI st) (seq8 Y o i) d))), (0, .ref (gad g 0)), (2, .ref (gad g b)), (3, .int (nI i)), (4, .int (nI n))] → W pG l eG ({ frames := 3, cells := 0, slots := 0, locals := 64 } : Room) sG mG ([.ref (gad g 0), .int (nI st), .ref (gad g b), .int (nI i), .int (nI n)] : List Value).toArray belowG methG cG H locs 0 0 (MQ belowG (XQl g (fun r w' => w' = w ∧ r = (lN (wgA on bk wh (nI st) (seq8 Y o i) n)))) ([.ref (gad g 0), .int (nI st), .ref (gad g b), .int (nI i), .int (nI n)] : List Value).toArray sG 0 0 (gA g)) (F0 mG 9 ls []) := by
    intro k9
    induction k9 using Nat.strongRecOn with
    | _ k9 ih9 =>
    intro d H locs ls hk9 hdn hW hl
    refine lv_iload C.1 C.2.1 dX6_weightOf_9 (lv_at hl 0 rfl) ?_
    refine lv_iload C.1 C.2.1 dX6_weightOf_11 (lv_at hl 6 rfl) ?_
    refine xge (tgt := 53) C (by omega) (by omega) dX6_weightOf_13 (by decide) (fun c13 => ?_) (fun c13 => ?_)
    · refine lv_lload C.1 C.2.1 dX6_weightOf_53 (lv_at hl 2 rfl) ?_
      exact xret_l C hr hlk hW ⟨rfl, by rw [show d = n by omega]⟩ dX6_weightOf_55
    · refine lv_aload_n C.1 C.2.1 dX6_weightOf_16 rfl (lv_at hl 4 rfl) ?_
      refine lv_iload_n C.1 C.2.1 dX6_weightOf_17 rfl (lv_at hl 5 rfl) ?_
      refine lv_iload C.1 C.2.1 dX6_weightOf_18 (lv_at hl 0 rfl) ?_
      refine xadd C dX6_weightOf_20 ?_
      refine xcV_i (n := 1) (As := [.int (nI (i + d))]) C hK hW (c_X4_fieldAt l g w b o hd la le (i + d) Y hI hN (by omega) (by omega) pr4 pr5) gX6_weightOf_X4_fieldAt rfl ⟨rfl, rfl⟩ (by decide +kernel) ⟨Nat.le_of_ble_eq_true rfl, Nat.le_of_ble_eq_true rfl⟩ ⟨Nat.zero_le _, Nat.zero_le _⟩ rfl (by omega) pr4 rfl hl rfl (Nat.le_of_ble_eq_true rfl) dX6_weightOf_21 (fun r3 w1 H locs q2 hW => ?_)
      obtain ⟨qw4, rfl⟩ := q2
      rw [qw4] at hW
      refine lv_istore (lv' := [(9, .int (fldX (Y (o + (i + d))))), (8, .int (nI d)), (7, .int (frA (nI st) (seq8 Y o i) d)), (5, .long (lN (wgA on bk wh (nI st) (seq8 Y o i) d))), (0, .ref (gad g 0)), (2, .ref (gad g b)), (3, .int (nI i)), (4, .int (nI n))]) C.1 C.2.1 dX6_weightOf_24 hl (by decide) rfl (fun ls hl => ?_)
      refine lv_lload C.1 C.2.1 dX6_weightOf_26 (lv_at hl 3 rfl) ?_
      refine lv_aload_n C.1 C.2.1 dX6_weightOf_28 rfl (lv_at hl 4 rfl) ?_
      refine xget C hK hW hinX6 rfl (by omega) pr0 3 (by decide) (List.mem_of_getElem? (i := 1) rfl) rfl dX6_weightOf_29 ?_
      refine lv_iload C.1 C.2.1 dX6_weightOf_32 (lv_at hl 2 rfl) ?_
      refine lv_iload C.1 C.2.1 dX6_weightOf_34 (lv_at hl 0 rfl) ?_
      refine xcV_i (n := 2) (As := [.int (frA (nI st) (seq8 Y o i) d), .int (fldX (Y (o + (i + d))))]) C hK hW (c_X5_weightI l g w (frA (nI st) (seq8 Y o i) d) (fldX (Y (o + (i + d)))) wh al on bk hI hN (by omega) hob pr1 pr2 pr3) gX6_weightOf_X5_weight rfl ⟨rfl, rfl⟩ (by decide +kernel) ⟨Nat.le_of_ble_eq_true rfl, Nat.le_of_ble_eq_true rfl⟩ ⟨Nat.zero_le _, Nat.zero_le _⟩ rfl (by omega) pr1 rfl hl rfl (Nat.le_of_ble_eq_true rfl) dX6_weightOf_36 (fun r7 w5 H locs q6 hW => ?_)
      obtain ⟨qw8, rfl⟩ := q6
      rw [qw8] at hW
      have hwi : wtI on bk wh (frA (nI st) (seq8 Y o i) d) (fldX (Y (o + (i + d)))) ≤ 10 := wtI_le hob hwh
      refine xi2l C (by omega) dX6_weightOf_39 ?_
      refine xlmul C dX6_weightOf_40 ?_
      refine lv_lstore (lv' := [(5, .long (lN ((wgA on bk wh (nI st) (seq8 Y o i) d) * (wtI on bk wh (frA (nI st) (seq8 Y o i) d) (fldX (Y (o + (i + d)))))))), (9, .int (fldX (Y (o + (i + d))))), (8, .int (nI d)), (7, .int (frA (nI st) (seq8 Y o i) d)), (0, .ref (gad g 0)), (2, .ref (gad g b)), (3, .int (nI i)), (4, .int (nI n))]) C.1 C.2.1 dX6_weightOf_41 hl (by decide) rfl (fun ls hl => ?_)
      refine lv_iload C.1 C.2.1 dX6_weightOf_43 (lv_at hl 1 rfl) ?_
      refine lv_istore (lv' := [(7, .int (fldX (Y (o + (i + d))))), (5, .long (lN ((wgA on bk wh (nI st) (seq8 Y o i) d) * (wtI on bk wh (frA (nI st) (seq8 Y o i) d) (fldX (Y (o + (i + d)))))))), (9, .int (fldX (Y (o + (i + d))))), (8, .int (nI d)), (0, .ref (gad g 0)), (2, .ref (gad g b)), (3, .int (nI i)), (4, .int (nI n))]) C.1 C.2.1 dX6_weightOf_45 hl (by decide) rfl (fun ls hl => ?_)
      refine lv_iinc (v := nI (d + 1)) (lv' := [(8, .int (nI (d + 1))), (7, .int (fldX (Y (o + (i + d))))), (5, .long (lN ((wgA on bk wh (nI st) (seq8 Y o i) d) * (wtI on bk wh (frA (nI st) (seq8 Y o i) d) (fldX (Y (o + (i + d)))))))), (9, .int (fldX (Y (o + (i + d))))), (0, .ref (gad g 0)), (2, .ref (gad g b)), (3, .int (nI i)), (4, .int (nI n))]) C.1 C.2.1 dX6_weightOf_47 hl (k := 3) rfl (nI_add _ 1) (by decide) rfl (fun ls hl => ?_)
      refine lv_goto (tgt := 9) C.1 C.2.1 dX6_weightOf_50 (by decide) ?_
      exact ih9 (n - (d + 1)) (by omega) (d + 1) _ _ _ rfl (by omega) hW (lv_sub hl [0, 1, 2, 4, 5, 6, 7] rfl)
  exact loop9 _ 0 _ _ _ rfl (by omega) hW (lv_sub hl [0, 1, 2, 3, 5, 6, 7] rfl)

set_option maxHeartbeats 4000000 in
set_option maxRecDepth 100000 in
theorem c_X6_fieldsBefore (l : Launch) (g : GE) (w : Nat → va_E) (b o hd la le i n hk wh al : Nat) (on bk : Nat → Nat) (Y : Nat → Int64) (hI : AdInj g) (hN : gN g = 130) (hb : b + 1 < 130) (hin : i + n ≤ 24) (hn8 : n ≤ 8) (hwh : wh ≤ 10) (hob : ∀ f, f < 7 → on f + bk f ≤ wh) (pr0 : w 0 = .inr (6, [.ref (gad g 1), .ref (gad g 34), .ref (gad g 67), .ref (gad g 100), .ref (gad g 106), .ref (gad g 107), .ref (gad g 108), .ref (gad g 110), .int (nI hk)])) (pr1 : w 100 = .inr (5, [.ref (gad g 101), .ref (gad g 102), .int (nI wh), .ref (gad g 103), .ref (gad g 104), .long (lN al), .ref (gad g 105)])) (pr2 : w 101 = .inl (gI g, 7, .inl (cK 7 0 on))) (pr3 : w 102 = .inl (gI g, 7, .inl (cK 7 0 bk))) (pr4 : w b = .inr (4, [.int (nI hd), .int (nI la), .int (nI le), .ref (gad g (b + 1))])) (pr5 : w (b + 1) = .inl (gJ g, 24, .inr (.inl (kK 0 24 o Y)))) : Met l yX6_fieldsBefore wsX6_fieldsBefore ({ frames := 4, cells := 0, slots := 0, locals := 93 } : Room) (XPc g w [.ref (gad g 0), .ref (gad g b), .int (nI i), .int (nI n)]) (XQi g (fun r w' => w' = w ∧ r = (setF (fun f => decide (0 < wgA on bk wh (nI f) (seq8 Y o i) n)) 7))) 0 0 (gA g) := by
  refine xmet (cc := cX6_fieldsBefore) (maxL := 6) (ret := (some .int)) (by decide) rfl hI (Nat.le_of_ble_eq_true rfl) ?_
  intro pG eG sG mG belowG methG cG ls C hr hlk hK hW hl
  have hl : lv_has ls 6 [(0, .ref (gad g 0)), (1, .ref (gad g b)), (2, .int (nI i)), (3, .int (nI n))] := hl
  refine lv_iconst (v := (nI 0)) C.1 C.2.1 dX6_fieldsBefore_0 (by decide) ?_
  refine lv_istore (lv' := [(4, .int (nI 0)), (0, .ref (gad g 0)), (1, .ref (gad g b)), (2, .int (nI i)), (3, .int (nI n))]) C.1 C.2.1 dX6_fieldsBefore_1 hl (by decide) rfl (fun ls hl => ?_)
  refine lv_iconst (v := (nI 0)) C.1 C.2.1 dX6_fieldsBefore_3 (by decide) ?_
  refine lv_istore (lv' := [(5, .int (nI 0)), (4, .int (nI 0)), (0, .ref (gad g 0)), (1, .ref (gad g b)), (2, .int (nI i)), (3, .int (nI n))]) C.1 C.2.1 dX6_fieldsBefore_4 hl (by decide) rfl (fun ls hl => ?_)
  have loop6 : ∀ (kG : Nat) (e : Nat) (H : Heap) (locs : List Loc) (ls : Array Slot), kG = 7 - e → (e ≤ 7) → XW g w (gA g) sG.heap H locs → lv_has ls 6 [(5, .int (nI e)), (4, .int (setF (fun f => decide (0 < wgA on bk wh (nI f) (seq8 Y o i) n)) e)), (0, .ref (gad g 0)), (1, .ref (gad g b)), (2, .int (nI i)), (3, .int (nI n))] → W pG l eG ({ frames := 4, cells := 0, slots := 0, locals := 93 } : Room) sG mG ([.ref (gad g 0), .ref (gad g b), .int (nI i), .int (nI n)] : List Value).toArray belowG methG cG H locs 0 0 (MQ belowG (XQi g (fun r w' => w' = w ∧ r = (setF (fun f => decide (0 < wgA on bk wh (nI f) (seq8 Y o i) n)) 7))) ([.ref (gad g 0), .ref (gad g b), .int (nI i), .int (nI n)] : List Value).toArray sG 0 0 (gA g)) (F0 mG 6 ls []) := by
    intro k6
    induction k6 using Nat.strongRecOn with
    | _ k6 ih6 =>
    intro e H locs ls hk6 he7 hW hl
    refine lv_iload C.1 C.2.1 dX6_fieldsBefore_6 (lv_at hl 0 rfl) ?_
    refine lv_bipush (v := (nI 7)) C.1 C.2.1 dX6_fieldsBefore_8 (by decide) ?_
    refine xge (tgt := 42) C (by omega) (by omega) dX6_fieldsBefore_10 (by decide) (fun c10 => ?_) (fun c10 => ?_)
    · refine lv_iload C.1 C.2.1 dX6_fieldsBefore_42 (lv_at hl 1 rfl) ?_
      exact xret_i C hr hlk hW ⟨rfl, by rw [show e = 7 by omega]⟩ dX6_fieldsBefore_44
    · refine lv_aload_n C.1 C.2.1 dX6_fieldsBefore_13 rfl (lv_at hl 2 rfl) ?_
      refine lv_iload C.1 C.2.1 dX6_fieldsBefore_14 (lv_at hl 0 rfl) ?_
      refine lv_aload_n C.1 C.2.1 dX6_fieldsBefore_16 rfl (lv_at hl 3 rfl) ?_
      refine lv_iload_n C.1 C.2.1 dX6_fieldsBefore_17 rfl (lv_at hl 4 rfl) ?_
      refine lv_iload_n C.1 C.2.1 dX6_fieldsBefore_18 rfl (lv_at hl 5 rfl) ?_
      refine xcV_l (n := 4) (As := [.int (nI e), .ref (gad g b), .int (nI i), .int (nI n)]) C hK hW (c_X6_weightOf l g w b o hd la le i n hk e wh al on bk Y hI hN (by omega) (by omega) (by omega) (by omega) hob pr0 pr1 pr2 pr3 pr4 pr5) gX6_fieldsBefore_X6_weightOf rfl ⟨rfl, rfl⟩ (by decide +kernel) ⟨Nat.le_of_ble_eq_true rfl, Nat.le_of_ble_eq_true rfl⟩ ⟨Nat.zero_le _, Nat.zero_le _⟩ rfl (by omega) pr0 rfl hl rfl (Nat.le_of_ble_eq_true rfl) dX6_fieldsBefore_19 (fun r3 w1 H locs q2 hW => ?_)
      obtain ⟨qw4, rfl⟩ := q2
      rw [qw4] at hW
      have hwb : wgA on bk wh (nI e) (seq8 Y o i) n ≤ 100000000 := wgA_b hob hwh hn8
      refine lv_lconst (v := lN 0) C.1 C.2.1 dX6_fieldsBefore_22 (by decide) ?_
      refine xLle (tgt := 36) C (by omega) (by omega) dX6_fieldsBefore_23 dX6_fieldsBefore_24 (by decide) (fun c23 => ?_) (fun c23 => ?_)
      · have hl : lv_has ls 6 [(5, .int (nI e)), (4, .int (setF (fun f => decide (0 < wgA on bk wh (nI f) (seq8 Y o i) n)) (e + 1))), (0, .ref (gad g 0)), (1, .ref (gad g b)), (2, .int (nI i)), (3, .int (nI n))] := by rw [show (setF (fun f => decide (0 < wgA on bk wh (nI f) (seq8 Y o i) n)) (e + 1)) = (setF (fun f => decide (0 < wgA on bk wh (nI f) (seq8 Y o i) n)) e) from (setF_n (p := fun f => decide (0 < wgA on bk wh (nI f) (seq8 Y o i) n)) (fun z => absurd (of_decide_eq_true z) (by omega)))]; exact hl
        refine lv_iinc (v := nI (e + 1)) (lv' := [(5, .int (nI (e + 1))), (4, .int (setF (fun f => decide (0 < wgA on bk wh (nI f) (seq8 Y o i) n)) (e + 1))), (0, .ref (gad g 0)), (1, .ref (gad g b)), (2, .int (nI i)), (3, .int (nI n))]) C.1 C.2.1 dX6_fieldsBefore_36 hl (k := 0) rfl (nI_add _ 1) (by decide) rfl (fun ls hl => ?_)
        refine lv_goto (tgt := 6) C.1 C.2.1 dX6_fieldsBefore_39 (by decide) ?_
        exact ih6 (7 - (e + 1)) (by omega) (e + 1) _ _ _ rfl (by omega) hW hl
      · refine lv_iload C.1 C.2.1 dX6_fieldsBefore_27 (lv_at hl 1 rfl) ?_
        refine lv_iconst (v := (nI 1)) C.1 C.2.1 dX6_fieldsBefore_29 (by decide) ?_
        refine lv_iload C.1 C.2.1 dX6_fieldsBefore_30 (lv_at hl 0 rfl) ?_
        refine lv_ishl C.1 C.2.1 dX6_fieldsBefore_32 ?_
        refine lv_ior C.1 C.2.1 dX6_fieldsBefore_33 ?_
        refine lv_istore (lv' := [(4, .int ((setF (fun f => decide (0 < wgA on bk wh (nI f) (seq8 Y o i) n)) e) ||| ((nI 1) <<< ((nI e) &&& 31)))), (5, .int (nI e)), (0, .ref (gad g 0)), (1, .ref (gad g b)), (2, .int (nI i)), (3, .int (nI n))]) C.1 C.2.1 dX6_fieldsBefore_34 hl (by decide) rfl (fun ls hl => ?_)
        have hl : lv_has ls 6 [(4, .int (setF (fun f => decide (0 < wgA on bk wh (nI f) (seq8 Y o i) n)) (e + 1))), (5, .int (nI e)), (0, .ref (gad g 0)), (1, .ref (gad g b)), (2, .int (nI i)), (3, .int (nI n))] := by rw [show (setF (fun f => decide (0 < wgA on bk wh (nI f) (seq8 Y o i) n)) (e + 1)) = ((setF (fun f => decide (0 < wgA on bk wh (nI f) (seq8 Y o i) n)) e) ||| ((nI 1) <<< ((nI e) &&& 31))) from (setF_y (p := fun f => decide (0 < wgA on bk wh (nI f) (seq8 Y o i) n)) (decide_eq_true (by omega)))]; exact hl
        refine lv_iinc (v := nI (e + 1)) (lv' := [(5, .int (nI (e + 1))), (4, .int (setF (fun f => decide (0 < wgA on bk wh (nI f) (seq8 Y o i) n)) (e + 1))), (0, .ref (gad g 0)), (1, .ref (gad g b)), (2, .int (nI i)), (3, .int (nI n))]) C.1 C.2.1 dX6_fieldsBefore_36 hl (k := 1) rfl (nI_add _ 1) (by decide) rfl (fun ls hl => ?_)
        refine lv_goto (tgt := 6) C.1 C.2.1 dX6_fieldsBefore_39 (by decide) ?_
        exact ih6 (7 - (e + 1)) (by omega) (e + 1) _ _ _ rfl (by omega) hW hl
  exact loop6 _ 0 _ _ _ rfl (by omega) hW hl

set_option maxHeartbeats 4000000 in
set_option maxRecDepth 100000 in
theorem c_X6_seen (l : Launch) (g : GE) (w : Nat → va_E) (L K T ln sz : Nat → Nat) (hk tn : Nat) (Z : Nat → Int64) (s : Int32) (c : Int32) (i : Int32) (n : Int32) (z : Int32) (hI : AdInj g) (hN : gN g = 130) (hS : OkS (L, K, hk, tn, T, ln, sz, Z)) (pr0 : XAll g (L, K, hk, tn, T, ln, sz, Z) w) : Met l yX6_seen wsX6_seen ({ frames := 5, cells := 0, slots := 0, locals := 118 } : Room) (XPc g w [.ref (gad g 0), .int s, .int c, .int i, .int n, .int z]) (XQi g (fun r w' => XAll g (L, K, hk, tn, T, ln, sz, Z) w' ∧ (∀ j : Nat, ¬ (0 ≤ j ∧ j < 119) → w' j = w j) ∧ r = seenS L ln sz Z s c i n z)) 0 0 (gA g) := by
  refine xmet (cc := cX6_seen) (maxL := 8) (ret := (some .int)) (by decide) rfl hI (Nat.le_of_ble_eq_true rfl) ?_
  intro pG eG sG mG belowG methG cG ls C hr hlk hK hW hl
  have hl : lv_has ls 8 [(0, .ref (gad g 0)), (1, .int s), (2, .int c), (3, .int i), (4, .int n), (5, .int z)] := hl
  have hinX1 : ∀ x ∈ u_ws RX1 TX1 8, x ∈ wsX6_seen := by decide +kernel
  have hinX2 : ∀ x ∈ u_ws RX2 TX2 5, x ∈ wsX6_seen := by decide +kernel
  have hinX6 : ∀ x ∈ u_ws RX6 TX6 9, x ∈ wsX6_seen := by decide +kernel
  obtain ⟨hXa, hXl, hXk, hXt, hXw, hXf, hXr, hXs⟩ := pr0
  have hXa : w 0 = cX0 g hk := hXa
  have hXl : XLand g 1 L w := hXl
  have hXk : XKept g hk K w := hXk
  have hXr : XRead g tn T w := hXr
  have hXs : XShs g ln sz Z w := hXs
  have hokL : OkL L := hS.1
  obtain ⟨hok, hs2, hdy, hdr, hcl, hkn, hcs, hps⟩ := hokL
  obtain ⟨π, P, CK, hG, hC, hCk, hPa, hPm, hPk⟩ := id hXl
  obtain ⟨wh, al, sa, sb, on, bk, O, A, hw0, hw1, hw2, hw3, hw4, hw5⟩ := hXw
  obtain ⟨fa, fb, fc, fd, hf6, hf7⟩ := hXf
  have hlz : ∀ s, s < 4 → ln s ≤ 4 ∧ sz s ≤ 24 := hS.2.2.2.2
  have hXs1 := hXs.1
  refine lv_iload_n C.1 C.2.1 dX6_seen_0 rfl (lv_at hl 1 rfl) ?_
  refine xcS_i (n := 1) (As := [.int s]) C hK hW (c_X6_isSheet l g w s hI hN) gX6_seen_X6_isSheet rfl ⟨rfl, rfl⟩ (by decide +kernel) ⟨Nat.le_of_ble_eq_true rfl, Nat.le_of_ble_eq_true rfl⟩ ⟨Nat.zero_le _, Nat.zero_le _⟩ rfl hl rfl (Nat.le_of_ble_eq_true rfl) dX6_seen_1 (fun r3 w1 H locs q2 hW => ?_)
  obtain ⟨qw4, rfl⟩ := q2
  rw [qw4] at hW
  refine xBeq (tgt := 35) C dX6_seen_4 (by decide) (fun c4 => ?_) (fun c4 => ?_)
  · refine lv_iconst (v := (-1 : Int32)) C.1 C.2.1 dX6_seen_35 (by decide) ?_
    exact xret_i C hr hlk hW ⟨⟨hXa, hXl, hXk, hXt, ⟨_, _, _, _, _, _, _, _, hw0, hw1, hw2, hw3, hw4, hw5⟩, ⟨_, _, _, _, hf6, hf7⟩, hXr, hXs⟩, (fun j z0 => rfl), (by rw [seenS, if_neg (c := okSe s c n z) (fun h => c4 h.1.1)])⟩ dX6_seen_36
  · refine lv_iload_n C.1 C.2.1 dX6_seen_7 rfl (lv_at hl 2 rfl) ?_
    refine xcS_i (n := 1) (As := [.int c]) C hK hW (c_X6_isLane l g w c hI hN) gX6_seen_X6_isLane rfl ⟨rfl, rfl⟩ (by decide +kernel) ⟨Nat.le_of_ble_eq_true rfl, Nat.le_of_ble_eq_true rfl⟩ ⟨Nat.zero_le _, Nat.zero_le _⟩ rfl hl rfl (Nat.le_of_ble_eq_true rfl) dX6_seen_8 (fun r7 w5 H locs q6 hW => ?_)
    obtain ⟨qw8, rfl⟩ := q6
    rw [qw8] at hW
    refine xBeq (tgt := 35) C dX6_seen_11 (by decide) (fun c11 => ?_) (fun c11 => ?_)
    · refine lv_iconst (v := (-1 : Int32)) C.1 C.2.1 dX6_seen_35 (by decide) ?_
      exact xret_i C hr hlk hW ⟨⟨hXa, hXl, hXk, hXt, ⟨_, _, _, _, _, _, _, _, hw0, hw1, hw2, hw3, hw4, hw5⟩, ⟨_, _, _, _, hf6, hf7⟩, hXr, hXs⟩, (fun j z0 => rfl), (by rw [seenS, if_neg (c := okSe s c n z) (fun h => c11 h.1.2)])⟩ dX6_seen_36
    · refine lv_iload C.1 C.2.1 dX6_seen_14 (lv_at hl 4 rfl) ?_
      refine lv_iconst (v := (nI 1)) C.1 C.2.1 dX6_seen_16 (by decide) ?_
      refine lv_bipush (v := (nI 8)) C.1 C.2.1 dX6_seen_17 (by decide) ?_
      refine xcS_i (n := 3) (As := [.int n, .int (nI 1), .int (nI 8)]) C hK hW (c_X6_isWithin l g w n (nI 1) (nI 8) hI hN) gX6_seen_X6_isWithin rfl ⟨rfl, rfl⟩ (by decide +kernel) ⟨Nat.le_of_ble_eq_true rfl, Nat.le_of_ble_eq_true rfl⟩ ⟨Nat.zero_le _, Nat.zero_le _⟩ rfl hl rfl (Nat.le_of_ble_eq_true rfl) dX6_seen_19 (fun r11 w9 H locs q10 hW => ?_)
      obtain ⟨qw12, rfl⟩ := q10
      rw [qw12] at hW
      refine xBeq (tgt := 35) C dX6_seen_22 (by decide) (fun c22 => ?_) (fun c22 => ?_)
      · refine lv_iconst (v := (-1 : Int32)) C.1 C.2.1 dX6_seen_35 (by decide) ?_
        exact xret_i C hr hlk hW ⟨⟨hXa, hXl, hXk, hXt, ⟨_, _, _, _, _, _, _, _, hw0, hw1, hw2, hw3, hw4, hw5⟩, ⟨_, _, _, _, hf6, hf7⟩, hXr, hXs⟩, (fun j z0 => rfl), (by rw [seenS, if_neg (c := okSe s c n z) (fun h => c22 h.2.1)])⟩ dX6_seen_36
      · refine lv_iload C.1 C.2.1 dX6_seen_25 (lv_at hl 5 rfl) ?_
        refine lv_iconst (v := (nI 0)) C.1 C.2.1 dX6_seen_27 (by decide) ?_
        refine lv_iconst (v := (nI 2)) C.1 C.2.1 dX6_seen_28 (by decide) ?_
        refine xcS_i (n := 3) (As := [.int z, .int (nI 0), .int (nI 2)]) C hK hW (c_X6_isWithin l g w z (nI 0) (nI 2) hI hN) gX6_seen_X6_isWithin rfl ⟨rfl, rfl⟩ (by decide +kernel) ⟨Nat.le_of_ble_eq_true rfl, Nat.le_of_ble_eq_true rfl⟩ ⟨Nat.zero_le _, Nat.zero_le _⟩ rfl hl rfl (Nat.le_of_ble_eq_true rfl) dX6_seen_29 (fun r15 w13 H locs q14 hW => ?_)
        obtain ⟨qw16, rfl⟩ := q14
        rw [qw16] at hW
        refine xBne (tgt := 37) C dX6_seen_32 (by decide) (fun c32 => ?_) (fun c32 => ?_)
        · obtain ⟨k2, ha_k2, hb_k2, hx_k2⟩ := inR_N (by omega) (by omega) c4
          rw [hx_k2] at hl
          obtain ⟨k3, ha_k3, hb_k3, hx_k3⟩ := inR_N (by omega) (by omega) c32
          rw [hx_k3] at hl
          obtain ⟨b, hb⟩ : ∃ b, b = 111 + 2 * k2 := ⟨_, rfl⟩
          obtain ⟨hd, la, le, Y, hb0, hb1, hd1, hcc⟩ := XSheet_b hb (hXs.2 k2 (by omega))
          have hl4 := hlz k2 (by omega)
          have hiw : wrS ln sz s c i n = wrongS (ln k2) (sz k2) c i n := by rw [wrS, hx_k2, cl_nI (by omega)]
          refine lv_aload_n C.1 C.2.1 dX6_seen_37 rfl (lv_at hl 0 rfl) ?_
          refine xget C hK hW hinX6 rfl (by omega) hXa 7 (by decide) (List.mem_of_getElem? (i := 1) rfl) rfl dX6_seen_38 ?_
          refine lv_iload_n C.1 C.2.1 dX6_seen_41 rfl (lv_at hl 1 rfl) ?_
          refine xaldS (q := gad g b) C hK hW (by omega) hXs1 (vp_in_nI (by omega) (by decide)) (by rw [nI_clamp (by omega)]; exact sh_at (by omega) hb) dX6_seen_42 ?_
          refine lv_astore (lv' := [(6, .ref (gad g b)), (0, .ref (gad g 0)), (1, .int (nI k2)), (2, .int c), (3, .int i), (4, .int n), (5, .int (nI k3))]) C.1 C.2.1 dX6_seen_43 hl (by decide) rfl (fun ls hl => ?_)
          refine lv_aload C.1 C.2.1 dX6_seen_45 (lv_at hl 0 rfl) ?_
          refine lv_iload_n C.1 C.2.1 dX6_seen_47 rfl (lv_at hl 3 rfl) ?_
          refine lv_iload_n C.1 C.2.1 dX6_seen_48 rfl (lv_at hl 4 rfl) ?_
          refine lv_iload C.1 C.2.1 dX6_seen_49 (lv_at hl 5 rfl) ?_
          refine xcV_i (n := 3) (As := [.int c, .int i, .int n]) C hK hW (c_X4_refusal l g w b hd la le c i n hI hN (by omega) hd1 hb0) gX6_seen_X4_refusal rfl ⟨rfl, rfl⟩ (by decide +kernel) ⟨Nat.le_of_ble_eq_true rfl, Nat.le_of_ble_eq_true rfl⟩ ⟨Nat.zero_le _, Nat.zero_le _⟩ rfl (by omega) hb0 rfl hl rfl (Nat.le_of_ble_eq_true rfl) dX6_seen_51 (fun r19 w17 H locs q18 hW => ?_)
          obtain ⟨qw20, rfl⟩ := q18
          rw [qw20] at hW
          refine xtopI (b := wrongS (ln k2) (sz k2) c i n) (ref_w hcc) ?_
          refine lv_istore (lv' := [(7, .int (wrongS (ln k2) (sz k2) c i n)), (6, .ref (gad g b)), (0, .ref (gad g 0)), (1, .int (nI k2)), (2, .int c), (3, .int i), (4, .int n), (5, .int (nI k3))]) C.1 C.2.1 dX6_seen_54 hl (by decide) rfl (fun ls hl => ?_)
          refine lv_iload C.1 C.2.1 dX6_seen_56 (lv_at hl 0 rfl) ?_
          refine lv_if_eq (tgt := 64) C.1 C.2.1 dX6_seen_58 (by decide) (fun c58 => ?_) (fun c58 => ?_)
          · obtain ⟨hu1, hu2, hu3⟩ := wrong_ok c58
            obtain ⟨a, m, hx_a, hx_m, ham⟩ := isPt_nat hl4.2 hu3
            obtain ⟨hq1, hq2, hq3, hq4, hq5⟩ := hcc.resolve_left (fun h => absurd h.2 (by omega))
            rw [hx_a, hx_m] at hl
            have hm8 : m ≤ 8 := by
              have q := c22.2
              rw [hx_m] at q
              exact (nI_leI (by omega) (by decide)).mp q
            have hob2 : ∀ f, f < 7 → onF L f + backF L f ≤ 10 := fun f hf => onF_back L f
            have hp := p10 (k := m) (by omega)
            refine lv_aload_n C.1 C.2.1 dX6_seen_64 rfl (lv_at hl 2 rfl) ?_
            refine xget C hK hW hinX6 rfl (by omega) hXa 3 (by decide) (List.mem_of_getElem? (i := 2) rfl) rfl dX6_seen_65 ?_
            refine lv_aload_n C.1 C.2.1 dX6_seen_68 rfl (lv_at hl 2 rfl) ?_
            refine xget C hK hW hinX6 rfl (by omega) hXa 0 (by decide) (List.mem_of_getElem? (i := 3) rfl) rfl dX6_seen_69 ?_
            refine xcV_v (n := 1) (As := [.ref (gad g 1)]) C hK hW (c_X5_learn l g w 1 wh al (nI (L 40)) (nI (L 24)) L on bk hI hN (by omega) hok hw0 hw1 hw2 hG) gX6_seen_X5_learn rfl ⟨rfl, rfl⟩ (by decide +kernel) ⟨Nat.le_of_ble_eq_true rfl, Nat.le_of_ble_eq_true rfl⟩ ⟨Nat.zero_le _, Nat.zero_le _⟩ rfl (by omega) hw0 rfl hl rfl (Nat.le_of_ble_eq_true rfl) dX6_seen_72 (fun w21 H locs q22 hW => ?_)
            obtain ⟨h24, h25, h26, f27⟩ := q22
            refine lv_iload C.1 C.2.1 dX6_seen_75 (lv_at hl 7 rfl) ?_
            refine lv_iconst (v := (nI 2)) C.1 C.2.1 dX6_seen_77 (by decide) ?_
            refine xne (tgt := 91) C (by omega) (by omega) dX6_seen_78 (by decide) (fun c78 => ?_) (fun c78 => ?_)
            · refine lv_aload_n C.1 C.2.1 dX6_seen_91 rfl (lv_at hl 2 rfl) ?_
              have h28 : w21 0 = .inr (6, [.ref (gad g 1), .ref (gad g 34), .ref (gad g 67), .ref (gad g 100), .ref (gad g 106), .ref (gad g 107), .ref (gad g 108), .ref (gad g 110), .int (nI hk)]) := ((f27 0 (by omega)).trans hXa)
              refine xget C hK hW hinX6 rfl (by omega) h28 4 (by decide) (List.mem_of_getElem? (i := 4) rfl) rfl dX6_seen_92 ?_
              refine lv_aload_n C.1 C.2.1 dX6_seen_95 rfl (lv_at hl 2 rfl) ?_
              refine lv_aload_n C.1 C.2.1 dX6_seen_96 rfl (lv_at hl 2 rfl) ?_
              refine xget C hK hW hinX6 rfl (by omega) h28 0 (by decide) (List.mem_of_getElem? (i := 3) rfl) rfl dX6_seen_97 ?_
              have h29 : GAt g 1 (nI (L 40)) (nI (L 24)) L w21 := (GAt.fr hG (fun j h1 h2 => f27 j (by omega)))
              refine xget C hK hW hinX1 rfl (by omega) h29.1 1 (by decide) (List.mem_of_getElem? (i := 5) rfl) rfl dX6_seen_100 ?_
              refine xget C hK hW hinX2 rfl (by omega) h29.2.2.1 0 (by decide) (List.mem_of_getElem? (i := 6) rfl) rfl dX6_seen_103 ?_
              refine lv_aload C.1 C.2.1 dX6_seen_106 (lv_at hl 1 rfl) ?_
              refine lv_iload_n C.1 C.2.1 dX6_seen_108 rfl (lv_at hl 5 rfl) ?_
              refine lv_iload C.1 C.2.1 dX6_seen_109 (lv_at hl 6 rfl) ?_
              have h30 : w21 b = .inr (4, [.int (nI hd), .int (nI la), .int (nI le), .ref (gad g (b + 1))]) := ((f27 b (by omega)).trans hb0)
              have h31 : w21 (b + 1) = .inl (gJ g, 24, .inr (.inl (kK 0 24 (24 * k2) Y))) := ((f27 (b + 1) (by omega)).trans hb1)
              refine xcV_l (n := 4) (As := [.int (nI (L 2)), .ref (gad g b), .int (nI a), .int (nI m)]) C hK hW (c_X6_weightOf l g w21 b (24 * k2) hd la le a m hk (L 2) 10 al (onF L) (backF L) Y hI hN (by omega) (by omega) (by omega) (by omega) hob2 h28 h24 h25 h26 h30 h31) gX6_seen_X6_weightOf rfl ⟨rfl, rfl⟩ (by decide +kernel) ⟨Nat.le_of_ble_eq_true rfl, Nat.le_of_ble_eq_true rfl⟩ ⟨Nat.zero_le _, Nat.zero_le _⟩ rfl (by omega) h28 rfl hl rfl (Nat.le_of_ble_eq_true rfl) dX6_seen_111 (fun r34 w32 H locs q33 hW => ?_)
              obtain ⟨qw35, rfl⟩ := q33
              rw [qw35] at hW
              have hwb : wgA (onF L) (backF L) 10 (nI (L 2)) (seq8 Y (24 * k2) a) m ≤ 100000000 := wgA_b hob2 (by decide) hm8
              refine lv_ldc2 (v := (lN 10)) C.1 C.2.1 C.2.2.2.1 (C.2.2.2.2 _ (List.mem_of_getElem? (i := 7) rfl)) dX6_seen_114 ?_
              refine lv_iload C.1 C.2.1 dX6_seen_117 (lv_at hl 6 rfl) ?_
              refine xcS_l (n := 2) (As := [.long (lN 10), .int (nI m)]) C hK hW (c_X6_power l g w21 10 m hI hN (by omega)) gX6_seen_X6_power rfl ⟨rfl, rfl⟩ (by decide +kernel) ⟨Nat.le_of_ble_eq_true rfl, Nat.le_of_ble_eq_true rfl⟩ ⟨Nat.zero_le _, Nat.zero_le _⟩ rfl hl rfl (Nat.le_of_ble_eq_true rfl) dX6_seen_119 (fun r38 w36 H locs q37 hW => ?_)
              obtain ⟨qw39, rfl⟩ := q37
              rw [qw39] at hW
              have h40 : w21 106 = .inr (0, [.long (lN fa), .long (lN fb)]) := ((f27 106 (by omega)).trans hf6)
              refine xcV_v (n := 2) (As := [.long (lN (wgA (onF L) (backF L) 10 (nI (L 2)) (seq8 Y (24 * k2) a) m)), .long (lN (10 ^ m))]) C hK hW (c_X0_become l g w21 106 (wgA (onF L) (backF L) 10 (nI (L 2)) (seq8 Y (24 * k2) a) m) (10 ^ m) (lN fa) (lN fb) hI hN (by omega) (by omega) (by omega) (by omega) h40) gX6_seen_X0_become rfl ⟨rfl, rfl⟩ (by decide +kernel) ⟨Nat.le_of_ble_eq_true rfl, Nat.le_of_ble_eq_true rfl⟩ ⟨Nat.zero_le _, Nat.zero_le _⟩ rfl (by omega) h40 rfl hl rfl (Nat.le_of_ble_eq_true rfl) dX6_seen_122 (fun w41 H locs q42 hW => ?_)
              obtain ⟨h44, f45⟩ := q42
              refine lv_aload_n C.1 C.2.1 dX6_seen_125 rfl (lv_at hl 2 rfl) ?_
              have h46 : w41 0 = .inr (6, [.ref (gad g 1), .ref (gad g 34), .ref (gad g 67), .ref (gad g 100), .ref (gad g 106), .ref (gad g 107), .ref (gad g 108), .ref (gad g 110), .int (nI hk)]) := ((f45 0 (by omega)).trans h28)
              refine xget C hK hW hinX6 rfl (by omega) h46 4 (by decide) (List.mem_of_getElem? (i := 4) rfl) rfl dX6_seen_126 ?_
              refine lv_iload C.1 C.2.1 dX6_seen_129 (lv_at hl 7 rfl) ?_
              refine xcV_l (n := 1) (As := [.int (nI k3)]) C hK hW (c_X0_told l g w41 106 k3 (redU (wgA (onF L) (backF L) 10 (nI (L 2)) (seq8 Y (24 * k2) a) m) (10 ^ m)) (redD (wgA (onF L) (backF L) 10 (nI (L 2)) (seq8 Y (24 * k2) a) m) (10 ^ m)) hI hN (by omega) (by omega) h44) gX6_seen_X0_told rfl ⟨rfl, rfl⟩ (by decide +kernel) ⟨Nat.le_of_ble_eq_true rfl, Nat.le_of_ble_eq_true rfl⟩ ⟨Nat.zero_le _, Nat.zero_le _⟩ rfl (by omega) h44 rfl hl rfl (Nat.le_of_ble_eq_true rfl) dX6_seen_131 (fun r49 w47 H locs q48 hW => ?_)
              obtain ⟨qw50, rfl⟩ := q48
              rw [qw50] at hW
              refine xl2i C dX6_seen_134 ?_
              have h51 : XLand g 1 L w41 := (XLand.fr (XLand.fr hXl (fun j h1 h2 => f27 j (by omega))) (fun j h1 h2 => f45 j (by omega)))
              have h52 : XKept g hk K w41 := (XKept.fr (XKept.fr hXk (fun j h1 h2 => f27 j (by omega))) (fun j h1 h2 => f45 j (by omega)))
              have h53 : XTrial g  w41 := (XTrial.fr (XTrial.fr hXt (fun j h1 h2 => f27 j (by omega))) (fun j h1 h2 => f45 j (by omega)))
              have h54 : w41 100 = .inr (5, [.ref (gad g 101), .ref (gad g 102), .int (nI 10), .ref (gad g 103), .ref (gad g 104), .long (lN al), .ref (gad g 105)]) := ((f45 100 (by omega)).trans h24)
              have h55 : w41 101 = .inl (gI g, 7, .inl (cK 7 0 (onF L))) := ((f45 101 (by omega)).trans h25)
              have h56 : w41 102 = .inl (gI g, 7, .inl (cK 7 0 (backF L))) := ((f45 102 (by omega)).trans h26)
              have h57 : w41 103 = .inl (gJ g, 7, .inr (.inl (cL 7 0 O))) := ((f45 103 (by omega)).trans ((f27 103 (by omega)).trans hw3))
              have h58 : w41 104 = .inl (gJ g, 7, .inr (.inl (cL 7 0 A))) := ((f45 104 (by omega)).trans ((f27 104 (by omega)).trans hw4))
              have h59 : w41 105 = .inr (0, [.long (lN sa), .long (lN sb)]) := ((f45 105 (by omega)).trans ((f27 105 (by omega)).trans hw5))
              have h60 : w41 107 = .inr (0, [.long (lN fc), .long (lN fd)]) := ((f45 107 (by omega)).trans ((f27 107 (by omega)).trans hf7))
              have h61 : XRead g tn T w41 := (XRead.fr (XRead.fr hXr (fun j h1 h2 => f27 j (by omega))) (fun j h1 h2 => f45 j (by omega)))
              have h62 : XShs g ln sz Z w41 := (XShs.fr (XShs.fr hXs (fun j h1 h2 => f27 j (by omega))) (fun j h1 h2 => f45 j (by omega)))
              exact xret_i C hr hlk hW ⟨⟨h46, h51, h52, h53, ⟨_, _, _, _, _, _, _, _, h54, h55, h56, h57, h58, h59⟩, ⟨_, _, _, _, h44, h60⟩, h61, h62⟩, (fun j z0 => ((f45 j (by omega)).trans (f27 j (by omega)))), (by rw [seenS, if_pos (c := okSe s c n z) ⟨⟨c4, c11⟩, c22, c32⟩, hiw, if_pos c58, hx_k2, hx_a, hx_m, hx_k3, cl_nI (by omega), cl_nI (by omega), cl_nI (by omega), cl_nI (by omega), if_neg (c := k3 = 2) (by omega), waW, ← wgA_congr (q := seq8 Y (24 * k2) a) (q' := seq8 Z (24 * k2) a) (fun d hd => hq5 (a + d) (by omega))])⟩ dX6_seen_135
            · refine lv_aload_n C.1 C.2.1 dX6_seen_81 rfl (lv_at hl 2 rfl) ?_
              refine lv_aload C.1 C.2.1 dX6_seen_82 (lv_at hl 1 rfl) ?_
              refine lv_iload_n C.1 C.2.1 dX6_seen_84 rfl (lv_at hl 5 rfl) ?_
              refine lv_iload C.1 C.2.1 dX6_seen_85 (lv_at hl 6 rfl) ?_
              have h63 : w21 0 = .inr (6, [.ref (gad g 1), .ref (gad g 34), .ref (gad g 67), .ref (gad g 100), .ref (gad g 106), .ref (gad g 107), .ref (gad g 108), .ref (gad g 110), .int (nI hk)]) := ((f27 0 (by omega)).trans hXa)
              have h64 : w21 b = .inr (4, [.int (nI hd), .int (nI la), .int (nI le), .ref (gad g (b + 1))]) := ((f27 b (by omega)).trans hb0)
              have h65 : w21 (b + 1) = .inl (gJ g, 24, .inr (.inl (kK 0 24 (24 * k2) Y))) := ((f27 (b + 1) (by omega)).trans hb1)
              refine xcV_i (n := 3) (As := [.ref (gad g b), .int (nI a), .int (nI m)]) C hK hW (c_X6_fieldsBefore l g w21 b (24 * k2) hd la le a m hk 10 al (onF L) (backF L) Y hI hN (by omega) (by omega) (by omega) (by omega) hob2 h63 h24 h25 h26 h64 h65) gX6_seen_X6_fieldsBefore rfl ⟨rfl, rfl⟩ (by decide +kernel) ⟨Nat.le_of_ble_eq_true rfl, Nat.le_of_ble_eq_true rfl⟩ ⟨Nat.zero_le _, Nat.zero_le _⟩ rfl (by omega) h63 rfl hl rfl (Nat.le_of_ble_eq_true rfl) dX6_seen_87 (fun r68 w66 H locs q67 hW => ?_)
              obtain ⟨qw69, rfl⟩ := q67
              rw [qw69] at hW
              have h70 : XLand g 1 L w21 := (XLand.fr hXl (fun j h1 h2 => f27 j (by omega)))
              have h71 : XKept g hk K w21 := (XKept.fr hXk (fun j h1 h2 => f27 j (by omega)))
              have h72 : XTrial g  w21 := (XTrial.fr hXt (fun j h1 h2 => f27 j (by omega)))
              have h73 : w21 103 = .inl (gJ g, 7, .inr (.inl (cL 7 0 O))) := ((f27 103 (by omega)).trans hw3)
              have h74 : w21 104 = .inl (gJ g, 7, .inr (.inl (cL 7 0 A))) := ((f27 104 (by omega)).trans hw4)
              have h75 : w21 105 = .inr (0, [.long (lN sa), .long (lN sb)]) := ((f27 105 (by omega)).trans hw5)
              have h76 : w21 106 = .inr (0, [.long (lN fa), .long (lN fb)]) := ((f27 106 (by omega)).trans hf6)
              have h77 : w21 107 = .inr (0, [.long (lN fc), .long (lN fd)]) := ((f27 107 (by omega)).trans hf7)
              have h78 : XRead g tn T w21 := (XRead.fr hXr (fun j h1 h2 => f27 j (by omega)))
              have h79 : XShs g ln sz Z w21 := (XShs.fr hXs (fun j h1 h2 => f27 j (by omega)))
              exact xret_i C hr hlk hW ⟨⟨h63, h70, h71, h72, ⟨_, _, _, _, _, _, _, _, h24, h25, h26, h73, h74, h75⟩, ⟨_, _, _, _, h76, h77⟩, h78, h79⟩, (fun j z0 => (f27 j (by omega))), (by rw [seenS, if_pos (c := okSe s c n z) ⟨⟨c4, c11⟩, c22, c32⟩, hiw, if_pos c58, hx_k2, hx_a, hx_m, hx_k3, cl_nI (by omega), cl_nI (by omega), cl_nI (by omega), cl_nI (by omega), if_pos (c := k3 = 2) (by omega)]; exact setF_congr (fun f hf => by rw [waW, wgA_congr (fun d hd => hq5 (a + d) (by omega))]))⟩ dX6_seen_90
          · refine lv_iload C.1 C.2.1 dX6_seen_61 (lv_at hl 0 rfl) ?_
            exact xret_i C hr hlk hW ⟨⟨hXa, hXl, hXk, hXt, ⟨_, _, _, _, _, _, _, _, hw0, hw1, hw2, hw3, hw4, hw5⟩, ⟨_, _, _, _, hf6, hf7⟩, hXr, hXs⟩, (fun j z0 => rfl), (by rw [seenS, if_pos (c := okSe s c n z) ⟨⟨c4, c11⟩, c22, c32⟩, hiw, if_neg c58])⟩ dX6_seen_63
        · refine lv_iconst (v := (-1 : Int32)) C.1 C.2.1 dX6_seen_35 (by decide) ?_
          exact xret_i C hr hlk hW ⟨⟨hXa, hXl, hXk, hXt, ⟨_, _, _, _, _, _, _, _, hw0, hw1, hw2, hw3, hw4, hw5⟩, ⟨_, _, _, _, hf6, hf7⟩, hXr, hXs⟩, (fun j z0 => rfl), (by rw [seenS, if_neg (c := okSe s c n z) (fun h => c32 h.2.2)])⟩ dX6_seen_36
