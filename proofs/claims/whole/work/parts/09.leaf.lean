set_option maxHeartbeats 4000000 in
set_option maxRecDepth 100000 in
theorem c_X6_isWithin (l : Launch) (g : GE) (w : Nat → va_E) (x a b : Int32) (hI : AdInj g) (hN : gN g = 130) : Met l yX6_isWithin wsX6_isWithin ({ frames := 0, cells := 0, slots := 0, locals := 0 } : Room) (XPc g w [.int x, .int a, .int b]) (XQi g (fun r w' => w' = w ∧ r = (bI (inR x a b)))) 0 0 (gA g) := by
  refine xmet (cc := cX6_isWithin) (maxL := 3) (ret := (some .boolean)) (by decide) rfl hI (Nat.le_of_ble_eq_true rfl) ?_
  intro pG eG sG mG belowG methG cG ls C hr hlk hK hW hl
  have hl : lv_has ls 3 [(0, .int x), (1, .int a), (2, .int b)] := hl
  refine lv_iload_n C.1 C.2.1 dX6_isWithin_0 rfl (lv_at hl 0 rfl) ?_
  refine lv_iload_n C.1 C.2.1 dX6_isWithin_1 rfl (lv_at hl 1 rfl) ?_
  refine lv_icmp_lt (tgt := 14) C.1 C.2.1 dX6_isWithin_2 (by decide) (fun c2 => ?_) (fun c2 => ?_)
  · refine lv_iconst (v := (nI 0)) C.1 C.2.1 dX6_isWithin_14 (by decide) ?_
    exact xret_z C hr hlk hW rfl ⟨rfl, in_f1 c2⟩ dX6_isWithin_15
  · refine lv_iload_n C.1 C.2.1 dX6_isWithin_5 rfl (lv_at hl 0 rfl) ?_
    refine lv_iload_n C.1 C.2.1 dX6_isWithin_6 rfl (lv_at hl 2 rfl) ?_
    refine lv_icmp_gt (tgt := 14) C.1 C.2.1 dX6_isWithin_7 (by decide) (fun c7 => ?_) (fun c7 => ?_)
    · refine lv_iconst (v := (nI 0)) C.1 C.2.1 dX6_isWithin_14 (by decide) ?_
      exact xret_z C hr hlk hW rfl ⟨rfl, in_f2 c7⟩ dX6_isWithin_15
    · refine lv_iconst (v := (nI 1)) C.1 C.2.1 dX6_isWithin_10 (by decide) ?_
      refine lv_goto (tgt := 15) C.1 C.2.1 dX6_isWithin_11 (by decide) ?_
      exact xret_z C hr hlk hW rfl ⟨rfl, in_t c2 c7⟩ dX6_isWithin_15

set_option maxHeartbeats 4000000 in
set_option maxRecDepth 100000 in
theorem c_X7_in (l : Launch) (g : GE) (w : Nat → va_E) (x a b : Int32) (hI : AdInj g) (hN : gN g = 130) : Met l yX7_in wsX7_in ({ frames := 0, cells := 0, slots := 0, locals := 0 } : Room) (XPc g w [.int x, .int a, .int b]) (XQi g (fun r w' => w' = w ∧ r = (bI (inR x a b)))) 0 0 (gA g) := by
  refine xmet (cc := cX7_in) (maxL := 3) (ret := (some .boolean)) (by decide) rfl hI (Nat.le_of_ble_eq_true rfl) ?_
  intro pG eG sG mG belowG methG cG ls C hr hlk hK hW hl
  have hl : lv_has ls 3 [(0, .int x), (1, .int a), (2, .int b)] := hl
  refine lv_iload_n C.1 C.2.1 dX7_in_0 rfl (lv_at hl 0 rfl) ?_
  refine lv_iload_n C.1 C.2.1 dX7_in_1 rfl (lv_at hl 1 rfl) ?_
  refine lv_icmp_lt (tgt := 14) C.1 C.2.1 dX7_in_2 (by decide) (fun c2 => ?_) (fun c2 => ?_)
  · refine lv_iconst (v := (nI 0)) C.1 C.2.1 dX7_in_14 (by decide) ?_
    exact xret_z C hr hlk hW rfl ⟨rfl, in_f1 c2⟩ dX7_in_15
  · refine lv_iload_n C.1 C.2.1 dX7_in_5 rfl (lv_at hl 0 rfl) ?_
    refine lv_iload_n C.1 C.2.1 dX7_in_6 rfl (lv_at hl 2 rfl) ?_
    refine lv_icmp_gt (tgt := 14) C.1 C.2.1 dX7_in_7 (by decide) (fun c7 => ?_) (fun c7 => ?_)
    · refine lv_iconst (v := (nI 0)) C.1 C.2.1 dX7_in_14 (by decide) ?_
      exact xret_z C hr hlk hW rfl ⟨rfl, in_f2 c7⟩ dX7_in_15
    · refine lv_iconst (v := (nI 1)) C.1 C.2.1 dX7_in_10 (by decide) ?_
      refine lv_goto (tgt := 15) C.1 C.2.1 dX7_in_11 (by decide) ?_
      exact xret_z C hr hlk hW rfl ⟨rfl, in_t c2 c7⟩ dX7_in_15

set_option maxHeartbeats 4000000 in
set_option maxRecDepth 100000 in
theorem c_X6_isField (l : Launch) (g : GE) (w : Nat → va_E) (x : Int32) (hI : AdInj g) (hN : gN g = 130) : Met l yX6_isField wsX6_isField ({ frames := 1, cells := 0, slots := 0, locals := 22 } : Room) (XPc g w [.int x]) (XQi g (fun r w' => w' = w ∧ r = (bI (inR x (nI 0) (nI 6))))) 0 0 (gA g) := by
  refine xmet (cc := cX6_isField) (maxL := 1) (ret := (some .boolean)) (by decide) rfl hI (Nat.le_of_ble_eq_true rfl) ?_
  intro pG eG sG mG belowG methG cG ls C hr hlk hK hW hl
  have hl : lv_has ls 1 [(0, .int x)] := hl
  refine lv_iload_n C.1 C.2.1 dX6_isField_0 rfl (lv_at hl 0 rfl) ?_
  refine lv_iconst (v := (nI 0)) C.1 C.2.1 dX6_isField_1 (by decide) ?_
  refine lv_bipush (v := (nI 6)) C.1 C.2.1 dX6_isField_2 (by decide) ?_
  refine xcS_i (n := 3) (As := [.int x, .int (nI 0), .int (nI 6)]) C hK hW (c_X6_isWithin l g w x (nI 0) (nI 6) hI hN) gX6_isField_X6_isWithin rfl ⟨rfl, rfl⟩ (by decide +kernel) ⟨Nat.le_of_ble_eq_true rfl, Nat.le_of_ble_eq_true rfl⟩ ⟨Nat.zero_le _, Nat.zero_le _⟩ rfl hl rfl (Nat.le_of_ble_eq_true rfl) dX6_isField_4 (fun r3 w1 H locs q2 hW => ?_)
  obtain ⟨qw4, rfl⟩ := q2
  rw [qw4] at hW
  exact xret_z C hr hlk hW bI_nar ⟨rfl, rfl⟩ dX6_isField_7

set_option maxHeartbeats 4000000 in
set_option maxRecDepth 100000 in
theorem c_X6_isForetold (l : Launch) (g : GE) (w : Nat → va_E) (x : Int32) (hI : AdInj g) (hN : gN g = 130) : Met l yX6_isForetold wsX6_isForetold ({ frames := 1, cells := 0, slots := 0, locals := 22 } : Room) (XPc g w [.int x]) (XQi g (fun r w' => w' = w ∧ r = (bI (inR x (nI 0) (nI 9))))) 0 0 (gA g) := by
  refine xmet (cc := cX6_isForetold) (maxL := 1) (ret := (some .boolean)) (by decide) rfl hI (Nat.le_of_ble_eq_true rfl) ?_
  intro pG eG sG mG belowG methG cG ls C hr hlk hK hW hl
  have hl : lv_has ls 1 [(0, .int x)] := hl
  refine lv_iload_n C.1 C.2.1 dX6_isForetold_0 rfl (lv_at hl 0 rfl) ?_
  refine lv_iconst (v := (nI 0)) C.1 C.2.1 dX6_isForetold_1 (by decide) ?_
  refine lv_bipush (v := (nI 9)) C.1 C.2.1 dX6_isForetold_2 (by decide) ?_
  refine xcS_i (n := 3) (As := [.int x, .int (nI 0), .int (nI 9)]) C hK hW (c_X6_isWithin l g w x (nI 0) (nI 9) hI hN) gX6_isForetold_X6_isWithin rfl ⟨rfl, rfl⟩ (by decide +kernel) ⟨Nat.le_of_ble_eq_true rfl, Nat.le_of_ble_eq_true rfl⟩ ⟨Nat.zero_le _, Nat.zero_le _⟩ rfl hl rfl (Nat.le_of_ble_eq_true rfl) dX6_isForetold_4 (fun r3 w1 H locs q2 hW => ?_)
  obtain ⟨qw4, rfl⟩ := q2
  rw [qw4] at hW
  exact xret_z C hr hlk hW bI_nar ⟨rfl, rfl⟩ dX6_isForetold_7

set_option maxHeartbeats 4000000 in
set_option maxRecDepth 100000 in
theorem c_X6_isSheet (l : Launch) (g : GE) (w : Nat → va_E) (x : Int32) (hI : AdInj g) (hN : gN g = 130) : Met l yX6_isSheet wsX6_isSheet ({ frames := 1, cells := 0, slots := 0, locals := 22 } : Room) (XPc g w [.int x]) (XQi g (fun r w' => w' = w ∧ r = (bI (inR x (nI 0) (nI 3))))) 0 0 (gA g) := by
  refine xmet (cc := cX6_isSheet) (maxL := 1) (ret := (some .boolean)) (by decide) rfl hI (Nat.le_of_ble_eq_true rfl) ?_
  intro pG eG sG mG belowG methG cG ls C hr hlk hK hW hl
  have hl : lv_has ls 1 [(0, .int x)] := hl
  refine lv_iload_n C.1 C.2.1 dX6_isSheet_0 rfl (lv_at hl 0 rfl) ?_
  refine lv_iconst (v := (nI 0)) C.1 C.2.1 dX6_isSheet_1 (by decide) ?_
  refine lv_iconst (v := (nI 3)) C.1 C.2.1 dX6_isSheet_2 (by decide) ?_
  refine xcS_i (n := 3) (As := [.int x, .int (nI 0), .int (nI 3)]) C hK hW (c_X6_isWithin l g w x (nI 0) (nI 3) hI hN) gX6_isSheet_X6_isWithin rfl ⟨rfl, rfl⟩ (by decide +kernel) ⟨Nat.le_of_ble_eq_true rfl, Nat.le_of_ble_eq_true rfl⟩ ⟨Nat.zero_le _, Nat.zero_le _⟩ rfl hl rfl (Nat.le_of_ble_eq_true rfl) dX6_isSheet_3 (fun r3 w1 H locs q2 hW => ?_)
  obtain ⟨qw4, rfl⟩ := q2
  rw [qw4] at hW
  exact xret_z C hr hlk hW bI_nar ⟨rfl, rfl⟩ dX6_isSheet_6

set_option maxHeartbeats 4000000 in
set_option maxRecDepth 100000 in
theorem c_X6_isLane (l : Launch) (g : GE) (w : Nat → va_E) (x : Int32) (hI : AdInj g) (hN : gN g = 130) : Met l yX6_isLane wsX6_isLane ({ frames := 1, cells := 0, slots := 0, locals := 22 } : Room) (XPc g w [.int x]) (XQi g (fun r w' => w' = w ∧ r = (bI (inR x (nI 0) (nI 3))))) 0 0 (gA g) := by
  refine xmet (cc := cX6_isLane) (maxL := 1) (ret := (some .boolean)) (by decide) rfl hI (Nat.le_of_ble_eq_true rfl) ?_
  intro pG eG sG mG belowG methG cG ls C hr hlk hK hW hl
  have hl : lv_has ls 1 [(0, .int x)] := hl
  refine lv_iload_n C.1 C.2.1 dX6_isLane_0 rfl (lv_at hl 0 rfl) ?_
  refine lv_iconst (v := (nI 0)) C.1 C.2.1 dX6_isLane_1 (by decide) ?_
  refine lv_iconst (v := (nI 3)) C.1 C.2.1 dX6_isLane_2 (by decide) ?_
  refine xcS_i (n := 3) (As := [.int x, .int (nI 0), .int (nI 3)]) C hK hW (c_X6_isWithin l g w x (nI 0) (nI 3) hI hN) gX6_isLane_X6_isWithin rfl ⟨rfl, rfl⟩ (by decide +kernel) ⟨Nat.le_of_ble_eq_true rfl, Nat.le_of_ble_eq_true rfl⟩ ⟨Nat.zero_le _, Nat.zero_le _⟩ rfl hl rfl (Nat.le_of_ble_eq_true rfl) dX6_isLane_3 (fun r3 w1 H locs q2 hW => ?_)
  obtain ⟨qw4, rfl⟩ := q2
  rw [qw4] at hW
  exact xret_z C hr hlk hW bI_nar ⟨rfl, rfl⟩ dX6_isLane_6

set_option maxHeartbeats 4000000 in
set_option maxRecDepth 100000 in
theorem c_X7_isField (l : Launch) (g : GE) (w : Nat → va_E) (x : Int32) (hI : AdInj g) (hN : gN g = 130) : Met l yX7_isField wsX7_isField ({ frames := 1, cells := 0, slots := 0, locals := 22 } : Room) (XPc g w [.int x]) (XQi g (fun r w' => w' = w ∧ r = (bI (inR x (nI 0) (nI 6))))) 0 0 (gA g) := by
  refine xmet (cc := cX7_isField) (maxL := 1) (ret := (some .boolean)) (by decide) rfl hI (Nat.le_of_ble_eq_true rfl) ?_
  intro pG eG sG mG belowG methG cG ls C hr hlk hK hW hl
  have hl : lv_has ls 1 [(0, .int x)] := hl
  refine lv_iload_n C.1 C.2.1 dX7_isField_0 rfl (lv_at hl 0 rfl) ?_
  refine lv_iconst (v := (nI 0)) C.1 C.2.1 dX7_isField_1 (by decide) ?_
  refine lv_bipush (v := (nI 6)) C.1 C.2.1 dX7_isField_2 (by decide) ?_
  refine xcS_i (n := 3) (As := [.int x, .int (nI 0), .int (nI 6)]) C hK hW (c_X7_in l g w x (nI 0) (nI 6) hI hN) gX7_isField_X7_in rfl ⟨rfl, rfl⟩ (by decide +kernel) ⟨Nat.le_of_ble_eq_true rfl, Nat.le_of_ble_eq_true rfl⟩ ⟨Nat.zero_le _, Nat.zero_le _⟩ rfl hl rfl (Nat.le_of_ble_eq_true rfl) dX7_isField_4 (fun r3 w1 H locs q2 hW => ?_)
  obtain ⟨qw4, rfl⟩ := q2
  rw [qw4] at hW
  exact xret_z C hr hlk hW bI_nar ⟨rfl, rfl⟩ dX7_isField_7

set_option maxHeartbeats 4000000 in
set_option maxRecDepth 100000 in
theorem c_X7_isSheet (l : Launch) (g : GE) (w : Nat → va_E) (x : Int32) (hI : AdInj g) (hN : gN g = 130) : Met l yX7_isSheet wsX7_isSheet ({ frames := 1, cells := 0, slots := 0, locals := 22 } : Room) (XPc g w [.int x]) (XQi g (fun r w' => w' = w ∧ r = (bI (inR x (nI 0) (nI 3))))) 0 0 (gA g) := by
  refine xmet (cc := cX7_isSheet) (maxL := 1) (ret := (some .boolean)) (by decide) rfl hI (Nat.le_of_ble_eq_true rfl) ?_
  intro pG eG sG mG belowG methG cG ls C hr hlk hK hW hl
  have hl : lv_has ls 1 [(0, .int x)] := hl
  refine lv_iload_n C.1 C.2.1 dX7_isSheet_0 rfl (lv_at hl 0 rfl) ?_
  refine lv_iconst (v := (nI 0)) C.1 C.2.1 dX7_isSheet_1 (by decide) ?_
  refine lv_iconst (v := (nI 3)) C.1 C.2.1 dX7_isSheet_2 (by decide) ?_
  refine xcS_i (n := 3) (As := [.int x, .int (nI 0), .int (nI 3)]) C hK hW (c_X7_in l g w x (nI 0) (nI 3) hI hN) gX7_isSheet_X7_in rfl ⟨rfl, rfl⟩ (by decide +kernel) ⟨Nat.le_of_ble_eq_true rfl, Nat.le_of_ble_eq_true rfl⟩ ⟨Nat.zero_le _, Nat.zero_le _⟩ rfl hl rfl (Nat.le_of_ble_eq_true rfl) dX7_isSheet_3 (fun r3 w1 H locs q2 hW => ?_)
  obtain ⟨qw4, rfl⟩ := q2
  rw [qw4] at hW
  exact xret_z C hr hlk hW bI_nar ⟨rfl, rfl⟩ dX7_isSheet_6

set_option maxHeartbeats 4000000 in
set_option maxRecDepth 100000 in
theorem c_X1_onFromClover (l : Launch) (g : GE) (w : Nat → va_E) (n : Nat) (hI : AdInj g) (hN : gN g = 130) (hn : n ≤ 9) : Met l yX1_onFromClover wsX1_onFromClover ({ frames := 0, cells := 0, slots := 0, locals := 0 } : Room) (XPc g w [.int (nI n)]) (XQi g (fun r w' => w' = w ∧ r = (nI (5 - n / 2)))) 0 0 (gA g) := by
  refine xmet (cc := cX1_onFromClover) (maxL := 1) (ret := (some .int)) (by decide) rfl hI (Nat.le_of_ble_eq_true rfl) ?_
  intro pG eG sG mG belowG methG cG ls C hr hlk hK hW hl
  have hl : lv_has ls 1 [(0, .int (nI n))] := hl
  refine lv_iconst (v := (nI 5)) C.1 C.2.1 dX1_onFromClover_0 (by decide) ?_
  refine lv_iload_n C.1 C.2.1 dX1_onFromClover_1 rfl (lv_at hl 0 rfl) ?_
  refine lv_iconst (v := (nI 2)) C.1 C.2.1 dX1_onFromClover_2 (by decide) ?_
  refine xdiv C (by omega) (by omega) (by omega) dX1_onFromClover_3 ?_
  refine xsub C (by omega) dX1_onFromClover_4 ?_
  exact xret_i C hr hlk hW ⟨rfl, rfl⟩ dX1_onFromClover_5

set_option maxHeartbeats 4000000 in
set_option maxRecDepth 100000 in
theorem c_X1_onFromStubble (l : Launch) (g : GE) (w : Nat → va_E) (n : Nat) (hI : AdInj g) (hN : gN g = 130) (hn : n ≤ 9) : Met l yX1_onFromStubble wsX1_onFromStubble ({ frames := 0, cells := 0, slots := 0, locals := 0 } : Room) (XPc g w [.int (nI n)]) (XQi g (fun r w' => w' = w ∧ r = (nI (if n = 0 then 7 else 5)))) 0 0 (gA g) := by
  refine xmet (cc := cX1_onFromStubble) (maxL := 1) (ret := (some .int)) (by decide) rfl hI (Nat.le_of_ble_eq_true rfl) ?_
  intro pG eG sG mG belowG methG cG ls C hr hlk hK hW hl
  have hl : lv_has ls 1 [(0, .int (nI n))] := hl
  refine lv_iconst (v := (nI 5)) C.1 C.2.1 dX1_onFromStubble_0 (by decide) ?_
  refine lv_iload_n C.1 C.2.1 dX1_onFromStubble_1 rfl (lv_at hl 0 rfl) ?_
  refine x0ne (tgt := 9) C (by omega) dX1_onFromStubble_2 (by decide) (fun c2 => ?_) (fun c2 => ?_)
  · refine lv_iconst (v := (nI 0)) C.1 C.2.1 dX1_onFromStubble_9 (by decide) ?_
    refine xadd C dX1_onFromStubble_10 ?_
    exact xret_i C hr hlk hW ⟨rfl, by rw [if_neg c2]⟩ dX1_onFromStubble_11
  · refine lv_iconst (v := (nI 2)) C.1 C.2.1 dX1_onFromStubble_5 (by decide) ?_
    refine lv_goto (tgt := 10) C.1 C.2.1 dX1_onFromStubble_6 (by decide) ?_
    refine xadd C dX1_onFromStubble_10 ?_
    exact xret_i C hr hlk hW ⟨rfl, by rw [if_pos c2]⟩ dX1_onFromStubble_11

set_option maxHeartbeats 4000000 in
set_option maxRecDepth 100000 in
theorem c_X1_onFrom (l : Launch) (g : GE) (w : Nat → va_E) (b f : Nat) (x y : Int32) (L : Nat → Nat) (hI : AdInj g) (hN : gN g = 130) (hb : b + 33 ≤ 119) (hf : f < 7) (hok : Okg L) (pr0 : GAt g b x y L w) : Met l yX1_onFrom wsX1_onFrom ({ frames := 1, cells := 0, slots := 0, locals := 22 } : Room) (XPc g w [.ref (gad g b), .int (nI f)]) (XQi g (fun r w' => w' = w ∧ r = (nI (onF L f)))) 0 0 (gA g) := by
  refine xmet (cc := cX1_onFrom) (maxL := 3) (ret := (some .int)) (by decide) rfl hI (Nat.le_of_ble_eq_true rfl) ?_
  intro pG eG sG mG belowG methG cG ls C hr hlk hK hW hl
  have hl : lv_has ls 3 [(0, .ref (gad g b)), (1, .int (nI f))] := hl
  have hinX1 : ∀ x ∈ u_ws RX1 TX1 8, x ∈ wsX1_onFrom := by decide +kernel
  have hinX2 : ∀ x ∈ u_ws RX2 TX2 5, x ∈ wsX1_onFrom := by decide +kernel
  have hkd := (hok f (by omega)).1
  have hfd := (hok f (by omega)).2.1
  have hhd := (hok f (by omega)).2.2
  refine lv_iload_n C.1 C.2.1 dX1_onFrom_0 rfl (lv_at hl 1 rfl) ?_
  refine lv_iconst (v := (nI 0)) C.1 C.2.1 dX1_onFrom_1 (by decide) ?_
  refine lv_iconst (v := (nI 5)) C.1 C.2.1 dX1_onFrom_2 (by decide) ?_
  refine xcN_i (n := 3) (As := [.int (nI f), .int (nI 0), .int (nI 5)]) C hK hW (c_X6_isWithin l g w (nI f) (nI 0) (nI 5) hI hN) gX1_onFrom_X6_isWithin_n42 rfl ⟨rfl, rfl⟩ hK.2.1 (List.mem_of_getElem? (i := 9) rfl) (List.mem_of_getElem? (i := 8) rfl) (by decide +kernel) ⟨Nat.le_of_ble_eq_true rfl, Nat.le_of_ble_eq_true rfl⟩ ⟨Nat.zero_le _, Nat.zero_le _⟩ rfl hl rfl (Nat.le_of_ble_eq_true rfl) dX1_onFrom_3 (fun r3 w1 H locs q2 hW => ?_)
  obtain ⟨qw4, rfl⟩ := q2
  rw [qw4] at hW
  refine xBne (tgt := 11) C dX1_onFrom_6 (by decide) (fun c6 => ?_) (fun c6 => ?_)
  · have cz : f < 6 := by
      have hz := (inR_nn (by omega) (by omega) (by omega)).mp c6
      omega
    refine lv_aload_n C.1 C.2.1 dX1_onFrom_11 rfl (lv_at hl 0 rfl) ?_
    refine xget C hK hW hinX1 rfl (by omega) pr0.1 1 (by decide) (List.mem_of_getElem? (i := 1) rfl) rfl dX1_onFrom_12 ?_
    refine xget C hK hW hinX2 rfl (by omega) pr0.2.2.1 3 (by decide) (List.mem_of_getElem? (i := 2) rfl) rfl dX1_onFrom_15 ?_
    refine lv_iload_n C.1 C.2.1 dX1_onFrom_18 rfl (lv_at hl 1 rfl) ?_
    refine xildK C hK hW (by omega) pr0.2.2.2.1 (by omega) (by decide) dX1_onFrom_19 ?_
    refine lv_istore_n (lv' := [(2, .int (nI (L (3 + f)))), (0, .ref (gad g b)), (1, .int (nI f))]) C.1 C.2.1 dX1_onFrom_20 rfl hl (by decide) rfl (fun ls hl => ?_)
    refine lv_aload_n C.1 C.2.1 dX1_onFrom_21 rfl (lv_at hl 1 rfl) ?_
    refine xget C hK hW hinX1 rfl (by omega) pr0.1 0 (by decide) (List.mem_of_getElem? (i := 3) rfl) rfl dX1_onFrom_22 ?_
    refine lv_iload_n C.1 C.2.1 dX1_onFrom_25 rfl (lv_at hl 2 rfl) ?_
    refine xildK C hK hW (by omega) pr0.2.1 (by omega) (by decide) dX1_onFrom_26 ?_
    rcases (show L (17 + f) = 0 ∨ L (17 + f) = 1 ∨ L (17 + f) = 2 ∨ L (17 + f) = 3 ∨ L (17 + f) = 4 ∨ (4 < L (17 + f)) by omega) with c5 | c5 | c5 | c5 | c5 | c5
    · refine lv_tableIn (off := 61) (tgt := 88) C.1 C.2.1 dX1_onFrom_27 (by rw [c5]; decide) (by rw [c5]; decide) (by rw [c5]; decide) (by decide) ?_
      refine lv_iconst (v := (nI 5)) C.1 C.2.1 dX1_onFrom_88 (by decide) ?_
      exact xret_i C hr hlk hW ⟨rfl, by rw [onF, if_pos cz, onv, c5]; rfl⟩ dX1_onFrom_89
    · refine lv_tableIn (off := 33) (tgt := 60) C.1 C.2.1 dX1_onFrom_27 (by rw [c5]; decide) (by rw [c5]; decide) (by rw [c5]; decide) (by decide) ?_
      refine lv_iload_n C.1 C.2.1 dX1_onFrom_60 rfl (lv_at hl 0 rfl) ?_
      refine xcS_i (n := 1) (As := [.int (nI (L (3 + f)))]) C hK hW (c_X1_onFromClover l g w (L (3 + f)) hI hN (by omega)) gX1_onFrom_X1_onFromClover rfl ⟨rfl, rfl⟩ (by decide +kernel) ⟨Nat.le_of_ble_eq_true rfl, Nat.le_of_ble_eq_true rfl⟩ ⟨Nat.zero_le _, Nat.zero_le _⟩ rfl hl rfl (Nat.le_of_ble_eq_true rfl) dX1_onFrom_61 (fun r8 w6 H locs q7 hW => ?_)
      obtain ⟨qw9, rfl⟩ := q7
      rw [qw9] at hW
      exact xret_i C hr hlk hW ⟨rfl, by rw [onF, if_pos cz, onv, c5]; rfl⟩ dX1_onFrom_64
    · refine lv_tableIn (off := 38) (tgt := 65) C.1 C.2.1 dX1_onFrom_27 (by rw [c5]; decide) (by rw [c5]; decide) (by rw [c5]; decide) (by decide) ?_
      refine lv_iload_n C.1 C.2.1 dX1_onFrom_65 rfl (lv_at hl 0 rfl) ?_
      refine xcS_i (n := 1) (As := [.int (nI (L (3 + f)))]) C hK hW (c_X1_onFromStubble l g w (L (3 + f)) hI hN (by omega)) gX1_onFrom_X1_onFromStubble rfl ⟨rfl, rfl⟩ (by decide +kernel) ⟨Nat.le_of_ble_eq_true rfl, Nat.le_of_ble_eq_true rfl⟩ ⟨Nat.zero_le _, Nat.zero_le _⟩ rfl hl rfl (Nat.le_of_ble_eq_true rfl) dX1_onFrom_66 (fun r12 w10 H locs q11 hW => ?_)
      obtain ⟨qw13, rfl⟩ := q11
      rw [qw13] at hW
      exact xret_i C hr hlk hW ⟨rfl, by rw [onF, if_pos cz, onv, c5]; rfl⟩ dX1_onFrom_69
    · refine lv_tableIn (off := 43) (tgt := 70) C.1 C.2.1 dX1_onFrom_27 (by rw [c5]; decide) (by rw [c5]; decide) (by rw [c5]; decide) (by decide) ?_
      refine lv_iconst (v := (nI 1)) C.1 C.2.1 dX1_onFrom_70 (by decide) ?_
      refine lv_iload_n C.1 C.2.1 dX1_onFrom_71 rfl (lv_at hl 0 rfl) ?_
      refine xcS_i (n := 1) (As := [.int (nI (L (3 + f)))]) C hK hW (c_X1_onFromClover l g w (L (3 + f)) hI hN (by omega)) gX1_onFrom_X1_onFromClover rfl ⟨rfl, rfl⟩ (by decide +kernel) ⟨Nat.le_of_ble_eq_true rfl, Nat.le_of_ble_eq_true rfl⟩ ⟨Nat.zero_le _, Nat.zero_le _⟩ rfl hl rfl (Nat.le_of_ble_eq_true rfl) dX1_onFrom_72 (fun r16 w14 H locs q15 hW => ?_)
      obtain ⟨qw17, rfl⟩ := q15
      rw [qw17] at hW
      refine lv_iconst (v := (nI 3)) C.1 C.2.1 dX1_onFrom_75 (by decide) ?_
      refine lv_isub C.1 C.2.1 dX1_onFrom_76 ?_
      refine xmaxE (r := max 1 (5 - L (3 + f) / 2 - 3)) C hl (gard_ok _ (by omega)) (List.mem_of_getElem? (i := 4) rfl) (List.mem_of_getElem? (i := 5) rfl) (List.mem_of_getElem? (i := 6) rfl) (List.mem_of_getElem? (i := 7) rfl) (Nat.le_of_ble_eq_true rfl) (Nat.le_of_ble_eq_true rfl) ⟨Nat.zero_le _, Nat.zero_le _⟩ dX1_onFrom_77 ?_
      exact xret_i C hr hlk hW ⟨rfl, by rw [onF, if_pos cz, onv, c5]; rfl⟩ dX1_onFrom_80
    · refine lv_tableIn (off := 54) (tgt := 81) C.1 C.2.1 dX1_onFrom_27 (by rw [c5]; decide) (by rw [c5]; decide) (by rw [c5]; decide) (by decide) ?_
      refine lv_iload_n C.1 C.2.1 dX1_onFrom_81 rfl (lv_at hl 0 rfl) ?_
      refine xcS_i (n := 1) (As := [.int (nI (L (3 + f)))]) C hK hW (c_X1_onFromStubble l g w (L (3 + f)) hI hN (by omega)) gX1_onFrom_X1_onFromStubble rfl ⟨rfl, rfl⟩ (by decide +kernel) ⟨Nat.le_of_ble_eq_true rfl, Nat.le_of_ble_eq_true rfl⟩ ⟨Nat.zero_le _, Nat.zero_le _⟩ rfl hl rfl (Nat.le_of_ble_eq_true rfl) dX1_onFrom_82 (fun r20 w18 H locs q19 hW => ?_)
      obtain ⟨qw21, rfl⟩ := q19
      rw [qw21] at hW
      refine lv_iconst (v := (nI 2)) C.1 C.2.1 dX1_onFrom_85 (by decide) ?_
      refine xadd C dX1_onFrom_86 ?_
      exact xret_i C hr hlk hW ⟨rfl, by rw [onF, if_pos cz, onv, c5]; rfl⟩ dX1_onFrom_87
    · exact absurd c5 (by omega)
  · have cz : ¬ f < 6 := fun h => c6 ((inR_nn (by omega) (by omega) (by omega)).mpr ⟨Nat.zero_le _, by omega⟩)
    refine lv_iconst (v := (nI 0)) C.1 C.2.1 dX1_onFrom_9 (by decide) ?_
    exact xret_i C hr hlk hW ⟨rfl, by rw [onF, if_neg cz]⟩ dX1_onFrom_10

set_option maxHeartbeats 4000000 in
set_option maxRecDepth 100000 in
theorem c_X1_backFrom (l : Launch) (g : GE) (w : Nat → va_E) (b f : Nat) (x y : Int32) (L : Nat → Nat) (hI : AdInj g) (hN : gN g = 130) (hb : b + 33 ≤ 119) (hf : f < 7) (hok : Okg L) (pr0 : GAt g b x y L w) : Met l yX1_backFrom wsX1_backFrom ({ frames := 2, cells := 0, slots := 0, locals := 44 } : Room) (XPc g w [.ref (gad g b), .int (nI f)]) (XQi g (fun r w' => w' = w ∧ r = (nI (backF L f)))) 0 0 (gA g) := by
  refine xmet (cc := cX1_backFrom) (maxL := 2) (ret := (some .int)) (by decide) rfl hI (Nat.le_of_ble_eq_true rfl) ?_
  intro pG eG sG mG belowG methG cG ls C hr hlk hK hW hl
  have hl : lv_has ls 2 [(0, .ref (gad g b)), (1, .int (nI f))] := hl
  have hinX1 : ∀ x ∈ u_ws RX1 TX1 8, x ∈ wsX1_backFrom := by decide +kernel
  have hinX2 : ∀ x ∈ u_ws RX2 TX2 5, x ∈ wsX1_backFrom := by decide +kernel
  have hkd := (hok f (by omega)).1
  have hfd := (hok f (by omega)).2.1
  have hhd := (hok f (by omega)).2.2
  have ho := onF_le L f
  refine lv_iload_n C.1 C.2.1 dX1_backFrom_0 rfl (lv_at hl 1 rfl) ?_
  refine lv_iconst (v := (nI 1)) C.1 C.2.1 dX1_backFrom_1 (by decide) ?_
  refine lv_bipush (v := (nI 6)) C.1 C.2.1 dX1_backFrom_2 (by decide) ?_
  refine xcN_i (n := 3) (As := [.int (nI f), .int (nI 1), .int (nI 6)]) C hK hW (c_X6_isWithin l g w (nI f) (nI 1) (nI 6) hI hN) gX1_backFrom_X6_isWithin_n42 rfl ⟨rfl, rfl⟩ hK.2.1 (List.mem_of_getElem? (i := 8) rfl) (List.mem_of_getElem? (i := 7) rfl) (by decide +kernel) ⟨Nat.le_of_ble_eq_true rfl, Nat.le_of_ble_eq_true rfl⟩ ⟨Nat.zero_le _, Nat.zero_le _⟩ rfl hl rfl (Nat.le_of_ble_eq_true rfl) dX1_backFrom_4 (fun r3 w1 H locs q2 hW => ?_)
  obtain ⟨qw4, rfl⟩ := q2
  rw [qw4] at hW
  refine xBne (tgt := 12) C dX1_backFrom_7 (by decide) (fun c7 => ?_) (fun c7 => ?_)
  · have cz : f ≠ 0 := by
      have hz := (inR_nn (by omega) (by omega) (by omega)).mp c7
      omega
    refine lv_aload_n C.1 C.2.1 dX1_backFrom_12 rfl (lv_at hl 0 rfl) ?_
    refine xget C hK hW hinX1 rfl (by omega) pr0.1 1 (by decide) (List.mem_of_getElem? (i := 1) rfl) rfl dX1_backFrom_13 ?_
    refine xget C hK hW hinX2 rfl (by omega) pr0.2.2.1 4 (by decide) (List.mem_of_getElem? (i := 2) rfl) rfl dX1_backFrom_16 ?_
    refine lv_iload_n C.1 C.2.1 dX1_backFrom_19 rfl (lv_at hl 1 rfl) ?_
    refine xildK C hK hW (by omega) pr0.2.2.2.2 (by omega) (by decide) dX1_backFrom_20 ?_
    refine lv_bipush (v := (nI 10)) C.1 C.2.1 dX1_backFrom_21 (by decide) ?_
    refine lv_aload_n C.1 C.2.1 dX1_backFrom_23 rfl (lv_at hl 0 rfl) ?_
    refine lv_iload_n C.1 C.2.1 dX1_backFrom_24 rfl (lv_at hl 1 rfl) ?_
    refine xcV_i (n := 1) (As := [.int (nI f)]) C hK hW (c_X1_onFrom l g w b f x y L hI hN (by omega) (by omega) hok pr0) gX1_backFrom_X1_onFrom rfl ⟨rfl, rfl⟩ (by decide +kernel) ⟨Nat.le_of_ble_eq_true rfl, Nat.le_of_ble_eq_true rfl⟩ ⟨Nat.zero_le _, Nat.zero_le _⟩ rfl (by omega) pr0.1 rfl hl rfl (Nat.le_of_ble_eq_true rfl) dX1_backFrom_25 (fun r7 w5 H locs q6 hW => ?_)
    obtain ⟨qw8, rfl⟩ := q6
    rw [qw8] at hW
    refine xsub C (by omega) dX1_backFrom_28 ?_
    refine xminN C hl (by omega) (by omega) (List.mem_of_getElem? (i := 3) rfl) (List.mem_of_getElem? (i := 4) rfl) (List.mem_of_getElem? (i := 5) rfl) (List.mem_of_getElem? (i := 6) rfl) (Nat.le_of_ble_eq_true rfl) (Nat.le_of_ble_eq_true rfl) ⟨Nat.zero_le _, Nat.zero_le _⟩ dX1_backFrom_29 ?_
    exact xret_i C hr hlk hW ⟨rfl, by rw [backF, if_neg cz]⟩ dX1_backFrom_32
  · have cz : f = 0 := by
      rcases Nat.eq_zero_or_pos f with h | h
      · exact h
      · exact absurd ((inR_nn (by omega) (by omega) (by omega)).mpr ⟨by omega, by omega⟩) c7
    refine lv_iconst (v := (nI 0)) C.1 C.2.1 dX1_backFrom_10 (by decide) ?_
    exact xret_i C hr hlk hW ⟨rfl, by rw [backF, if_pos cz]⟩ dX1_backFrom_11

set_option maxHeartbeats 4000000 in
set_option maxRecDepth 100000 in
theorem c_X7_onOf (l : Launch) (g : GE) (w : Nat → va_E) (i f : Nat) (L : Nat → Nat) (hI : AdInj g) (hN : gN g = 130) (hi : i < 130) (hf : f < 7) (hok : Okg L) (pr0 : w i = .inl (gI g, 177, .inl (cK 177 0 L))) : Met l yX7_onOf wsX7_onOf ({ frames := 0, cells := 0, slots := 0, locals := 0 } : Room) (XPc g w [.ref (gad g i), .int (nI f)]) (XQi g (fun r w' => w' = w ∧ r = (nI (onF L f)))) 0 0 (gA g) := by
  refine xmet (cc := cX7_onOf) (maxL := 5) (ret := (some .int)) (by decide) rfl hI (Nat.le_of_ble_eq_true rfl) ?_
  intro pG eG sG mG belowG methG cG ls C hr hlk hK hW hl
  have hl : lv_has ls 5 [(0, .ref (gad g i)), (1, .int (nI f))] := hl
  have hkd := (hok f (by omega)).1
  have hfd := (hok f (by omega)).2.1
  have hhd := (hok f (by omega)).2.2
  refine lv_aload_n C.1 C.2.1 dX7_onOf_0 rfl (lv_at hl 0 rfl) ?_
  refine lv_iconst (v := (nI 3)) C.1 C.2.1 dX7_onOf_1 (by decide) ?_
  refine lv_iload_n C.1 C.2.1 dX7_onOf_2 rfl (lv_at hl 1 rfl) ?_
  refine xadd C dX7_onOf_3 ?_
  refine xildK0 C hK hW (by omega) pr0 (by omega) (by decide) dX7_onOf_4 ?_
  refine lv_istore_n (lv' := [(2, .int (nI (L (3 + f)))), (0, .ref (gad g i)), (1, .int (nI f))]) C.1 C.2.1 dX7_onOf_5 rfl hl (by decide) rfl (fun ls hl => ?_)
  refine lv_iconst (v := (nI 5)) C.1 C.2.1 dX7_onOf_6 (by decide) ?_
  refine lv_iload_n C.1 C.2.1 dX7_onOf_7 rfl (lv_at hl 0 rfl) ?_
  refine lv_iconst (v := (nI 2)) C.1 C.2.1 dX7_onOf_8 (by decide) ?_
  refine xdiv C (by omega) (by omega) (by omega) dX7_onOf_9 ?_
  refine xsub C (by omega) dX7_onOf_10 ?_
  refine lv_istore_n (lv' := [(3, .int (nI (5 - ((L (3 + f)) / 2)))), (2, .int (nI (L (3 + f)))), (0, .ref (gad g i)), (1, .int (nI f))]) C.1 C.2.1 dX7_onOf_11 rfl hl (by decide) rfl (fun ls hl => ?_)
  refine lv_iload_n C.1 C.2.1 dX7_onOf_12 rfl (lv_at hl 1 rfl) ?_
  refine x0ne (tgt := 21) C (by omega) dX7_onOf_13 (by decide) (fun c13 => ?_) (fun c13 => ?_)
  · refine lv_iconst (v := (nI 5)) C.1 C.2.1 dX7_onOf_21 (by decide) ?_
    refine lv_istore (lv' := [(4, .int (nI 5)), (3, .int (nI (5 - ((L (3 + f)) / 2)))), (2, .int (nI (L (3 + f)))), (0, .ref (gad g i)), (1, .int (nI f))]) C.1 C.2.1 dX7_onOf_22 hl (by decide) rfl (fun ls hl => ?_)
    refine lv_iload_n C.1 C.2.1 dX7_onOf_24 rfl (lv_at hl 4 rfl) ?_
    refine lv_bipush (v := (nI 6)) C.1 C.2.1 dX7_onOf_25 (by decide) ?_
    refine xne (tgt := 32) C (by omega) (by omega) dX7_onOf_27 (by decide) (fun c27 => ?_) (fun c27 => ?_)
    · refine lv_aload_n C.1 C.2.1 dX7_onOf_32 rfl (lv_at hl 3 rfl) ?_
      refine lv_bipush (v := (nI 17)) C.1 C.2.1 dX7_onOf_33 (by decide) ?_
      refine lv_iload_n C.1 C.2.1 dX7_onOf_35 rfl (lv_at hl 4 rfl) ?_
      refine xadd C dX7_onOf_36 ?_
      refine xildK0 C hK hW (by omega) pr0 (by omega) (by decide) dX7_onOf_37 ?_
      rcases (show L (17 + f) = 0 ∨ L (17 + f) = 1 ∨ L (17 + f) = 2 ∨ L (17 + f) = 3 ∨ (3 < L (17 + f)) by omega) with c1 | c1 | c1 | c1 | c1
      · refine lv_tableIn (off := 30) (tgt := 68) C.1 C.2.1 dX7_onOf_38 (by rw [c1]; decide) (by rw [c1]; decide) (by rw [c1]; decide) (by decide) ?_
        refine lv_iconst (v := (nI 5)) C.1 C.2.1 dX7_onOf_68 (by decide) ?_
        exact xret_i C hr hlk hW ⟨rfl, by rw [onF, if_pos (by omega), onv]; rw [c1]; rfl⟩ dX7_onOf_69
      · refine lv_tableIn (off := 32) (tgt := 70) C.1 C.2.1 dX7_onOf_38 (by rw [c1]; decide) (by rw [c1]; decide) (by rw [c1]; decide) (by decide) ?_
        refine lv_iload_n C.1 C.2.1 dX7_onOf_70 rfl (lv_at hl 1 rfl) ?_
        exact xret_i C hr hlk hW ⟨rfl, by rw [onF, if_pos (by omega), onv]; rw [c1]; rfl⟩ dX7_onOf_71
      · refine lv_tableIn (off := 34) (tgt := 72) C.1 C.2.1 dX7_onOf_38 (by rw [c1]; decide) (by rw [c1]; decide) (by rw [c1]; decide) (by decide) ?_
        refine lv_iload C.1 C.2.1 dX7_onOf_72 (lv_at hl 0 rfl) ?_
        exact xret_i C hr hlk hW ⟨rfl, by rw [onF, if_pos (by omega), onv]; rw [c1, if_neg (by decide), if_pos rfl, if_neg c13]⟩ dX7_onOf_74
      · refine lv_tableIn (off := 37) (tgt := 75) C.1 C.2.1 dX7_onOf_38 (by rw [c1]; decide) (by rw [c1]; decide) (by rw [c1]; decide) (by decide) ?_
        refine lv_iload_n C.1 C.2.1 dX7_onOf_75 rfl (lv_at hl 1 rfl) ?_
        refine lv_iconst (v := (nI 4)) C.1 C.2.1 dX7_onOf_76 (by decide) ?_
        refine xle (tgt := 86) C (by omega) (by omega) dX7_onOf_77 (by decide) (fun c77 => ?_) (fun c77 => ?_)
        · refine lv_iconst (v := (nI 1)) C.1 C.2.1 dX7_onOf_86 (by decide) ?_
          exact xret_i C hr hlk hW ⟨rfl, by rw [onF, if_pos (by omega), onv]; rw [c1, if_neg (by decide), if_neg (by decide), if_pos rfl]; congr 1; omega⟩ dX7_onOf_87
        · refine lv_iload_n C.1 C.2.1 dX7_onOf_80 rfl (lv_at hl 1 rfl) ?_
          refine lv_iconst (v := (nI 3)) C.1 C.2.1 dX7_onOf_81 (by decide) ?_
          refine xsub C (by omega) dX7_onOf_82 ?_
          refine lv_goto (tgt := 87) C.1 C.2.1 dX7_onOf_83 (by decide) ?_
          exact xret_i C hr hlk hW ⟨rfl, by rw [onF, if_pos (by omega), onv]; rw [c1, if_neg (by decide), if_neg (by decide), if_pos rfl]; congr 1; omega⟩ dX7_onOf_87
      · refine lv_tableOut (tgt := 88) C.1 C.2.1 dX7_onOf_38 (Or.inr (by rw [nI_toInt (by omega)]; omega)) (by decide) ?_
        refine lv_iload C.1 C.2.1 dX7_onOf_88 (lv_at hl 0 rfl) ?_
        refine lv_iconst (v := (nI 2)) C.1 C.2.1 dX7_onOf_90 (by decide) ?_
        refine xadd C dX7_onOf_91 ?_
        exact xret_i C hr hlk hW ⟨rfl, by rw [onF, if_pos (by omega), onv]; rw [if_neg (by omega), if_neg (by omega), if_neg (by omega), if_pos (by omega), if_neg c13]⟩ dX7_onOf_92
    · refine lv_iconst (v := (nI 0)) C.1 C.2.1 dX7_onOf_30 (by decide) ?_
      exact xret_i C hr hlk hW ⟨rfl, by rw [onF, if_neg (by omega)]⟩ dX7_onOf_31
  · refine lv_bipush (v := (nI 7)) C.1 C.2.1 dX7_onOf_16 (by decide) ?_
    refine lv_goto (tgt := 22) C.1 C.2.1 dX7_onOf_18 (by decide) ?_
    refine lv_istore (lv' := [(4, .int (nI 7)), (3, .int (nI (5 - ((L (3 + f)) / 2)))), (2, .int (nI (L (3 + f)))), (0, .ref (gad g i)), (1, .int (nI f))]) C.1 C.2.1 dX7_onOf_22 hl (by decide) rfl (fun ls hl => ?_)
    refine lv_iload_n C.1 C.2.1 dX7_onOf_24 rfl (lv_at hl 4 rfl) ?_
    refine lv_bipush (v := (nI 6)) C.1 C.2.1 dX7_onOf_25 (by decide) ?_
    refine xne (tgt := 32) C (by omega) (by omega) dX7_onOf_27 (by decide) (fun c27 => ?_) (fun c27 => ?_)
    · refine lv_aload_n C.1 C.2.1 dX7_onOf_32 rfl (lv_at hl 3 rfl) ?_
      refine lv_bipush (v := (nI 17)) C.1 C.2.1 dX7_onOf_33 (by decide) ?_
      refine lv_iload_n C.1 C.2.1 dX7_onOf_35 rfl (lv_at hl 4 rfl) ?_
      refine xadd C dX7_onOf_36 ?_
      refine xildK0 C hK hW (by omega) pr0 (by omega) (by decide) dX7_onOf_37 ?_
      rcases (show L (17 + f) = 0 ∨ L (17 + f) = 1 ∨ L (17 + f) = 2 ∨ L (17 + f) = 3 ∨ (3 < L (17 + f)) by omega) with c2 | c2 | c2 | c2 | c2
      · refine lv_tableIn (off := 30) (tgt := 68) C.1 C.2.1 dX7_onOf_38 (by rw [c2]; decide) (by rw [c2]; decide) (by rw [c2]; decide) (by decide) ?_
        refine lv_iconst (v := (nI 5)) C.1 C.2.1 dX7_onOf_68 (by decide) ?_
        exact xret_i C hr hlk hW ⟨rfl, by rw [onF, if_pos (by omega), onv]; rw [c2]; rfl⟩ dX7_onOf_69
      · refine lv_tableIn (off := 32) (tgt := 70) C.1 C.2.1 dX7_onOf_38 (by rw [c2]; decide) (by rw [c2]; decide) (by rw [c2]; decide) (by decide) ?_
        refine lv_iload_n C.1 C.2.1 dX7_onOf_70 rfl (lv_at hl 1 rfl) ?_
        exact xret_i C hr hlk hW ⟨rfl, by rw [onF, if_pos (by omega), onv]; rw [c2]; rfl⟩ dX7_onOf_71
      · refine lv_tableIn (off := 34) (tgt := 72) C.1 C.2.1 dX7_onOf_38 (by rw [c2]; decide) (by rw [c2]; decide) (by rw [c2]; decide) (by decide) ?_
        refine lv_iload C.1 C.2.1 dX7_onOf_72 (lv_at hl 0 rfl) ?_
        exact xret_i C hr hlk hW ⟨rfl, by rw [onF, if_pos (by omega), onv]; rw [c2, if_neg (by decide), if_pos rfl, if_pos c13]⟩ dX7_onOf_74
      · refine lv_tableIn (off := 37) (tgt := 75) C.1 C.2.1 dX7_onOf_38 (by rw [c2]; decide) (by rw [c2]; decide) (by rw [c2]; decide) (by decide) ?_
        refine lv_iload_n C.1 C.2.1 dX7_onOf_75 rfl (lv_at hl 1 rfl) ?_
        refine lv_iconst (v := (nI 4)) C.1 C.2.1 dX7_onOf_76 (by decide) ?_
        refine xle (tgt := 86) C (by omega) (by omega) dX7_onOf_77 (by decide) (fun c77 => ?_) (fun c77 => ?_)
        · refine lv_iconst (v := (nI 1)) C.1 C.2.1 dX7_onOf_86 (by decide) ?_
          exact xret_i C hr hlk hW ⟨rfl, by rw [onF, if_pos (by omega), onv]; rw [c2, if_neg (by decide), if_neg (by decide), if_pos rfl]; congr 1; omega⟩ dX7_onOf_87
        · refine lv_iload_n C.1 C.2.1 dX7_onOf_80 rfl (lv_at hl 1 rfl) ?_
          refine lv_iconst (v := (nI 3)) C.1 C.2.1 dX7_onOf_81 (by decide) ?_
          refine xsub C (by omega) dX7_onOf_82 ?_
          refine lv_goto (tgt := 87) C.1 C.2.1 dX7_onOf_83 (by decide) ?_
          exact xret_i C hr hlk hW ⟨rfl, by rw [onF, if_pos (by omega), onv]; rw [c2, if_neg (by decide), if_neg (by decide), if_pos rfl]; congr 1; omega⟩ dX7_onOf_87
      · refine lv_tableOut (tgt := 88) C.1 C.2.1 dX7_onOf_38 (Or.inr (by rw [nI_toInt (by omega)]; omega)) (by decide) ?_
        refine lv_iload C.1 C.2.1 dX7_onOf_88 (lv_at hl 0 rfl) ?_
        refine lv_iconst (v := (nI 2)) C.1 C.2.1 dX7_onOf_90 (by decide) ?_
        refine xadd C dX7_onOf_91 ?_
        exact xret_i C hr hlk hW ⟨rfl, by rw [onF, if_pos (by omega), onv]; rw [if_neg (by omega), if_neg (by omega), if_neg (by omega), if_pos (by omega), if_pos c13]⟩ dX7_onOf_92
    · refine lv_iconst (v := (nI 0)) C.1 C.2.1 dX7_onOf_30 (by decide) ?_
      exact xret_i C hr hlk hW ⟨rfl, by rw [onF, if_neg (by omega)]⟩ dX7_onOf_31

set_option maxHeartbeats 4000000 in
set_option maxRecDepth 100000 in
theorem c_X7_backOf (l : Launch) (g : GE) (w : Nat → va_E) (i f : Nat) (L : Nat → Nat) (hI : AdInj g) (hN : gN g = 130) (hi : i < 130) (hf : f < 7) (hok : Okg L) (pr0 : w i = .inl (gI g, 177, .inl (cK 177 0 L))) : Met l yX7_backOf wsX7_backOf ({ frames := 1, cells := 0, slots := 0, locals := 24 } : Room) (XPc g w [.ref (gad g i), .int (nI f)]) (XQi g (fun r w' => w' = w ∧ r = (nI (backF L f)))) 0 0 (gA g) := by
  refine xmet (cc := cX7_backOf) (maxL := 3) (ret := (some .int)) (by decide) rfl hI (Nat.le_of_ble_eq_true rfl) ?_
  intro pG eG sG mG belowG methG cG ls C hr hlk hK hW hl
  have hl : lv_has ls 3 [(0, .ref (gad g i)), (1, .int (nI f))] := hl
  have hkd := (hok f (by omega)).1
  have hfd := (hok f (by omega)).2.1
  have hhd := (hok f (by omega)).2.2
  have ho := onF_le L f
  refine lv_bipush (v := (nI 10)) C.1 C.2.1 dX7_backOf_0 (by decide) ?_
  refine lv_aload_n C.1 C.2.1 dX7_backOf_2 rfl (lv_at hl 0 rfl) ?_
  refine lv_iload_n C.1 C.2.1 dX7_backOf_3 rfl (lv_at hl 1 rfl) ?_
  refine xcS_i (n := 2) (As := [.ref (gad g i), .int (nI f)]) C hK hW (c_X7_onOf l g w i f L hI hN (by omega) (by omega) hok pr0) gX7_backOf_X7_onOf rfl ⟨rfl, rfl⟩ (by decide +kernel) ⟨Nat.le_of_ble_eq_true rfl, Nat.le_of_ble_eq_true rfl⟩ ⟨Nat.zero_le _, Nat.zero_le _⟩ rfl hl rfl (Nat.le_of_ble_eq_true rfl) dX7_backOf_4 (fun r3 w1 H locs q2 hW => ?_)
  obtain ⟨qw4, rfl⟩ := q2
  rw [qw4] at hW
  refine xsub C (by omega) dX7_backOf_7 ?_
  refine lv_istore_n (lv' := [(2, .int (nI (10 - (onF L f)))), (0, .ref (gad g i)), (1, .int (nI f))]) C.1 C.2.1 dX7_backOf_8 rfl hl (by decide) rfl (fun ls hl => ?_)
  refine lv_iload_n C.1 C.2.1 dX7_backOf_9 rfl (lv_at hl 2 rfl) ?_
  refine x0ne (tgt := 17) C (by omega) dX7_backOf_10 (by decide) (fun c10 => ?_) (fun c10 => ?_)
  · refine lv_aload_n C.1 C.2.1 dX7_backOf_17 rfl (lv_at hl 1 rfl) ?_
    refine lv_bipush (v := (nI 10)) C.1 C.2.1 dX7_backOf_18 (by decide) ?_
    refine lv_iload_n C.1 C.2.1 dX7_backOf_20 rfl (lv_at hl 2 rfl) ?_
    refine xadd C dX7_backOf_21 ?_
    refine xildK0 C hK hW (by omega) pr0 (by omega) (by decide) dX7_backOf_22 ?_
    refine lv_iload_n C.1 C.2.1 dX7_backOf_23 rfl (lv_at hl 0 rfl) ?_
    refine xge (tgt := 36) C (by omega) (by omega) dX7_backOf_24 (by decide) (fun c24 => ?_) (fun c24 => ?_)
    · refine lv_iload_n C.1 C.2.1 dX7_backOf_36 rfl (lv_at hl 0 rfl) ?_
      exact xret_i C hr hlk hW ⟨rfl, by rw [backF, if_neg (by omega)]; congr 1; omega⟩ dX7_backOf_37
    · refine lv_aload_n C.1 C.2.1 dX7_backOf_27 rfl (lv_at hl 1 rfl) ?_
      refine lv_bipush (v := (nI 10)) C.1 C.2.1 dX7_backOf_28 (by decide) ?_
      refine lv_iload_n C.1 C.2.1 dX7_backOf_30 rfl (lv_at hl 2 rfl) ?_
      refine xadd C dX7_backOf_31 ?_
      refine xildK0 C hK hW (by omega) pr0 (by omega) (by decide) dX7_backOf_32 ?_
      refine lv_goto (tgt := 37) C.1 C.2.1 dX7_backOf_33 (by decide) ?_
      exact xret_i C hr hlk hW ⟨rfl, by rw [backF, if_neg (by omega)]; congr 1; omega⟩ dX7_backOf_37
  · refine lv_iconst (v := (nI 0)) C.1 C.2.1 dX7_backOf_13 (by decide) ?_
    refine lv_goto (tgt := 37) C.1 C.2.1 dX7_backOf_14 (by decide) ?_
    exact xret_i C hr hlk hW ⟨rfl, by rw [backF, if_pos (by omega)]⟩ dX7_backOf_37
