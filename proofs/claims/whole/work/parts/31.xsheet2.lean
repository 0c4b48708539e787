/-! sheets: one of four opened, put back -/
theorem XSheet_b {g : GE} {b s ln sz : Nat} {Z : Nat → Int64} {w : Nat → va_E} (hb : b = 111 + 2 * s) (h : XSheet g s ln sz Z w) : ∃ (hd la le : Nat) (Y : Nat → Int64), w b = .inr (4, [.int (nI hd), .int (nI la), .int (nI le), .ref (gad g (b + 1))]) ∧ w (b + 1) = .inl (gJ g, 24, .inr (.inl (kK 0 24 (24 * s) Y))) ∧ hd ≤ 1 ∧ ((hd = 0 ∧ ln = 0) ∨ (hd = 1 ∧ 0 < ln ∧ la = ln - 1 ∧ le = sz ∧ ∀ i, i < 24 → Y (24 * s + i) = Z (24 * s + i))) := by
  obtain ⟨hd, la, le, Y, h0, h1, h2, h3⟩ := h
  refine ⟨hd, la, le, Y, ?_, ?_, ?_, ?_⟩
  · rw [hb, h0, show 111 + 2 * s + 1 = 112 + 2 * s by omega]
  · rw [show b + 1 = 112 + 2 * s by omega, h1]
  · rcases Nat.eq_zero_or_pos ln with q | q
    · rw [h2 q]
      omega
    · rw [(h3 q).1]
      omega
  · rcases Nat.eq_zero_or_pos ln with q | q
    · exact Or.inl ⟨h2 q, q⟩
    · exact Or.inr ⟨(h3 q).1, q, (h3 q).2⟩
theorem XSheet_mk {g : GE} {b s ln sz hd la le : Nat} {Y Z : Nat → Int64} {w : Nat → va_E} (hb : b = 111 + 2 * s) (h0 : w b = .inr (4, [.int (nI hd), .int (nI la), .int (nI le), .ref (gad g (b + 1))])) (h1 : w (b + 1) = .inl (gJ g, 24, .inr (.inl (kK 0 24 (24 * s) Y)))) (h : (hd = 0 ∧ ln = 0) ∨ (hd = 1 ∧ 0 < ln ∧ la = ln - 1 ∧ le = sz ∧ ∀ i, i < 24 → Y (24 * s + i) = Z (24 * s + i))) : XSheet g s ln sz Z w := by
  refine ⟨hd, la, le, Y, ?_, ?_, ?_, ?_⟩
  · rw [← hb, h0, show b + 1 = 112 + 2 * s by omega]
  · rw [show 112 + 2 * s = b + 1 by omega, h1]
  · intro q
    rcases h with h | h
    · exact h.1
    · omega
  · intro q
    rcases h with h | h
    · omega
    · exact ⟨h.1, h.2.2⟩
theorem XShs_up {g : GE} {k a c : Nat} {ln sz : Nat → Nat} {Z Z' : Nat → Int64} {w w' : Nat → va_E} (h : XShs g ln sz Z w) (hk : k < 4) (e : XSheet g k a c Z' w') (f : ∀ j, j ≠ 111 + 2 * k → j ≠ 112 + 2 * k → w' j = w j) (hZ : ∀ t, ¬ (24 * k ≤ t ∧ t < 24 * k + 24) → Z' t = Z t) : XShs g (va_up ln k a) (va_up sz k c) Z' w' := by
  refine ⟨(f 110 (by omega) (by omega)).trans h.1, fun s hs => ?_⟩
  by_cases q : s = k
  · rw [q, va_up_self, va_up_self]
    exact e
  · rw [va_up_ne _ _ q, va_up_ne _ _ q]
    obtain ⟨hd, la, le, Y, h0, h1, h2, h3⟩ := (h.2 s hs).fr (fun j h1 h2 => f j (by omega) (by omega))
    refine ⟨hd, la, le, Y, h0, h1, h2, fun z => ⟨(h3 z).1, (h3 z).2.1, (h3 z).2.2.1, fun i hi => ?_⟩⟩
    rw [hZ _ (by omega)]
    exact (h3 z).2.2.2 i hi
theorem sh_at {g : GE} {b k : Nat} (h : k < 4) (hb : b = 111 + 2 * k) : kK none 4 0 (fun s => some (gad g (111 + 2 * s))) k = some (gad g b) := by
  rw [kK_at h, Nat.zero_add, hb]
theorem ref_w {hd la le ln sz : Nat} {y i n : Int32} {p : Prop} (hc : (hd = 0 ∧ ln = 0) ∨ (hd = 1 ∧ 0 < ln ∧ la = ln - 1 ∧ le = sz ∧ p)) : (if hd = 0 then -11 else if nI la = y then (if isPt i n le then nI 0 else -13) else -12) = wrongS ln sz y i n := by
  unfold wrongS
  rcases hc with h | ⟨h1, h2, h3, h4, h5⟩
  · rw [if_pos h.1, if_pos h.2]
  · rw [if_neg (show ¬ hd = 0 by omega), if_neg (show ¬ ln = 0 by omega), h3, h4]
theorem zk_in {o k t : Nat} {Z : Nat → Int64} (h : o ≤ t ∧ t < o + k) : zk o k Z t = lN 0 := if_pos h
theorem it_up {o a : Nat} {v : Int64} {Y Z : Nat → Int64} (h : ∀ i, i < 24 → Y (o + i) = Z (o + i)) : ∀ i, i < 24 → va_up Y (o + a) v (o + i) = va_up Z (o + a) v (o + i) := by
  intro i hi
  by_cases q : o + i = o + a
  · rw [q, va_up_self, va_up_self]
  · rw [va_up_ne _ _ q, va_up_ne _ _ q]
    exact h i hi
theorem wrong_ok {ln sz : Nat} {y i n : Int32} (h : wrongS ln sz y i n = 0) : 0 < ln ∧ nI (ln - 1) = y ∧ isPt i n sz := by
  unfold wrongS at h
  by_cases a : ln = 0
  · rw [if_pos a] at h
    exact absurd h (by decide)
  · rw [if_neg a] at h
    by_cases b : nI (ln - 1) = y
    · rw [if_pos b] at h
      by_cases c : isPt i n sz
      · exact ⟨by omega, b, c⟩
      · rw [if_neg c] at h
        exact absurd h (by decide)
    · rw [if_neg b] at h
      exact absurd h (by decide)
abbrev in3 (x : Int32) : Prop := inR x (nI 0) (nI 3)
abbrev okSh (x y n : Int32) : Prop := in3 x ∧ in3 y ∧ n ≤ nI 24
def shS (x y n : Int32) : Int32 := if okSh x y n then (if n < 0 then -14 else n) else -1
def shN (ln : Nat → Nat) (x y n : Int32) : Nat → Nat := if okSh x y n ∧ ¬ n < 0 then va_up ln (cl x) (cl y + 1) else ln
def shL (sz : Nat → Nat) (x y n : Int32) : Nat → Nat := if okSh x y n ∧ ¬ n < 0 then va_up sz (cl x) (cl n) else sz
def shZ (Z : Nat → Int64) (x y n : Int32) : Nat → Int64 := if okSh x y n ∧ ¬ n < 0 then zk (24 * cl x) 24 Z else Z
def drS (ln sz : Nat → Nat) (x : Int32) : Int32 := if in3 x then (if ln (cl x) = 0 then -11 else nI (sz (cl x))) else -1
def drN (ln : Nat → Nat) (x : Int32) : Nat → Nat := if in3 x ∧ ¬ ln (cl x) = 0 then va_up ln (cl x) 0 else ln
def itW (ln sz : Nat → Nat) (x y i : Int32) : Int32 := wrongS (ln (cl x)) (sz (cl x)) y i (nI 1)
def itS (ln sz : Nat → Nat) (x y i : Int32) : Int32 := if in3 x ∧ in3 y then (if itW ln sz x y i = 0 then 1 else itW ln sz x y i) else -1
def itZ (ln sz : Nat → Nat) (Z : Nat → Int64) (x y i : Int32) (v : Int64) : Nat → Int64 := if (in3 x ∧ in3 y) ∧ itW ln sz x y i = 0 then va_up Z (24 * cl x + cl i) (cutL (ln (cl x) - 1) v) else Z

set_option maxHeartbeats 4000000 in
set_option maxRecDepth 100000 in
theorem c_X6_sheet (l : Launch) (g : GE) (w : Nat → va_E) (L K T ln sz : Nat → Nat) (hk tn : Nat) (Z : Nat → Int64) (x : Int32) (y : Int32) (n : Int32) (hI : AdInj g) (hN : gN g = 130) (hS : OkS (L, K, hk, tn, T, ln, sz, Z)) (pr0 : XAll g (L, K, hk, tn, T, ln, sz, Z) w) : Met l yX6_sheet wsX6_sheet ({ frames := 2, cells := 0, slots := 0, locals := 42 } : Room) (XPc g w [.ref (gad g 0), .int x, .int y, .int n]) (XQi g (fun r w' => XAll g (L, K, hk, tn, T, shN ln x y n, shL sz x y n, shZ Z x y n) w' ∧ (∀ j : Nat, ¬ (0 ≤ j ∧ j < 119) → w' j = w j) ∧ r = shS x y n)) 0 0 (gA g) := by
  refine xmet (cc := cX6_sheet) (maxL := 4) (ret := (some .int)) (by decide) rfl hI (Nat.le_of_ble_eq_true rfl) ?_
  intro pG eG sG mG belowG methG cG ls C hr hlk hK hW hl
  have hl : lv_has ls 4 [(0, .ref (gad g 0)), (1, .int x), (2, .int y), (3, .int n)] := hl
  have hinX6 : ∀ x ∈ u_ws RX6 TX6 9, x ∈ wsX6_sheet := by decide +kernel
  obtain ⟨hXa, hXl, hXk, hXt, hXw, hXf, hXr, hXs⟩ := pr0
  have hXa : w 0 = cX0 g hk := hXa
  have hXl : XLand g 1 L w := hXl
  have hXk : XKept g hk K w := hXk
  have hXr : XRead g tn T w := hXr
  have hXs : XShs g ln sz Z w := hXs
  have hokL : OkL L := hS.1
  obtain ⟨hok, hs2, hdy, hdr, hcl, hkn, hcs, hps⟩ := hokL
  have hlz : ∀ s, s < 4 → ln s ≤ 4 ∧ sz s ≤ 24 := hS.2.2.2.2
  have hXs1 := hXs.1
  refine lv_iload_n C.1 C.2.1 dX6_sheet_0 rfl (lv_at hl 1 rfl) ?_
  refine xcS_i (n := 1) (As := [.int x]) C hK hW (c_X6_isSheet l g w x hI hN) gX6_sheet_X6_isSheet rfl ⟨rfl, rfl⟩ (by decide +kernel) ⟨Nat.le_of_ble_eq_true rfl, Nat.le_of_ble_eq_true rfl⟩ ⟨Nat.zero_le _, Nat.zero_le _⟩ rfl hl rfl (Nat.le_of_ble_eq_true rfl) dX6_sheet_1 (fun r3 w1 H locs q2 hW => ?_)
  obtain ⟨qw4, rfl⟩ := q2
  rw [qw4] at hW
  refine xBeq (tgt := 20) C dX6_sheet_4 (by decide) (fun c4 => ?_) (fun c4 => ?_)
  · refine lv_iconst (v := (-1 : Int32)) C.1 C.2.1 dX6_sheet_20 (by decide) ?_
    exact xret_i C hr hlk hW ⟨⟨hXa, hXl, hXk, hXt, hXw, hXf, hXr, (by rw [shN, shL, shZ, if_neg (c := okSh x y n ∧ ¬ n < 0) (fun h => c4 h.1.1), if_neg (c := okSh x y n ∧ ¬ n < 0) (fun h => c4 h.1.1), if_neg (c := okSh x y n ∧ ¬ n < 0) (fun h => c4 h.1.1)]; exact hXs)⟩, (fun j z0 => rfl), (by rw [shS, if_neg (c := okSh x y n) (fun h => c4 h.1)])⟩ dX6_sheet_21
  · refine lv_iload_n C.1 C.2.1 dX6_sheet_7 rfl (lv_at hl 2 rfl) ?_
    refine xcS_i (n := 1) (As := [.int y]) C hK hW (c_X6_isLane l g w y hI hN) gX6_sheet_X6_isLane rfl ⟨rfl, rfl⟩ (by decide +kernel) ⟨Nat.le_of_ble_eq_true rfl, Nat.le_of_ble_eq_true rfl⟩ ⟨Nat.zero_le _, Nat.zero_le _⟩ rfl hl rfl (Nat.le_of_ble_eq_true rfl) dX6_sheet_8 (fun r7 w5 H locs q6 hW => ?_)
    obtain ⟨qw8, rfl⟩ := q6
    rw [qw8] at hW
    refine xBeq (tgt := 20) C dX6_sheet_11 (by decide) (fun c11 => ?_) (fun c11 => ?_)
    · refine lv_iconst (v := (-1 : Int32)) C.1 C.2.1 dX6_sheet_20 (by decide) ?_
      exact xret_i C hr hlk hW ⟨⟨hXa, hXl, hXk, hXt, hXw, hXf, hXr, (by rw [shN, shL, shZ, if_neg (c := okSh x y n ∧ ¬ n < 0) (fun h => c11 h.1.2.1), if_neg (c := okSh x y n ∧ ¬ n < 0) (fun h => c11 h.1.2.1), if_neg (c := okSh x y n ∧ ¬ n < 0) (fun h => c11 h.1.2.1)]; exact hXs)⟩, (fun j z0 => rfl), (by rw [shS, if_neg (c := okSh x y n) (fun h => c11 h.2.1)])⟩ dX6_sheet_21
    · refine lv_iload_n C.1 C.2.1 dX6_sheet_14 rfl (lv_at hl 3 rfl) ?_
      refine lv_bipush (v := (nI 24)) C.1 C.2.1 dX6_sheet_15 (by decide) ?_
      refine lv_icmp_le (tgt := 22) C.1 C.2.1 dX6_sheet_17 (by decide) (fun c17 => ?_) (fun c17 => ?_)
      · refine lv_iload_n C.1 C.2.1 dX6_sheet_22 rfl (lv_at hl 3 rfl) ?_
        refine lv_if_ge (tgt := 29) C.1 C.2.1 dX6_sheet_23 (by decide) (fun c23 => ?_) (fun c23 => ?_)
        · obtain ⟨k1, ha_k1, hb_k1, hx_k1⟩ := inR_N (by omega) (by omega) c4
          rw [hx_k1] at hl
          obtain ⟨k2, ha_k2, hb_k2, hx_k2⟩ := inR_N (by omega) (by omega) c11
          rw [hx_k2] at hl
          obtain ⟨k3, hb_k3, hx_k3⟩ := not_neg (nlt_of_ge c23)
          rw [hx_k3] at hl
          have h17 : k3 ≤ 24 := by
            rw [hx_k3] at c17
            exact (nI_leI (by omega) (by omega)).mp c17
          obtain ⟨b, hb⟩ : ∃ b, b = 111 + 2 * k1 := ⟨_, rfl⟩
          obtain ⟨hd, la, le, Y, hb0, hb1, hd1, hcc⟩ := XSheet_b hb (hXs.2 k1 (by omega))
          have hl4 := hlz k1 (by omega)
          refine lv_aload_n C.1 C.2.1 dX6_sheet_29 rfl (lv_at hl 0 rfl) ?_
          refine xget C hK hW hinX6 rfl (by omega) hXa 7 (by decide) (List.mem_of_getElem? (i := 1) rfl) rfl dX6_sheet_30 ?_
          refine lv_iload_n C.1 C.2.1 dX6_sheet_33 rfl (lv_at hl 1 rfl) ?_
          refine xaldS (q := gad g b) C hK hW (by omega) hXs1 (vp_in_nI (by omega) (by decide)) (by rw [nI_clamp (by omega)]; exact sh_at (by omega) hb) dX6_sheet_34 ?_
          refine lv_iload_n C.1 C.2.1 dX6_sheet_35 rfl (lv_at hl 2 rfl) ?_
          refine lv_iload_n C.1 C.2.1 dX6_sheet_36 rfl (lv_at hl 3 rfl) ?_
          refine xcV_v (n := 2) (As := [.int (nI k2), .int (nI k3)]) C hK hW (c_X4_begin l g w b (24 * k1) hd la le k2 k3 Y hI hN (by omega) hb0 hb1) gX6_sheet_X4_begin rfl ⟨rfl, rfl⟩ (by decide +kernel) ⟨Nat.le_of_ble_eq_true rfl, Nat.le_of_ble_eq_true rfl⟩ ⟨Nat.zero_le _, Nat.zero_le _⟩ rfl (by omega) hb0 rfl hl rfl (Nat.le_of_ble_eq_true rfl) dX6_sheet_37 (fun w9 H locs q10 hW => ?_)
          obtain ⟨h12, h13, f14⟩ := q10
          refine lv_iload_n C.1 C.2.1 dX6_sheet_40 rfl (lv_at hl 3 rfl) ?_
          have h15 : w9 0 = .inr (6, [.ref (gad g 1), .ref (gad g 34), .ref (gad g 67), .ref (gad g 100), .ref (gad g 106), .ref (gad g 107), .ref (gad g 108), .ref (gad g 110), .int (nI hk)]) := ((f14 0 (by omega)).trans hXa)
          have h16 : XLand g 1 L w9 := (XLand.fr hXl (fun j h1 h2 => f14 j (by omega)))
          have h17 : XKept g hk K w9 := (XKept.fr hXk (fun j h1 h2 => f14 j (by omega)))
          have h18 : XTrial g  w9 := (XTrial.fr hXt (fun j h1 h2 => f14 j (by omega)))
          have h19 : XWays g  w9 := (XWays.fr hXw (fun j h1 h2 => f14 j (by omega)))
          have h20 : XFr g  w9 := (XFr.fr hXf (fun j h1 h2 => f14 j (by omega)))
          have h21 : XRead g tn T w9 := (XRead.fr hXr (fun j h1 h2 => f14 j (by omega)))
          exact xret_i C hr hlk hW ⟨⟨h15, h16, h17, h18, h19, h20, h21, (by rw [shN, shL, shZ, if_pos (c := okSh x y n ∧ ¬ n < 0) ⟨⟨c4, c11, c17⟩, nlt_of_ge c23⟩, if_pos (c := okSh x y n ∧ ¬ n < 0) ⟨⟨c4, c11, c17⟩, nlt_of_ge c23⟩, if_pos (c := okSh x y n ∧ ¬ n < 0) ⟨⟨c4, c11, c17⟩, nlt_of_ge c23⟩, hx_k1, hx_k2, hx_k3, cl_nI (by omega), cl_nI (by omega), cl_nI (by omega)]; exact (XShs_up hXs (by omega) (XSheet_mk hb h12 h13 (Or.inr ⟨rfl, by omega, by omega, rfl, fun i hi => (zk_in (by omega)).trans (zk_in (by omega)).symm⟩)) (fun j z0 z1 => (f14 j (by omega))) (fun t ht => if_neg ht)))⟩, (fun j z0 => (f14 j (by omega))), (by rw [shS, if_pos (c := okSh x y n) ⟨c4, c11, c17⟩, if_neg (nlt_of_ge c23), hx_k3])⟩ dX6_sheet_41
        · refine lv_bipush (v := (-14 : Int32)) C.1 C.2.1 dX6_sheet_26 (by decide) ?_
          exact xret_i C hr hlk hW ⟨⟨hXa, hXl, hXk, hXt, hXw, hXf, hXr, (by rw [shN, shL, shZ, if_neg (c := okSh x y n ∧ ¬ n < 0) (fun h => h.2 (lt_of_nge c23)), if_neg (c := okSh x y n ∧ ¬ n < 0) (fun h => h.2 (lt_of_nge c23)), if_neg (c := okSh x y n ∧ ¬ n < 0) (fun h => h.2 (lt_of_nge c23))]; exact hXs)⟩, (fun j z0 => rfl), (by rw [shS, if_pos (c := okSh x y n) ⟨c4, c11, c17⟩, if_pos (lt_of_nge c23)])⟩ dX6_sheet_28
      · refine lv_iconst (v := (-1 : Int32)) C.1 C.2.1 dX6_sheet_20 (by decide) ?_
        exact xret_i C hr hlk hW ⟨⟨hXa, hXl, hXk, hXt, hXw, hXf, hXr, (by rw [shN, shL, shZ, if_neg (c := okSh x y n ∧ ¬ n < 0) (fun h => c17 h.1.2.2), if_neg (c := okSh x y n ∧ ¬ n < 0) (fun h => c17 h.1.2.2), if_neg (c := okSh x y n ∧ ¬ n < 0) (fun h => c17 h.1.2.2)]; exact hXs)⟩, (fun j z0 => rfl), (by rw [shS, if_neg (c := okSh x y n) (fun h => c17 h.2.2)])⟩ dX6_sheet_21

set_option maxHeartbeats 4000000 in
set_option maxRecDepth 100000 in
theorem c_X6_drop (l : Launch) (g : GE) (w : Nat → va_E) (L K T ln sz : Nat → Nat) (hk tn : Nat) (Z : Nat → Int64) (x : Int32) (hI : AdInj g) (hN : gN g = 130) (hS : OkS (L, K, hk, tn, T, ln, sz, Z)) (pr0 : XAll g (L, K, hk, tn, T, ln, sz, Z) w) : Met l yX6_drop wsX6_drop ({ frames := 2, cells := 0, slots := 0, locals := 42 } : Room) (XPc g w [.ref (gad g 0), .int x]) (XQi g (fun r w' => XAll g (L, K, hk, tn, T, drN ln x, sz, Z) w' ∧ (∀ j : Nat, ¬ (0 ≤ j ∧ j < 119) → w' j = w j) ∧ r = drS ln sz x)) 0 0 (gA g) := by
  refine xmet (cc := cX6_drop) (maxL := 3) (ret := (some .int)) (by decide) rfl hI (Nat.le_of_ble_eq_true rfl) ?_
  intro pG eG sG mG belowG methG cG ls C hr hlk hK hW hl
  have hl : lv_has ls 3 [(0, .ref (gad g 0)), (1, .int x)] := hl
  have hinX4 : ∀ x ∈ u_ws RX4 TX4 4, x ∈ wsX6_drop := by decide +kernel
  have hinX6 : ∀ x ∈ u_ws RX6 TX6 9, x ∈ wsX6_drop := by decide +kernel
  obtain ⟨hXa, hXl, hXk, hXt, hXw, hXf, hXr, hXs⟩ := pr0
  have hXa : w 0 = cX0 g hk := hXa
  have hXl : XLand g 1 L w := hXl
  have hXk : XKept g hk K w := hXk
  have hXr : XRead g tn T w := hXr
  have hXs : XShs g ln sz Z w := hXs
  have hokL : OkL L := hS.1
  obtain ⟨hok, hs2, hdy, hdr, hcl, hkn, hcs, hps⟩ := hokL
  have hlz : ∀ s, s < 4 → ln s ≤ 4 ∧ sz s ≤ 24 := hS.2.2.2.2
  have hXs1 := hXs.1
  refine lv_iload_n C.1 C.2.1 dX6_drop_0 rfl (lv_at hl 1 rfl) ?_
  refine xcS_i (n := 1) (As := [.int x]) C hK hW (c_X6_isSheet l g w x hI hN) gX6_drop_X6_isSheet rfl ⟨rfl, rfl⟩ (by decide +kernel) ⟨Nat.le_of_ble_eq_true rfl, Nat.le_of_ble_eq_true rfl⟩ ⟨Nat.zero_le _, Nat.zero_le _⟩ rfl hl rfl (Nat.le_of_ble_eq_true rfl) dX6_drop_1 (fun r3 w1 H locs q2 hW => ?_)
  obtain ⟨qw4, rfl⟩ := q2
  rw [qw4] at hW
  refine xBne (tgt := 9) C dX6_drop_4 (by decide) (fun c4 => ?_) (fun c4 => ?_)
  · obtain ⟨k1, ha_k1, hb_k1, hx_k1⟩ := inR_N (by omega) (by omega) c4
    rw [hx_k1] at hl
    obtain ⟨b, hb⟩ : ∃ b, b = 111 + 2 * k1 := ⟨_, rfl⟩
    obtain ⟨hd, la, le, Y, hb0, hb1, hd1, hcc⟩ := XSheet_b hb (hXs.2 k1 (by omega))
    have hl4 := hlz k1 (by omega)
    have hee : (hd = 0 ∧ ln k1 = 0) ∨ (hd = 1 ∧ 0 < ln k1 ∧ la = ln k1 - 1 ∧ le = sz k1) := hcc.elim Or.inl (fun h => Or.inr ⟨h.1, h.2.1, h.2.2.1, h.2.2.2.1⟩)
    refine lv_aload_n C.1 C.2.1 dX6_drop_9 rfl (lv_at hl 0 rfl) ?_
    refine xget C hK hW hinX6 rfl (by omega) hXa 7 (by decide) (List.mem_of_getElem? (i := 1) rfl) rfl dX6_drop_10 ?_
    refine lv_iload_n C.1 C.2.1 dX6_drop_13 rfl (lv_at hl 1 rfl) ?_
    refine xaldS (q := gad g b) C hK hW (by omega) hXs1 (vp_in_nI (by omega) (by decide)) (by rw [nI_clamp (by omega)]; exact sh_at (by omega) hb) dX6_drop_14 ?_
    refine lv_astore_n (lv' := [(2, .ref (gad g b)), (0, .ref (gad g 0)), (1, .int (nI k1))]) C.1 C.2.1 dX6_drop_15 rfl hl (by decide) rfl (fun ls hl => ?_)
    refine lv_aload_n C.1 C.2.1 dX6_drop_16 rfl (lv_at hl 0 rfl) ?_
    refine xget C hK hW hinX4 rfl (by omega) hb0 0 (by decide) (List.mem_of_getElem? (i := 2) rfl) rfl dX6_drop_17 ?_
    refine x0ne (tgt := 26) C (by omega) dX6_drop_20 (by decide) (fun c20 => ?_) (fun c20 => ?_)
    · refine lv_aload_n C.1 C.2.1 dX6_drop_26 rfl (lv_at hl 0 rfl) ?_
      refine lv_iconst (v := (nI 0)) C.1 C.2.1 dX6_drop_27 (by decide) ?_
      refine xput (v := .int (nI 0)) C hK hW hinX4 tyX4_ok nmX4 rfl (by omega) hb0 0 (by decide) (List.mem_of_getElem? (i := 2) rfl) rfl rfl rfl (Nat.le_of_ble_eq_true rfl) dX6_drop_28 (fun w5 H locs e6 f7 hW => ?_)
      refine lv_aload_n C.1 C.2.1 dX6_drop_31 rfl (lv_at hl 0 rfl) ?_
      refine xget C hK hW hinX4 rfl (by omega) e6 2 (by decide) (List.mem_of_getElem? (i := 3) rfl) rfl dX6_drop_32 ?_
      have h0 : ¬ ln k1 = 0 := by omega
      have h8 : w5 (b + 1) = .inl (gJ g, 24, .inr (.inl (kK 0 24 (24 * k1) Y))) := ((f7 (b + 1) (by omega)).trans hb1)
      have h9 : w5 0 = .inr (6, [.ref (gad g 1), .ref (gad g 34), .ref (gad g 67), .ref (gad g 100), .ref (gad g 106), .ref (gad g 107), .ref (gad g 108), .ref (gad g 110), .int (nI hk)]) := ((f7 0 (by omega)).trans hXa)
      have h10 : XLand g 1 L w5 := (XLand.fr hXl (fun j h1 h2 => f7 j (by omega)))
      have h11 : XKept g hk K w5 := (XKept.fr hXk (fun j h1 h2 => f7 j (by omega)))
      have h12 : XTrial g  w5 := (XTrial.fr hXt (fun j h1 h2 => f7 j (by omega)))
      have h13 : XWays g  w5 := (XWays.fr hXw (fun j h1 h2 => f7 j (by omega)))
      have h14 : XFr g  w5 := (XFr.fr hXf (fun j h1 h2 => f7 j (by omega)))
      have h15 : XRead g tn T w5 := (XRead.fr hXr (fun j h1 h2 => f7 j (by omega)))
      exact xret_i C hr hlk hW ⟨⟨h9, h10, h11, h12, h13, h14, h15, (by rw [drN, if_pos (c := in3 x ∧ ¬ ln (cl x) = 0) ⟨c4, by rw [hx_k1, cl_nI (by omega)]; exact h0⟩, hx_k1, cl_nI (by omega)]; have hq := (XShs_up (c := sz k1) hXs (by omega) (XSheet_mk hb e6 h8 (Or.inl ⟨rfl, rfl⟩)) (fun j z0 z1 => (f7 j (by omega))) (fun t ht => rfl)); rw [va_up_id (f := sz) rfl] at hq; exact hq)⟩, (fun j z0 => (f7 j (by omega))), (by rw [drS, if_pos (c := in3 x) c4, hx_k1, cl_nI (by omega), if_neg h0, show le = sz k1 by omega])⟩ dX6_drop_35
    · refine lv_bipush (v := (-11 : Int32)) C.1 C.2.1 dX6_drop_23 (by decide) ?_
      have h0 : ln k1 = 0 := by omega
      exact xret_i C hr hlk hW ⟨⟨hXa, hXl, hXk, hXt, hXw, hXf, hXr, (by rw [drN, if_neg (c := in3 x ∧ ¬ ln (cl x) = 0) (fun h => h.2 (by rw [hx_k1, cl_nI (by omega)]; exact h0))]; exact hXs)⟩, (fun j z0 => rfl), (by rw [drS, if_pos (c := in3 x) c4, hx_k1, cl_nI (by omega), if_pos h0])⟩ dX6_drop_25
  · refine lv_iconst (v := (-1 : Int32)) C.1 C.2.1 dX6_drop_7 (by decide) ?_
    exact xret_i C hr hlk hW ⟨⟨hXa, hXl, hXk, hXt, hXw, hXf, hXr, (by rw [drN, if_neg (c := in3 x ∧ ¬ ln (cl x) = 0) (fun h => c4 h.1)]; exact hXs)⟩, (fun j z0 => rfl), (by rw [drS, if_neg (c := in3 x) c4])⟩ dX6_drop_8

set_option maxHeartbeats 4000000 in
set_option maxRecDepth 100000 in
theorem c_X6_item (l : Launch) (g : GE) (w : Nat → va_E) (L K T ln sz : Nat → Nat) (hk tn : Nat) (Z : Nat → Int64) (x : Int32) (y : Int32) (i : Int32) (v : Int64) (hI : AdInj g) (hN : gN g = 130) (hS : OkS (L, K, hk, tn, T, ln, sz, Z)) (pr0 : XAll g (L, K, hk, tn, T, ln, sz, Z) w) : Met l yX6_item wsX6_item ({ frames := 2, cells := 0, slots := 0, locals := 45 } : Room) (XPc g w [.ref (gad g 0), .int x, .int y, .int i, .long v]) (XQi g (fun r w' => XAll g (L, K, hk, tn, T, ln, sz, itZ ln sz Z x y i v) w' ∧ (∀ j : Nat, ¬ (0 ≤ j ∧ j < 119) → w' j = w j) ∧ r = itS ln sz x y i)) 0 0 (gA g) := by
  refine xmet (cc := cX6_item) (maxL := 8) (ret := (some .int)) (by decide) rfl hI (Nat.le_of_ble_eq_true rfl) ?_
  intro pG eG sG mG belowG methG cG ls C hr hlk hK hW hl
  have hl : lv_has ls 8 [(0, .ref (gad g 0)), (1, .int x), (2, .int y), (3, .int i), (4, .long v)] := hl
  have hinX6 : ∀ x ∈ u_ws RX6 TX6 9, x ∈ wsX6_item := by decide +kernel
  obtain ⟨hXa, hXl, hXk, hXt, hXw, hXf, hXr, hXs⟩ := pr0
  have hXa : w 0 = cX0 g hk := hXa
  have hXl : XLand g 1 L w := hXl
  have hXk : XKept g hk K w := hXk
  have hXr : XRead g tn T w := hXr
  have hXs : XShs g ln sz Z w := hXs
  have hokL : OkL L := hS.1
  obtain ⟨hok, hs2, hdy, hdr, hcl, hkn, hcs, hps⟩ := hokL
  have hlz : ∀ s, s < 4 → ln s ≤ 4 ∧ sz s ≤ 24 := hS.2.2.2.2
  have hXs1 := hXs.1
  refine lv_iload_n C.1 C.2.1 dX6_item_0 rfl (lv_at hl 1 rfl) ?_
  refine xcS_i (n := 1) (As := [.int x]) C hK hW (c_X6_isSheet l g w x hI hN) gX6_item_X6_isSheet rfl ⟨rfl, rfl⟩ (by decide +kernel) ⟨Nat.le_of_ble_eq_true rfl, Nat.le_of_ble_eq_true rfl⟩ ⟨Nat.zero_le _, Nat.zero_le _⟩ rfl hl rfl (Nat.le_of_ble_eq_true rfl) dX6_item_1 (fun r3 w1 H locs q2 hW => ?_)
  obtain ⟨qw4, rfl⟩ := q2
  rw [qw4] at hW
  refine xBeq (tgt := 14) C dX6_item_4 (by decide) (fun c4 => ?_) (fun c4 => ?_)
  · refine lv_iconst (v := (-1 : Int32)) C.1 C.2.1 dX6_item_14 (by decide) ?_
    exact xret_i C hr hlk hW ⟨⟨hXa, hXl, hXk, hXt, hXw, hXf, hXr, (by rw [itZ, if_neg (c := (in3 x ∧ in3 y) ∧ itW ln sz x y i = 0) (fun h => c4 h.1.1)]; exact hXs)⟩, (fun j z0 => rfl), (by rw [itS, if_neg (c := in3 x ∧ in3 y) (fun h => c4 h.1)])⟩ dX6_item_15
  · refine lv_iload_n C.1 C.2.1 dX6_item_7 rfl (lv_at hl 2 rfl) ?_
    refine xcS_i (n := 1) (As := [.int y]) C hK hW (c_X6_isLane l g w y hI hN) gX6_item_X6_isLane rfl ⟨rfl, rfl⟩ (by decide +kernel) ⟨Nat.le_of_ble_eq_true rfl, Nat.le_of_ble_eq_true rfl⟩ ⟨Nat.zero_le _, Nat.zero_le _⟩ rfl hl rfl (Nat.le_of_ble_eq_true rfl) dX6_item_8 (fun r7 w5 H locs q6 hW => ?_)
    obtain ⟨qw8, rfl⟩ := q6
    rw [qw8] at hW
    refine xBne (tgt := 16) C dX6_item_11 (by decide) (fun c11 => ?_) (fun c11 => ?_)
    · obtain ⟨k1, ha_k1, hb_k1, hx_k1⟩ := inR_N (by omega) (by omega) c4
      rw [hx_k1] at hl
      obtain ⟨b, hb⟩ : ∃ b, b = 111 + 2 * k1 := ⟨_, rfl⟩
      obtain ⟨hd, la, le, Y, hb0, hb1, hd1, hcc⟩ := XSheet_b hb (hXs.2 k1 (by omega))
      have hl4 := hlz k1 (by omega)
      have hiw : itW ln sz x y i = wrongS (ln k1) (sz k1) y i (nI 1) := by rw [itW, hx_k1, cl_nI (by omega)]
      refine lv_aload_n C.1 C.2.1 dX6_item_16 rfl (lv_at hl 0 rfl) ?_
      refine xget C hK hW hinX6 rfl (by omega) hXa 7 (by decide) (List.mem_of_getElem? (i := 1) rfl) rfl dX6_item_17 ?_
      refine lv_iload_n C.1 C.2.1 dX6_item_20 rfl (lv_at hl 1 rfl) ?_
      refine xaldS (q := gad g b) C hK hW (by omega) hXs1 (vp_in_nI (by omega) (by decide)) (by rw [nI_clamp (by omega)]; exact sh_at (by omega) hb) dX6_item_21 ?_
      refine lv_astore (lv' := [(6, .ref (gad g b)), (0, .ref (gad g 0)), (1, .int (nI k1)), (2, .int y), (3, .int i), (4, .long v)]) C.1 C.2.1 dX6_item_22 hl (by decide) rfl (fun ls hl => ?_)
      refine lv_aload C.1 C.2.1 dX6_item_24 (lv_at hl 0 rfl) ?_
      refine lv_iload_n C.1 C.2.1 dX6_item_26 rfl (lv_at hl 3 rfl) ?_
      refine lv_iload_n C.1 C.2.1 dX6_item_27 rfl (lv_at hl 4 rfl) ?_
      refine lv_iconst (v := (nI 1)) C.1 C.2.1 dX6_item_28 (by decide) ?_
      refine xcV_i (n := 3) (As := [.int y, .int i, .int (nI 1)]) C hK hW (c_X4_refusal l g w b hd la le y i (nI 1) hI hN (by omega) hd1 hb0) gX6_item_X4_refusal rfl ⟨rfl, rfl⟩ (by decide +kernel) ⟨Nat.le_of_ble_eq_true rfl, Nat.le_of_ble_eq_true rfl⟩ ⟨Nat.zero_le _, Nat.zero_le _⟩ rfl (by omega) hb0 rfl hl rfl (Nat.le_of_ble_eq_true rfl) dX6_item_29 (fun r11 w9 H locs q10 hW => ?_)
      obtain ⟨qw12, rfl⟩ := q10
      rw [qw12] at hW
      refine xtopI (b := wrongS (ln k1) (sz k1) y i (nI 1)) (ref_w hcc) ?_
      refine lv_istore (lv' := [(7, .int (wrongS (ln k1) (sz k1) y i (nI 1))), (6, .ref (gad g b)), (0, .ref (gad g 0)), (1, .int (nI k1)), (2, .int y), (3, .int i), (4, .long v)]) C.1 C.2.1 dX6_item_32 hl (by decide) rfl (fun ls hl => ?_)
      refine lv_iload C.1 C.2.1 dX6_item_34 (lv_at hl 0 rfl) ?_
      refine lv_if_eq (tgt := 42) C.1 C.2.1 dX6_item_36 (by decide) (fun c36 => ?_) (fun c36 => ?_)
      · obtain ⟨hw1, hw2, hw3⟩ := wrong_ok c36
        obtain ⟨a, m, hx_a, hx_m, ham⟩ := isPt_nat hl4.2 hw3
        have hm1 : m = 1 := by
          have h31 : m < 2 ^ 31 := by omega
          exact ((nI_eq (by decide) h31).mp hx_m).symm
        obtain ⟨hq1, hq2, hq3, hq4, hq5⟩ := hcc.resolve_left (fun h => absurd h.2 (by omega))
        rw [hx_a] at hl
        refine lv_aload C.1 C.2.1 dX6_item_42 (lv_at hl 1 rfl) ?_
        refine lv_iload_n C.1 C.2.1 dX6_item_44 rfl (lv_at hl 5 rfl) ?_
        refine lv_lload C.1 C.2.1 dX6_item_45 (lv_at hl 6 rfl) ?_
        refine xcV_v (n := 2) (As := [.int (nI a), .long v]) C hK hW (c_X4_put l g w b (24 * k1) hd la le a v Y hI hN (by omega) (by omega) (by omega) hb0 hb1) gX6_item_X4_put rfl ⟨rfl, rfl⟩ (by decide +kernel) ⟨Nat.le_of_ble_eq_true rfl, Nat.le_of_ble_eq_true rfl⟩ ⟨Nat.zero_le _, Nat.zero_le _⟩ rfl (by omega) hb0 rfl hl rfl (Nat.le_of_ble_eq_true rfl) dX6_item_47 (fun w13 H locs q14 hW => ?_)
        obtain ⟨h16, f17⟩ := q14
        refine lv_iconst (v := (nI 1)) C.1 C.2.1 dX6_item_50 (by decide) ?_
        have h18 : w13 b = .inr (4, [.int (nI hd), .int (nI la), .int (nI le), .ref (gad g (b + 1))]) := ((f17 b (by omega)).trans hb0)
        have h19 : w13 0 = .inr (6, [.ref (gad g 1), .ref (gad g 34), .ref (gad g 67), .ref (gad g 100), .ref (gad g 106), .ref (gad g 107), .ref (gad g 108), .ref (gad g 110), .int (nI hk)]) := ((f17 0 (by omega)).trans hXa)
        have h20 : XLand g 1 L w13 := (XLand.fr hXl (fun j h1 h2 => f17 j (by omega)))
        have h21 : XKept g hk K w13 := (XKept.fr hXk (fun j h1 h2 => f17 j (by omega)))
        have h22 : XTrial g  w13 := (XTrial.fr hXt (fun j h1 h2 => f17 j (by omega)))
        have h23 : XWays g  w13 := (XWays.fr hXw (fun j h1 h2 => f17 j (by omega)))
        have h24 : XFr g  w13 := (XFr.fr hXf (fun j h1 h2 => f17 j (by omega)))
        have h25 : XRead g tn T w13 := (XRead.fr hXr (fun j h1 h2 => f17 j (by omega)))
        exact xret_i C hr hlk hW ⟨⟨h19, h20, h21, h22, h23, h24, h25, (by rw [itZ, if_pos (c := (in3 x ∧ in3 y) ∧ itW ln sz x y i = 0) ⟨⟨c4, c11⟩, by rw [hiw]; exact c36⟩, hx_k1, hx_a, cl_nI (by omega), cl_nI (by omega)]; have hq := (XShs_up (a := ln k1) (c := sz k1) (Z' := va_up Z (24 * k1 + a) (cutL (ln k1 - 1) v)) hXs (by omega) (XSheet_mk hb h18 h16 (Or.inr ⟨hq1, hq2, hq3, hq4, fun i hi => by rw [hq3]; exact it_up hq5 i hi⟩)) (fun j z0 z1 => (f17 j (by omega))) (fun t ht => va_up_ne _ _ (by omega))); rw [va_up_id (f := sz) rfl, va_up_id (f := ln) rfl] at hq; exact hq)⟩, (fun j z0 => (f17 j (by omega))), (by rw [itS, if_pos (c := in3 x ∧ in3 y) ⟨c4, c11⟩, hiw, if_pos c36]; rfl)⟩ dX6_item_51
      · refine lv_iload C.1 C.2.1 dX6_item_39 (lv_at hl 0 rfl) ?_
        exact xret_i C hr hlk hW ⟨⟨hXa, hXl, hXk, hXt, hXw, hXf, hXr, (by rw [itZ, if_neg (c := (in3 x ∧ in3 y) ∧ itW ln sz x y i = 0) (fun h => c36 (by rw [← hiw]; exact h.2))]; exact hXs)⟩, (fun j z0 => rfl), (by rw [itS, if_pos (c := in3 x ∧ in3 y) ⟨c4, c11⟩, hiw, if_neg c36])⟩ dX6_item_41
    · refine lv_iconst (v := (-1 : Int32)) C.1 C.2.1 dX6_item_14 (by decide) ?_
      exact xret_i C hr hlk hW ⟨⟨hXa, hXl, hXk, hXt, hXw, hXf, hXr, (by rw [itZ, if_neg (c := (in3 x ∧ in3 y) ∧ itW ln sz x y i = 0) (fun h => c11 h.1.2)]; exact hXs)⟩, (fun j z0 => rfl), (by rw [itS, if_neg (c := in3 x ∧ in3 y) (fun h => c11 h.2)])⟩ dX6_item_15
