/-! items copied -/
def cpZ (o0 o1 a b n : Nat) (F G : Nat → Int64) : Nat → Int64 := fun i => if o1 + b ≤ i ∧ i < o1 + b + n then F (o0 + a + (i - (o1 + b))) else G i
theorem cpZ_eq {o0 o1 a b n : Nat} {F G Z : Nat → Int64} (h : a + n ≤ 24) (h1 : ∀ e, e < 24 → F (o0 + e) = Z (o0 + e)) (h2 : ∀ e, e < 24 → G (o1 + e) = Z (o1 + e)) : ∀ e, e < 24 → cpZ o0 o1 a b n F G (o1 + e) = cpZ o0 o1 a b n Z Z (o1 + e) := by
  intro e he
  unfold cpZ
  by_cases q : o1 + b ≤ o1 + e ∧ o1 + e < o1 + b + n
  · rw [if_pos q, if_pos q, Nat.add_assoc]
    exact h1 _ (by omega)
  · rw [if_neg q, if_neg q]
    exact h2 e he
theorem cpZ_out {o0 o1 a b n t : Nat} {F G : Nat → Int64} (h : b + n ≤ 24) (ht : ¬ (o1 ≤ t ∧ t < o1 + 24)) : cpZ o0 o1 a b n F G t = G t := if_neg (by omega)
abbrev copH (ln : Nat → Nat) (x y : Int32) : Prop := ln (cl x) = 0 ∨ ln (cl y) = 0
abbrev copP (sz : Nat → Nat) (x i y j n : Int32) : Prop := isPt i n (sz (cl x)) ∧ isPt j n (sz (cl y))
def copS (ln sz : Nat → Nat) (x i y j n : Int32) : Int32 := if in3 x ∧ in3 y then (if copH ln x y then -11 else if ln (cl x) = ln (cl y) then (if copP sz x i y j n then n else -13) else -12) else -1
def copZ (ln sz : Nat → Nat) (Z : Nat → Int64) (x i y j n : Int32) : Nat → Int64 := if (in3 x ∧ in3 y) ∧ ¬ copH ln x y ∧ ln (cl x) = ln (cl y) ∧ copP sz x i y j n then cpZ (24 * cl x) (24 * cl y) (cl i) (cl j) (cl n) Z Z else Z

set_option maxHeartbeats 4000000 in
set_option maxRecDepth 100000 in
theorem c_X6_copy (l : Launch) (g : GE) (w : Nat → va_E) (L K T ln sz : Nat → Nat) (hk tn : Nat) (Z : Nat → Int64) (x : Int32) (i : Int32) (y : Int32) (j : Int32) (n : Int32) (hI : AdInj g) (hN : gN g = 130) (hS : OkS (L, K, hk, tn, T, ln, sz, Z)) (pr0 : XAll g (L, K, hk, tn, T, ln, sz, Z) w) : Met l yX6_copy wsX6_copy ({ frames := 2, cells := 0, slots := 0, locals := 42 } : Room) (XPc g w [.ref (gad g 0), .int x, .int i, .int y, .int j, .int n]) (XQi g (fun r w' => XAll g (L, K, hk, tn, T, ln, sz, copZ ln sz Z x i y j n) w' ∧ (∀ j : Nat, ¬ (0 ≤ j ∧ j < 119) → w' j = w j) ∧ r = copS ln sz x i y j n)) 0 0 (gA g) := by
  refine xmet (cc := cX6_copy) (maxL := 8) (ret := (some .int)) (by decide) rfl hI (Nat.le_of_ble_eq_true rfl) ?_
  intro pG eG sG mG belowG methG cG ls C hr hlk hK hW hl
  have hl : lv_has ls 8 [(0, .ref (gad g 0)), (1, .int x), (2, .int i), (3, .int y), (4, .int j), (5, .int n)] := hl
  have hinX4 : ∀ x ∈ u_ws RX4 TX4 4, x ∈ wsX6_copy := by decide +kernel
  have hinX6 : ∀ x ∈ u_ws RX6 TX6 9, x ∈ wsX6_copy := by decide +kernel
  obtain ⟨hXa, hXl, hXk, hXt, hXw, hXf, hXr, hXs⟩ := pr0
  have hXa : w 0 = cX0 g hk := hXa
  have hXl : XLand g 1 L w := hXl
  have hXk : XKept g hk K w := hXk
  have hXr : XRead g tn T w := hXr
  have hXs : XShs g ln sz Z w := hXs
  have hokL : OkL L := hS.1
  obtain ⟨hok, hs2, hdy, hdr, hcl, hkn, hcs, hps⟩ := hokL
  have hlz : ∀ s, s < 4 → ln s ≤ 4 ∧ sz s ≤ 24 := hS.2.2.2.2
  have hXs1 := hXs.1
  refine lv_iload_n C.1 C.2.1 dX6_copy_0 rfl (lv_at hl 1 rfl) ?_
  refine xcS_i (n := 1) (As := [.int x]) C hK hW (c_X6_isSheet l g w x hI hN) gX6_copy_X6_isSheet rfl ⟨rfl, rfl⟩ (by decide +kernel) ⟨Nat.le_of_ble_eq_true rfl, Nat.le_of_ble_eq_true rfl⟩ ⟨Nat.zero_le _, Nat.zero_le _⟩ rfl hl rfl (Nat.le_of_ble_eq_true rfl) dX6_copy_1 (fun r3 w1 H locs q2 hW => ?_)
  obtain ⟨qw4, rfl⟩ := q2
  rw [qw4] at hW
  refine xBeq (tgt := 14) C dX6_copy_4 (by decide) (fun c4 => ?_) (fun c4 => ?_)
  · refine lv_iconst (v := (-1 : Int32)) C.1 C.2.1 dX6_copy_14 (by decide) ?_
    exact xret_i C hr hlk hW ⟨⟨hXa, hXl, hXk, hXt, hXw, hXf, hXr, (by rw [copZ, if_neg (c := (in3 x ∧ in3 y) ∧ ¬ copH ln x y ∧ ln (cl x) = ln (cl y) ∧ copP sz x i y j n) (fun h => c4 h.1.1)]; exact hXs)⟩, (fun j z0 => rfl), (by rw [copS, if_neg (c := in3 x ∧ in3 y) (fun h => c4 h.1)])⟩ dX6_copy_15
  · refine lv_iload_n C.1 C.2.1 dX6_copy_7 rfl (lv_at hl 3 rfl) ?_
    refine xcS_i (n := 1) (As := [.int y]) C hK hW (c_X6_isSheet l g w y hI hN) gX6_copy_X6_isSheet rfl ⟨rfl, rfl⟩ (by decide +kernel) ⟨Nat.le_of_ble_eq_true rfl, Nat.le_of_ble_eq_true rfl⟩ ⟨Nat.zero_le _, Nat.zero_le _⟩ rfl hl rfl (Nat.le_of_ble_eq_true rfl) dX6_copy_8 (fun r7 w5 H locs q6 hW => ?_)
    obtain ⟨qw8, rfl⟩ := q6
    rw [qw8] at hW
    refine xBne (tgt := 16) C dX6_copy_11 (by decide) (fun c11 => ?_) (fun c11 => ?_)
    · obtain ⟨k1, ha_k1, hb_k1, hx_k1⟩ := inR_N (by omega) (by omega) c4
      rw [hx_k1] at hl
      obtain ⟨k2, ha_k2, hb_k2, hx_k2⟩ := inR_N (by omega) (by omega) c11
      rw [hx_k2] at hl
      obtain ⟨bx, hbx⟩ : ∃ b, b = 111 + 2 * k1 := ⟨_, rfl⟩
      obtain ⟨hdx, lax, lex, Yx, hbox, hbix, hdxx, hccx⟩ := XSheet_b hbx (hXs.2 k1 (by omega))
      have hlx := hlz k1 (by omega)
      have heex : (hdx = 0 ∧ ln k1 = 0) ∨ (hdx = 1 ∧ 0 < ln k1 ∧ lax = ln k1 - 1 ∧ lex = sz k1) := hccx.elim Or.inl (fun h => Or.inr ⟨h.1, h.2.1, h.2.2.1, h.2.2.2.1⟩)
      by_cases same : k1 = k2
      · refine lv_aload_n C.1 C.2.1 dX6_copy_16 rfl (lv_at hl 0 rfl) ?_
        refine xget C hK hW hinX6 rfl (by omega) hXa 7 (by decide) (List.mem_of_getElem? (i := 1) rfl) rfl dX6_copy_17 ?_
        refine lv_iload_n C.1 C.2.1 dX6_copy_20 rfl (lv_at hl 1 rfl) ?_
        refine xaldS (q := gad g bx) C hK hW (by omega) hXs1 (vp_in_nI (by omega) (by decide)) (by rw [nI_clamp (by omega)]; exact sh_at (by omega) hbx) dX6_copy_21 ?_
        refine lv_astore (lv' := [(6, .ref (gad g bx)), (0, .ref (gad g 0)), (1, .int (nI k1)), (2, .int i), (3, .int (nI k2)), (4, .int j), (5, .int n)]) C.1 C.2.1 dX6_copy_22 hl (by decide) rfl (fun ls hl => ?_)
        refine lv_aload_n C.1 C.2.1 dX6_copy_24 rfl (lv_at hl 1 rfl) ?_
        refine xget C hK hW hinX6 rfl (by omega) hXa 7 (by decide) (List.mem_of_getElem? (i := 1) rfl) rfl dX6_copy_25 ?_
        refine lv_iload_n C.1 C.2.1 dX6_copy_28 rfl (lv_at hl 4 rfl) ?_
        refine xaldS (q := gad g bx) C hK hW (by omega) hXs1 (vp_in_nI (by omega) (by decide)) (by rw [nI_clamp (by omega)]; exact sh_at (by omega) (hbx.trans (by rw [same]))) dX6_copy_29 ?_
        refine lv_astore (lv' := [(7, .ref (gad g bx)), (6, .ref (gad g bx)), (0, .ref (gad g 0)), (1, .int (nI k1)), (2, .int i), (3, .int (nI k2)), (4, .int j), (5, .int n)]) C.1 C.2.1 dX6_copy_30 hl (by decide) rfl (fun ls hl => ?_)
        refine lv_aload C.1 C.2.1 dX6_copy_32 (lv_at hl 1 rfl) ?_
        refine xget C hK hW hinX4 rfl (by omega) hbox 0 (by decide) (List.mem_of_getElem? (i := 2) rfl) rfl dX6_copy_34 ?_
        refine x0eq (tgt := 48) C (by omega) dX6_copy_37 (by decide) (fun c37 => ?_) (fun c37 => ?_)
        · refine lv_bipush (v := (-11 : Int32)) C.1 C.2.1 dX6_copy_48 (by decide) ?_
          have hex : cl x = k1 := by rw [hx_k1, cl_nI (by omega)]
          have hey : cl y = k2 := by rw [hx_k2, cl_nI (by omega)]
          have hH : copH ln x y := by
            rw [copH, hex, hey, ← same]
            omega
          exact xret_i C hr hlk hW ⟨⟨hXa, hXl, hXk, hXt, hXw, hXf, hXr, (by rw [copZ, if_neg (c := (in3 x ∧ in3 y) ∧ ¬ copH ln x y ∧ ln (cl x) = ln (cl y) ∧ copP sz x i y j n) (fun h => h.2.1 hH)]; exact hXs)⟩, (fun j z0 => rfl), (by rw [copS, if_pos (c := in3 x ∧ in3 y) ⟨c4, c11⟩, if_pos hH])⟩ dX6_copy_50
        · refine lv_aload C.1 C.2.1 dX6_copy_40 (lv_at hl 0 rfl) ?_
          refine xget C hK hW hinX4 rfl (by omega) hbox 0 (by decide) (List.mem_of_getElem? (i := 2) rfl) rfl dX6_copy_42 ?_
          refine x0ne (tgt := 51) C (by omega) dX6_copy_45 (by decide) (fun c45 => ?_) (fun c45 => absurd c45 (by omega))
          refine lv_aload C.1 C.2.1 dX6_copy_51 (lv_at hl 1 rfl) ?_
          refine xget C hK hW hinX4 rfl (by omega) hbox 1 (by decide) (List.mem_of_getElem? (i := 3) rfl) rfl dX6_copy_53 ?_
          refine lv_aload C.1 C.2.1 dX6_copy_56 (lv_at hl 0 rfl) ?_
          refine xget C hK hW hinX4 rfl (by omega) hbox 1 (by decide) (List.mem_of_getElem? (i := 3) rfl) rfl dX6_copy_58 ?_
          refine xeq (tgt := 67) C (by omega) (by omega) dX6_copy_61 (by decide) (fun c61 => ?_) (fun c61 => absurd c61 (by omega))
          refine lv_aload C.1 C.2.1 dX6_copy_67 (lv_at hl 1 rfl) ?_
          refine lv_iload_n C.1 C.2.1 dX6_copy_69 rfl (lv_at hl 4 rfl) ?_
          refine lv_iload C.1 C.2.1 dX6_copy_70 (lv_at hl 7 rfl) ?_
          refine xcV_i (n := 2) (As := [.int i, .int n]) C hK hW (c_X4_hasItems l g w bx hdx lax lex i n hI hN (by omega) hbox) gX6_copy_X4_hasItems rfl ⟨rfl, rfl⟩ (by decide +kernel) ⟨Nat.le_of_ble_eq_true rfl, Nat.le_of_ble_eq_true rfl⟩ ⟨Nat.zero_le _, Nat.zero_le _⟩ rfl (by omega) hbox rfl hl rfl (Nat.le_of_ble_eq_true rfl) dX6_copy_72 (fun r11 w9 H locs q10 hW => ?_)
          obtain ⟨qw12, rfl⟩ := q10
          rw [qw12] at hW
          refine xBeq (tgt := 90) C dX6_copy_75 (by decide) (fun c75 => ?_) (fun c75 => ?_)
          · refine lv_bipush (v := (-13 : Int32)) C.1 C.2.1 dX6_copy_90 (by decide) ?_
            have hex : cl x = k1 := by rw [hx_k1, cl_nI (by omega)]
            have hey : cl y = k2 := by rw [hx_k2, cl_nI (by omega)]
            have hH : ¬ copH ln x y := by
              rw [copH, hex, hey, ← same]
              omega
            have hL : ln (cl x) = ln (cl y) := by
              rw [hex, hey, same]
            have hsx : lex = sz (cl x) := by rw [hex]; omega
            have hsy : lex = sz (cl y) := by rw [hey, ← same]; omega
            exact xret_i C hr hlk hW ⟨⟨hXa, hXl, hXk, hXt, hXw, hXf, hXr, (by rw [copZ, if_neg (c := (in3 x ∧ in3 y) ∧ ¬ copH ln x y ∧ ln (cl x) = ln (cl y) ∧ copP sz x i y j n) (fun h => c75 (by rw [hsx]; exact h.2.2.2.1))]; exact hXs)⟩, (fun j z0 => rfl), (by rw [copS, if_pos (c := in3 x ∧ in3 y) ⟨c4, c11⟩, if_neg hH, if_pos hL, if_neg (c := copP sz x i y j n) (fun h => c75 (by rw [hsx]; exact h.1))])⟩ dX6_copy_92
          · refine lv_aload C.1 C.2.1 dX6_copy_78 (lv_at hl 0 rfl) ?_
            refine lv_iload C.1 C.2.1 dX6_copy_80 (lv_at hl 6 rfl) ?_
            refine lv_iload C.1 C.2.1 dX6_copy_82 (lv_at hl 7 rfl) ?_
            refine xcV_i (n := 2) (As := [.int j, .int n]) C hK hW (c_X4_hasItems l g w bx hdx lax lex j n hI hN (by omega) hbox) gX6_copy_X4_hasItems rfl ⟨rfl, rfl⟩ (by decide +kernel) ⟨Nat.le_of_ble_eq_true rfl, Nat.le_of_ble_eq_true rfl⟩ ⟨Nat.zero_le _, Nat.zero_le _⟩ rfl (by omega) hbox rfl hl rfl (Nat.le_of_ble_eq_true rfl) dX6_copy_84 (fun r15 w13 H locs q14 hW => ?_)
            obtain ⟨qw16, rfl⟩ := q14
            rw [qw16] at hW
            refine xBne (tgt := 93) C dX6_copy_87 (by decide) (fun c87 => ?_) (fun c87 => ?_)
            · obtain ⟨a, m, hx_a, hx_m, ham⟩ := isPt_nat (by omega) c75
              obtain ⟨a2, m2, hx_a2, hx_m2, ham2⟩ := isPt_nat (by omega) c87
              have hmm : m2 = m := (nI_eq (by omega) (by omega)).mp (hx_m2.symm.trans hx_m)
              rw [hx_a, hx_a2, hx_m] at hl
              obtain ⟨hp1, hp2, hp3, hp4, hp5⟩ := hccx.resolve_left (fun h => absurd h.2 (by omega))
              obtain ⟨hq1, hq2, hq3, hq4, hq5⟩ := hccx.resolve_left (fun h => absurd h.2 (by omega))
              refine lv_aload C.1 C.2.1 dX6_copy_93 (lv_at hl 1 rfl) ?_
              refine xget C hK hW hinX4 rfl (by omega) hbox 3 (by decide) (List.mem_of_getElem? (i := 4) rfl) rfl dX6_copy_95 ?_
              refine lv_iload_n C.1 C.2.1 dX6_copy_98 rfl (lv_at hl 4 rfl) ?_
              refine lv_aload C.1 C.2.1 dX6_copy_99 (lv_at hl 0 rfl) ?_
              refine xget C hK hW hinX4 rfl (by omega) hbox 3 (by decide) (List.mem_of_getElem? (i := 4) rfl) rfl dX6_copy_101 ?_
              refine lv_iload C.1 C.2.1 dX6_copy_104 (lv_at hl 6 rfl) ?_
              refine lv_iload C.1 C.2.1 dX6_copy_106 (lv_at hl 7 rfl) ?_
              refine xcpyl C hK hW hl (by omega) hbix (by omega) hbix (by omega) (by omega) (by decide) (by decide) (List.mem_of_getElem? (i := 5) rfl) (List.mem_of_getElem? (i := 6) rfl) (List.mem_of_getElem? (i := 7) rfl) (List.mem_of_getElem? (i := 8) rfl) (Nat.le_of_ble_eq_true rfl) (Nat.le_of_ble_eq_true rfl) dX6_copy_108 (fun w17 H locs e18 f19 hW => ?_)
              rw [kK_cpy (by omega) (by omega)] at e18
              refine lv_iload C.1 C.2.1 dX6_copy_111 (lv_at hl 7 rfl) ?_
              have hex : cl x = k1 := by rw [hx_k1, cl_nI (by omega)]
              have hey : cl y = k2 := by rw [hx_k2, cl_nI (by omega)]
              have hH : ¬ copH ln x y := by
                rw [copH, hex, hey, ← same]
                omega
              have hL : ln (cl x) = ln (cl y) := by
                rw [hex, hey, same]
              have hsx : lex = sz (cl x) := by rw [hex]; omega
              have hsy : lex = sz (cl y) := by rw [hey, ← same]; omega
              have hP : copP sz x i y j n := ⟨hsx ▸ c75, hsy ▸ c87⟩
              have h20 : w17 bx = .inr (4, [.int (nI hdx), .int (nI lax), .int (nI lex), .ref (gad g (bx + 1))]) := ((f19 bx (by omega)).trans hbox)
              have h21 : w17 0 = .inr (6, [.ref (gad g 1), .ref (gad g 34), .ref (gad g 67), .ref (gad g 100), .ref (gad g 106), .ref (gad g 107), .ref (gad g 108), .ref (gad g 110), .int (nI hk)]) := ((f19 0 (by omega)).trans hXa)
              have h22 : XLand g 1 L w17 := (XLand.fr hXl (fun j h1 h2 => f19 j (by omega)))
              have h23 : XKept g hk K w17 := (XKept.fr hXk (fun j h1 h2 => f19 j (by omega)))
              have h24 : XTrial g  w17 := (XTrial.fr hXt (fun j h1 h2 => f19 j (by omega)))
              have h25 : XWays g  w17 := (XWays.fr hXw (fun j h1 h2 => f19 j (by omega)))
              have h26 : XFr g  w17 := (XFr.fr hXf (fun j h1 h2 => f19 j (by omega)))
              have h27 : XRead g tn T w17 := (XRead.fr hXr (fun j h1 h2 => f19 j (by omega)))
              exact xret_i C hr hlk hW ⟨⟨h21, h22, h23, h24, h25, h26, h27, (by rw [copZ, if_pos (c := (in3 x ∧ in3 y) ∧ ¬ copH ln x y ∧ ln (cl x) = ln (cl y) ∧ copP sz x i y j n) ⟨⟨c4, c11⟩, hH, hL, hP⟩, hex, hey, ← same, hx_a, hx_a2, hx_m, cl_nI (by omega), cl_nI (by omega), cl_nI (by omega)]; have hq := XShs_up (a := ln k1) (c := sz k1) (Z' := cpZ (24 * k1) (24 * k1) a a2 m Z Z) hXs (by omega) (XSheet_mk hbx h20 e18 (Or.inr ⟨hq1, hq2, hq3, hq4, cpZ_eq (by omega) hp5 hq5⟩)) (fun j z0 z1 => (f19 j (by omega))) (fun t ht => cpZ_out (by omega) ht); rw [va_up_id (f := sz) rfl, va_up_id (f := ln) rfl] at hq; exact hq)⟩, (fun j z0 => (f19 j (by omega))), (by rw [copS, if_pos (c := in3 x ∧ in3 y) ⟨c4, c11⟩, if_neg hH, if_pos hL, if_pos hP, hx_m])⟩ dX6_copy_113
            · refine lv_bipush (v := (-13 : Int32)) C.1 C.2.1 dX6_copy_90 (by decide) ?_
              have hex : cl x = k1 := by rw [hx_k1, cl_nI (by omega)]
              have hey : cl y = k2 := by rw [hx_k2, cl_nI (by omega)]
              have hH : ¬ copH ln x y := by
                rw [copH, hex, hey, ← same]
                omega
              have hL : ln (cl x) = ln (cl y) := by
                rw [hex, hey, same]
              have hsx : lex = sz (cl x) := by rw [hex]; omega
              have hsy : lex = sz (cl y) := by rw [hey, ← same]; omega
              exact xret_i C hr hlk hW ⟨⟨hXa, hXl, hXk, hXt, hXw, hXf, hXr, (by rw [copZ, if_neg (c := (in3 x ∧ in3 y) ∧ ¬ copH ln x y ∧ ln (cl x) = ln (cl y) ∧ copP sz x i y j n) (fun h => c87 (by rw [hsy]; exact h.2.2.2.2))]; exact hXs)⟩, (fun j z0 => rfl), (by rw [copS, if_pos (c := in3 x ∧ in3 y) ⟨c4, c11⟩, if_neg hH, if_pos hL, if_neg (c := copP sz x i y j n) (fun h => c87 (by rw [hsy]; exact h.2))])⟩ dX6_copy_92
      · obtain ⟨bq, hbq⟩ : ∃ b, b = 111 + 2 * k2 := ⟨_, rfl⟩
        obtain ⟨hdq, laq, leq, Yq, hboq, hbiq, hdxq, hccq⟩ := XSheet_b hbq (hXs.2 k2 (by omega))
        have hlq := hlz k2 (by omega)
        have heeq : (hdq = 0 ∧ ln k2 = 0) ∨ (hdq = 1 ∧ 0 < ln k2 ∧ laq = ln k2 - 1 ∧ leq = sz k2) := hccq.elim Or.inl (fun h => Or.inr ⟨h.1, h.2.1, h.2.2.1, h.2.2.2.1⟩)
        refine lv_aload_n C.1 C.2.1 dX6_copy_16 rfl (lv_at hl 0 rfl) ?_
        refine xget C hK hW hinX6 rfl (by omega) hXa 7 (by decide) (List.mem_of_getElem? (i := 1) rfl) rfl dX6_copy_17 ?_
        refine lv_iload_n C.1 C.2.1 dX6_copy_20 rfl (lv_at hl 1 rfl) ?_
        refine xaldS (q := gad g bx) C hK hW (by omega) hXs1 (vp_in_nI (by omega) (by decide)) (by rw [nI_clamp (by omega)]; exact sh_at (by omega) hbx) dX6_copy_21 ?_
        refine lv_astore (lv' := [(6, .ref (gad g bx)), (0, .ref (gad g 0)), (1, .int (nI k1)), (2, .int i), (3, .int (nI k2)), (4, .int j), (5, .int n)]) C.1 C.2.1 dX6_copy_22 hl (by decide) rfl (fun ls hl => ?_)
        refine lv_aload_n C.1 C.2.1 dX6_copy_24 rfl (lv_at hl 1 rfl) ?_
        refine xget C hK hW hinX6 rfl (by omega) hXa 7 (by decide) (List.mem_of_getElem? (i := 1) rfl) rfl dX6_copy_25 ?_
        refine lv_iload_n C.1 C.2.1 dX6_copy_28 rfl (lv_at hl 4 rfl) ?_
        refine xaldS (q := gad g bq) C hK hW (by omega) hXs1 (vp_in_nI (by omega) (by decide)) (by rw [nI_clamp (by omega)]; exact sh_at (by omega) hbq) dX6_copy_29 ?_
        refine lv_astore (lv' := [(7, .ref (gad g bq)), (6, .ref (gad g bx)), (0, .ref (gad g 0)), (1, .int (nI k1)), (2, .int i), (3, .int (nI k2)), (4, .int j), (5, .int n)]) C.1 C.2.1 dX6_copy_30 hl (by decide) rfl (fun ls hl => ?_)
        refine lv_aload C.1 C.2.1 dX6_copy_32 (lv_at hl 1 rfl) ?_
        refine xget C hK hW hinX4 rfl (by omega) hbox 0 (by decide) (List.mem_of_getElem? (i := 2) rfl) rfl dX6_copy_34 ?_
        refine x0eq (tgt := 48) C (by omega) dX6_copy_37 (by decide) (fun c37 => ?_) (fun c37 => ?_)
        · refine lv_bipush (v := (-11 : Int32)) C.1 C.2.1 dX6_copy_48 (by decide) ?_
          have hex : cl x = k1 := by rw [hx_k1, cl_nI (by omega)]
          have hey : cl y = k2 := by rw [hx_k2, cl_nI (by omega)]
          have hH : copH ln x y := by
            rw [copH, hex, hey]
            omega
          exact xret_i C hr hlk hW ⟨⟨hXa, hXl, hXk, hXt, hXw, hXf, hXr, (by rw [copZ, if_neg (c := (in3 x ∧ in3 y) ∧ ¬ copH ln x y ∧ ln (cl x) = ln (cl y) ∧ copP sz x i y j n) (fun h => h.2.1 hH)]; exact hXs)⟩, (fun j z0 => rfl), (by rw [copS, if_pos (c := in3 x ∧ in3 y) ⟨c4, c11⟩, if_pos hH])⟩ dX6_copy_50
        · refine lv_aload C.1 C.2.1 dX6_copy_40 (lv_at hl 0 rfl) ?_
          refine xget C hK hW hinX4 rfl (by omega) hboq 0 (by decide) (List.mem_of_getElem? (i := 2) rfl) rfl dX6_copy_42 ?_
          refine x0ne (tgt := 51) C (by omega) dX6_copy_45 (by decide) (fun c45 => ?_) (fun c45 => ?_)
          · refine lv_aload C.1 C.2.1 dX6_copy_51 (lv_at hl 1 rfl) ?_
            refine xget C hK hW hinX4 rfl (by omega) hbox 1 (by decide) (List.mem_of_getElem? (i := 3) rfl) rfl dX6_copy_53 ?_
            refine lv_aload C.1 C.2.1 dX6_copy_56 (lv_at hl 0 rfl) ?_
            refine xget C hK hW hinX4 rfl (by omega) hboq 1 (by decide) (List.mem_of_getElem? (i := 3) rfl) rfl dX6_copy_58 ?_
            refine xeq (tgt := 67) C (by omega) (by omega) dX6_copy_61 (by decide) (fun c61 => ?_) (fun c61 => ?_)
            · refine lv_aload C.1 C.2.1 dX6_copy_67 (lv_at hl 1 rfl) ?_
              refine lv_iload_n C.1 C.2.1 dX6_copy_69 rfl (lv_at hl 4 rfl) ?_
              refine lv_iload C.1 C.2.1 dX6_copy_70 (lv_at hl 7 rfl) ?_
              refine xcV_i (n := 2) (As := [.int i, .int n]) C hK hW (c_X4_hasItems l g w bx hdx lax lex i n hI hN (by omega) hbox) gX6_copy_X4_hasItems rfl ⟨rfl, rfl⟩ (by decide +kernel) ⟨Nat.le_of_ble_eq_true rfl, Nat.le_of_ble_eq_true rfl⟩ ⟨Nat.zero_le _, Nat.zero_le _⟩ rfl (by omega) hbox rfl hl rfl (Nat.le_of_ble_eq_true rfl) dX6_copy_72 (fun r30 w28 H locs q29 hW => ?_)
              obtain ⟨qw31, rfl⟩ := q29
              rw [qw31] at hW
              refine xBeq (tgt := 90) C dX6_copy_75 (by decide) (fun c75 => ?_) (fun c75 => ?_)
              · refine lv_bipush (v := (-13 : Int32)) C.1 C.2.1 dX6_copy_90 (by decide) ?_
                have hex : cl x = k1 := by rw [hx_k1, cl_nI (by omega)]
                have hey : cl y = k2 := by rw [hx_k2, cl_nI (by omega)]
                have hH : ¬ copH ln x y := by
                  rw [copH, hex, hey]
                  omega
                have hL : ln (cl x) = ln (cl y) := by
                  rw [hex, hey]
                  omega
                have hsx : lex = sz (cl x) := by rw [hex]; omega
                have hsy : leq = sz (cl y) := by rw [hey]; omega
                exact xret_i C hr hlk hW ⟨⟨hXa, hXl, hXk, hXt, hXw, hXf, hXr, (by rw [copZ, if_neg (c := (in3 x ∧ in3 y) ∧ ¬ copH ln x y ∧ ln (cl x) = ln (cl y) ∧ copP sz x i y j n) (fun h => c75 (by rw [hsx]; exact h.2.2.2.1))]; exact hXs)⟩, (fun j z0 => rfl), (by rw [copS, if_pos (c := in3 x ∧ in3 y) ⟨c4, c11⟩, if_neg hH, if_pos hL, if_neg (c := copP sz x i y j n) (fun h => c75 (by rw [hsx]; exact h.1))])⟩ dX6_copy_92
              · refine lv_aload C.1 C.2.1 dX6_copy_78 (lv_at hl 0 rfl) ?_
                refine lv_iload C.1 C.2.1 dX6_copy_80 (lv_at hl 6 rfl) ?_
                refine lv_iload C.1 C.2.1 dX6_copy_82 (lv_at hl 7 rfl) ?_
                refine xcV_i (n := 2) (As := [.int j, .int n]) C hK hW (c_X4_hasItems l g w bq hdq laq leq j n hI hN (by omega) hboq) gX6_copy_X4_hasItems rfl ⟨rfl, rfl⟩ (by decide +kernel) ⟨Nat.le_of_ble_eq_true rfl, Nat.le_of_ble_eq_true rfl⟩ ⟨Nat.zero_le _, Nat.zero_le _⟩ rfl (by omega) hboq rfl hl rfl (Nat.le_of_ble_eq_true rfl) dX6_copy_84 (fun r34 w32 H locs q33 hW => ?_)
                obtain ⟨qw35, rfl⟩ := q33
                rw [qw35] at hW
                refine xBne (tgt := 93) C dX6_copy_87 (by decide) (fun c87 => ?_) (fun c87 => ?_)
                · obtain ⟨a, m, hx_a, hx_m, ham⟩ := isPt_nat (by omega) c75
                  obtain ⟨a2, m2, hx_a2, hx_m2, ham2⟩ := isPt_nat (by omega) c87
                  have hmm : m2 = m := (nI_eq (by omega) (by omega)).mp (hx_m2.symm.trans hx_m)
                  rw [hx_a, hx_a2, hx_m] at hl
                  obtain ⟨hp1, hp2, hp3, hp4, hp5⟩ := hccx.resolve_left (fun h => absurd h.2 (by omega))
                  obtain ⟨hq1, hq2, hq3, hq4, hq5⟩ := hccq.resolve_left (fun h => absurd h.2 (by omega))
                  refine lv_aload C.1 C.2.1 dX6_copy_93 (lv_at hl 1 rfl) ?_
                  refine xget C hK hW hinX4 rfl (by omega) hbox 3 (by decide) (List.mem_of_getElem? (i := 4) rfl) rfl dX6_copy_95 ?_
                  refine lv_iload_n C.1 C.2.1 dX6_copy_98 rfl (lv_at hl 4 rfl) ?_
                  refine lv_aload C.1 C.2.1 dX6_copy_99 (lv_at hl 0 rfl) ?_
                  refine xget C hK hW hinX4 rfl (by omega) hboq 3 (by decide) (List.mem_of_getElem? (i := 4) rfl) rfl dX6_copy_101 ?_
                  refine lv_iload C.1 C.2.1 dX6_copy_104 (lv_at hl 6 rfl) ?_
                  refine lv_iload C.1 C.2.1 dX6_copy_106 (lv_at hl 7 rfl) ?_
                  refine xcpyl C hK hW hl (by omega) hbix (by omega) hbiq (by omega) (by omega) (by decide) (by decide) (List.mem_of_getElem? (i := 5) rfl) (List.mem_of_getElem? (i := 6) rfl) (List.mem_of_getElem? (i := 7) rfl) (List.mem_of_getElem? (i := 8) rfl) (Nat.le_of_ble_eq_true rfl) (Nat.le_of_ble_eq_true rfl) dX6_copy_108 (fun w36 H locs e37 f38 hW => ?_)
                  rw [kK_cpy (by omega) (by omega)] at e37
                  refine lv_iload C.1 C.2.1 dX6_copy_111 (lv_at hl 7 rfl) ?_
                  have hex : cl x = k1 := by rw [hx_k1, cl_nI (by omega)]
                  have hey : cl y = k2 := by rw [hx_k2, cl_nI (by omega)]
                  have hH : ¬ copH ln x y := by
                    rw [copH, hex, hey]
                    omega
                  have hL : ln (cl x) = ln (cl y) := by
                    rw [hex, hey]
                    omega
                  have hsx : lex = sz (cl x) := by rw [hex]; omega
                  have hsy : leq = sz (cl y) := by rw [hey]; omega
                  have hP : copP sz x i y j n := ⟨hsx ▸ c75, hsy ▸ c87⟩
                  have h39 : w36 bq = .inr (4, [.int (nI hdq), .int (nI laq), .int (nI leq), .ref (gad g (bq + 1))]) := ((f38 bq (by omega)).trans hboq)
                  have h40 : w36 0 = .inr (6, [.ref (gad g 1), .ref (gad g 34), .ref (gad g 67), .ref (gad g 100), .ref (gad g 106), .ref (gad g 107), .ref (gad g 108), .ref (gad g 110), .int (nI hk)]) := ((f38 0 (by omega)).trans hXa)
                  have h41 : XLand g 1 L w36 := (XLand.fr hXl (fun j h1 h2 => f38 j (by omega)))
                  have h42 : XKept g hk K w36 := (XKept.fr hXk (fun j h1 h2 => f38 j (by omega)))
                  have h43 : XTrial g  w36 := (XTrial.fr hXt (fun j h1 h2 => f38 j (by omega)))
                  have h44 : XWays g  w36 := (XWays.fr hXw (fun j h1 h2 => f38 j (by omega)))
                  have h45 : XFr g  w36 := (XFr.fr hXf (fun j h1 h2 => f38 j (by omega)))
                  have h46 : XRead g tn T w36 := (XRead.fr hXr (fun j h1 h2 => f38 j (by omega)))
                  exact xret_i C hr hlk hW ⟨⟨h40, h41, h42, h43, h44, h45, h46, (by rw [copZ, if_pos (c := (in3 x ∧ in3 y) ∧ ¬ copH ln x y ∧ ln (cl x) = ln (cl y) ∧ copP sz x i y j n) ⟨⟨c4, c11⟩, hH, hL, hP⟩, hex, hey, hx_a, hx_a2, hx_m, cl_nI (by omega), cl_nI (by omega), cl_nI (by omega)]; have hq := XShs_up (a := ln k2) (c := sz k2) (Z' := cpZ (24 * k1) (24 * k2) a a2 m Z Z) hXs (by omega) (XSheet_mk hbq h39 e37 (Or.inr ⟨hq1, hq2, hq3, hq4, cpZ_eq (by omega) hp5 hq5⟩)) (fun j z0 z1 => (f38 j (by omega))) (fun t ht => cpZ_out (by omega) ht); rw [va_up_id (f := sz) rfl, va_up_id (f := ln) rfl] at hq; exact hq)⟩, (fun j z0 => (f38 j (by omega))), (by rw [copS, if_pos (c := in3 x ∧ in3 y) ⟨c4, c11⟩, if_neg hH, if_pos hL, if_pos hP, hx_m])⟩ dX6_copy_113
                · refine lv_bipush (v := (-13 : Int32)) C.1 C.2.1 dX6_copy_90 (by decide) ?_
                  have hex : cl x = k1 := by rw [hx_k1, cl_nI (by omega)]
                  have hey : cl y = k2 := by rw [hx_k2, cl_nI (by omega)]
                  have hH : ¬ copH ln x y := by
                    rw [copH, hex, hey]
                    omega
                  have hL : ln (cl x) = ln (cl y) := by
                    rw [hex, hey]
                    omega
                  have hsx : lex = sz (cl x) := by rw [hex]; omega
                  have hsy : leq = sz (cl y) := by rw [hey]; omega
                  exact xret_i C hr hlk hW ⟨⟨hXa, hXl, hXk, hXt, hXw, hXf, hXr, (by rw [copZ, if_neg (c := (in3 x ∧ in3 y) ∧ ¬ copH ln x y ∧ ln (cl x) = ln (cl y) ∧ copP sz x i y j n) (fun h => c87 (by rw [hsy]; exact h.2.2.2.2))]; exact hXs)⟩, (fun j z0 => rfl), (by rw [copS, if_pos (c := in3 x ∧ in3 y) ⟨c4, c11⟩, if_neg hH, if_pos hL, if_neg (c := copP sz x i y j n) (fun h => c87 (by rw [hsy]; exact h.2))])⟩ dX6_copy_92
            · refine lv_bipush (v := (-12 : Int32)) C.1 C.2.1 dX6_copy_64 (by decide) ?_
              have hex : cl x = k1 := by rw [hx_k1, cl_nI (by omega)]
              have hey : cl y = k2 := by rw [hx_k2, cl_nI (by omega)]
              have hH : ¬ copH ln x y := by
                rw [copH, hex, hey]
                omega
              have hL : ¬ ln (cl x) = ln (cl y) := by
                rw [hex, hey]
                omega
              exact xret_i C hr hlk hW ⟨⟨hXa, hXl, hXk, hXt, hXw, hXf, hXr, (by rw [copZ, if_neg (c := (in3 x ∧ in3 y) ∧ ¬ copH ln x y ∧ ln (cl x) = ln (cl y) ∧ copP sz x i y j n) (fun h => hL h.2.2.1)]; exact hXs)⟩, (fun j z0 => rfl), (by rw [copS, if_pos (c := in3 x ∧ in3 y) ⟨c4, c11⟩, if_neg hH, if_neg hL])⟩ dX6_copy_66
          · refine lv_bipush (v := (-11 : Int32)) C.1 C.2.1 dX6_copy_48 (by decide) ?_
            have hex : cl x = k1 := by rw [hx_k1, cl_nI (by omega)]
            have hey : cl y = k2 := by rw [hx_k2, cl_nI (by omega)]
            have hH : copH ln x y := by
              rw [copH, hex, hey]
              omega
            exact xret_i C hr hlk hW ⟨⟨hXa, hXl, hXk, hXt, hXw, hXf, hXr, (by rw [copZ, if_neg (c := (in3 x ∧ in3 y) ∧ ¬ copH ln x y ∧ ln (cl x) = ln (cl y) ∧ copP sz x i y j n) (fun h => h.2.1 hH)]; exact hXs)⟩, (fun j z0 => rfl), (by rw [copS, if_pos (c := in3 x ∧ in3 y) ⟨c4, c11⟩, if_pos hH])⟩ dX6_copy_50
    · refine lv_iconst (v := (-1 : Int32)) C.1 C.2.1 dX6_copy_14 (by decide) ?_
      exact xret_i C hr hlk hW ⟨⟨hXa, hXl, hXk, hXt, hXw, hXf, hXr, (by rw [copZ, if_neg (c := (in3 x ∧ in3 y) ∧ ¬ copH ln x y ∧ ln (cl x) = ln (cl y) ∧ copP sz x i y j n) (fun h => c11 h.1.2)]; exact hXs)⟩, (fun j z0 => rfl), (by rw [copS, if_neg (c := in3 x ∧ in3 y) (fun h => c11 h.2)])⟩ dX6_copy_15
