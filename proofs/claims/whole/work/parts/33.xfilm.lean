/-! the film; the weight of a way seen -/
def fiZ (o a k la : Nat) (L : Nat → Nat) (Z : Nat → Int64) : Nat → Int64 := fun t => if o + a ≤ t ∧ t < o + a + k then cutL la (lN (daysF L (t - (o + a) + 1) 2)) else Z t
theorem fiZ_0 {o a la : Nat} {L : Nat → Nat} {Z : Nat → Int64} : fiZ o a 0 la L Z = Z := by
  funext t
  exact if_neg (by omega)
theorem fiZ_up {o a k la : Nat} {L : Nat → Nat} {Z : Nat → Int64} : fiZ o a (k + 1) la L Z = va_up (fiZ o a k la L Z) (o + (a + k)) (cutL la (lN (daysF L (k + 1) 2))) := by
  funext t
  by_cases h : t = o + (a + k)
  · rw [h, va_up_self]
    refine (if_pos (by omega)).trans ?_
    rw [show o + (a + k) - (o + a) + 1 = k + 1 by omega]
  · rw [va_up_ne _ _ h]
    unfold fiZ
    by_cases q : o + a ≤ t ∧ t < o + a + k
    · rw [if_pos q, if_pos (by omega)]
    · rw [if_neg q, if_neg (by omega)]
theorem fiZ_eq {o a k la : Nat} {L : Nat → Nat} {Y Z : Nat → Int64} (h : ∀ i, i < 24 → Y (o + i) = Z (o + i)) : ∀ i, i < 24 → fiZ o a k la L Y (o + i) = fiZ o a k la L Z (o + i) := by
  intro i hi
  unfold fiZ
  by_cases q : o + a ≤ o + i ∧ o + i < o + a + k
  · rw [if_pos q, if_pos q]
  · rw [if_neg q, if_neg q]
    exact h i hi
theorem fiZ_out {o a k la t : Nat} {L : Nat → Nat} {Z : Nat → Int64} (hk : a + k ≤ 24) (h : ¬ (o ≤ t ∧ t < o + 24)) : fiZ o a k la L Z t = Z t := if_neg (by omega)
theorem XShs_up2 {g : GE} {k a c : Nat} {ln sz : Nat → Nat} {Z Z' : Nat → Int64} {w w' : Nat → va_E} (h : XShs g ln sz Z w) (hk : k < 4) (e : XSheet g k a c Z' w') (f : ∀ j, 110 ≤ j → j ≠ 111 + 2 * k → j ≠ 112 + 2 * k → w' j = w j) (hZ : ∀ t, ¬ (24 * k ≤ t ∧ t < 24 * k + 24) → Z' t = Z t) : XShs g (va_up ln k a) (va_up sz k c) Z' w' := by
  refine ⟨(f 110 (by omega) (by omega) (by omega)).trans h.1, fun s hs => ?_⟩
  by_cases q : s = k
  · rw [q, va_up_self, va_up_self]
    exact e
  · rw [va_up_ne _ _ q, va_up_ne _ _ q]
    obtain ⟨hd, la, le, Y, h0, h1, h2, h3⟩ := (h.2 s hs).fr (fun j h1 h2 => f j (by omega) (by omega) (by omega))
    refine ⟨hd, la, le, Y, h0, h1, h2, fun z => ⟨(h3 z).1, (h3 z).2.1, (h3 z).2.2.1, fun i hi => ?_⟩⟩
    rw [hZ _ (by omega)]
    exact (h3 z).2.2.2 i hi
abbrev okFi (n s c : Int32) : Prop := inR n (nI 1) (nI 24) ∧ in3 s ∧ in3 c
def filmS (ln sz : Nat → Nat) (n s c i : Int32) : Int32 := if okFi n s c then (if wrS ln sz s c i n = 0 then n else wrS ln sz s c i n) else -1
def filmZ (L ln sz : Nat → Nat) (Z : Nat → Int64) (n s c i : Int32) : Nat → Int64 := if okFi n s c ∧ wrS ln sz s c i n = 0 then fiZ (24 * cl s) (cl i) (cl n) (ln (cl s) - 1) L Z else Z

set_option maxHeartbeats 4000000 in
set_option maxRecDepth 100000 in
theorem c_X6_film (l : Launch) (g : GE) (w : Nat → va_E) (L K T ln sz : Nat → Nat) (hk tn : Nat) (Z : Nat → Int64) (n : Int32) (s : Int32) (c : Int32) (i : Int32) (hI : AdInj g) (hN : gN g = 130) (hS : OkS (L, K, hk, tn, T, ln, sz, Z)) (pr0 : XAll g (L, K, hk, tn, T, ln, sz, Z) w) : Met l yX6_film wsX6_film ({ frames := 4, cells := 0, slots := 0, locals := 89 } : Room) (XPc g w [.ref (gad g 0), .int n, .int s, .int c, .int i]) (XQi g (fun r w' => XAll g (L, K, hk, tn, T, ln, sz, filmZ L ln sz Z n s c i) w' ∧ (∀ j : Nat, ¬ (0 ≤ j ∧ j < 119) → w' j = w j) ∧ r = filmS ln sz n s c i)) 0 0 (gA g) := by
  refine xmet (cc := cX6_film) (maxL := 8) (ret := (some .int)) (by decide) rfl hI (Nat.le_of_ble_eq_true rfl) ?_
  intro pG eG sG mG belowG methG cG ls C hr hlk hK hW hl
  have hl : lv_has ls 8 [(0, .ref (gad g 0)), (1, .int n), (2, .int s), (3, .int c), (4, .int i)] := hl
  have hinX1 : ∀ x ∈ u_ws RX1 TX1 8, x ∈ wsX6_film := by decide +kernel
  have hinX2 : ∀ x ∈ u_ws RX2 TX2 5, x ∈ wsX6_film := by decide +kernel
  have hinX6 : ∀ x ∈ u_ws RX6 TX6 9, x ∈ wsX6_film := by decide +kernel
  obtain ⟨hXa, hXl, hXk, hXt, hXw, hXf, hXr, hXs⟩ := pr0
  have hXa : w 0 = cX0 g hk := hXa
  have hXl : XLand g 1 L w := hXl
  have hXk : XKept g hk K w := hXk
  have hXr : XRead g tn T w := hXr
  have hXs : XShs g ln sz Z w := hXs
  have hokL : OkL L := hS.1
  obtain ⟨hok, hs2, hdy, hdr, hcl, hkn, hcs, hps⟩ := hokL
  obtain ⟨π, P, CK, hG, hC, hCk, hPa, hPm, hPk⟩ := id hXl
  obtain ⟨tx, ty, TL, TC, hT, hTC⟩ := hXt
  have hlz : ∀ s, s < 4 → ln s ≤ 4 ∧ sz s ≤ 24 := hS.2.2.2.2
  have hXs1 := hXs.1
  refine lv_iload_n C.1 C.2.1 dX6_film_0 rfl (lv_at hl 1 rfl) ?_
  refine lv_iconst (v := (nI 1)) C.1 C.2.1 dX6_film_1 (by decide) ?_
  refine lv_bipush (v := (nI 24)) C.1 C.2.1 dX6_film_2 (by decide) ?_
  refine xcS_i (n := 3) (As := [.int n, .int (nI 1), .int (nI 24)]) C hK hW (c_X6_isWithin l g w n (nI 1) (nI 24) hI hN) gX6_film_X6_isWithin rfl ⟨rfl, rfl⟩ (by decide +kernel) ⟨Nat.le_of_ble_eq_true rfl, Nat.le_of_ble_eq_true rfl⟩ ⟨Nat.zero_le _, Nat.zero_le _⟩ rfl hl rfl (Nat.le_of_ble_eq_true rfl) dX6_film_4 (fun r3 w1 H locs q2 hW => ?_)
  obtain ⟨qw4, rfl⟩ := q2
  rw [qw4] at hW
  refine xBeq (tgt := 24) C dX6_film_7 (by decide) (fun c7 => ?_) (fun c7 => ?_)
  · refine lv_iconst (v := (-1 : Int32)) C.1 C.2.1 dX6_film_24 (by decide) ?_
    exact xret_i C hr hlk hW ⟨⟨hXa, hXl, hXk, ⟨_, _, _, _, hT, hTC⟩, hXw, hXf, hXr, (by rw [filmZ, if_neg (c := okFi n s c ∧ wrS ln sz s c i n = 0) (fun h => c7 h.1.1)]; exact hXs)⟩, (fun j z0 => rfl), (by rw [filmS, if_neg (c := okFi n s c) (fun h => c7 h.1)])⟩ dX6_film_25
  · refine lv_iload_n C.1 C.2.1 dX6_film_10 rfl (lv_at hl 2 rfl) ?_
    refine xcS_i (n := 1) (As := [.int s]) C hK hW (c_X6_isSheet l g w s hI hN) gX6_film_X6_isSheet rfl ⟨rfl, rfl⟩ (by decide +kernel) ⟨Nat.le_of_ble_eq_true rfl, Nat.le_of_ble_eq_true rfl⟩ ⟨Nat.zero_le _, Nat.zero_le _⟩ rfl hl rfl (Nat.le_of_ble_eq_true rfl) dX6_film_11 (fun r7 w5 H locs q6 hW => ?_)
    obtain ⟨qw8, rfl⟩ := q6
    rw [qw8] at hW
    refine xBeq (tgt := 24) C dX6_film_14 (by decide) (fun c14 => ?_) (fun c14 => ?_)
    · refine lv_iconst (v := (-1 : Int32)) C.1 C.2.1 dX6_film_24 (by decide) ?_
      exact xret_i C hr hlk hW ⟨⟨hXa, hXl, hXk, ⟨_, _, _, _, hT, hTC⟩, hXw, hXf, hXr, (by rw [filmZ, if_neg (c := okFi n s c ∧ wrS ln sz s c i n = 0) (fun h => c14 h.1.2.1)]; exact hXs)⟩, (fun j z0 => rfl), (by rw [filmS, if_neg (c := okFi n s c) (fun h => c14 h.2.1)])⟩ dX6_film_25
    · refine lv_iload_n C.1 C.2.1 dX6_film_17 rfl (lv_at hl 3 rfl) ?_
      refine xcS_i (n := 1) (As := [.int c]) C hK hW (c_X6_isLane l g w c hI hN) gX6_film_X6_isLane rfl ⟨rfl, rfl⟩ (by decide +kernel) ⟨Nat.le_of_ble_eq_true rfl, Nat.le_of_ble_eq_true rfl⟩ ⟨Nat.zero_le _, Nat.zero_le _⟩ rfl hl rfl (Nat.le_of_ble_eq_true rfl) dX6_film_18 (fun r11 w9 H locs q10 hW => ?_)
      obtain ⟨qw12, rfl⟩ := q10
      rw [qw12] at hW
      refine xBne (tgt := 26) C dX6_film_21 (by decide) (fun c21 => ?_) (fun c21 => ?_)
      · obtain ⟨k2, ha_k2, hb_k2, hx_k2⟩ := inR_N (by omega) (by omega) c14
        rw [hx_k2] at hl
        obtain ⟨b, hb⟩ : ∃ b, b = 111 + 2 * k2 := ⟨_, rfl⟩
        obtain ⟨hd, la, le, Y, hb0, hb1, hd1, hcc⟩ := XSheet_b hb (hXs.2 k2 (by omega))
        have hl4 := hlz k2 (by omega)
        have hiw : wrS ln sz s c i n = wrongS (ln k2) (sz k2) c i n := by rw [wrS, hx_k2, cl_nI (by omega)]
        refine lv_aload_n C.1 C.2.1 dX6_film_26 rfl (lv_at hl 0 rfl) ?_
        refine xget C hK hW hinX6 rfl (by omega) hXa 7 (by decide) (List.mem_of_getElem? (i := 1) rfl) rfl dX6_film_27 ?_
        refine lv_iload_n C.1 C.2.1 dX6_film_30 rfl (lv_at hl 2 rfl) ?_
        refine xaldS (q := gad g b) C hK hW (by omega) hXs1 (vp_in_nI (by omega) (by decide)) (by rw [nI_clamp (by omega)]; exact sh_at (by omega) hb) dX6_film_31 ?_
        refine lv_astore (lv' := [(5, .ref (gad g b)), (0, .ref (gad g 0)), (1, .int n), (2, .int (nI k2)), (3, .int c), (4, .int i)]) C.1 C.2.1 dX6_film_32 hl (by decide) rfl (fun ls hl => ?_)
        refine lv_aload C.1 C.2.1 dX6_film_34 (lv_at hl 0 rfl) ?_
        refine lv_iload_n C.1 C.2.1 dX6_film_36 rfl (lv_at hl 4 rfl) ?_
        refine lv_iload C.1 C.2.1 dX6_film_37 (lv_at hl 5 rfl) ?_
        refine lv_iload_n C.1 C.2.1 dX6_film_39 rfl (lv_at hl 2 rfl) ?_
        refine xcV_i (n := 3) (As := [.int c, .int i, .int n]) C hK hW (c_X4_refusal l g w b hd la le c i n hI hN (by omega) hd1 hb0) gX6_film_X4_refusal rfl ⟨rfl, rfl⟩ (by decide +kernel) ⟨Nat.le_of_ble_eq_true rfl, Nat.le_of_ble_eq_true rfl⟩ ⟨Nat.zero_le _, Nat.zero_le _⟩ rfl (by omega) hb0 rfl hl rfl (Nat.le_of_ble_eq_true rfl) dX6_film_40 (fun r15 w13 H locs q14 hW => ?_)
        obtain ⟨qw16, rfl⟩ := q14
        rw [qw16] at hW
        refine xtopI (b := wrongS (ln k2) (sz k2) c i n) (ref_w hcc) ?_
        refine lv_istore (lv' := [(6, .int (wrongS (ln k2) (sz k2) c i n)), (5, .ref (gad g b)), (0, .ref (gad g 0)), (1, .int n), (2, .int (nI k2)), (3, .int c), (4, .int i)]) C.1 C.2.1 dX6_film_43 hl (by decide) rfl (fun ls hl => ?_)
        refine lv_iload C.1 C.2.1 dX6_film_45 (lv_at hl 0 rfl) ?_
        refine lv_if_eq (tgt := 53) C.1 C.2.1 dX6_film_47 (by decide) (fun c47 => ?_) (fun c47 => ?_)
        · obtain ⟨hu1, hu2, hu3⟩ := wrong_ok c47
          obtain ⟨a, m, hx_a, hx_m, ham⟩ := isPt_nat hl4.2 hu3
          obtain ⟨hq1, hq2, hq3, hq4, hq5⟩ := hcc.resolve_left (fun h => absurd h.2 (by omega))
          rw [hx_a, hx_m] at hl
          refine lv_aload_n C.1 C.2.1 dX6_film_53 rfl (lv_at hl 2 rfl) ?_
          refine xget C hK hW hinX6 rfl (by omega) hXa 2 (by decide) (List.mem_of_getElem? (i := 2) rfl) rfl dX6_film_54 ?_
          refine lv_aload_n C.1 C.2.1 dX6_film_57 rfl (lv_at hl 2 rfl) ?_
          refine xget C hK hW hinX6 rfl (by omega) hXa 0 (by decide) (List.mem_of_getElem? (i := 3) rfl) rfl dX6_film_58 ?_
          refine xcV_v (n := 1) (As := [.ref (gad g 1)]) C hK hW (c_X1_takeGround l g w 67 1 tx ty (nI (L 40)) (nI (L 24)) TL L hI hN (by omega) (by omega) (by omega) hT hG) gX6_film_X1_takeGround rfl ⟨rfl, rfl⟩ (by decide +kernel) ⟨Nat.le_of_ble_eq_true rfl, Nat.le_of_ble_eq_true rfl⟩ ⟨Nat.zero_le _, Nat.zero_le _⟩ rfl (by omega) hT.1 rfl hl rfl (Nat.le_of_ble_eq_true rfl) dX6_film_61 (fun w17 H locs q18 hW => ?_)
          obtain ⟨h20, f21⟩ := q18
          refine lv_iconst (v := (nI 0)) C.1 C.2.1 dX6_film_64 (by decide) ?_
          refine lv_istore (lv' := [(7, .int (nI 0)), (6, .int (wrongS (ln k2) (sz k2) c (nI a) (nI m))), (5, .ref (gad g b)), (0, .ref (gad g 0)), (1, .int (nI m)), (2, .int (nI k2)), (3, .int c), (4, .int (nI a))]) C.1 C.2.1 dX6_film_65 hl (by decide) rfl (fun ls hl => ?_)
          have loop67 : ∀ (kG : Nat) (d : Nat) (nx ny : Int32) (v67 : Nat → va_E) (H : Heap) (locs : List Loc) (ls : Array Slot), kG = m - d → (v67 0 = .inr (6, [.ref (gad g 1), .ref (gad g 34), .ref (gad g 67), .ref (gad g 100), .ref (gad g 106), .ref (gad g 107), .ref (gad g 108), .ref (gad g 110), .int (nI hk)])) → (XLand g 1 L v67) → (XKept g hk K v67) → (XWays g  v67) → (XFr g  v67) → (XRead g tn T v67) → (GAt g 67 nx ny (daysF L d) v67) → (CAt g 67 TC v67) → (v67 b = .inr (4, [.int (nI hd), .int (nI la), .int (nI le), .ref (gad g (b + 1))])) → (v67 (b + 1) = .inl (gJ g, 24, .inr (.inl (kK 0 24 (24 * k2) (fiZ (24 * k2) a d la L Y))))) → (∀ j : Nat, ¬ (0 ≤ j ∧ j < 119) → v67 j = w j) → (d ≤ m) → (∀ j, 110 ≤ j → j ≠ b → j ≠ b + 1 → v67 j = w j) → (Okg (daysF L d) ∧ daysF L d 2 < 7) → XW g v67 (gA g) sG.heap H locs → lv_has ls 8 [(7, .int (nI d)), (0, .ref (gad g 0)), (1, .int (nI m)), (4, .int (nI a)), (5, .ref (gad g b))] → W pG l eG ({ frames := 4, cells := 0, slots := 0, locals := 89 } : Room) sG mG ([.ref (gad g 0), .int n, .int s, .int c, .int i] : List Value).toArray belowG methG cG H locs 0 0 (MQ belowG (XQi g (fun r w' => XAll g (L, K, hk, tn, T, ln, sz, filmZ L ln sz Z n s c i) w' ∧ (∀ j : Nat, ¬ (0 ≤ j ∧ j < 119) → w' j = w j) ∧ r = filmS ln sz n s c i)) ([.ref (gad g 0), .int n, .int s, .int c, .int i] : List Value).toArray sG 0 0 (gA g)) (F0 mG 67 ls []) := by
            intro k67
            induction k67 using Nat.strongRecOn with
            | _ k67 ih67 =>
            intro d nx ny v67 H locs ls hk67 fa67_0 fa67_1 fa67_2 fa67_3 fa67_4 fa67_5 fa67_6 fa67_7 fa67_8 fa67_9 hfr67 hdm hoth hokd hW hl
            refine lv_iload C.1 C.2.1 dX6_film_67 (lv_at hl 0 rfl) ?_
            refine lv_iload_n C.1 C.2.1 dX6_film_69 rfl (lv_at hl 2 rfl) ?_
            refine xge (tgt := 107) C (by omega) (by omega) dX6_film_70 (by decide) (fun c70 => ?_) (fun c70 => ?_)
            · refine lv_iload_n C.1 C.2.1 dX6_film_107 rfl (lv_at hl 2 rfl) ?_
              exact xret_i C hr hlk hW ⟨⟨fa67_0, fa67_1, fa67_2, ⟨_, _, _, _, fa67_6, fa67_7⟩, fa67_3, fa67_4, fa67_5, (by rw [filmZ, if_pos (c := okFi n s c ∧ wrS ln sz s c i n = 0) ⟨⟨c7, c14, c21⟩, by rw [hiw]; exact c47⟩, hx_k2, hx_a, hx_m, cl_nI (by omega), cl_nI (by omega), cl_nI (by omega), ← hq3]; have hq := XShs_up2 (a := ln k2) (c := sz k2) (Z' := fiZ (24 * k2) a m la L Z) hXs (by omega) (XSheet_mk hb fa67_8 fa67_9 (Or.inr ⟨hq1, hq2, hq3, hq4, by rw [show d = m by omega]; exact fiZ_eq hq5⟩)) (fun j z0 z1 z2 => hoth j z0 (by omega) (by omega)) (fun t ht => fiZ_out (by omega) ht); rw [va_up_id (f := sz) rfl, va_up_id (f := ln) rfl] at hq; exact hq)⟩, (fun j z0 => (hfr67 j z0)), (by rw [filmS, if_pos (c := okFi n s c) ⟨c7, c14, c21⟩, hiw, if_pos c47, hx_m])⟩ dX6_film_108
            · refine lv_aload_n C.1 C.2.1 dX6_film_73 rfl (lv_at hl 1 rfl) ?_
              refine xget C hK hW hinX6 rfl (by omega) fa67_0 2 (by decide) (List.mem_of_getElem? (i := 2) rfl) rfl dX6_film_74 ?_
              refine xcV_v (n := 0) (As := []) C hK hW (c_X1_passDay l g v67 67 nx ny (daysF L d) hI hN (by omega) hokd.1 hokd.2 fa67_6) gX6_film_X1_passDay rfl ⟨rfl, rfl⟩ (by decide +kernel) ⟨Nat.le_of_ble_eq_true rfl, Nat.le_of_ble_eq_true rfl⟩ ⟨Nat.zero_le _, Nat.zero_le _⟩ rfl (by omega) fa67_6.1 rfl hl rfl (Nat.le_of_ble_eq_true rfl) dX6_film_77 (fun w22 H locs q23 hW => ?_)
              obtain ⟨h25, f26⟩ := q23
              have h27 : GAt g 67 nx ny (daysF L (d + 1)) w22 := h25
              have hdx : Okg (daysF L (d + 1)) ∧ daysF L (d + 1) 2 < 7 := dayF_ok hokd.1 hokd.2
              refine lv_aload C.1 C.2.1 dX6_film_80 (lv_at hl 4 rfl) ?_
              refine lv_iload C.1 C.2.1 dX6_film_82 (lv_at hl 3 rfl) ?_
              refine lv_iload C.1 C.2.1 dX6_film_84 (lv_at hl 0 rfl) ?_
              refine xadd C dX6_film_86 ?_
              refine lv_aload_n C.1 C.2.1 dX6_film_87 rfl (lv_at hl 1 rfl) ?_
              have h28 : w22 0 = .inr (6, [.ref (gad g 1), .ref (gad g 34), .ref (gad g 67), .ref (gad g 100), .ref (gad g 106), .ref (gad g 107), .ref (gad g 108), .ref (gad g 110), .int (nI hk)]) := ((f26 0 (by omega)).trans fa67_0)
              refine xget C hK hW hinX6 rfl (by omega) h28 2 (by decide) (List.mem_of_getElem? (i := 2) rfl) rfl dX6_film_88 ?_
              refine xget C hK hW hinX1 rfl (by omega) h27.1 1 (by decide) (List.mem_of_getElem? (i := 4) rfl) rfl dX6_film_91 ?_
              refine xget C hK hW hinX2 rfl (by omega) h27.2.2.1 0 (by decide) (List.mem_of_getElem? (i := 5) rfl) rfl dX6_film_94 ?_
              refine xi2l C (by omega) dX6_film_97 ?_
              have h29 : w22 b = .inr (4, [.int (nI hd), .int (nI la), .int (nI le), .ref (gad g (b + 1))]) := ((f26 b (by omega)).trans fa67_8)
              have h30 : w22 (b + 1) = .inl (gJ g, 24, .inr (.inl (kK 0 24 (24 * k2) (fiZ (24 * k2) a d la L Y)))) := ((f26 (b + 1) (by omega)).trans fa67_9)
              refine xcV_v (n := 2) (As := [.int (nI (a + d)), .long (lN ((daysF L (d + 1)) 2))]) C hK hW (c_X4_put l g w22 b (24 * k2) hd la le (a + d) (lN ((daysF L (d + 1)) 2)) (fiZ (24 * k2) a d la L Y) hI hN (by omega) (by omega) (by omega) h29 h30) gX6_film_X4_put rfl ⟨rfl, rfl⟩ (by decide +kernel) ⟨Nat.le_of_ble_eq_true rfl, Nat.le_of_ble_eq_true rfl⟩ ⟨Nat.zero_le _, Nat.zero_le _⟩ rfl (by omega) h29 rfl hl rfl (Nat.le_of_ble_eq_true rfl) dX6_film_98 (fun w31 H locs q32 hW => ?_)
              obtain ⟨h34, f35⟩ := q32
              refine lv_iinc (v := nI (d + 1)) (lv' := [(7, .int (nI (d + 1))), (0, .ref (gad g 0)), (1, .int (nI m)), (4, .int (nI a)), (5, .ref (gad g b))]) C.1 C.2.1 dX6_film_101 hl (k := 0) rfl (nI_add _ 1) (by decide) rfl (fun ls hl => ?_)
              refine lv_goto (tgt := 67) C.1 C.2.1 dX6_film_104 (by decide) ?_
              have h36 : w31 0 = .inr (6, [.ref (gad g 1), .ref (gad g 34), .ref (gad g 67), .ref (gad g 100), .ref (gad g 106), .ref (gad g 107), .ref (gad g 108), .ref (gad g 110), .int (nI hk)]) := ((f35 0 (by omega)).trans h28)
              have h37 : XLand g 1 L w31 := (XLand.fr (XLand.fr fa67_1 (fun j h1 h2 => f26 j (by omega))) (fun j h1 h2 => f35 j (by omega)))
              have h38 : XKept g hk K w31 := (XKept.fr (XKept.fr fa67_2 (fun j h1 h2 => f26 j (by omega))) (fun j h1 h2 => f35 j (by omega)))
              have h39 : XWays g  w31 := (XWays.fr (XWays.fr fa67_3 (fun j h1 h2 => f26 j (by omega))) (fun j h1 h2 => f35 j (by omega)))
              have h40 : XFr g  w31 := (XFr.fr (XFr.fr fa67_4 (fun j h1 h2 => f26 j (by omega))) (fun j h1 h2 => f35 j (by omega)))
              have h41 : XRead g tn T w31 := (XRead.fr (XRead.fr fa67_5 (fun j h1 h2 => f26 j (by omega))) (fun j h1 h2 => f35 j (by omega)))
              have h42 : GAt g 67 nx ny (daysF L (d + 1)) w31 := (GAt.fr h27 (fun j h1 h2 => f35 j (by omega)))
              have h43 : CAt g 67 TC w31 := (CAt.fr (CAt.fr fa67_7 (fun j h1 h2 => f26 j (by omega))) (fun j h1 h2 => f35 j (by omega)))
              have h44 : w31 b = .inr (4, [.int (nI hd), .int (nI la), .int (nI le), .ref (gad g (b + 1))]) := ((f35 b (by omega)).trans h29)
              exact ih67 (m - (d + 1)) (by omega) (d + 1) nx ny w31 _ _ _ rfl h36 h37 h38 h39 h40 h41 h42 h43 h44 (by rw [fiZ_up]; exact h34) (fun j z0 => ((f35 j (by omega)).trans ((f26 j (by omega)).trans (hfr67 j z0)))) (by omega) (fun j z0 z1 z2 => (((f35 j (by omega)).trans (f26 j (by omega))).trans (hoth j z0 z1 z2))) (dayF_ok hokd.1 hokd.2) hW hl
          have h45 : w17 0 = .inr (6, [.ref (gad g 1), .ref (gad g 34), .ref (gad g 67), .ref (gad g 100), .ref (gad g 106), .ref (gad g 107), .ref (gad g 108), .ref (gad g 110), .int (nI hk)]) := ((f21 0 (by omega)).trans hXa)
          have h46 : XLand g 1 L w17 := (XLand.fr hXl (fun j h1 h2 => f21 j (by omega)))
          have h47 : XKept g hk K w17 := (XKept.fr hXk (fun j h1 h2 => f21 j (by omega)))
          have h48 : XWays g  w17 := (XWays.fr hXw (fun j h1 h2 => f21 j (by omega)))
          have h49 : XFr g  w17 := (XFr.fr hXf (fun j h1 h2 => f21 j (by omega)))
          have h50 : XRead g tn T w17 := (XRead.fr hXr (fun j h1 h2 => f21 j (by omega)))
          have h51 : CAt g 67 TC w17 := (CAt.fr hTC (fun j h1 h2 => f21 j (by omega)))
          have h52 : w17 b = .inr (4, [.int (nI hd), .int (nI la), .int (nI le), .ref (gad g (b + 1))]) := ((f21 b (by omega)).trans hb0)
          have h53 : w17 (b + 1) = .inl (gJ g, 24, .inr (.inl (kK 0 24 (24 * k2) Y))) := ((f21 (b + 1) (by omega)).trans hb1)
          exact loop67 _ 0 tx ty w17 _ _ _ rfl h45 h46 h47 h48 h49 h50 h20 h51 h52 (by rw [fiZ_0]; exact h53) (fun j z0 => (f21 j (by omega))) (by omega) (fun j z0 z1 z2 => (f21 j (by omega))) (⟨hok, hs2⟩) hW (lv_sub hl [0, 3, 4, 7, 2] rfl)
        · refine lv_iload C.1 C.2.1 dX6_film_50 (lv_at hl 0 rfl) ?_
          exact xret_i C hr hlk hW ⟨⟨hXa, hXl, hXk, ⟨_, _, _, _, hT, hTC⟩, hXw, hXf, hXr, (by rw [filmZ, if_neg (c := okFi n s c ∧ wrS ln sz s c i n = 0) (fun h => c47 (by rw [← hiw]; exact h.2))]; exact hXs)⟩, (fun j z0 => rfl), (by rw [filmS, if_pos (c := okFi n s c) ⟨c7, c14, c21⟩, hiw, if_neg c47])⟩ dX6_film_52
      · refine lv_iconst (v := (-1 : Int32)) C.1 C.2.1 dX6_film_24 (by decide) ?_
        exact xret_i C hr hlk hW ⟨⟨hXa, hXl, hXk, ⟨_, _, _, _, hT, hTC⟩, hXw, hXf, hXr, (by rw [filmZ, if_neg (c := okFi n s c ∧ wrS ln sz s c i n = 0) (fun h => c21 h.1.2.2)]; exact hXs)⟩, (fun j z0 => rfl), (by rw [filmS, if_neg (c := okFi n s c) (fun h => c21 h.2.2)])⟩ dX6_film_25
