/-! the reference: the film, what is borne out -/
theorem fld_eq {x : Nat} {v : Int64} (hx : x < 7) : lN x = v ↔ nI x = fldX v := by
  unfold fldX
  by_cases h : ¬ v < lN 0 ∧ ¬ lN 6 < v
  · rw [if_pos h]
    obtain ⟨y, hy, rfl⟩ := pk_lOf h.1
    rw [pk_lLT (by omega) hy] at h
    rw [lN_i, pk_lEQ (by omega) hy, nI_eq (by omega) (by omega)]
  · rw [if_neg h]
    constructor
    · intro e
      rw [← e, pk_lLT (by omega) (by omega), pk_lLT (by omega) (by omega)] at h
      exact absurd ⟨by omega, by omega⟩ h
    · intro e
      exact absurd e.symm (m1_ne (by omega))
theorem goes_cong {L M : Nat → Nat} {q : Nat → Int64} {n : Nat} (h : ∀ i, i < 24 → M i = L i) (hok : Okg L) (hs : L 2 < 7) : goes M q n ↔ goes L q n := by
  constructor
  · intro z d hd
    rw [← daysF_congr h hok hs (d + 1) 2 (by omega)]
    exact z d hd
  · intro z d hd
    rw [daysF_congr h hok hs (d + 1) 2 (by omega)]
    exact z d hd

set_option maxHeartbeats 4000000 in
set_option maxRecDepth 100000 in
theorem c_X7_film (l : Launch) (g : GE) (w : Nat → va_E) (L K T ln sz : Nat → Nat) (hk tn : Nat) (Z : Nat → Int64) (n : Int32) (s : Int32) (c : Int32) (i : Int32) (hI : AdInj g) (hN : gN g = 130) (hS : OkS (L, K, hk, tn, T, ln, sz, Z)) (pr0 : MAll g (L, K, hk, tn, T, ln, sz, Z) w) : Met l yX7_film wsX7_film ({ frames := 3, cells := 0, slots := 0, locals := 69 } : Room) (XPc g w [.ref (gad g 119), .int n, .int s, .int c, .int i]) (XQi g (fun r w' => MAll g (L, K, hk, tn, T, ln, sz, filmZ L ln sz Z n s c i) w' ∧ (∀ j : Nat, ¬ (119 ≤ j ∧ j < 130) → w' j = w j) ∧ r = filmS ln sz n s c i)) 0 0 (gA g) := by
  refine xmet (cc := cX7_film) (maxL := 7) (ret := (some .int)) (by decide) rfl hI (Nat.le_of_ble_eq_true rfl) ?_
  intro pG eG sG mG belowG methG cG ls C hr hlk hK hW hl
  have hl : lv_has ls 7 [(0, .ref (gad g 119)), (1, .int n), (2, .int s), (3, .int c), (4, .int i)] := hl
  have hinX7 : ∀ x ∈ u_ws RX7 TX7 19, x ∈ wsX7_film := by decide +kernel
  obtain ⟨po, ao, mu, md, bu, bd, nu, TR, RD, KP, O, A, m0, m1, m2, m3, m4, m5, m6, m7, m8, m9, m10, m11⟩ := pr0
  have hokL : OkL L := hS.1
  obtain ⟨hok, hs2, hdy, hdr, hcl, hkn, hcs, hps⟩ := hokL
  have htn : tn ≤ 80 := hS.2.2.1
  have hlz : ∀ s, s < 4 → ln s ≤ 4 ∧ sz s ≤ 24 := hS.2.2.2.2
  have m0 : w 119 = .inr (7, [.ref (gad g 120), .ref (gad g 121), .ref (gad g 122), .int (nI tn), .ref (gad g 123), .int (nI po), .int nu, .ref (gad g 124), .ref (gad g 125), .ref (gad g 126), .ref (gad g 127), .int (nI hk), .ref (gad g 128), .ref (gad g 129), .long (lN ao), .long (lN mu), .long (lN md), .long (lN bu), .long (lN bd)]) := m0
  have m1 : w 120 = .inl (gI g, 4, .inl (kK 0 4 0 (laF ln))) := m1
  have m2 : w 121 = .inl (gI g, 4, .inl (cK 4 0 sz)) := m2
  have m3 : w 122 = .inl (gJ g, 96, .inr (.inl (kK 0 96 0 Z))) := m3
  have m4 : w 123 = .inl (gI g, 80, .inl (cK 80 0 T)) := m4
  have m5 : w 124 = .inl (gI g, 177, .inl (cK 177 0 L)) := m5
  have m9 : hk = 1 → KP = K := m9
  refine lv_iload_n C.1 C.2.1 dX7_film_0 rfl (lv_at hl 1 rfl) ?_
  refine lv_iconst (v := (nI 1)) C.1 C.2.1 dX7_film_1 (by decide) ?_
  refine lv_bipush (v := (nI 24)) C.1 C.2.1 dX7_film_2 (by decide) ?_
  refine xcS_i (n := 3) (As := [.int n, .int (nI 1), .int (nI 24)]) C hK hW (c_X7_in l g w n (nI 1) (nI 24) hI hN) gX7_film_X7_in rfl ⟨rfl, rfl⟩ (by decide +kernel) ⟨Nat.le_of_ble_eq_true rfl, Nat.le_of_ble_eq_true rfl⟩ ⟨Nat.zero_le _, Nat.zero_le _⟩ rfl hl rfl (Nat.le_of_ble_eq_true rfl) dX7_film_4 (fun r3 w1 H locs q2 hW => ?_)
  obtain ⟨qw4, rfl⟩ := q2
  rw [qw4] at hW
  refine xBeq (tgt := 26) C dX7_film_7 (by decide) (fun c7 => ?_) (fun c7 => ?_)
  · refine lv_iconst (v := (-1 : Int32)) C.1 C.2.1 dX7_film_26 (by decide) ?_
    exact xret_i C hr hlk hW ⟨(by rw [filmZ, if_neg (c := okFi n s c ∧ wrS ln sz s c i n = 0) (fun h => c7 h.1.1)]; exact ⟨_, _, _, _, _, _, _, _, _, _, _, _, m0, m1, m2, m3, m4, m5, m6, m7, m8, m9, m10, m11⟩), (fun j z0 => rfl), (by rw [filmS, if_neg (c := okFi n s c) (fun h => c7 h.1)])⟩ dX7_film_27
  · refine lv_iload_n C.1 C.2.1 dX7_film_10 rfl (lv_at hl 2 rfl) ?_
    refine xcS_i (n := 1) (As := [.int s]) C hK hW (c_X7_isSheet l g w s hI hN) gX7_film_X7_isSheet rfl ⟨rfl, rfl⟩ (by decide +kernel) ⟨Nat.le_of_ble_eq_true rfl, Nat.le_of_ble_eq_true rfl⟩ ⟨Nat.zero_le _, Nat.zero_le _⟩ rfl hl rfl (Nat.le_of_ble_eq_true rfl) dX7_film_11 (fun r7 w5 H locs q6 hW => ?_)
    obtain ⟨qw8, rfl⟩ := q6
    rw [qw8] at hW
    refine xBeq (tgt := 26) C dX7_film_14 (by decide) (fun c14 => ?_) (fun c14 => ?_)
    · refine lv_iconst (v := (-1 : Int32)) C.1 C.2.1 dX7_film_26 (by decide) ?_
      exact xret_i C hr hlk hW ⟨(by rw [filmZ, if_neg (c := okFi n s c ∧ wrS ln sz s c i n = 0) (fun h => c14 h.1.2.1)]; exact ⟨_, _, _, _, _, _, _, _, _, _, _, _, m0, m1, m2, m3, m4, m5, m6, m7, m8, m9, m10, m11⟩), (fun j z0 => rfl), (by rw [filmS, if_neg (c := okFi n s c) (fun h => c14 h.2.1)])⟩ dX7_film_27
    · refine lv_iload_n C.1 C.2.1 dX7_film_17 rfl (lv_at hl 3 rfl) ?_
      refine lv_iconst (v := (nI 0)) C.1 C.2.1 dX7_film_18 (by decide) ?_
      refine lv_iconst (v := (nI 3)) C.1 C.2.1 dX7_film_19 (by decide) ?_
      refine xcS_i (n := 3) (As := [.int c, .int (nI 0), .int (nI 3)]) C hK hW (c_X7_in l g w c (nI 0) (nI 3) hI hN) gX7_film_X7_in rfl ⟨rfl, rfl⟩ (by decide +kernel) ⟨Nat.le_of_ble_eq_true rfl, Nat.le_of_ble_eq_true rfl⟩ ⟨Nat.zero_le _, Nat.zero_le _⟩ rfl hl rfl (Nat.le_of_ble_eq_true rfl) dX7_film_20 (fun r11 w9 H locs q10 hW => ?_)
      obtain ⟨qw12, rfl⟩ := q10
      rw [qw12] at hW
      refine xBne (tgt := 28) C dX7_film_23 (by decide) (fun c23 => ?_) (fun c23 => ?_)
      · obtain ⟨k2, ha_k2, hb_k2, hx_k2⟩ := inR_N (by omega) (by omega) c14
        rw [hx_k2] at hl
        have hiw : wrS ln sz s c i n = wrongS (ln k2) (sz k2) c i n := by rw [wrS, hx_k2, cl_nI (by omega)]
        have hl4 := hlz k2 (by omega)
        refine lv_aload_n C.1 C.2.1 dX7_film_28 rfl (lv_at hl 0 rfl) ?_
        refine lv_iload_n C.1 C.2.1 dX7_film_29 rfl (lv_at hl 2 rfl) ?_
        refine lv_iload_n C.1 C.2.1 dX7_film_30 rfl (lv_at hl 3 rfl) ?_
        refine lv_iload C.1 C.2.1 dX7_film_31 (lv_at hl 4 rfl) ?_
        refine lv_iload_n C.1 C.2.1 dX7_film_33 rfl (lv_at hl 1 rfl) ?_
        refine xcV_i (n := 4) (As := [.int (nI k2), .int c, .int i, .int n]) C hK hW (c_X7_wrong l g w hk tn po nu ao mu md bu bd k2 c i n ln sz hI hN (by omega) hl4.1 m0 m1 m2) gX7_film_X7_wrong rfl ⟨rfl, rfl⟩ (by decide +kernel) ⟨Nat.le_of_ble_eq_true rfl, Nat.le_of_ble_eq_true rfl⟩ ⟨Nat.zero_le _, Nat.zero_le _⟩ rfl (by omega) m0 rfl hl rfl (Nat.le_of_ble_eq_true rfl) dX7_film_34 (fun r15 w13 H locs q14 hW => ?_)
        obtain ⟨qw16, rfl⟩ := q14
        rw [qw16] at hW
        refine lv_istore (lv' := [(5, .int (wrongS (ln k2) (sz k2) c i n)), (0, .ref (gad g 119)), (1, .int n), (2, .int (nI k2)), (3, .int c), (4, .int i)]) C.1 C.2.1 dX7_film_37 hl (by decide) rfl (fun ls hl => ?_)
        refine lv_iload C.1 C.2.1 dX7_film_39 (lv_at hl 0 rfl) ?_
        refine lv_if_eq (tgt := 47) C.1 C.2.1 dX7_film_41 (by decide) (fun c41 => ?_) (fun c41 => ?_)
        · obtain ⟨hu1, hu2, hu3⟩ := wrong_ok c41
          obtain ⟨a, m, hx_a, hx_m, ham⟩ := isPt_nat hl4.2 hu3
          rw [hx_a, hx_m, ← hu2] at hl
          refine lv_aload_n C.1 C.2.1 dX7_film_47 rfl (lv_at hl 1 rfl) ?_
          refine xcV_v (n := 0) (As := []) C hK hW (c_X7_begin l g w hk tn po nu ao mu md bu bd L TR hI hN m0 m5 m6) gX7_film_X7_begin rfl ⟨rfl, rfl⟩ (by decide +kernel) ⟨Nat.le_of_ble_eq_true rfl, Nat.le_of_ble_eq_true rfl⟩ ⟨Nat.zero_le _, Nat.zero_le _⟩ rfl (by omega) m0 rfl hl rfl (Nat.le_of_ble_eq_true rfl) dX7_film_48 (fun w17 H locs q18 hW => ?_)
          obtain ⟨h20, f21⟩ := q18
          refine lv_iconst (v := (nI 0)) C.1 C.2.1 dX7_film_51 (by decide) ?_
          refine lv_istore (lv' := [(6, .int (nI 0)), (5, .int (wrongS (ln k2) (sz k2) (nI (ln k2 - 1)) (nI a) (nI m))), (0, .ref (gad g 119)), (1, .int (nI m)), (2, .int (nI k2)), (3, .int (nI (ln k2 - 1))), (4, .int (nI a))]) C.1 C.2.1 dX7_film_52 hl (by decide) rfl (fun ls hl => ?_)
          have loop54 : ∀ (kG : Nat) (d : Nat) (TD : Nat → Nat) (v54 : Nat → va_E) (H : Heap) (locs : List Loc) (ls : Array Slot), kG = m - d → (v54 119 = .inr (7, [.ref (gad g 120), .ref (gad g 121), .ref (gad g 122), .int (nI tn), .ref (gad g 123), .int (nI po), .int nu, .ref (gad g 124), .ref (gad g 125), .ref (gad g 126), .ref (gad g 127), .int (nI hk), .ref (gad g 128), .ref (gad g 129), .long (lN ao), .long (lN mu), .long (lN md), .long (lN bu), .long (lN bd)])) → (v54 120 = .inl (gI g, 4, .inl (kK 0 4 0 (laF ln)))) → (v54 121 = .inl (gI g, 4, .inl (cK 4 0 sz))) → (v54 122 = .inl (gJ g, 96, .inr (.inl (kK 0 96 0 (fiZ (24 * k2) a d (ln k2 - 1) L Z))))) → (v54 123 = .inl (gI g, 80, .inl (cK 80 0 T))) → (v54 124 = .inl (gI g, 177, .inl (cK 177 0 L))) → (v54 125 = .inl (gI g, 177, .inl (cK 177 0 TD))) → (v54 126 = .inl (gI g, 177, .inl (cK 177 0 RD))) → (v54 127 = .inl (gI g, 177, .inl (cK 177 0 KP))) → (v54 128 = .inl (gJ g, 7, .inr (.inl (cL 7 0 O)))) → (v54 129 = .inl (gJ g, 7, .inr (.inl (cL 7 0 A)))) → (∀ j : Nat, ¬ (119 ≤ j ∧ j < 130) → v54 j = w j) → (d ≤ m) → (∀ i, i < 24 → TD i = daysF L d i) → XW g v54 (gA g) sG.heap H locs → lv_has ls 7 [(6, .int (nI d)), (0, .ref (gad g 119)), (1, .int (nI m)), (2, .int (nI k2)), (3, .int (nI (ln k2 - 1))), (4, .int (nI a))] → W pG l eG ({ frames := 3, cells := 0, slots := 0, locals := 69 } : Room) sG mG ([.ref (gad g 119), .int n, .int s, .int c, .int i] : List Value).toArray belowG methG cG H locs 0 0 (MQ belowG (XQi g (fun r w' => MAll g (L, K, hk, tn, T, ln, sz, filmZ L ln sz Z n s c i) w' ∧ (∀ j : Nat, ¬ (119 ≤ j ∧ j < 130) → w' j = w j) ∧ r = filmS ln sz n s c i)) ([.ref (gad g 119), .int n, .int s, .int c, .int i] : List Value).toArray sG 0 0 (gA g)) (F0 mG 54 ls []) := by
            intro k54
            induction k54 using Nat.strongRecOn with
            | _ k54 ih54 =>
            intro d TD v54 H locs ls hk54 fa54_0 fa54_1 fa54_2 fa54_3 fa54_4 fa54_5 fa54_6 fa54_7 fa54_8 fa54_9 fa54_10 hfr54 hdm hTD hW hl
            refine lv_iload C.1 C.2.1 dX7_film_54 (lv_at hl 0 rfl) ?_
            refine lv_iload_n C.1 C.2.1 dX7_film_56 rfl (lv_at hl 2 rfl) ?_
            refine xge (tgt := 99) C (by omega) (by omega) dX7_film_57 (by decide) (fun c57 => ?_) (fun c57 => ?_)
            · refine lv_iload_n C.1 C.2.1 dX7_film_99 rfl (lv_at hl 2 rfl) ?_
              exact xret_i C hr hlk hW ⟨(by rw [filmZ, if_pos (c := okFi n s c ∧ wrS ln sz s c i n = 0) ⟨⟨c7, c14, c23⟩, by rw [hiw]; exact c41⟩, hx_k2, hx_a, hx_m, cl_nI (by omega), cl_nI (by omega), cl_nI (by omega), ← show d = m by omega]; exact ⟨_, _, _, _, _, _, _, _, _, _, _, _, fa54_0, fa54_1, fa54_2, fa54_3, fa54_4, fa54_5, fa54_6, fa54_7, fa54_8, m9, fa54_9, fa54_10⟩), (fun j z0 => (hfr54 j z0)), (by rw [filmS, if_pos (c := okFi n s c) ⟨c7, c14, c23⟩, hiw, if_pos c41, hx_m])⟩ dX7_film_100
            · have hd1 := (daysF_ok hok hs2 d).1
              have hd2 := (daysF_ok hok hs2 d).2
              have hd3 := days1_lt hdr d
              have ht1 : Okg TD := Okg_congr hd1 hTD
              have ht2 : TD 2 < 7 := by rw [hTD 2 (by omega)]; exact hd2
              have ht3 : TD 1 < 2147483648 := by rw [hTD 1 (by omega)]; exact hd3
              refine lv_aload_n C.1 C.2.1 dX7_film_60 rfl (lv_at hl 1 rfl) ?_
              refine xget C hK hW hinX7 rfl (by omega) fa54_0 8 (by decide) (List.mem_of_getElem? (i := 1) rfl) rfl dX7_film_61 ?_
              refine xcS_v (n := 1) (As := [.ref (gad g 125)]) C hK hW (c_X7_dayIn l g v54 125 TD hI hN (by omega) ht1 ht2 ht3 fa54_6) gX7_film_X7_dayIn rfl ⟨rfl, rfl⟩ (by decide +kernel) ⟨Nat.le_of_ble_eq_true rfl, Nat.le_of_ble_eq_true rfl⟩ ⟨Nat.zero_le _, Nat.zero_le _⟩ rfl hl rfl (Nat.le_of_ble_eq_true rfl) dX7_film_64 (fun w22 H locs q23 hW => ?_)
              obtain ⟨h25, f26⟩ := q23
              have hTE : ∀ i, i < 24 → dayF TD i = daysF L (d + 1) i := dayF_congr hTD hd2
              have hT2 := hTE 2 (by omega)
              have hds := (daysF_ok hok hs2 (d + 1)).2
              refine lv_aload_n C.1 C.2.1 dX7_film_67 rfl (lv_at hl 1 rfl) ?_
              have h27 : w22 119 = .inr (7, [.ref (gad g 120), .ref (gad g 121), .ref (gad g 122), .int (nI tn), .ref (gad g 123), .int (nI po), .int nu, .ref (gad g 124), .ref (gad g 125), .ref (gad g 126), .ref (gad g 127), .int (nI hk), .ref (gad g 128), .ref (gad g 129), .long (lN ao), .long (lN mu), .long (lN md), .long (lN bu), .long (lN bd)]) := ((f26 119 (by omega)).trans fa54_0)
              refine xget C hK hW hinX7 rfl (by omega) h27 2 (by decide) (List.mem_of_getElem? (i := 2) rfl) rfl dX7_film_68 ?_
              refine lv_bipush (v := (nI 24)) C.1 C.2.1 dX7_film_71 (by decide) ?_
              refine lv_iload_n C.1 C.2.1 dX7_film_73 rfl (lv_at hl 3 rfl) ?_
              refine xmul C dX7_film_74 ?_
              refine lv_iload C.1 C.2.1 dX7_film_75 (lv_at hl 5 rfl) ?_
              refine xadd C dX7_film_77 ?_
              refine lv_iload C.1 C.2.1 dX7_film_78 (lv_at hl 0 rfl) ?_
              refine xadd C dX7_film_80 ?_
              refine lv_iload_n C.1 C.2.1 dX7_film_81 rfl (lv_at hl 4 rfl) ?_
              refine lv_aload_n C.1 C.2.1 dX7_film_82 rfl (lv_at hl 1 rfl) ?_
              refine xget C hK hW hinX7 rfl (by omega) h27 8 (by decide) (List.mem_of_getElem? (i := 1) rfl) rfl dX7_film_83 ?_
              refine lv_iconst (v := (nI 2)) C.1 C.2.1 dX7_film_86 (by decide) ?_
              refine xildK0 C hK hW (by omega) h25 (by omega) (by decide) dX7_film_87 ?_
              refine xtopN (b := daysF L (d + 1) 2) hT2 ?_
              refine xi2l C (by omega) dX7_film_88 ?_
              refine xcS_l (n := 2) (As := [.int (nI (ln k2 - 1)), .long (lN (daysF L (d + 1) 2))]) C hK hW (c_X7_cutTo l g w22 (ln k2 - 1) (lN (daysF L (d + 1) 2)) hI hN (by omega)) gX7_film_X7_cutTo rfl ⟨rfl, rfl⟩ (by decide +kernel) ⟨Nat.le_of_ble_eq_true rfl, Nat.le_of_ble_eq_true rfl⟩ ⟨Nat.zero_le _, Nat.zero_le _⟩ rfl hl rfl (Nat.le_of_ble_eq_true rfl) dX7_film_89 (fun r30 w28 H locs q29 hW => ?_)
              obtain ⟨qw31, rfl⟩ := q29
              rw [qw31] at hW
              have h32 : w22 122 = .inl (gJ g, 96, .inr (.inl (kK 0 96 0 (fiZ (24 * k2) a d (ln k2 - 1) L Z)))) := ((f26 122 (by omega)).trans fa54_3)
              refine xlstR0 (v := (cutL (ln k2 - 1) (lN (daysF L (d + 1) 2)))) C hK hW (by omega) h32 (by omega) (by decide) dX7_film_92 (fun w33 H locs e34 f35 hW => ?_)
              have h36 : w33 122 = .inl (gJ g, 96, .inr (.inl (kK 0 96 0 (fiZ (24 * k2) a (d + 1) (ln k2 - 1) L Z)))) := e34.trans (by rw [fiZ_up, Nat.add_assoc])
              refine lv_iinc (v := nI (d + 1)) (lv' := [(6, .int (nI (d + 1))), (0, .ref (gad g 119)), (1, .int (nI m)), (2, .int (nI k2)), (3, .int (nI (ln k2 - 1))), (4, .int (nI a))]) C.1 C.2.1 dX7_film_93 hl (k := 0) rfl (nI_add _ 1) (by decide) rfl (fun ls hl => ?_)
              refine lv_goto (tgt := 54) C.1 C.2.1 dX7_film_96 (by decide) ?_
              have h37 : w33 119 = .inr (7, [.ref (gad g 120), .ref (gad g 121), .ref (gad g 122), .int (nI tn), .ref (gad g 123), .int (nI po), .int nu, .ref (gad g 124), .ref (gad g 125), .ref (gad g 126), .ref (gad g 127), .int (nI hk), .ref (gad g 128), .ref (gad g 129), .long (lN ao), .long (lN mu), .long (lN md), .long (lN bu), .long (lN bd)]) := ((f35 119 (by omega)).trans h27)
              have h38 : w33 120 = .inl (gI g, 4, .inl (kK 0 4 0 (laF ln))) := ((f35 120 (by omega)).trans ((f26 120 (by omega)).trans fa54_1))
              have h39 : w33 121 = .inl (gI g, 4, .inl (cK 4 0 sz)) := ((f35 121 (by omega)).trans ((f26 121 (by omega)).trans fa54_2))
              have h40 : w33 123 = .inl (gI g, 80, .inl (cK 80 0 T)) := ((f35 123 (by omega)).trans ((f26 123 (by omega)).trans fa54_4))
              have h41 : w33 124 = .inl (gI g, 177, .inl (cK 177 0 L)) := ((f35 124 (by omega)).trans ((f26 124 (by omega)).trans fa54_5))
              have h42 : w33 125 = .inl (gI g, 177, .inl (cK 177 0 (dayF TD))) := ((f35 125 (by omega)).trans h25)
              have h43 : w33 126 = .inl (gI g, 177, .inl (cK 177 0 RD)) := ((f35 126 (by omega)).trans ((f26 126 (by omega)).trans fa54_7))
              have h44 : w33 127 = .inl (gI g, 177, .inl (cK 177 0 KP)) := ((f35 127 (by omega)).trans ((f26 127 (by omega)).trans fa54_8))
              have h45 : w33 128 = .inl (gJ g, 7, .inr (.inl (cL 7 0 O))) := ((f35 128 (by omega)).trans ((f26 128 (by omega)).trans fa54_9))
              have h46 : w33 129 = .inl (gJ g, 7, .inr (.inl (cL 7 0 A))) := ((f35 129 (by omega)).trans ((f26 129 (by omega)).trans fa54_10))
              exact ih54 (m - (d + 1)) (by omega) (d + 1) (dayF TD) w33 _ _ _ rfl h37 h38 h39 h36 h40 h41 h42 h43 h44 h45 h46 (fun j z0 => ((f35 j (by omega)).trans ((f26 j (by omega)).trans (hfr54 j z0)))) (by omega) (hTE) hW hl
          have h47 : w17 119 = .inr (7, [.ref (gad g 120), .ref (gad g 121), .ref (gad g 122), .int (nI tn), .ref (gad g 123), .int (nI po), .int nu, .ref (gad g 124), .ref (gad g 125), .ref (gad g 126), .ref (gad g 127), .int (nI hk), .ref (gad g 128), .ref (gad g 129), .long (lN ao), .long (lN mu), .long (lN md), .long (lN bu), .long (lN bd)]) := ((f21 119 (by omega)).trans m0)
          have h48 : w17 120 = .inl (gI g, 4, .inl (kK 0 4 0 (laF ln))) := ((f21 120 (by omega)).trans m1)
          have h49 : w17 121 = .inl (gI g, 4, .inl (cK 4 0 sz)) := ((f21 121 (by omega)).trans m2)
          have h50 : w17 122 = .inl (gJ g, 96, .inr (.inl (kK 0 96 0 Z))) := ((f21 122 (by omega)).trans m3)
          have h51 : w17 123 = .inl (gI g, 80, .inl (cK 80 0 T)) := ((f21 123 (by omega)).trans m4)
          have h52 : w17 124 = .inl (gI g, 177, .inl (cK 177 0 L)) := ((f21 124 (by omega)).trans m5)
          have h53 : w17 126 = .inl (gI g, 177, .inl (cK 177 0 RD)) := ((f21 126 (by omega)).trans m7)
          have h54 : w17 127 = .inl (gI g, 177, .inl (cK 177 0 KP)) := ((f21 127 (by omega)).trans m8)
          have h55 : w17 128 = .inl (gJ g, 7, .inr (.inl (cL 7 0 O))) := ((f21 128 (by omega)).trans m10)
          have h56 : w17 129 = .inl (gJ g, 7, .inr (.inl (cL 7 0 A))) := ((f21 129 (by omega)).trans m11)
          exact loop54 _ 0 (cpF 0 0 40 L TR) w17 _ _ _ rfl h47 h48 h49 (by rw [fiZ_0]; exact h50) h51 h52 h20 h53 h54 h55 h56 (fun j z0 => (f21 j (by omega))) (by omega) (fun i hi => bg_lo (by omega)) hW (lv_sub hl [0, 2, 3, 4, 5, 6] rfl)
        · refine lv_iload C.1 C.2.1 dX7_film_44 (lv_at hl 0 rfl) ?_
          exact xret_i C hr hlk hW ⟨(by rw [filmZ, if_neg (c := okFi n s c ∧ wrS ln sz s c i n = 0) (fun h => c41 (by rw [← hiw]; exact h.2))]; exact ⟨_, _, _, _, _, _, _, _, _, _, _, _, m0, m1, m2, m3, m4, m5, m6, m7, m8, m9, m10, m11⟩), (fun j z0 => rfl), (by rw [filmS, if_pos (c := okFi n s c) ⟨c7, c14, c23⟩, hiw, if_neg c41])⟩ dX7_film_46
      · refine lv_iconst (v := (-1 : Int32)) C.1 C.2.1 dX7_film_26 (by decide) ?_
        exact xret_i C hr hlk hW ⟨(by rw [filmZ, if_neg (c := okFi n s c ∧ wrS ln sz s c i n = 0) (fun h => c23 h.1.2.2)]; exact ⟨_, _, _, _, _, _, _, _, _, _, _, _, m0, m1, m2, m3, m4, m5, m6, m7, m8, m9, m10, m11⟩), (fun j z0 => rfl), (by rw [filmS, if_neg (c := okFi n s c) (fun h => c23 h.2.2)])⟩ dX7_film_27

set_option maxHeartbeats 4000000 in
set_option maxRecDepth 100000 in
theorem c_X7_isBorne (l : Launch) (g : GE) (w : Nat → va_E) (k i n hk tn po : Nat) (nu : Int32) (ao mu md bu bd : Nat) (TR : Nat → Nat) (Z : Nat → Int64) (hI : AdInj g) (hN : gN g = 130) (hk4 : k < 4) (hin : i + n ≤ 24) (hok : Okg TR) (hs : TR 2 < 7) (hd : TR 1 < 2147483648) (pr0 : w 119 = .inr (7, [.ref (gad g 120), .ref (gad g 121), .ref (gad g 122), .int (nI tn), .ref (gad g 123), .int (nI po), .int nu, .ref (gad g 124), .ref (gad g 125), .ref (gad g 126), .ref (gad g 127), .int (nI hk), .ref (gad g 128), .ref (gad g 129), .long (lN ao), .long (lN mu), .long (lN md), .long (lN bu), .long (lN bd)])) (pr1 : w 122 = .inl (gJ g, 96, .inr (.inl (kK 0 96 0 Z)))) (pr2 : w 125 = .inl (gI g, 177, .inl (cK 177 0 TR))) : Met l yX7_isBorne wsX7_isBorne ({ frames := 3, cells := 0, slots := 0, locals := 69 } : Room) (XPc g w [.ref (gad g 119), .int (nI k), .int (nI i), .int (nI n)]) (XQi g (fun r w' => ∃ (T1 : Nat → Nat), w' 125 = .inl (gI g, 177, .inl (cK 177 0 T1)) ∧ (∀ j : Nat, ¬ (125 ≤ j ∧ j < 126) → w' j = w j) ∧ r = (bI (goes TR (seq8 Z (24 * k) i) n)))) 0 0 (gA g) := by
  refine xmet (cc := cX7_isBorne) (maxL := 6) (ret := (some .boolean)) (by decide) rfl hI (Nat.le_of_ble_eq_true rfl) ?_
  intro pG eG sG mG belowG methG cG ls C hr hlk hK hW hl
  have hl : lv_has ls 6 [(0, .ref (gad g 119)), (1, .int (nI k)), (2, .int (nI i)), (3, .int (nI n))] := hl
  have hinX7 : ∀ x ∈ u_ws RX7 TX7 19, x ∈ wsX7_isBorne := by decide +kernel
  refine lv_iconst (v := (nI 1)) C.1 C.2.1 dX7_isBorne_0 (by decide) ?_
  refine xtopI (b := bI (goes TR (seq8 Z (24 * k) i) 0)) (bI_t (P := goes TR (seq8 Z (24 * k) i) 0) (fun e he => absurd he (Nat.not_lt_zero e))).symm ?_
  refine lv_istore (lv' := [(4, .int (bI (goes TR (seq8 Z (24 * k) i) 0))), (0, .ref (gad g 119)), (1, .int (nI k)), (2, .int (nI i)), (3, .int (nI n))]) C.1 C.2.1 dX7_isBorne_1 hl (by decide) rfl (fun ls hl => ?_)
  refine lv_iconst (v := (nI 0)) C.1 C.2.1 dX7_isBorne_3 (by decide) ?_
  refine lv_istore (lv' := [(5, .int (nI 0)), (4, .int (bI (goes TR (seq8 Z (24 * k) i) 0))), (0, .ref (gad g 119)), (1, .int (nI k)), (2, .int (nI i)), (3, .int (nI n))]) C.1 C.2.1 dX7_isBorne_4 hl (by decide) rfl (fun ls hl => ?_)
  have loop6 : ∀ (kG : Nat) (d : Nat) (v6 : Nat → va_E) (H : Heap) (locs : List Loc) (ls : Array Slot), kG = n - d → (v6 119 = .inr (7, [.ref (gad g 120), .ref (gad g 121), .ref (gad g 122), .int (nI tn), .ref (gad g 123), .int (nI po), .int nu, .ref (gad g 124), .ref (gad g 125), .ref (gad g 126), .ref (gad g 127), .int (nI hk), .ref (gad g 128), .ref (gad g 129), .long (lN ao), .long (lN mu), .long (lN md), .long (lN bu), .long (lN bd)])) → (v6 122 = .inl (gJ g, 96, .inr (.inl (kK 0 96 0 Z)))) → (v6 125 = .inl (gI g, 177, .inl (cK 177 0 (daysF TR d)))) → (∀ j : Nat, ¬ (125 ≤ j ∧ j < 126) → v6 j = w j) → (d ≤ n) → XW g v6 (gA g) sG.heap H locs → lv_has ls 6 [(5, .int (nI d)), (4, .int (bI (goes TR (seq8 Z (24 * k) i) d))), (0, .ref (gad g 119)), (1, .int (nI k)), (2, .int (nI i)), (3, .int (nI n))] → W pG l eG ({ frames := 3, cells := 0, slots := 0, locals := 69 } : Room) sG mG ([.ref (gad g 119), .int (nI k), .int (nI i), .int (nI n)] : List Value).toArray belowG methG cG H locs 0 0 (MQ belowG (XQi g (fun r w' => ∃ (T1 : Nat → Nat), w' 125 = .inl (gI g, 177, .inl (cK 177 0 T1)) ∧ (∀ j : Nat, ¬ (125 ≤ j ∧ j < 126) → w' j = w j) ∧ r = (bI (goes TR (seq8 Z (24 * k) i) n)))) ([.ref (gad g 119), .int (nI k), .int (nI i), .int (nI n)] : List Value).toArray sG 0 0 (gA g)) (F0 mG 6 ls []) := by
    intro k6
    induction k6 using Nat.strongRecOn with
    | _ k6 ih6 =>
    intro d v6 H locs ls hk6 fa6_0 fa6_1 fa6_2 hfr6 hdn hW hl
    refine lv_iload C.1 C.2.1 dX7_isBorne_6 (lv_at hl 0 rfl) ?_
    refine lv_iload_n C.1 C.2.1 dX7_isBorne_8 rfl (lv_at hl 5 rfl) ?_
    refine xge (tgt := 62) C (by omega) (by omega) dX7_isBorne_9 (by decide) (fun c9 => ?_) (fun c9 => ?_)
    · refine lv_iload C.1 C.2.1 dX7_isBorne_62 (lv_at hl 1 rfl) ?_
      exact xret_z C hr hlk hW bI_nar ⟨_, fa6_2, (fun j z0 => (hfr6 j z0)), (by rw [show d = n by omega])⟩ dX7_isBorne_64
    · have hdo := daysF_ok hok hs d
      have hd1 := days1_lt hd d
      have hdq := daysF_ok hok hs (d + 1)
      have hdq2 := hdq.2
      refine lv_aload_n C.1 C.2.1 dX7_isBorne_12 rfl (lv_at hl 2 rfl) ?_
      refine xget C hK hW hinX7 rfl (by omega) fa6_0 8 (by decide) (List.mem_of_getElem? (i := 1) rfl) rfl dX7_isBorne_13 ?_
      refine xcS_v (n := 1) (As := [.ref (gad g 125)]) C hK hW (c_X7_dayIn l g v6 125 (daysF TR d) hI hN (by omega) hdo.1 hdo.2 hd1 fa6_2) gX7_isBorne_X7_dayIn rfl ⟨rfl, rfl⟩ (by decide +kernel) ⟨Nat.le_of_ble_eq_true rfl, Nat.le_of_ble_eq_true rfl⟩ ⟨Nat.zero_le _, Nat.zero_le _⟩ rfl hl rfl (Nat.le_of_ble_eq_true rfl) dX7_isBorne_16 (fun w1 H locs q2 hW => ?_)
      obtain ⟨h4, f5⟩ := q2
      refine lv_iload C.1 C.2.1 dX7_isBorne_19 (lv_at hl 1 rfl) ?_
      refine xBeq (tgt := 53) C dX7_isBorne_21 (by decide) (fun c21 => ?_) (fun c21 => ?_)
      · refine lv_iconst (v := (nI 0)) C.1 C.2.1 dX7_isBorne_53 (by decide) ?_
        refine xtopI (b := bI (goes TR (seq8 Z (24 * k) i) (d + 1))) (bI_f (P := goes TR (seq8 Z (24 * k) i) (d + 1)) (fun z => c21 (fun e he => z e (by omega)))).symm ?_
        refine lv_istore (lv' := [(4, .int (bI (goes TR (seq8 Z (24 * k) i) (d + 1)))), (5, .int (nI d)), (0, .ref (gad g 119)), (1, .int (nI k)), (2, .int (nI i)), (3, .int (nI n))]) C.1 C.2.1 dX7_isBorne_54 hl (by decide) rfl (fun ls hl => ?_)
        refine lv_iinc (v := nI (d + 1)) (lv' := [(5, .int (nI (d + 1))), (4, .int (bI (goes TR (seq8 Z (24 * k) i) (d + 1)))), (0, .ref (gad g 119)), (1, .int (nI k)), (2, .int (nI i)), (3, .int (nI n))]) C.1 C.2.1 dX7_isBorne_56 hl (k := 1) rfl (nI_add _ 1) (by decide) rfl (fun ls hl => ?_)
        refine lv_goto (tgt := 6) C.1 C.2.1 dX7_isBorne_59 (by decide) ?_
        have h6 : w1 119 = .inr (7, [.ref (gad g 120), .ref (gad g 121), .ref (gad g 122), .int (nI tn), .ref (gad g 123), .int (nI po), .int nu, .ref (gad g 124), .ref (gad g 125), .ref (gad g 126), .ref (gad g 127), .int (nI hk), .ref (gad g 128), .ref (gad g 129), .long (lN ao), .long (lN mu), .long (lN md), .long (lN bu), .long (lN bd)]) := ((f5 119 (by omega)).trans fa6_0)
        have h7 : w1 122 = .inl (gJ g, 96, .inr (.inl (kK 0 96 0 Z))) := ((f5 122 (by omega)).trans fa6_1)
        exact ih6 (n - (d + 1)) (by omega) (d + 1) w1 _ _ _ rfl h6 h7 h4 (fun j z0 => ((f5 j (by omega)).trans (hfr6 j z0))) (by omega) hW hl
      · refine lv_aload_n C.1 C.2.1 dX7_isBorne_24 rfl (lv_at hl 2 rfl) ?_
        have h8 : w1 119 = .inr (7, [.ref (gad g 120), .ref (gad g 121), .ref (gad g 122), .int (nI tn), .ref (gad g 123), .int (nI po), .int nu, .ref (gad g 124), .ref (gad g 125), .ref (gad g 126), .ref (gad g 127), .int (nI hk), .ref (gad g 128), .ref (gad g 129), .long (lN ao), .long (lN mu), .long (lN md), .long (lN bu), .long (lN bd)]) := ((f5 119 (by omega)).trans fa6_0)
        refine xget C hK hW hinX7 rfl (by omega) h8 8 (by decide) (List.mem_of_getElem? (i := 1) rfl) rfl dX7_isBorne_25 ?_
        refine lv_iconst (v := (nI 2)) C.1 C.2.1 dX7_isBorne_28 (by decide) ?_
        refine xildK0 C hK hW (by omega) h4 (by omega) (by decide) dX7_isBorne_29 ?_
        refine xtopN (b := daysF TR (d + 1) 2) rfl ?_
        refine xi2l C (by omega) dX7_isBorne_30 ?_
        refine lv_aload_n C.1 C.2.1 dX7_isBorne_31 rfl (lv_at hl 2 rfl) ?_
        refine xget C hK hW hinX7 rfl (by omega) h8 2 (by decide) (List.mem_of_getElem? (i := 2) rfl) rfl dX7_isBorne_32 ?_
        refine lv_bipush (v := (nI 24)) C.1 C.2.1 dX7_isBorne_35 (by decide) ?_
        refine lv_iload_n C.1 C.2.1 dX7_isBorne_37 rfl (lv_at hl 3 rfl) ?_
        refine xmul C dX7_isBorne_38 ?_
        refine lv_iload_n C.1 C.2.1 dX7_isBorne_39 rfl (lv_at hl 4 rfl) ?_
        refine xadd C dX7_isBorne_40 ?_
        refine lv_iload C.1 C.2.1 dX7_isBorne_41 (lv_at hl 0 rfl) ?_
        refine xadd C dX7_isBorne_43 ?_
        have h9 : w1 122 = .inl (gJ g, 96, .inr (.inl (kK 0 96 0 Z))) := ((f5 122 (by omega)).trans fa6_1)
        refine xlldR0 C hK hW (by omega) h9 (by omega) (by decide) dX7_isBorne_44 ?_
        refine xtopJ (b := Z (24 * k + (i + d))) (by rw [Nat.add_assoc]) ?_
        refine xRne (tgt := 53) C dX7_isBorne_45 dX7_isBorne_46 (by decide) (fun c45 => ?_) (fun c45 => ?_)
        · refine lv_iconst (v := (nI 0)) C.1 C.2.1 dX7_isBorne_53 (by decide) ?_
          refine xtopI (b := bI (goes TR (seq8 Z (24 * k) i) (d + 1))) (bI_f (P := goes TR (seq8 Z (24 * k) i) (d + 1)) (fun z => c45 ((fld_eq hdq.2).mpr (z d (by omega))))).symm ?_
          refine lv_istore (lv' := [(4, .int (bI (goes TR (seq8 Z (24 * k) i) (d + 1)))), (5, .int (nI d)), (0, .ref (gad g 119)), (1, .int (nI k)), (2, .int (nI i)), (3, .int (nI n))]) C.1 C.2.1 dX7_isBorne_54 hl (by decide) rfl (fun ls hl => ?_)
          refine lv_iinc (v := nI (d + 1)) (lv' := [(5, .int (nI (d + 1))), (4, .int (bI (goes TR (seq8 Z (24 * k) i) (d + 1)))), (0, .ref (gad g 119)), (1, .int (nI k)), (2, .int (nI i)), (3, .int (nI n))]) C.1 C.2.1 dX7_isBorne_56 hl (k := 1) rfl (nI_add _ 1) (by decide) rfl (fun ls hl => ?_)
          refine lv_goto (tgt := 6) C.1 C.2.1 dX7_isBorne_59 (by decide) ?_
          exact ih6 (n - (d + 1)) (by omega) (d + 1) w1 _ _ _ rfl h8 h9 h4 (fun j z0 => ((f5 j (by omega)).trans (hfr6 j z0))) (by omega) hW hl
        · refine lv_iconst (v := (nI 1)) C.1 C.2.1 dX7_isBorne_49 (by decide) ?_
          refine lv_goto (tgt := 54) C.1 C.2.1 dX7_isBorne_50 (by decide) ?_
          refine xtopI (b := bI (goes TR (seq8 Z (24 * k) i) (d + 1))) (bI_t (P := goes TR (seq8 Z (24 * k) i) (d + 1)) (go_step (p := fun e => nI (daysF TR (e + 1) 2) = fldX ((seq8 Z (24 * k) i) e)) c21 ((fld_eq hdq.2).mp c45))).symm ?_
          refine lv_istore (lv' := [(4, .int (bI (goes TR (seq8 Z (24 * k) i) (d + 1)))), (5, .int (nI d)), (0, .ref (gad g 119)), (1, .int (nI k)), (2, .int (nI i)), (3, .int (nI n))]) C.1 C.2.1 dX7_isBorne_54 hl (by decide) rfl (fun ls hl => ?_)
          refine lv_iinc (v := nI (d + 1)) (lv' := [(5, .int (nI (d + 1))), (4, .int (bI (goes TR (seq8 Z (24 * k) i) (d + 1)))), (0, .ref (gad g 119)), (1, .int (nI k)), (2, .int (nI i)), (3, .int (nI n))]) C.1 C.2.1 dX7_isBorne_56 hl (k := 1) rfl (nI_add _ 1) (by decide) rfl (fun ls hl => ?_)
          refine lv_goto (tgt := 6) C.1 C.2.1 dX7_isBorne_59 (by decide) ?_
          exact ih6 (n - (d + 1)) (by omega) (d + 1) w1 _ _ _ rfl h8 h9 h4 (fun j z0 => ((f5 j (by omega)).trans (hfr6 j z0))) (by omega) hW hl
  exact loop6 _ 0 w _ _ _ rfl pr0 pr1 pr2 (fun j z0 => rfl) (by omega) hW hl

set_option maxHeartbeats 4000000 in
set_option maxRecDepth 100000 in
theorem c_X7_bore (l : Launch) (g : GE) (w : Nat → va_E) (L K T ln sz : Nat → Nat) (hk tn : Nat) (Z : Nat → Int64) (x : Int32) (s : Int32) (c : Int32) (i : Int32) (n : Int32) (z : Int32) (hI : AdInj g) (hN : gN g = 130) (hS : OkS (L, K, hk, tn, T, ln, sz, Z)) (pr0 : MAll g (L, K, hk, tn, T, ln, sz, Z) w) : Met l yX7_bore wsX7_bore ({ frames := 4, cells := 0, slots := 0, locals := 94 } : Room) (XPc g w [.ref (gad g 119), .int x, .int s, .int c, .int i, .int n, .int z]) (XQi g (fun r w' => MAll g (L, K, hk, tn, T, ln, sz, Z) w' ∧ (∀ j : Nat, ¬ (119 ≤ j ∧ j < 130) → w' j = w j) ∧ r = boS L ln sz Z x s c i n z)) 0 0 (gA g) := by
  refine xmet (cc := cX7_bore) (maxL := 10) (ret := (some .int)) (by decide) rfl hI (Nat.le_of_ble_eq_true rfl) ?_
  intro pG eG sG mG belowG methG cG ls C hr hlk hK hW hl
  have hl : lv_has ls 10 [(0, .ref (gad g 119)), (1, .int x), (2, .int s), (3, .int c), (4, .int i), (5, .int n), (6, .int z)] := hl
  have hinX7 : ∀ x ∈ u_ws RX7 TX7 19, x ∈ wsX7_bore := by decide +kernel
  obtain ⟨po, ao, mu, md, bu, bd, nu, TR, RD, KP, O, A, m0, m1, m2, m3, m4, m5, m6, m7, m8, m9, m10, m11⟩ := pr0
  have hokL : OkL L := hS.1
  obtain ⟨hok, hs2, hdy, hdr, hcl, hkn, hcs, hps⟩ := hokL
  have htn : tn ≤ 80 := hS.2.2.1
  have hlz : ∀ s, s < 4 → ln s ≤ 4 ∧ sz s ≤ 24 := hS.2.2.2.2
  have m0 : w 119 = .inr (7, [.ref (gad g 120), .ref (gad g 121), .ref (gad g 122), .int (nI tn), .ref (gad g 123), .int (nI po), .int nu, .ref (gad g 124), .ref (gad g 125), .ref (gad g 126), .ref (gad g 127), .int (nI hk), .ref (gad g 128), .ref (gad g 129), .long (lN ao), .long (lN mu), .long (lN md), .long (lN bu), .long (lN bd)]) := m0
  have m1 : w 120 = .inl (gI g, 4, .inl (kK 0 4 0 (laF ln))) := m1
  have m2 : w 121 = .inl (gI g, 4, .inl (cK 4 0 sz)) := m2
  have m3 : w 122 = .inl (gJ g, 96, .inr (.inl (kK 0 96 0 Z))) := m3
  have m4 : w 123 = .inl (gI g, 80, .inl (cK 80 0 T)) := m4
  have m5 : w 124 = .inl (gI g, 177, .inl (cK 177 0 L)) := m5
  have m9 : hk = 1 → KP = K := m9
  refine lv_iload_n C.1 C.2.1 dX7_bore_0 rfl (lv_at hl 1 rfl) ?_
  refine xcS_i (n := 1) (As := [.int x]) C hK hW (c_X7_isField l g w x hI hN) gX7_bore_X7_isField rfl ⟨rfl, rfl⟩ (by decide +kernel) ⟨Nat.le_of_ble_eq_true rfl, Nat.le_of_ble_eq_true rfl⟩ ⟨Nat.zero_le _, Nat.zero_le _⟩ rfl hl rfl (Nat.le_of_ble_eq_true rfl) dX7_bore_1 (fun r3 w1 H locs q2 hW => ?_)
  obtain ⟨qw4, rfl⟩ := q2
  rw [qw4] at hW
  refine xBeq (tgt := 44) C dX7_bore_4 (by decide) (fun c4 => ?_) (fun c4 => ?_)
  · refine lv_iconst (v := (-1 : Int32)) C.1 C.2.1 dX7_bore_44 (by decide) ?_
    exact xret_i C hr hlk hW ⟨⟨_, _, _, _, _, _, _, _, _, _, _, _, m0, m1, m2, m3, m4, m5, m6, m7, m8, m9, m10, m11⟩, (fun j z0 => rfl), (by rw [boS, if_neg (c := okBo x s c n z) (fun h => c4 h.1.1)])⟩ dX7_bore_45
  · refine lv_iload_n C.1 C.2.1 dX7_bore_7 rfl (lv_at hl 2 rfl) ?_
    refine xcS_i (n := 1) (As := [.int s]) C hK hW (c_X7_isSheet l g w s hI hN) gX7_bore_X7_isSheet rfl ⟨rfl, rfl⟩ (by decide +kernel) ⟨Nat.le_of_ble_eq_true rfl, Nat.le_of_ble_eq_true rfl⟩ ⟨Nat.zero_le _, Nat.zero_le _⟩ rfl hl rfl (Nat.le_of_ble_eq_true rfl) dX7_bore_8 (fun r7 w5 H locs q6 hW => ?_)
    obtain ⟨qw8, rfl⟩ := q6
    rw [qw8] at hW
    refine xBeq (tgt := 44) C dX7_bore_11 (by decide) (fun c11 => ?_) (fun c11 => ?_)
    · refine lv_iconst (v := (-1 : Int32)) C.1 C.2.1 dX7_bore_44 (by decide) ?_
      exact xret_i C hr hlk hW ⟨⟨_, _, _, _, _, _, _, _, _, _, _, _, m0, m1, m2, m3, m4, m5, m6, m7, m8, m9, m10, m11⟩, (fun j z0 => rfl), (by rw [boS, if_neg (c := okBo x s c n z) (fun h => c11 h.1.2.1)])⟩ dX7_bore_45
    · refine lv_iload_n C.1 C.2.1 dX7_bore_14 rfl (lv_at hl 3 rfl) ?_
      refine lv_iconst (v := (nI 0)) C.1 C.2.1 dX7_bore_15 (by decide) ?_
      refine lv_iconst (v := (nI 3)) C.1 C.2.1 dX7_bore_16 (by decide) ?_
      refine xcS_i (n := 3) (As := [.int c, .int (nI 0), .int (nI 3)]) C hK hW (c_X7_in l g w c (nI 0) (nI 3) hI hN) gX7_bore_X7_in rfl ⟨rfl, rfl⟩ (by decide +kernel) ⟨Nat.le_of_ble_eq_true rfl, Nat.le_of_ble_eq_true rfl⟩ ⟨Nat.zero_le _, Nat.zero_le _⟩ rfl hl rfl (Nat.le_of_ble_eq_true rfl) dX7_bore_17 (fun r11 w9 H locs q10 hW => ?_)
      obtain ⟨qw12, rfl⟩ := q10
      rw [qw12] at hW
      refine xBeq (tgt := 44) C dX7_bore_20 (by decide) (fun c20 => ?_) (fun c20 => ?_)
      · refine lv_iconst (v := (-1 : Int32)) C.1 C.2.1 dX7_bore_44 (by decide) ?_
        exact xret_i C hr hlk hW ⟨⟨_, _, _, _, _, _, _, _, _, _, _, _, m0, m1, m2, m3, m4, m5, m6, m7, m8, m9, m10, m11⟩, (fun j z0 => rfl), (by rw [boS, if_neg (c := okBo x s c n z) (fun h => c20 h.1.2.2)])⟩ dX7_bore_45
      · refine lv_iload C.1 C.2.1 dX7_bore_23 (lv_at hl 5 rfl) ?_
        refine lv_iconst (v := (nI 1)) C.1 C.2.1 dX7_bore_25 (by decide) ?_
        refine lv_bipush (v := (nI 8)) C.1 C.2.1 dX7_bore_26 (by decide) ?_
        refine xcS_i (n := 3) (As := [.int n, .int (nI 1), .int (nI 8)]) C hK hW (c_X7_in l g w n (nI 1) (nI 8) hI hN) gX7_bore_X7_in rfl ⟨rfl, rfl⟩ (by decide +kernel) ⟨Nat.le_of_ble_eq_true rfl, Nat.le_of_ble_eq_true rfl⟩ ⟨Nat.zero_le _, Nat.zero_le _⟩ rfl hl rfl (Nat.le_of_ble_eq_true rfl) dX7_bore_28 (fun r15 w13 H locs q14 hW => ?_)
        obtain ⟨qw16, rfl⟩ := q14
        rw [qw16] at hW
        refine xBeq (tgt := 44) C dX7_bore_31 (by decide) (fun c31 => ?_) (fun c31 => ?_)
        · refine lv_iconst (v := (-1 : Int32)) C.1 C.2.1 dX7_bore_44 (by decide) ?_
          exact xret_i C hr hlk hW ⟨⟨_, _, _, _, _, _, _, _, _, _, _, _, m0, m1, m2, m3, m4, m5, m6, m7, m8, m9, m10, m11⟩, (fun j z0 => rfl), (by rw [boS, if_neg (c := okBo x s c n z) (fun h => c31 h.2.1)])⟩ dX7_bore_45
        · refine lv_iload C.1 C.2.1 dX7_bore_34 (lv_at hl 6 rfl) ?_
          refine lv_iconst (v := (nI 0)) C.1 C.2.1 dX7_bore_36 (by decide) ?_
          refine lv_iconst (v := (nI 1)) C.1 C.2.1 dX7_bore_37 (by decide) ?_
          refine xcS_i (n := 3) (As := [.int z, .int (nI 0), .int (nI 1)]) C hK hW (c_X7_in l g w z (nI 0) (nI 1) hI hN) gX7_bore_X7_in rfl ⟨rfl, rfl⟩ (by decide +kernel) ⟨Nat.le_of_ble_eq_true rfl, Nat.le_of_ble_eq_true rfl⟩ ⟨Nat.zero_le _, Nat.zero_le _⟩ rfl hl rfl (Nat.le_of_ble_eq_true rfl) dX7_bore_38 (fun r19 w17 H locs q18 hW => ?_)
          obtain ⟨qw20, rfl⟩ := q18
          rw [qw20] at hW
          refine xBne (tgt := 46) C dX7_bore_41 (by decide) (fun c41 => ?_) (fun c41 => ?_)
          · obtain ⟨k1, ha_k1, hb_k1, hx_k1⟩ := inR_N (by omega) (by omega) c4
            rw [hx_k1] at hl
            obtain ⟨k2, ha_k2, hb_k2, hx_k2⟩ := inR_N (by omega) (by omega) c11
            rw [hx_k2] at hl
            obtain ⟨k3, ha_k3, hb_k3, hx_k3⟩ := inR_N (by omega) (by omega) c41
            rw [hx_k3] at hl
            have hiw : wrS ln sz s c i n = wrongS (ln k2) (sz k2) c i n := by rw [wrS, hx_k2, cl_nI (by omega)]
            have hl4 := hlz k2 (by omega)
            refine lv_aload_n C.1 C.2.1 dX7_bore_46 rfl (lv_at hl 0 rfl) ?_
            refine lv_iload_n C.1 C.2.1 dX7_bore_47 rfl (lv_at hl 2 rfl) ?_
            refine lv_iload_n C.1 C.2.1 dX7_bore_48 rfl (lv_at hl 3 rfl) ?_
            refine lv_iload C.1 C.2.1 dX7_bore_49 (lv_at hl 4 rfl) ?_
            refine lv_iload C.1 C.2.1 dX7_bore_51 (lv_at hl 5 rfl) ?_
            refine xcV_i (n := 4) (As := [.int (nI k2), .int c, .int i, .int n]) C hK hW (c_X7_wrong l g w hk tn po nu ao mu md bu bd k2 c i n ln sz hI hN (by omega) hl4.1 m0 m1 m2) gX7_bore_X7_wrong rfl ⟨rfl, rfl⟩ (by decide +kernel) ⟨Nat.le_of_ble_eq_true rfl, Nat.le_of_ble_eq_true rfl⟩ ⟨Nat.zero_le _, Nat.zero_le _⟩ rfl (by omega) m0 rfl hl rfl (Nat.le_of_ble_eq_true rfl) dX7_bore_53 (fun r23 w21 H locs q22 hW => ?_)
            obtain ⟨qw24, rfl⟩ := q22
            rw [qw24] at hW
            refine lv_istore (lv' := [(7, .int (wrongS (ln k2) (sz k2) c i n)), (0, .ref (gad g 119)), (1, .int (nI k1)), (2, .int (nI k2)), (3, .int c), (4, .int i), (5, .int n), (6, .int (nI k3))]) C.1 C.2.1 dX7_bore_56 hl (by decide) rfl (fun ls hl => ?_)
            refine lv_iload C.1 C.2.1 dX7_bore_58 (lv_at hl 0 rfl) ?_
            refine lv_if_eq (tgt := 66) C.1 C.2.1 dX7_bore_60 (by decide) (fun c60 => ?_) (fun c60 => ?_)
            · obtain ⟨hu1, hu2, hu3⟩ := wrong_ok c60
              obtain ⟨a, m, hx_a, hx_m, ham⟩ := isPt_nat hl4.2 hu3
              rw [hx_a, hx_m] at hl
              by_cases w0 : k3 = 0
              · refine lv_iconst (v := (nI 0)) C.1 C.2.1 dX7_bore_66 (by decide) ?_
                refine lv_istore (lv' := [(8, .int (nI 0)), (7, .int (wrongS (ln k2) (sz k2) c (nI a) (nI m))), (0, .ref (gad g 119)), (1, .int (nI k1)), (2, .int (nI k2)), (3, .int c), (4, .int (nI a)), (5, .int (nI m)), (6, .int (nI k3))]) C.1 C.2.1 dX7_bore_67 hl (by decide) rfl (fun ls hl => ?_)
                refine lv_iconst (v := (nI 0)) C.1 C.2.1 dX7_bore_69 (by decide) ?_
                refine lv_istore (lv' := [(9, .int (nI 0)), (8, .int (nI 0)), (7, .int (wrongS (ln k2) (sz k2) c (nI a) (nI m))), (0, .ref (gad g 119)), (1, .int (nI k1)), (2, .int (nI k2)), (3, .int c), (4, .int (nI a)), (5, .int (nI m)), (6, .int (nI k3))]) C.1 C.2.1 dX7_bore_70 hl (by decide) rfl (fun ls hl => ?_)
                have loop72 : ∀ (kG : Nat) (v : Nat) (TR2 : Nat → Nat) (v72 : Nat → va_E) (H : Heap) (locs : List Loc) (ls : Array Slot), kG = 5 - v → (v72 119 = .inr (7, [.ref (gad g 120), .ref (gad g 121), .ref (gad g 122), .int (nI tn), .ref (gad g 123), .int (nI po), .int nu, .ref (gad g 124), .ref (gad g 125), .ref (gad g 126), .ref (gad g 127), .int (nI hk), .ref (gad g 128), .ref (gad g 129), .long (lN ao), .long (lN mu), .long (lN md), .long (lN bu), .long (lN bd)])) → (v72 120 = .inl (gI g, 4, .inl (kK 0 4 0 (laF ln)))) → (v72 121 = .inl (gI g, 4, .inl (cK 4 0 sz))) → (v72 122 = .inl (gJ g, 96, .inr (.inl (kK 0 96 0 Z)))) → (v72 123 = .inl (gI g, 80, .inl (cK 80 0 T))) → (v72 124 = .inl (gI g, 177, .inl (cK 177 0 L))) → (v72 125 = .inl (gI g, 177, .inl (cK 177 0 TR2))) → (v72 126 = .inl (gI g, 177, .inl (cK 177 0 RD))) → (v72 127 = .inl (gI g, 177, .inl (cK 177 0 KP))) → (v72 128 = .inl (gJ g, 7, .inr (.inl (cL 7 0 O)))) → (v72 129 = .inl (gJ g, 7, .inr (.inl (cL 7 0 A)))) → (∀ j : Nat, ¬ (119 ≤ j ∧ j < 130) → v72 j = w j) → (v ≤ 5) → XW g v72 (gA g) sG.heap H locs → lv_has ls 10 [(9, .int (nI v)), (8, .int (setF (kiB L (seq8 Z (24 * k2) a) m k1) v)), (0, .ref (gad g 119)), (1, .int (nI k1)), (2, .int (nI k2)), (4, .int (nI a)), (5, .int (nI m)), (6, .int (nI k3))] → W pG l eG ({ frames := 4, cells := 0, slots := 0, locals := 94 } : Room) sG mG ([.ref (gad g 119), .int x, .int s, .int c, .int i, .int n, .int z] : List Value).toArray belowG methG cG H locs 0 0 (MQ belowG (XQi g (fun r w' => MAll g (L, K, hk, tn, T, ln, sz, Z) w' ∧ (∀ j : Nat, ¬ (119 ≤ j ∧ j < 130) → w' j = w j) ∧ r = boS L ln sz Z x s c i n z)) ([.ref (gad g 119), .int x, .int s, .int c, .int i, .int n, .int z] : List Value).toArray sG 0 0 (gA g)) (F0 mG 72 ls []) := by
                  intro k72
                  induction k72 using Nat.strongRecOn with
                  | _ k72 ih72 =>
                  intro v TR2 v72 H locs ls hk72 fa72_0 fa72_1 fa72_2 fa72_3 fa72_4 fa72_5 fa72_6 fa72_7 fa72_8 fa72_9 fa72_10 hfr72 hv hW hl
                  refine lv_iload C.1 C.2.1 dX7_bore_72 (lv_at hl 0 rfl) ?_
                  refine lv_iload C.1 C.2.1 dX7_bore_74 (lv_at hl 7 rfl) ?_
                  refine x0ne (tgt := 83) C (by omega) dX7_bore_76 (by decide) (fun c76 => absurd c76 (by omega)) (fun c76 => ?_)
                  refine lv_iconst (v := (nI 4)) C.1 C.2.1 dX7_bore_79 (by decide) ?_
                  refine lv_goto (tgt := 85) C.1 C.2.1 dX7_bore_80 (by decide) ?_
                  refine xgt (tgt := 143) C (by omega) (by omega) dX7_bore_85 (by decide) (fun c85 => ?_) (fun c85 => ?_)
                  · refine lv_iload C.1 C.2.1 dX7_bore_143 (lv_at hl 1 rfl) ?_
                    exact xret_i C hr hlk hW ⟨⟨_, _, _, _, _, _, _, _, _, _, _, _, fa72_0, fa72_1, fa72_2, fa72_3, fa72_4, fa72_5, fa72_6, fa72_7, fa72_8, m9, fa72_9, fa72_10⟩, (fun j z0 => (hfr72 j z0)), (by rw [boS, if_pos (c := okBo x s c n z) ⟨⟨c4, c11, c20⟩, c31, c41⟩, hiw, if_pos c60, hx_k1, hx_k2, hx_a, hx_m, hx_k3, cl_nI (by omega), cl_nI (by omega), cl_nI (by omega), cl_nI (by omega), cl_nI (by omega), if_pos w0, show v = 5 by omega])⟩ dX7_bore_145
                  · refine lv_aload_n C.1 C.2.1 dX7_bore_88 rfl (lv_at hl 2 rfl) ?_
                    refine xcV_v (n := 0) (As := []) C hK hW (c_X7_begin l g v72 hk tn po nu ao mu md bu bd L TR2 hI hN fa72_0 fa72_5 fa72_6) gX7_bore_X7_begin rfl ⟨rfl, rfl⟩ (by decide +kernel) ⟨Nat.le_of_ble_eq_true rfl, Nat.le_of_ble_eq_true rfl⟩ ⟨Nat.zero_le _, Nat.zero_le _⟩ rfl (by omega) fa72_0 rfl hl rfl (Nat.le_of_ble_eq_true rfl) dX7_bore_89 (fun w25 H locs q26 hW => ?_)
                    obtain ⟨h28, f29⟩ := q26
                    refine lv_aload_n C.1 C.2.1 dX7_bore_92 rfl (lv_at hl 2 rfl) ?_
                    have h30 : w25 119 = .inr (7, [.ref (gad g 120), .ref (gad g 121), .ref (gad g 122), .int (nI tn), .ref (gad g 123), .int (nI po), .int nu, .ref (gad g 124), .ref (gad g 125), .ref (gad g 126), .ref (gad g 127), .int (nI hk), .ref (gad g 128), .ref (gad g 129), .long (lN ao), .long (lN mu), .long (lN md), .long (lN bu), .long (lN bd)]) := ((f29 119 (by omega)).trans fa72_0)
                    refine xget C hK hW hinX7 rfl (by omega) h30 8 (by decide) (List.mem_of_getElem? (i := 1) rfl) rfl dX7_bore_93 ?_
                    refine lv_iload C.1 C.2.1 dX7_bore_96 (lv_at hl 7 rfl) ?_
                    refine x0ne (tgt := 106) C (by omega) dX7_bore_98 (by decide) (fun c98 => absurd c98 (by omega)) (fun c98 => ?_)
                    refine lv_bipush (v := (nI 17)) C.1 C.2.1 dX7_bore_101 (by decide) ?_
                    refine lv_goto (tgt := 107) C.1 C.2.1 dX7_bore_103 (by decide) ?_
                    refine lv_iload_n C.1 C.2.1 dX7_bore_107 rfl (lv_at hl 3 rfl) ?_
                    refine xadd C dX7_bore_108 ?_
                    refine lv_iload C.1 C.2.1 dX7_bore_109 (lv_at hl 0 rfl) ?_
                    refine xistK0 (v := v) C hK hW (by omega) h28 (by omega) (by decide) dX7_bore_111 (fun w31 H locs e32 f33 hW => ?_)
                    have hkf : Okg (va_up L (17 + k1) v) := Okg_kind hok (by omega) (by omega)
                    have hsf : va_up L (17 + k1) v 2 < 7 := by rw [va_up_ne _ _ (by omega)]; exact hs2
                    have hM1 : Okg (va_up (cpF 0 0 40 L TR2) (17 + k1) v) := Okg_congr hkf bg_up
                    have hM2 : (va_up (cpF 0 0 40 L TR2) (17 + k1) v) 2 < 7 := by rw [bg_up 2 (by omega)]; exact hsf
                    have hM3 : (va_up (cpF 0 0 40 L TR2) (17 + k1) v) 1 < 2147483648 := by rw [bg_up 1 (by omega), va_up_ne _ _ (by omega)]; exact hdr
                    have hgo : goes (va_up (cpF 0 0 40 L TR2) (17 + k1) v) (seq8 Z (24 * k2) a) m ↔ goes (va_up L (17 + k1) v) (seq8 Z (24 * k2) a) m := goes_cong bg_up hkf hsf
                    refine lv_iload C.1 C.2.1 dX7_bore_112 (lv_at hl 1 rfl) ?_
                    refine lv_aload_n C.1 C.2.1 dX7_bore_114 rfl (lv_at hl 2 rfl) ?_
                    refine lv_iload_n C.1 C.2.1 dX7_bore_115 rfl (lv_at hl 4 rfl) ?_
                    refine lv_iload C.1 C.2.1 dX7_bore_116 (lv_at hl 5 rfl) ?_
                    refine lv_iload C.1 C.2.1 dX7_bore_118 (lv_at hl 6 rfl) ?_
                    have h34 : w31 119 = .inr (7, [.ref (gad g 120), .ref (gad g 121), .ref (gad g 122), .int (nI tn), .ref (gad g 123), .int (nI po), .int nu, .ref (gad g 124), .ref (gad g 125), .ref (gad g 126), .ref (gad g 127), .int (nI hk), .ref (gad g 128), .ref (gad g 129), .long (lN ao), .long (lN mu), .long (lN md), .long (lN bu), .long (lN bd)]) := ((f33 119 (by omega)).trans h30)
                    have h35 : w31 122 = .inl (gJ g, 96, .inr (.inl (kK 0 96 0 Z))) := ((f33 122 (by omega)).trans ((f29 122 (by omega)).trans fa72_3))
                    refine xcV_i (n := 3) (As := [.int (nI k2), .int (nI a), .int (nI m)]) C hK hW (c_X7_isBorne l g w31 k2 a m hk tn po nu ao mu md bu bd (va_up (cpF 0 0 40 L TR2) (17 + k1) v) Z hI hN (by omega) (by omega) hM1 hM2 hM3 h34 h35 e32) gX7_bore_X7_isBorne rfl ⟨rfl, rfl⟩ (by decide +kernel) ⟨Nat.le_of_ble_eq_true rfl, Nat.le_of_ble_eq_true rfl⟩ ⟨Nat.zero_le _, Nat.zero_le _⟩ rfl (by omega) h34 rfl hl rfl (Nat.le_of_ble_eq_true rfl) dX7_bore_120 (fun r38 w36 H locs q37 hW => ?_)
                    obtain ⟨T1_41, h39, f40, rfl⟩ := q37
                    refine xBeq (tgt := 133) C dX7_bore_123 (by decide) (fun c123 => ?_) (fun c123 => ?_)
                    · refine lv_iconst (v := (nI 0)) C.1 C.2.1 dX7_bore_133 (by decide) ?_
                      refine lv_ior C.1 C.2.1 dX7_bore_134 ?_
                      refine xtopI (b := setF (kiB L (seq8 Z (24 * k2) a) m k1) (v + 1)) ((or_nI0 _).trans (setF_n (p := kiB L (seq8 Z (24 * k2) a) m k1) (fun z => c123 (hgo.mpr (of_decide_eq_true z)))).symm) ?_
                      refine lv_istore (lv' := [(8, .int (setF (kiB L (seq8 Z (24 * k2) a) m k1) (v + 1))), (9, .int (nI v)), (0, .ref (gad g 119)), (1, .int (nI k1)), (2, .int (nI k2)), (4, .int (nI a)), (5, .int (nI m)), (6, .int (nI k3))]) C.1 C.2.1 dX7_bore_135 hl (by decide) rfl (fun ls hl => ?_)
                      refine lv_iinc (v := nI (v + 1)) (lv' := [(9, .int (nI (v + 1))), (8, .int (setF (kiB L (seq8 Z (24 * k2) a) m k1) (v + 1))), (0, .ref (gad g 119)), (1, .int (nI k1)), (2, .int (nI k2)), (4, .int (nI a)), (5, .int (nI m)), (6, .int (nI k3))]) C.1 C.2.1 dX7_bore_137 hl (k := 1) rfl (nI_add _ 1) (by decide) rfl (fun ls hl => ?_)
                      refine lv_goto (tgt := 72) C.1 C.2.1 dX7_bore_140 (by decide) ?_
                      have h42 : w36 119 = .inr (7, [.ref (gad g 120), .ref (gad g 121), .ref (gad g 122), .int (nI tn), .ref (gad g 123), .int (nI po), .int nu, .ref (gad g 124), .ref (gad g 125), .ref (gad g 126), .ref (gad g 127), .int (nI hk), .ref (gad g 128), .ref (gad g 129), .long (lN ao), .long (lN mu), .long (lN md), .long (lN bu), .long (lN bd)]) := ((f40 119 (by omega)).trans h34)
                      have h43 : w36 120 = .inl (gI g, 4, .inl (kK 0 4 0 (laF ln))) := ((f40 120 (by omega)).trans ((f33 120 (by omega)).trans ((f29 120 (by omega)).trans fa72_1)))
                      have h44 : w36 121 = .inl (gI g, 4, .inl (cK 4 0 sz)) := ((f40 121 (by omega)).trans ((f33 121 (by omega)).trans ((f29 121 (by omega)).trans fa72_2)))
                      have h45 : w36 122 = .inl (gJ g, 96, .inr (.inl (kK 0 96 0 Z))) := ((f40 122 (by omega)).trans h35)
                      have h46 : w36 123 = .inl (gI g, 80, .inl (cK 80 0 T)) := ((f40 123 (by omega)).trans ((f33 123 (by omega)).trans ((f29 123 (by omega)).trans fa72_4)))
                      have h47 : w36 124 = .inl (gI g, 177, .inl (cK 177 0 L)) := ((f40 124 (by omega)).trans ((f33 124 (by omega)).trans ((f29 124 (by omega)).trans fa72_5)))
                      have h48 : w36 126 = .inl (gI g, 177, .inl (cK 177 0 RD)) := ((f40 126 (by omega)).trans ((f33 126 (by omega)).trans ((f29 126 (by omega)).trans fa72_7)))
                      have h49 : w36 127 = .inl (gI g, 177, .inl (cK 177 0 KP)) := ((f40 127 (by omega)).trans ((f33 127 (by omega)).trans ((f29 127 (by omega)).trans fa72_8)))
                      have h50 : w36 128 = .inl (gJ g, 7, .inr (.inl (cL 7 0 O))) := ((f40 128 (by omega)).trans ((f33 128 (by omega)).trans ((f29 128 (by omega)).trans fa72_9)))
                      have h51 : w36 129 = .inl (gJ g, 7, .inr (.inl (cL 7 0 A))) := ((f40 129 (by omega)).trans ((f33 129 (by omega)).trans ((f29 129 (by omega)).trans fa72_10)))
                      exact ih72 (5 - (v + 1)) (by omega) (v + 1) T1_41 w36 _ _ _ rfl h42 h43 h44 h45 h46 h47 h39 h48 h49 h50 h51 (fun j z0 => ((f40 j (by omega)).trans ((f33 j (by omega)).trans ((f29 j (by omega)).trans (hfr72 j z0))))) (by omega) hW hl
                    · refine lv_iconst (v := (nI 1)) C.1 C.2.1 dX7_bore_126 (by decide) ?_
                      refine lv_iload C.1 C.2.1 dX7_bore_127 (lv_at hl 0 rfl) ?_
                      refine lv_ishl C.1 C.2.1 dX7_bore_129 ?_
                      refine lv_goto (tgt := 134) C.1 C.2.1 dX7_bore_130 (by decide) ?_
                      refine lv_ior C.1 C.2.1 dX7_bore_134 ?_
                      refine xtopI (b := setF (kiB L (seq8 Z (24 * k2) a) m k1) (v + 1)) (setF_y (p := kiB L (seq8 Z (24 * k2) a) m k1) (decide_eq_true (hgo.mp c123))).symm ?_
                      refine lv_istore (lv' := [(8, .int (setF (kiB L (seq8 Z (24 * k2) a) m k1) (v + 1))), (9, .int (nI v)), (0, .ref (gad g 119)), (1, .int (nI k1)), (2, .int (nI k2)), (4, .int (nI a)), (5, .int (nI m)), (6, .int (nI k3))]) C.1 C.2.1 dX7_bore_135 hl (by decide) rfl (fun ls hl => ?_)
                      refine lv_iinc (v := nI (v + 1)) (lv' := [(9, .int (nI (v + 1))), (8, .int (setF (kiB L (seq8 Z (24 * k2) a) m k1) (v + 1))), (0, .ref (gad g 119)), (1, .int (nI k1)), (2, .int (nI k2)), (4, .int (nI a)), (5, .int (nI m)), (6, .int (nI k3))]) C.1 C.2.1 dX7_bore_137 hl (k := 1) rfl (nI_add _ 1) (by decide) rfl (fun ls hl => ?_)
                      refine lv_goto (tgt := 72) C.1 C.2.1 dX7_bore_140 (by decide) ?_
                      have h52 : w36 119 = .inr (7, [.ref (gad g 120), .ref (gad g 121), .ref (gad g 122), .int (nI tn), .ref (gad g 123), .int (nI po), .int nu, .ref (gad g 124), .ref (gad g 125), .ref (gad g 126), .ref (gad g 127), .int (nI hk), .ref (gad g 128), .ref (gad g 129), .long (lN ao), .long (lN mu), .long (lN md), .long (lN bu), .long (lN bd)]) := ((f40 119 (by omega)).trans h34)
                      have h53 : w36 120 = .inl (gI g, 4, .inl (kK 0 4 0 (laF ln))) := ((f40 120 (by omega)).trans ((f33 120 (by omega)).trans ((f29 120 (by omega)).trans fa72_1)))
                      have h54 : w36 121 = .inl (gI g, 4, .inl (cK 4 0 sz)) := ((f40 121 (by omega)).trans ((f33 121 (by omega)).trans ((f29 121 (by omega)).trans fa72_2)))
                      have h55 : w36 122 = .inl (gJ g, 96, .inr (.inl (kK 0 96 0 Z))) := ((f40 122 (by omega)).trans h35)
                      have h56 : w36 123 = .inl (gI g, 80, .inl (cK 80 0 T)) := ((f40 123 (by omega)).trans ((f33 123 (by omega)).trans ((f29 123 (by omega)).trans fa72_4)))
                      have h57 : w36 124 = .inl (gI g, 177, .inl (cK 177 0 L)) := ((f40 124 (by omega)).trans ((f33 124 (by omega)).trans ((f29 124 (by omega)).trans fa72_5)))
                      have h58 : w36 126 = .inl (gI g, 177, .inl (cK 177 0 RD)) := ((f40 126 (by omega)).trans ((f33 126 (by omega)).trans ((f29 126 (by omega)).trans fa72_7)))
                      have h59 : w36 127 = .inl (gI g, 177, .inl (cK 177 0 KP)) := ((f40 127 (by omega)).trans ((f33 127 (by omega)).trans ((f29 127 (by omega)).trans fa72_8)))
                      have h60 : w36 128 = .inl (gJ g, 7, .inr (.inl (cL 7 0 O))) := ((f40 128 (by omega)).trans ((f33 128 (by omega)).trans ((f29 128 (by omega)).trans fa72_9)))
                      have h61 : w36 129 = .inl (gJ g, 7, .inr (.inl (cL 7 0 A))) := ((f40 129 (by omega)).trans ((f33 129 (by omega)).trans ((f29 129 (by omega)).trans fa72_10)))
                      exact ih72 (5 - (v + 1)) (by omega) (v + 1) T1_41 w36 _ _ _ rfl h52 h53 h54 h55 h56 h57 h39 h58 h59 h60 h61 (fun j z0 => ((f40 j (by omega)).trans ((f33 j (by omega)).trans ((f29 j (by omega)).trans (hfr72 j z0))))) (by omega) hW hl
                exact loop72 _ 0 TR w _ _ _ rfl m0 m1 m2 m3 m4 m5 m6 m7 m8 m10 m11 (fun j z0 => rfl) (by omega) hW (lv_sub hl [0, 1, 3, 4, 5, 7, 8, 9] rfl)
              · refine lv_iconst (v := (nI 0)) C.1 C.2.1 dX7_bore_66 (by decide) ?_
                refine lv_istore (lv' := [(8, .int (nI 0)), (7, .int (wrongS (ln k2) (sz k2) c (nI a) (nI m))), (0, .ref (gad g 119)), (1, .int (nI k1)), (2, .int (nI k2)), (3, .int c), (4, .int (nI a)), (5, .int (nI m)), (6, .int (nI k3))]) C.1 C.2.1 dX7_bore_67 hl (by decide) rfl (fun ls hl => ?_)
                refine lv_iconst (v := (nI 0)) C.1 C.2.1 dX7_bore_69 (by decide) ?_
                refine lv_istore (lv' := [(9, .int (nI 0)), (8, .int (nI 0)), (7, .int (wrongS (ln k2) (sz k2) c (nI a) (nI m))), (0, .ref (gad g 119)), (1, .int (nI k1)), (2, .int (nI k2)), (3, .int c), (4, .int (nI a)), (5, .int (nI m)), (6, .int (nI k3))]) C.1 C.2.1 dX7_bore_70 hl (by decide) rfl (fun ls hl => ?_)
                have loop72 : ∀ (kG : Nat) (v : Nat) (TR2 : Nat → Nat) (v72 : Nat → va_E) (H : Heap) (locs : List Loc) (ls : Array Slot), kG = 10 - v → (v72 119 = .inr (7, [.ref (gad g 120), .ref (gad g 121), .ref (gad g 122), .int (nI tn), .ref (gad g 123), .int (nI po), .int nu, .ref (gad g 124), .ref (gad g 125), .ref (gad g 126), .ref (gad g 127), .int (nI hk), .ref (gad g 128), .ref (gad g 129), .long (lN ao), .long (lN mu), .long (lN md), .long (lN bu), .long (lN bd)])) → (v72 120 = .inl (gI g, 4, .inl (kK 0 4 0 (laF ln)))) → (v72 121 = .inl (gI g, 4, .inl (cK 4 0 sz))) → (v72 122 = .inl (gJ g, 96, .inr (.inl (kK 0 96 0 Z)))) → (v72 123 = .inl (gI g, 80, .inl (cK 80 0 T))) → (v72 124 = .inl (gI g, 177, .inl (cK 177 0 L))) → (v72 125 = .inl (gI g, 177, .inl (cK 177 0 TR2))) → (v72 126 = .inl (gI g, 177, .inl (cK 177 0 RD))) → (v72 127 = .inl (gI g, 177, .inl (cK 177 0 KP))) → (v72 128 = .inl (gJ g, 7, .inr (.inl (cL 7 0 O)))) → (v72 129 = .inl (gJ g, 7, .inr (.inl (cL 7 0 A)))) → (∀ j : Nat, ¬ (119 ≤ j ∧ j < 130) → v72 j = w j) → (v ≤ 10) → XW g v72 (gA g) sG.heap H locs → lv_has ls 10 [(9, .int (nI v)), (8, .int (setF (foB L (seq8 Z (24 * k2) a) m k1) v)), (0, .ref (gad g 119)), (1, .int (nI k1)), (2, .int (nI k2)), (4, .int (nI a)), (5, .int (nI m)), (6, .int (nI k3))] → W pG l eG ({ frames := 4, cells := 0, slots := 0, locals := 94 } : Room) sG mG ([.ref (gad g 119), .int x, .int s, .int c, .int i, .int n, .int z] : List Value).toArray belowG methG cG H locs 0 0 (MQ belowG (XQi g (fun r w' => MAll g (L, K, hk, tn, T, ln, sz, Z) w' ∧ (∀ j : Nat, ¬ (119 ≤ j ∧ j < 130) → w' j = w j) ∧ r = boS L ln sz Z x s c i n z)) ([.ref (gad g 119), .int x, .int s, .int c, .int i, .int n, .int z] : List Value).toArray sG 0 0 (gA g)) (F0 mG 72 ls []) := by
                  intro k72
                  induction k72 using Nat.strongRecOn with
                  | _ k72 ih72 =>
                  intro v TR2 v72 H locs ls hk72 fa72_0 fa72_1 fa72_2 fa72_3 fa72_4 fa72_5 fa72_6 fa72_7 fa72_8 fa72_9 fa72_10 hfr72 hv hW hl
                  refine lv_iload C.1 C.2.1 dX7_bore_72 (lv_at hl 0 rfl) ?_
                  refine lv_iload C.1 C.2.1 dX7_bore_74 (lv_at hl 7 rfl) ?_
                  refine x0ne (tgt := 83) C (by omega) dX7_bore_76 (by decide) (fun c76 => ?_) (fun c76 => absurd c76 (by omega))
                  refine lv_bipush (v := (nI 9)) C.1 C.2.1 dX7_bore_83 (by decide) ?_
                  refine xgt (tgt := 143) C (by omega) (by omega) dX7_bore_85 (by decide) (fun c85 => ?_) (fun c85 => ?_)
                  · refine lv_iload C.1 C.2.1 dX7_bore_143 (lv_at hl 1 rfl) ?_
                    exact xret_i C hr hlk hW ⟨⟨_, _, _, _, _, _, _, _, _, _, _, _, fa72_0, fa72_1, fa72_2, fa72_3, fa72_4, fa72_5, fa72_6, fa72_7, fa72_8, m9, fa72_9, fa72_10⟩, (fun j z0 => (hfr72 j z0)), (by rw [boS, if_pos (c := okBo x s c n z) ⟨⟨c4, c11, c20⟩, c31, c41⟩, hiw, if_pos c60, hx_k1, hx_k2, hx_a, hx_m, hx_k3, cl_nI (by omega), cl_nI (by omega), cl_nI (by omega), cl_nI (by omega), cl_nI (by omega), if_neg w0, show v = 10 by omega])⟩ dX7_bore_145
                  · refine lv_aload_n C.1 C.2.1 dX7_bore_88 rfl (lv_at hl 2 rfl) ?_
                    refine xcV_v (n := 0) (As := []) C hK hW (c_X7_begin l g v72 hk tn po nu ao mu md bu bd L TR2 hI hN fa72_0 fa72_5 fa72_6) gX7_bore_X7_begin rfl ⟨rfl, rfl⟩ (by decide +kernel) ⟨Nat.le_of_ble_eq_true rfl, Nat.le_of_ble_eq_true rfl⟩ ⟨Nat.zero_le _, Nat.zero_le _⟩ rfl (by omega) fa72_0 rfl hl rfl (Nat.le_of_ble_eq_true rfl) dX7_bore_89 (fun w62 H locs q63 hW => ?_)
                    obtain ⟨h65, f66⟩ := q63
                    refine lv_aload_n C.1 C.2.1 dX7_bore_92 rfl (lv_at hl 2 rfl) ?_
                    have h67 : w62 119 = .inr (7, [.ref (gad g 120), .ref (gad g 121), .ref (gad g 122), .int (nI tn), .ref (gad g 123), .int (nI po), .int nu, .ref (gad g 124), .ref (gad g 125), .ref (gad g 126), .ref (gad g 127), .int (nI hk), .ref (gad g 128), .ref (gad g 129), .long (lN ao), .long (lN mu), .long (lN md), .long (lN bu), .long (lN bd)]) := ((f66 119 (by omega)).trans fa72_0)
                    refine xget C hK hW hinX7 rfl (by omega) h67 8 (by decide) (List.mem_of_getElem? (i := 1) rfl) rfl dX7_bore_93 ?_
                    refine lv_iload C.1 C.2.1 dX7_bore_96 (lv_at hl 7 rfl) ?_
                    refine x0ne (tgt := 106) C (by omega) dX7_bore_98 (by decide) (fun c98 => ?_) (fun c98 => absurd c98 (by omega))
                    refine lv_iconst (v := (nI 3)) C.1 C.2.1 dX7_bore_106 (by decide) ?_
                    refine lv_iload_n C.1 C.2.1 dX7_bore_107 rfl (lv_at hl 3 rfl) ?_
                    refine xadd C dX7_bore_108 ?_
                    refine lv_iload C.1 C.2.1 dX7_bore_109 (lv_at hl 0 rfl) ?_
                    refine xistK0 (v := v) C hK hW (by omega) h65 (by omega) (by decide) dX7_bore_111 (fun w68 H locs e69 f70 hW => ?_)
                    have hkf : Okg (va_up L (3 + k1) v) := Okg_food hok (by omega) (by omega)
                    have hsf : va_up L (3 + k1) v 2 < 7 := by rw [va_up_ne _ _ (by omega)]; exact hs2
                    have hM1 : Okg (va_up (cpF 0 0 40 L TR2) (3 + k1) v) := Okg_congr hkf bg_up
                    have hM2 : (va_up (cpF 0 0 40 L TR2) (3 + k1) v) 2 < 7 := by rw [bg_up 2 (by omega)]; exact hsf
                    have hM3 : (va_up (cpF 0 0 40 L TR2) (3 + k1) v) 1 < 2147483648 := by rw [bg_up 1 (by omega), va_up_ne _ _ (by omega)]; exact hdr
                    have hgo : goes (va_up (cpF 0 0 40 L TR2) (3 + k1) v) (seq8 Z (24 * k2) a) m ↔ goes (va_up L (3 + k1) v) (seq8 Z (24 * k2) a) m := goes_cong bg_up hkf hsf
                    refine lv_iload C.1 C.2.1 dX7_bore_112 (lv_at hl 1 rfl) ?_
                    refine lv_aload_n C.1 C.2.1 dX7_bore_114 rfl (lv_at hl 2 rfl) ?_
                    refine lv_iload_n C.1 C.2.1 dX7_bore_115 rfl (lv_at hl 4 rfl) ?_
                    refine lv_iload C.1 C.2.1 dX7_bore_116 (lv_at hl 5 rfl) ?_
                    refine lv_iload C.1 C.2.1 dX7_bore_118 (lv_at hl 6 rfl) ?_
                    have h71 : w68 119 = .inr (7, [.ref (gad g 120), .ref (gad g 121), .ref (gad g 122), .int (nI tn), .ref (gad g 123), .int (nI po), .int nu, .ref (gad g 124), .ref (gad g 125), .ref (gad g 126), .ref (gad g 127), .int (nI hk), .ref (gad g 128), .ref (gad g 129), .long (lN ao), .long (lN mu), .long (lN md), .long (lN bu), .long (lN bd)]) := ((f70 119 (by omega)).trans h67)
                    have h72 : w68 122 = .inl (gJ g, 96, .inr (.inl (kK 0 96 0 Z))) := ((f70 122 (by omega)).trans ((f66 122 (by omega)).trans fa72_3))
                    refine xcV_i (n := 3) (As := [.int (nI k2), .int (nI a), .int (nI m)]) C hK hW (c_X7_isBorne l g w68 k2 a m hk tn po nu ao mu md bu bd (va_up (cpF 0 0 40 L TR2) (3 + k1) v) Z hI hN (by omega) (by omega) hM1 hM2 hM3 h71 h72 e69) gX7_bore_X7_isBorne rfl ⟨rfl, rfl⟩ (by decide +kernel) ⟨Nat.le_of_ble_eq_true rfl, Nat.le_of_ble_eq_true rfl⟩ ⟨Nat.zero_le _, Nat.zero_le _⟩ rfl (by omega) h71 rfl hl rfl (Nat.le_of_ble_eq_true rfl) dX7_bore_120 (fun r75 w73 H locs q74 hW => ?_)
                    obtain ⟨T1_78, h76, f77, rfl⟩ := q74
                    refine xBeq (tgt := 133) C dX7_bore_123 (by decide) (fun c123 => ?_) (fun c123 => ?_)
                    · refine lv_iconst (v := (nI 0)) C.1 C.2.1 dX7_bore_133 (by decide) ?_
                      refine lv_ior C.1 C.2.1 dX7_bore_134 ?_
                      refine xtopI (b := setF (foB L (seq8 Z (24 * k2) a) m k1) (v + 1)) ((or_nI0 _).trans (setF_n (p := foB L (seq8 Z (24 * k2) a) m k1) (fun z => c123 (hgo.mpr (of_decide_eq_true z)))).symm) ?_
                      refine lv_istore (lv' := [(8, .int (setF (foB L (seq8 Z (24 * k2) a) m k1) (v + 1))), (9, .int (nI v)), (0, .ref (gad g 119)), (1, .int (nI k1)), (2, .int (nI k2)), (4, .int (nI a)), (5, .int (nI m)), (6, .int (nI k3))]) C.1 C.2.1 dX7_bore_135 hl (by decide) rfl (fun ls hl => ?_)
                      refine lv_iinc (v := nI (v + 1)) (lv' := [(9, .int (nI (v + 1))), (8, .int (setF (foB L (seq8 Z (24 * k2) a) m k1) (v + 1))), (0, .ref (gad g 119)), (1, .int (nI k1)), (2, .int (nI k2)), (4, .int (nI a)), (5, .int (nI m)), (6, .int (nI k3))]) C.1 C.2.1 dX7_bore_137 hl (k := 1) rfl (nI_add _ 1) (by decide) rfl (fun ls hl => ?_)
                      refine lv_goto (tgt := 72) C.1 C.2.1 dX7_bore_140 (by decide) ?_
                      have h79 : w73 119 = .inr (7, [.ref (gad g 120), .ref (gad g 121), .ref (gad g 122), .int (nI tn), .ref (gad g 123), .int (nI po), .int nu, .ref (gad g 124), .ref (gad g 125), .ref (gad g 126), .ref (gad g 127), .int (nI hk), .ref (gad g 128), .ref (gad g 129), .long (lN ao), .long (lN mu), .long (lN md), .long (lN bu), .long (lN bd)]) := ((f77 119 (by omega)).trans h71)
                      have h80 : w73 120 = .inl (gI g, 4, .inl (kK 0 4 0 (laF ln))) := ((f77 120 (by omega)).trans ((f70 120 (by omega)).trans ((f66 120 (by omega)).trans fa72_1)))
                      have h81 : w73 121 = .inl (gI g, 4, .inl (cK 4 0 sz)) := ((f77 121 (by omega)).trans ((f70 121 (by omega)).trans ((f66 121 (by omega)).trans fa72_2)))
                      have h82 : w73 122 = .inl (gJ g, 96, .inr (.inl (kK 0 96 0 Z))) := ((f77 122 (by omega)).trans h72)
                      have h83 : w73 123 = .inl (gI g, 80, .inl (cK 80 0 T)) := ((f77 123 (by omega)).trans ((f70 123 (by omega)).trans ((f66 123 (by omega)).trans fa72_4)))
                      have h84 : w73 124 = .inl (gI g, 177, .inl (cK 177 0 L)) := ((f77 124 (by omega)).trans ((f70 124 (by omega)).trans ((f66 124 (by omega)).trans fa72_5)))
                      have h85 : w73 126 = .inl (gI g, 177, .inl (cK 177 0 RD)) := ((f77 126 (by omega)).trans ((f70 126 (by omega)).trans ((f66 126 (by omega)).trans fa72_7)))
                      have h86 : w73 127 = .inl (gI g, 177, .inl (cK 177 0 KP)) := ((f77 127 (by omega)).trans ((f70 127 (by omega)).trans ((f66 127 (by omega)).trans fa72_8)))
                      have h87 : w73 128 = .inl (gJ g, 7, .inr (.inl (cL 7 0 O))) := ((f77 128 (by omega)).trans ((f70 128 (by omega)).trans ((f66 128 (by omega)).trans fa72_9)))
                      have h88 : w73 129 = .inl (gJ g, 7, .inr (.inl (cL 7 0 A))) := ((f77 129 (by omega)).trans ((f70 129 (by omega)).trans ((f66 129 (by omega)).trans fa72_10)))
                      exact ih72 (10 - (v + 1)) (by omega) (v + 1) T1_78 w73 _ _ _ rfl h79 h80 h81 h82 h83 h84 h76 h85 h86 h87 h88 (fun j z0 => ((f77 j (by omega)).trans ((f70 j (by omega)).trans ((f66 j (by omega)).trans (hfr72 j z0))))) (by omega) hW hl
                    · refine lv_iconst (v := (nI 1)) C.1 C.2.1 dX7_bore_126 (by decide) ?_
                      refine lv_iload C.1 C.2.1 dX7_bore_127 (lv_at hl 0 rfl) ?_
                      refine lv_ishl C.1 C.2.1 dX7_bore_129 ?_
                      refine lv_goto (tgt := 134) C.1 C.2.1 dX7_bore_130 (by decide) ?_
                      refine lv_ior C.1 C.2.1 dX7_bore_134 ?_
                      refine xtopI (b := setF (foB L (seq8 Z (24 * k2) a) m k1) (v + 1)) (setF_y (p := foB L (seq8 Z (24 * k2) a) m k1) (decide_eq_true (hgo.mp c123))).symm ?_
                      refine lv_istore (lv' := [(8, .int (setF (foB L (seq8 Z (24 * k2) a) m k1) (v + 1))), (9, .int (nI v)), (0, .ref (gad g 119)), (1, .int (nI k1)), (2, .int (nI k2)), (4, .int (nI a)), (5, .int (nI m)), (6, .int (nI k3))]) C.1 C.2.1 dX7_bore_135 hl (by decide) rfl (fun ls hl => ?_)
                      refine lv_iinc (v := nI (v + 1)) (lv' := [(9, .int (nI (v + 1))), (8, .int (setF (foB L (seq8 Z (24 * k2) a) m k1) (v + 1))), (0, .ref (gad g 119)), (1, .int (nI k1)), (2, .int (nI k2)), (4, .int (nI a)), (5, .int (nI m)), (6, .int (nI k3))]) C.1 C.2.1 dX7_bore_137 hl (k := 1) rfl (nI_add _ 1) (by decide) rfl (fun ls hl => ?_)
                      refine lv_goto (tgt := 72) C.1 C.2.1 dX7_bore_140 (by decide) ?_
                      have h89 : w73 119 = .inr (7, [.ref (gad g 120), .ref (gad g 121), .ref (gad g 122), .int (nI tn), .ref (gad g 123), .int (nI po), .int nu, .ref (gad g 124), .ref (gad g 125), .ref (gad g 126), .ref (gad g 127), .int (nI hk), .ref (gad g 128), .ref (gad g 129), .long (lN ao), .long (lN mu), .long (lN md), .long (lN bu), .long (lN bd)]) := ((f77 119 (by omega)).trans h71)
                      have h90 : w73 120 = .inl (gI g, 4, .inl (kK 0 4 0 (laF ln))) := ((f77 120 (by omega)).trans ((f70 120 (by omega)).trans ((f66 120 (by omega)).trans fa72_1)))
                      have h91 : w73 121 = .inl (gI g, 4, .inl (cK 4 0 sz)) := ((f77 121 (by omega)).trans ((f70 121 (by omega)).trans ((f66 121 (by omega)).trans fa72_2)))
                      have h92 : w73 122 = .inl (gJ g, 96, .inr (.inl (kK 0 96 0 Z))) := ((f77 122 (by omega)).trans h72)
                      have h93 : w73 123 = .inl (gI g, 80, .inl (cK 80 0 T)) := ((f77 123 (by omega)).trans ((f70 123 (by omega)).trans ((f66 123 (by omega)).trans fa72_4)))
                      have h94 : w73 124 = .inl (gI g, 177, .inl (cK 177 0 L)) := ((f77 124 (by omega)).trans ((f70 124 (by omega)).trans ((f66 124 (by omega)).trans fa72_5)))
                      have h95 : w73 126 = .inl (gI g, 177, .inl (cK 177 0 RD)) := ((f77 126 (by omega)).trans ((f70 126 (by omega)).trans ((f66 126 (by omega)).trans fa72_7)))
                      have h96 : w73 127 = .inl (gI g, 177, .inl (cK 177 0 KP)) := ((f77 127 (by omega)).trans ((f70 127 (by omega)).trans ((f66 127 (by omega)).trans fa72_8)))
                      have h97 : w73 128 = .inl (gJ g, 7, .inr (.inl (cL 7 0 O))) := ((f77 128 (by omega)).trans ((f70 128 (by omega)).trans ((f66 128 (by omega)).trans fa72_9)))
                      have h98 : w73 129 = .inl (gJ g, 7, .inr (.inl (cL 7 0 A))) := ((f77 129 (by omega)).trans ((f70 129 (by omega)).trans ((f66 129 (by omega)).trans fa72_10)))
                      exact ih72 (10 - (v + 1)) (by omega) (v + 1) T1_78 w73 _ _ _ rfl h89 h90 h91 h92 h93 h94 h76 h95 h96 h97 h98 (fun j z0 => ((f77 j (by omega)).trans ((f70 j (by omega)).trans ((f66 j (by omega)).trans (hfr72 j z0))))) (by omega) hW hl
                exact loop72 _ 0 TR w _ _ _ rfl m0 m1 m2 m3 m4 m5 m6 m7 m8 m10 m11 (fun j z0 => rfl) (by omega) hW (lv_sub hl [0, 1, 3, 4, 5, 7, 8, 9] rfl)
            · refine lv_iload C.1 C.2.1 dX7_bore_63 (lv_at hl 0 rfl) ?_
              exact xret_i C hr hlk hW ⟨⟨_, _, _, _, _, _, _, _, _, _, _, _, m0, m1, m2, m3, m4, m5, m6, m7, m8, m9, m10, m11⟩, (fun j z0 => rfl), (by rw [boS, if_pos (c := okBo x s c n z) ⟨⟨c4, c11, c20⟩, c31, c41⟩, hiw, if_neg c60])⟩ dX7_bore_65
          · refine lv_iconst (v := (-1 : Int32)) C.1 C.2.1 dX7_bore_44 (by decide) ?_
            exact xret_i C hr hlk hW ⟨⟨_, _, _, _, _, _, _, _, _, _, _, _, m0, m1, m2, m3, m4, m5, m6, m7, m8, m9, m10, m11⟩, (fun j z0 => rfl), (by rw [boS, if_neg (c := okBo x s c n z) (fun h => c41 h.2.2)])⟩ dX7_bore_45
