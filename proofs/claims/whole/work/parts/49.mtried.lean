/-! the reference: what is tried -/
theorem upc {L M : Nat → Nat} {k v i : Nat} (h : M i = L i) : va_up M k v i = va_up L k v i := by
  by_cases q : i = k
  · rw [q, va_up_self, va_up_self]
  · rw [va_up_ne _ _ q, va_up_ne _ _ q, h]
theorem dayF_congr {L M : Nat → Nat} (h : ∀ i, i < 24 → M i = L i) (hs : L 2 < 7) : ∀ i, i < 24 → dayF M i = dayF L i := by
  intro i hi
  have hq := h i hi
  unfold dayF
  rw [h 0 (by omega), h 1 (by omega), h 2 (by omega), onF_congr h hs, backF_congr h hs, h (3 + L 2) (by omega)]
  refine upc ?_
  split
  · exact upc (upc hq)
  · split
    · exact upc (upc hq)
    · exact upc (upc hq)
theorem daysF_congr {L M : Nat → Nat} (h : ∀ i, i < 24 → M i = L i) (hok : Okg L) (hs : L 2 < 7) : ∀ d i, i < 24 → daysF M d i = daysF L d i
  | 0, i, hi => h i hi
  | d + 1, i, hi => dayF_congr (fun i hi => daysF_congr h hok hs d i hi) (daysF_ok hok hs d).2 i hi
theorem bg_lo {L M : Nat → Nat} {i : Nat} (h : i < 40) : cpF 0 0 40 L M i = L i := by
  rw [cpF_in (by omega), Nat.zero_add, Nat.sub_zero]
theorem bg_up {L M : Nat → Nat} {k v : Nat} : ∀ i, i < 24 → va_up (cpF 0 0 40 L M) k v i = va_up L k v i := fun i hi => upc (bg_lo (by omega))
theorem day1_lt {L : Nat → Nat} : dayF L 1 < 2147483648 := by
  rw [dayF_1]
  exact drawF_lt _
theorem days1_lt {L : Nat → Nat} (h : L 1 < 2147483648) : ∀ d, daysF L d 1 < 2147483648
  | 0 => h
  | _ + 1 => day1_lt
theorem m4_ne {k : Nat} (h : k < 7) : ¬ nI k = (-4 : Int32) := by
  have hz : ∀ k, k < 7 → ¬ nI k = (-4 : Int32) := by decide
  exact hz k h

set_option maxHeartbeats 4000000 in
set_option maxRecDepth 100000 in
theorem c_X7_begin (l : Launch) (g : GE) (w : Nat → va_E) (hk tn po : Nat) (nu : Int32) (ao mu md bu bd : Nat) (L TR : Nat → Nat) (hI : AdInj g) (hN : gN g = 130) (pr0 : w 119 = .inr (7, [.ref (gad g 120), .ref (gad g 121), .ref (gad g 122), .int (nI tn), .ref (gad g 123), .int (nI po), .int nu, .ref (gad g 124), .ref (gad g 125), .ref (gad g 126), .ref (gad g 127), .int (nI hk), .ref (gad g 128), .ref (gad g 129), .long (lN ao), .long (lN mu), .long (lN md), .long (lN bu), .long (lN bd)])) (pr1 : w 124 = .inl (gI g, 177, .inl (cK 177 0 L))) (pr2 : w 125 = .inl (gI g, 177, .inl (cK 177 0 TR))) : Met l yX7_begin wsX7_begin ({ frames := 1, cells := 0, slots := 0, locals := 25 } : Room) (XPc g w [.ref (gad g 119)]) (XQv g (fun w' => w' 125 = .inl (gI g, 177, .inl (cK 177 0 (cpF 0 0 40 L TR))) ∧ (∀ j : Nat, ¬ (125 ≤ j ∧ j < 126) → w' j = w j))) 0 0 (gA g) := by
  refine xmet (cc := cX7_begin) (maxL := 1) (ret := none) (by decide) rfl hI (Nat.le_of_ble_eq_true rfl) ?_
  intro pG eG sG mG belowG methG cG ls C hr hlk hK hW hl
  have hl : lv_has ls 1 [(0, .ref (gad g 119))] := hl
  have hinX7 : ∀ x ∈ u_ws RX7 TX7 19, x ∈ wsX7_begin := by decide +kernel
  refine lv_aload_n C.1 C.2.1 dX7_begin_0 rfl (lv_at hl 0 rfl) ?_
  refine xget C hK hW hinX7 rfl (by omega) pr0 7 (by decide) (List.mem_of_getElem? (i := 1) rfl) rfl dX7_begin_1 ?_
  refine lv_iconst (v := (nI 0)) C.1 C.2.1 dX7_begin_4 (by decide) ?_
  refine lv_aload_n C.1 C.2.1 dX7_begin_5 rfl (lv_at hl 0 rfl) ?_
  refine xget C hK hW hinX7 rfl (by omega) pr0 8 (by decide) (List.mem_of_getElem? (i := 2) rfl) rfl dX7_begin_6 ?_
  refine lv_iconst (v := (nI 0)) C.1 C.2.1 dX7_begin_9 (by decide) ?_
  refine lv_bipush (v := (nI 40)) C.1 C.2.1 dX7_begin_10 (by decide) ?_
  refine xcS_v (n := 5) (As := [.ref (gad g 124), .int (nI 0), .ref (gad g 125), .int (nI 0), .int (nI 40)]) C hK hW (c_X7_bring2 l g w 124 125 0 0 40 L TR hI hN (by omega) (by omega) (by omega) (by omega) (by omega) pr1 pr2) gX7_begin_X7_bring rfl ⟨rfl, rfl⟩ (by decide +kernel) ⟨Nat.le_of_ble_eq_true rfl, Nat.le_of_ble_eq_true rfl⟩ ⟨Nat.zero_le _, Nat.zero_le _⟩ rfl hl rfl (Nat.le_of_ble_eq_true rfl) dX7_begin_12 (fun w1 H locs q2 hW => ?_)
  obtain ⟨h4, f5⟩ := q2
  exact xret_v C hr hlk hW ⟨h4, (fun j z0 => (f5 j (by omega)))⟩ dX7_begin_15

set_option maxHeartbeats 4000000 in
set_option maxRecDepth 100000 in
theorem c_X7_next (l : Launch) (g : GE) (w : Nat → va_E) (L K T ln sz : Nat → Nat) (hk tn : Nat) (Z : Nat → Int64) (x : Int32) (hI : AdInj g) (hN : gN g = 130) (hS : OkS (L, K, hk, tn, T, ln, sz, Z)) (pr0 : MAll g (L, K, hk, tn, T, ln, sz, Z) w) : Met l yX7_next wsX7_next ({ frames := 3, cells := 0, slots := 0, locals := 69 } : Room) (XPc g w [.ref (gad g 119), .int x]) (XQi g (fun r w' => MAll g (L, K, hk, tn, T, ln, sz, Z) w' ∧ (∀ j : Nat, ¬ (119 ≤ j ∧ j < 130) → w' j = w j) ∧ r = nextS L x)) 0 0 (gA g) := by
  refine xmet (cc := cX7_next) (maxL := 3) (ret := (some .int)) (by decide) rfl hI (Nat.le_of_ble_eq_true rfl) ?_
  intro pG eG sG mG belowG methG cG ls C hr hlk hK hW hl
  have hl : lv_has ls 3 [(0, .ref (gad g 119)), (1, .int x)] := hl
  have hinX7 : ∀ x ∈ u_ws RX7 TX7 19, x ∈ wsX7_next := by decide +kernel
  obtain ⟨po, ao, mu, md, bu, bd, nu, TR, RD, KP, O, A, m0, m1, m2, m3, m4, m5, m6, m7, m8, m9, m10, m11⟩ := pr0
  have hokL : OkL L := hS.1
  obtain ⟨hok, hs2, hdy, hdr, hcl, hkn, hcs, hps⟩ := hokL
  have htn : tn ≤ 80 := hS.2.2.1
  have hlz : ∀ s, s < 4 → ln s ≤ 4 ∧ sz s ≤ 24 := hS.2.2.2.2
  have m0 : w 119 = .inr (7, [.ref (gad g 120), .ref (gad g 121), .ref (gad g 122), .int (nI tn), .ref (gad g 123), .int (nI po), .int nu, .ref (gad g 124), .ref (gad g 125), .ref (gad g 126), .ref (gad g 127), .int (nI hk), .ref (gad g 128), .ref (gad g 129), .long (lN ao), .long (lN mu), .long (lN md), .long (lN bu), .long (lN bd)]) := m0
  have m1 : w 120 = .inl (gI g, 4, .inl (kK 0 4 0 (laF ln))) := m1
  have m2 : w 121 = .inl (gI g, 4, .inl (cK 4 0 sz)) := m2
  have m3 : w 122 = .inl (gJ g, 96, .inr (.inl (kK 0 96 0 Z))) := m3
  have m4 : w 123 = .inl (gI g, 80, .inl (cK 80 0 T)) := m4
  have m5 : w 124 = .inl (gI g, 177, .inl (cK 177 0 L)) := m5
  have m9 : hk = 1 → KP = K := m9
  refine lv_iload_n C.1 C.2.1 dX7_next_0 rfl (lv_at hl 1 rfl) ?_
  refine lv_iconst (v := (nI 0)) C.1 C.2.1 dX7_next_1 (by decide) ?_
  refine lv_bipush (v := (nI 40)) C.1 C.2.1 dX7_next_2 (by decide) ?_
  refine xcS_i (n := 3) (As := [.int x, .int (nI 0), .int (nI 40)]) C hK hW (c_X7_in l g w x (nI 0) (nI 40) hI hN) gX7_next_X7_in rfl ⟨rfl, rfl⟩ (by decide +kernel) ⟨Nat.le_of_ble_eq_true rfl, Nat.le_of_ble_eq_true rfl⟩ ⟨Nat.zero_le _, Nat.zero_le _⟩ rfl hl rfl (Nat.le_of_ble_eq_true rfl) dX7_next_4 (fun r3 w1 H locs q2 hW => ?_)
  obtain ⟨qw4, rfl⟩ := q2
  rw [qw4] at hW
  refine xBne (tgt := 12) C dX7_next_7 (by decide) (fun c7 => ?_) (fun c7 => ?_)
  · obtain ⟨k1, ha_k1, hb_k1, hx_k1⟩ := inR_N (by omega) (by omega) c7
    rw [hx_k1] at hl
    refine lv_aload_n C.1 C.2.1 dX7_next_12 rfl (lv_at hl 0 rfl) ?_
    refine xcV_v (n := 0) (As := []) C hK hW (c_X7_begin l g w hk tn po nu ao mu md bu bd L TR hI hN m0 m5 m6) gX7_next_X7_begin rfl ⟨rfl, rfl⟩ (by decide +kernel) ⟨Nat.le_of_ble_eq_true rfl, Nat.le_of_ble_eq_true rfl⟩ ⟨Nat.zero_le _, Nat.zero_le _⟩ rfl (by omega) m0 rfl hl rfl (Nat.le_of_ble_eq_true rfl) dX7_next_13 (fun w5 H locs q6 hW => ?_)
    obtain ⟨h8, f9⟩ := q6
    have hb2 : Okg (cpF 0 0 40 L TR) := Okg_congr hok (fun i hi => bg_lo (by omega))
    have hb3 : (cpF 0 0 40 L TR) 2 < 7 := by rw [bg_lo (by omega)]; exact hs2
    have hb4 : (cpF 0 0 40 L TR) 1 < 2147483648 := by rw [bg_lo (by omega)]; exact hdr
    refine lv_iconst (v := (nI 0)) C.1 C.2.1 dX7_next_16 (by decide) ?_
    refine lv_istore_n (lv' := [(2, .int (nI 0)), (0, .ref (gad g 119)), (1, .int (nI k1))]) C.1 C.2.1 dX7_next_17 rfl hl (by decide) rfl (fun ls hl => ?_)
    have loop18 : ∀ (kG : Nat) (d : Nat) (v18 : Nat → va_E) (H : Heap) (locs : List Loc) (ls : Array Slot), kG = k1 - d → (v18 119 = .inr (7, [.ref (gad g 120), .ref (gad g 121), .ref (gad g 122), .int (nI tn), .ref (gad g 123), .int (nI po), .int nu, .ref (gad g 124), .ref (gad g 125), .ref (gad g 126), .ref (gad g 127), .int (nI hk), .ref (gad g 128), .ref (gad g 129), .long (lN ao), .long (lN mu), .long (lN md), .long (lN bu), .long (lN bd)])) → (v18 120 = .inl (gI g, 4, .inl (kK 0 4 0 (laF ln)))) → (v18 121 = .inl (gI g, 4, .inl (cK 4 0 sz))) → (v18 122 = .inl (gJ g, 96, .inr (.inl (kK 0 96 0 Z)))) → (v18 123 = .inl (gI g, 80, .inl (cK 80 0 T))) → (v18 124 = .inl (gI g, 177, .inl (cK 177 0 L))) → (v18 125 = .inl (gI g, 177, .inl (cK 177 0 (daysF (cpF 0 0 40 L TR) d)))) → (v18 126 = .inl (gI g, 177, .inl (cK 177 0 RD))) → (v18 127 = .inl (gI g, 177, .inl (cK 177 0 KP))) → (v18 128 = .inl (gJ g, 7, .inr (.inl (cL 7 0 O)))) → (v18 129 = .inl (gJ g, 7, .inr (.inl (cL 7 0 A)))) → (∀ j : Nat, ¬ (119 ≤ j ∧ j < 130) → v18 j = w j) → (d ≤ k1) → XW g v18 (gA g) sG.heap H locs → lv_has ls 3 [(2, .int (nI d)), (0, .ref (gad g 119)), (1, .int (nI k1))] → W pG l eG ({ frames := 3, cells := 0, slots := 0, locals := 69 } : Room) sG mG ([.ref (gad g 119), .int x] : List Value).toArray belowG methG cG H locs 0 0 (MQ belowG (XQi g (fun r w' => MAll g (L, K, hk, tn, T, ln, sz, Z) w' ∧ (∀ j : Nat, ¬ (119 ≤ j ∧ j < 130) → w' j = w j) ∧ r = nextS L x)) ([.ref (gad g 119), .int x] : List Value).toArray sG 0 0 (gA g)) (F0 mG 18 ls []) := by
      intro k18
      induction k18 using Nat.strongRecOn with
      | _ k18 ih18 =>
      intro d v18 H locs ls hk18 fa18_0 fa18_1 fa18_2 fa18_3 fa18_4 fa18_5 fa18_6 fa18_7 fa18_8 fa18_9 fa18_10 hfr18 hd hW hl
      refine lv_iload_n C.1 C.2.1 dX7_next_18 rfl (lv_at hl 0 rfl) ?_
      refine lv_iload_n C.1 C.2.1 dX7_next_19 rfl (lv_at hl 2 rfl) ?_
      refine xge (tgt := 36) C (by omega) (by omega) dX7_next_20 (by decide) (fun c20 => ?_) (fun c20 => ?_)
      · refine lv_aload_n C.1 C.2.1 dX7_next_36 rfl (lv_at hl 1 rfl) ?_
        refine xget C hK hW hinX7 rfl (by omega) fa18_0 8 (by decide) (List.mem_of_getElem? (i := 1) rfl) rfl dX7_next_37 ?_
        refine lv_iconst (v := (nI 2)) C.1 C.2.1 dX7_next_40 (by decide) ?_
        refine xildK0 C hK hW (by omega) fa18_6 (by omega) (by decide) dX7_next_41 ?_
        refine xtopN (b := daysF L d 2) (daysF_congr (fun i hi => bg_lo (by omega)) hok hs2 d 2 (by omega)) ?_
        exact xret_i C hr hlk hW ⟨⟨_, _, _, _, _, _, _, _, _, _, _, _, fa18_0, fa18_1, fa18_2, fa18_3, fa18_4, fa18_5, fa18_6, fa18_7, fa18_8, m9, fa18_9, fa18_10⟩, (fun j z0 => (hfr18 j z0)), (by rw [nextS, if_pos (c := inR x (nI 0) (nI 40)) c7, hx_k1, cl_nI (by omega), show k1 = d by omega])⟩ dX7_next_42
      · have hdo := daysF_ok hb2 hb3 d
        have hd1 := days1_lt hb4 d
        refine lv_aload_n C.1 C.2.1 dX7_next_23 rfl (lv_at hl 1 rfl) ?_
        refine xget C hK hW hinX7 rfl (by omega) fa18_0 8 (by decide) (List.mem_of_getElem? (i := 1) rfl) rfl dX7_next_24 ?_
        refine xcS_v (n := 1) (As := [.ref (gad g 125)]) C hK hW (c_X7_dayIn l g v18 125 (daysF (cpF 0 0 40 L TR) d) hI hN (by omega) hdo.1 hdo.2 hd1 fa18_6) gX7_next_X7_dayIn rfl ⟨rfl, rfl⟩ (by decide +kernel) ⟨Nat.le_of_ble_eq_true rfl, Nat.le_of_ble_eq_true rfl⟩ ⟨Nat.zero_le _, Nat.zero_le _⟩ rfl hl rfl (Nat.le_of_ble_eq_true rfl) dX7_next_27 (fun w10 H locs q11 hW => ?_)
        obtain ⟨h13, f14⟩ := q11
        refine lv_iinc (v := nI (d + 1)) (lv' := [(2, .int (nI (d + 1))), (0, .ref (gad g 119)), (1, .int (nI k1))]) C.1 C.2.1 dX7_next_30 hl (k := 0) rfl (nI_add _ 1) (by decide) rfl (fun ls hl => ?_)
        refine lv_goto (tgt := 18) C.1 C.2.1 dX7_next_33 (by decide) ?_
        have h15 : w10 119 = .inr (7, [.ref (gad g 120), .ref (gad g 121), .ref (gad g 122), .int (nI tn), .ref (gad g 123), .int (nI po), .int nu, .ref (gad g 124), .ref (gad g 125), .ref (gad g 126), .ref (gad g 127), .int (nI hk), .ref (gad g 128), .ref (gad g 129), .long (lN ao), .long (lN mu), .long (lN md), .long (lN bu), .long (lN bd)]) := ((f14 119 (by omega)).trans fa18_0)
        have h16 : w10 120 = .inl (gI g, 4, .inl (kK 0 4 0 (laF ln))) := ((f14 120 (by omega)).trans fa18_1)
        have h17 : w10 121 = .inl (gI g, 4, .inl (cK 4 0 sz)) := ((f14 121 (by omega)).trans fa18_2)
        have h18 : w10 122 = .inl (gJ g, 96, .inr (.inl (kK 0 96 0 Z))) := ((f14 122 (by omega)).trans fa18_3)
        have h19 : w10 123 = .inl (gI g, 80, .inl (cK 80 0 T)) := ((f14 123 (by omega)).trans fa18_4)
        have h20 : w10 124 = .inl (gI g, 177, .inl (cK 177 0 L)) := ((f14 124 (by omega)).trans fa18_5)
        have h21 : w10 126 = .inl (gI g, 177, .inl (cK 177 0 RD)) := ((f14 126 (by omega)).trans fa18_7)
        have h22 : w10 127 = .inl (gI g, 177, .inl (cK 177 0 KP)) := ((f14 127 (by omega)).trans fa18_8)
        have h23 : w10 128 = .inl (gJ g, 7, .inr (.inl (cL 7 0 O))) := ((f14 128 (by omega)).trans fa18_9)
        have h24 : w10 129 = .inl (gJ g, 7, .inr (.inl (cL 7 0 A))) := ((f14 129 (by omega)).trans fa18_10)
        exact ih18 (k1 - (d + 1)) (by omega) (d + 1) w10 _ _ _ rfl h15 h16 h17 h18 h19 h20 h13 h21 h22 h23 h24 (fun j z0 => ((f14 j (by omega)).trans (hfr18 j z0))) (by omega) hW hl
    have h25 : w5 119 = .inr (7, [.ref (gad g 120), .ref (gad g 121), .ref (gad g 122), .int (nI tn), .ref (gad g 123), .int (nI po), .int nu, .ref (gad g 124), .ref (gad g 125), .ref (gad g 126), .ref (gad g 127), .int (nI hk), .ref (gad g 128), .ref (gad g 129), .long (lN ao), .long (lN mu), .long (lN md), .long (lN bu), .long (lN bd)]) := ((f9 119 (by omega)).trans m0)
    have h26 : w5 120 = .inl (gI g, 4, .inl (kK 0 4 0 (laF ln))) := ((f9 120 (by omega)).trans m1)
    have h27 : w5 121 = .inl (gI g, 4, .inl (cK 4 0 sz)) := ((f9 121 (by omega)).trans m2)
    have h28 : w5 122 = .inl (gJ g, 96, .inr (.inl (kK 0 96 0 Z))) := ((f9 122 (by omega)).trans m3)
    have h29 : w5 123 = .inl (gI g, 80, .inl (cK 80 0 T)) := ((f9 123 (by omega)).trans m4)
    have h30 : w5 124 = .inl (gI g, 177, .inl (cK 177 0 L)) := ((f9 124 (by omega)).trans m5)
    have h31 : w5 126 = .inl (gI g, 177, .inl (cK 177 0 RD)) := ((f9 126 (by omega)).trans m7)
    have h32 : w5 127 = .inl (gI g, 177, .inl (cK 177 0 KP)) := ((f9 127 (by omega)).trans m8)
    have h33 : w5 128 = .inl (gJ g, 7, .inr (.inl (cL 7 0 O))) := ((f9 128 (by omega)).trans m10)
    have h34 : w5 129 = .inl (gJ g, 7, .inr (.inl (cL 7 0 A))) := ((f9 129 (by omega)).trans m11)
    exact loop18 _ 0 w5 _ _ _ rfl h25 h26 h27 h28 h29 h30 h8 h31 h32 h33 h34 (fun j z0 => (f9 j (by omega))) (by omega) hW hl
  · refine lv_iconst (v := (-1 : Int32)) C.1 C.2.1 dX7_next_10 (by decide) ?_
    exact xret_i C hr hlk hW ⟨⟨_, _, _, _, _, _, _, _, _, _, _, _, m0, m1, m2, m3, m4, m5, m6, m7, m8, m9, m10, m11⟩, (fun j z0 => rfl), (by rw [nextS, if_neg (c := inR x (nI 0) (nI 40)) (fun h => c7 h)])⟩ dX7_next_11

set_option maxHeartbeats 4000000 in
set_option maxRecDepth 100000 in
theorem c_X7_keep (l : Launch) (g : GE) (w : Nat → va_E) (L K T ln sz : Nat → Nat) (hk tn : Nat) (Z : Nat → Int64) (y : Int32) (z : Int32) (hI : AdInj g) (hN : gN g = 130) (hS : OkS (L, K, hk, tn, T, ln, sz, Z)) (pr0 : MAll g (L, K, hk, tn, T, ln, sz, Z) w) : Met l yX7_keep wsX7_keep ({ frames := 3, cells := 0, slots := 0, locals := 79 } : Room) (XPc g w [.ref (gad g 119), .int y, .int z]) (XQi g (fun r w' => MAll g (L, K, hk, tn, T, ln, sz, Z) w' ∧ (∀ j : Nat, ¬ (119 ≤ j ∧ j < 130) → w' j = w j) ∧ r = keepS L y z)) 0 0 (gA g) := by
  refine xmet (cc := cX7_keep) (maxL := 4) (ret := (some .int)) (by decide) rfl hI (Nat.le_of_ble_eq_true rfl) ?_
  intro pG eG sG mG belowG methG cG ls C hr hlk hK hW hl
  have hl : lv_has ls 4 [(0, .ref (gad g 119)), (1, .int y), (2, .int z)] := hl
  have hinX7 : ∀ x ∈ u_ws RX7 TX7 19, x ∈ wsX7_keep := by decide +kernel
  obtain ⟨po, ao, mu, md, bu, bd, nu, TR, RD, KP, O, A, m0, m1, m2, m3, m4, m5, m6, m7, m8, m9, m10, m11⟩ := pr0
  have hokL : OkL L := hS.1
  obtain ⟨hok, hs2, hdy, hdr, hcl, hkn, hcs, hps⟩ := hokL
  have htn : tn ≤ 80 := hS.2.2.1
  have hlz : ∀ s, s < 4 → ln s ≤ 4 ∧ sz s ≤ 24 := hS.2.2.2.2
  have m0 : w 119 = .inr (7, [.ref (gad g 120), .ref (gad g 121), .ref (gad g 122), .int (nI tn), .ref (gad g 123), .int (nI po), .int nu, .ref (gad g 124), .ref (gad g 125), .ref (gad g 126), .ref (gad g 127), .int (nI hk), .ref (gad g 128), .ref (gad g 129), .long (lN ao), .long (lN mu), .long (lN md), .long (lN bu), .long (lN bd)]) := m0
  have m1 : w 120 = .inl (gI g, 4, .inl (kK 0 4 0 (laF ln))) := m1
  have m2 : w 121 = .inl (gI g, 4, .inl (cK 4 0 sz)) := m2
  have m3 : w 122 = .inl (gJ g, 96, .inr (.inl (kK 0 96 0 Z))) := m3
  have m4 : w 123 = .inl (gI g, 80, .inl (cK 80 0 T)) := m4
  have m5 : w 124 = .inl (gI g, 177, .inl (cK 177 0 L)) := m5
  have m9 : hk = 1 → KP = K := m9
  refine lv_iload_n C.1 C.2.1 dX7_keep_0 rfl (lv_at hl 1 rfl) ?_
  refine lv_iconst (v := (nI 1)) C.1 C.2.1 dX7_keep_1 (by decide) ?_
  refine lv_bipush (v := (nI 9)) C.1 C.2.1 dX7_keep_2 (by decide) ?_
  refine xcS_i (n := 3) (As := [.int y, .int (nI 1), .int (nI 9)]) C hK hW (c_X7_in l g w y (nI 1) (nI 9) hI hN) gX7_keep_X7_in rfl ⟨rfl, rfl⟩ (by decide +kernel) ⟨Nat.le_of_ble_eq_true rfl, Nat.le_of_ble_eq_true rfl⟩ ⟨Nat.zero_le _, Nat.zero_le _⟩ rfl hl rfl (Nat.le_of_ble_eq_true rfl) dX7_keep_4 (fun r3 w1 H locs q2 hW => ?_)
  obtain ⟨qw4, rfl⟩ := q2
  rw [qw4] at hW
  refine xBeq (tgt := 20) C dX7_keep_7 (by decide) (fun c7 => ?_) (fun c7 => ?_)
  · refine lv_iconst (v := (-1 : Int32)) C.1 C.2.1 dX7_keep_20 (by decide) ?_
    exact xret_i C hr hlk hW ⟨⟨_, _, _, _, _, _, _, _, _, _, _, _, m0, m1, m2, m3, m4, m5, m6, m7, m8, m9, m10, m11⟩, (fun j z0 => rfl), (by rw [keepS, if_neg (c := inR y (nI 1) (nI 9) ∧ inR z (nI 0) (nI 100)) (fun h => c7 h.1)])⟩ dX7_keep_21
  · refine lv_iload_n C.1 C.2.1 dX7_keep_10 rfl (lv_at hl 2 rfl) ?_
    refine lv_iconst (v := (nI 0)) C.1 C.2.1 dX7_keep_11 (by decide) ?_
    refine lv_bipush (v := (nI 100)) C.1 C.2.1 dX7_keep_12 (by decide) ?_
    refine xcS_i (n := 3) (As := [.int z, .int (nI 0), .int (nI 100)]) C hK hW (c_X7_in l g w z (nI 0) (nI 100) hI hN) gX7_keep_X7_in rfl ⟨rfl, rfl⟩ (by decide +kernel) ⟨Nat.le_of_ble_eq_true rfl, Nat.le_of_ble_eq_true rfl⟩ ⟨Nat.zero_le _, Nat.zero_le _⟩ rfl hl rfl (Nat.le_of_ble_eq_true rfl) dX7_keep_14 (fun r7 w5 H locs q6 hW => ?_)
    obtain ⟨qw8, rfl⟩ := q6
    rw [qw8] at hW
    refine xBne (tgt := 22) C dX7_keep_17 (by decide) (fun c17 => ?_) (fun c17 => ?_)
    · obtain ⟨k2, ha_k2, hb_k2, hx_k2⟩ := inR_N (by omega) (by omega) c7
      rw [hx_k2] at hl
      obtain ⟨k3, ha_k3, hb_k3, hx_k3⟩ := inR_N (by omega) (by omega) c17
      rw [hx_k3] at hl
      refine lv_iconst (v := (nI 0)) C.1 C.2.1 dX7_keep_22 (by decide) ?_
      refine lv_istore_n (lv' := [(3, .int (nI 0)), (0, .ref (gad g 119)), (1, .int (nI k2)), (2, .int (nI k3))]) C.1 C.2.1 dX7_keep_23 rfl hl (by decide) rfl (fun ls hl => ?_)
      have loop24 : ∀ (kG : Nat) (v ao2 : Nat) (TR2 O2 A2 : Nat → Nat) (v24 : Nat → va_E) (H : Heap) (locs : List Loc) (ls : Array Slot), kG = 10 - v → (v24 119 = .inr (7, [.ref (gad g 120), .ref (gad g 121), .ref (gad g 122), .int (nI tn), .ref (gad g 123), .int (nI po), .int nu, .ref (gad g 124), .ref (gad g 125), .ref (gad g 126), .ref (gad g 127), .int (nI hk), .ref (gad g 128), .ref (gad g 129), .long (lN ao2), .long (lN mu), .long (lN md), .long (lN bu), .long (lN bd)])) → (v24 120 = .inl (gI g, 4, .inl (kK 0 4 0 (laF ln)))) → (v24 121 = .inl (gI g, 4, .inl (cK 4 0 sz))) → (v24 122 = .inl (gJ g, 96, .inr (.inl (kK 0 96 0 Z)))) → (v24 123 = .inl (gI g, 80, .inl (cK 80 0 T))) → (v24 124 = .inl (gI g, 177, .inl (cK 177 0 L))) → (v24 125 = .inl (gI g, 177, .inl (cK 177 0 TR2))) → (v24 126 = .inl (gI g, 177, .inl (cK 177 0 RD))) → (v24 127 = .inl (gI g, 177, .inl (cK 177 0 KP))) → (v24 128 = .inl (gJ g, 7, .inr (.inl (cL 7 0 O2)))) → (v24 129 = .inl (gJ g, 7, .inr (.inl (cL 7 0 A2)))) → (∀ j : Nat, ¬ (119 ≤ j ∧ j < 130) → v24 j = w j) → (v ≤ 10) → (firstF (fun v => decide (10 ^ cl y * cl z ≤ odF (va_up L (3 + L 2) v) (cl y) (L 2) * 100)) 0 10 = firstF (fun v => decide (10 ^ cl y * cl z ≤ odF (va_up L (3 + L 2) v) (cl y) (L 2) * 100)) v (10 - v)) → XW g v24 (gA g) sG.heap H locs → lv_has ls 4 [(3, .int (nI v)), (0, .ref (gad g 119)), (1, .int (nI k2)), (2, .int (nI k3))] → W pG l eG ({ frames := 3, cells := 0, slots := 0, locals := 79 } : Room) sG mG ([.ref (gad g 119), .int y, .int z] : List Value).toArray belowG methG cG H locs 0 0 (MQ belowG (XQi g (fun r w' => MAll g (L, K, hk, tn, T, ln, sz, Z) w' ∧ (∀ j : Nat, ¬ (119 ≤ j ∧ j < 130) → w' j = w j) ∧ r = keepS L y z)) ([.ref (gad g 119), .int y, .int z] : List Value).toArray sG 0 0 (gA g)) (F0 mG 24 ls []) := by
        intro k24
        induction k24 using Nat.strongRecOn with
        | _ k24 ih24 =>
        intro v ao2 TR2 O2 A2 v24 H locs ls hk24 fa24_0 fa24_1 fa24_2 fa24_3 fa24_4 fa24_5 fa24_6 fa24_7 fa24_8 fa24_9 fa24_10 hfr24 hn hq hW hl
        refine lv_iload_n C.1 C.2.1 dX7_keep_24 rfl (lv_at hl 0 rfl) ?_
        refine lv_bipush (v := (nI 9)) C.1 C.2.1 dX7_keep_25 (by decide) ?_
        refine xgt (tgt := 98) C (by omega) (by omega) dX7_keep_27 (by decide) (fun c27 => ?_) (fun c27 => ?_)
        · refine lv_bipush (v := (-4 : Int32)) C.1 C.2.1 dX7_keep_98 (by decide) ?_
          exact xret_i C hr hlk hW ⟨⟨_, _, _, _, _, _, _, _, _, _, _, _, fa24_0, fa24_1, fa24_2, fa24_3, fa24_4, fa24_5, fa24_6, fa24_7, fa24_8, m9, fa24_9, fa24_10⟩, (fun j z0 => (hfr24 j z0)), (by rw [keepS, if_pos (c := inR y (nI 1) (nI 9) ∧ inR z (nI 0) (nI 100)) ⟨c7, c17⟩, hq, show v = 10 by omega]; rfl)⟩ dX7_keep_100
        · refine lv_aload_n C.1 C.2.1 dX7_keep_30 rfl (lv_at hl 1 rfl) ?_
          refine xcV_v (n := 0) (As := []) C hK hW (c_X7_begin l g v24 hk tn po nu ao2 mu md bu bd L TR2 hI hN fa24_0 fa24_5 fa24_6) gX7_keep_X7_begin rfl ⟨rfl, rfl⟩ (by decide +kernel) ⟨Nat.le_of_ble_eq_true rfl, Nat.le_of_ble_eq_true rfl⟩ ⟨Nat.zero_le _, Nat.zero_le _⟩ rfl (by omega) fa24_0 rfl hl rfl (Nat.le_of_ble_eq_true rfl) dX7_keep_31 (fun w9 H locs q10 hW => ?_)
          obtain ⟨h12, f13⟩ := q10
          refine lv_aload_n C.1 C.2.1 dX7_keep_34 rfl (lv_at hl 1 rfl) ?_
          have h14 : w9 119 = .inr (7, [.ref (gad g 120), .ref (gad g 121), .ref (gad g 122), .int (nI tn), .ref (gad g 123), .int (nI po), .int nu, .ref (gad g 124), .ref (gad g 125), .ref (gad g 126), .ref (gad g 127), .int (nI hk), .ref (gad g 128), .ref (gad g 129), .long (lN ao2), .long (lN mu), .long (lN md), .long (lN bu), .long (lN bd)]) := ((f13 119 (by omega)).trans fa24_0)
          refine xget C hK hW hinX7 rfl (by omega) h14 8 (by decide) (List.mem_of_getElem? (i := 1) rfl) rfl dX7_keep_35 ?_
          refine lv_iconst (v := (nI 3)) C.1 C.2.1 dX7_keep_38 (by decide) ?_
          refine lv_aload_n C.1 C.2.1 dX7_keep_39 rfl (lv_at hl 1 rfl) ?_
          refine xget C hK hW hinX7 rfl (by omega) h14 7 (by decide) (List.mem_of_getElem? (i := 2) rfl) rfl dX7_keep_40 ?_
          refine lv_iconst (v := (nI 2)) C.1 C.2.1 dX7_keep_43 (by decide) ?_
          have h15 : w9 124 = .inl (gI g, 177, .inl (cK 177 0 L)) := ((f13 124 (by omega)).trans fa24_5)
          refine xildK0 C hK hW (by omega) h15 (by omega) (by decide) dX7_keep_44 ?_
          refine xadd C dX7_keep_45 ?_
          refine lv_iload_n C.1 C.2.1 dX7_keep_46 rfl (lv_at hl 0 rfl) ?_
          refine xistK0 (v := v) C hK hW (by omega) h12 (by omega) (by decide) dX7_keep_47 (fun w16 H locs e17 f18 hW => ?_)
          have hkm : Okg (va_up (cpF 0 0 40 L TR2) (3 + L 2) v) := Okg_congr (Okg_food (v := v) hok hs2 (by omega)) bg_up
          refine lv_aload_n C.1 C.2.1 dX7_keep_48 rfl (lv_at hl 1 rfl) ?_
          refine lv_aload_n C.1 C.2.1 dX7_keep_49 rfl (lv_at hl 1 rfl) ?_
          have h19 : w16 119 = .inr (7, [.ref (gad g 120), .ref (gad g 121), .ref (gad g 122), .int (nI tn), .ref (gad g 123), .int (nI po), .int nu, .ref (gad g 124), .ref (gad g 125), .ref (gad g 126), .ref (gad g 127), .int (nI hk), .ref (gad g 128), .ref (gad g 129), .long (lN ao2), .long (lN mu), .long (lN md), .long (lN bu), .long (lN bd)]) := ((f18 119 (by omega)).trans h14)
          refine xget C hK hW hinX7 rfl (by omega) h19 8 (by decide) (List.mem_of_getElem? (i := 1) rfl) rfl dX7_keep_50 ?_
          refine lv_aload_n C.1 C.2.1 dX7_keep_53 rfl (lv_at hl 1 rfl) ?_
          refine xget C hK hW hinX7 rfl (by omega) h19 7 (by decide) (List.mem_of_getElem? (i := 2) rfl) rfl dX7_keep_54 ?_
          refine lv_iconst (v := (nI 2)) C.1 C.2.1 dX7_keep_57 (by decide) ?_
          have h20 : w16 124 = .inl (gI g, 177, .inl (cK 177 0 L)) := ((f18 124 (by omega)).trans h15)
          refine xildK0 C hK hW (by omega) h20 (by omega) (by decide) dX7_keep_58 ?_
          refine lv_iload_n C.1 C.2.1 dX7_keep_59 rfl (lv_at hl 2 rfl) ?_
          refine lv_iconst (v := (nI 0)) C.1 C.2.1 dX7_keep_60 (by decide) ?_
          have h21 : w16 128 = .inl (gJ g, 7, .inr (.inl (cL 7 0 O2))) := ((f18 128 (by omega)).trans ((f13 128 (by omega)).trans fa24_9))
          have h22 : w16 129 = .inl (gJ g, 7, .inr (.inl (cL 7 0 A2))) := ((f18 129 (by omega)).trans ((f13 129 (by omega)).trans fa24_10))
          refine xcV_v (n := 4) (As := [.ref (gad g 125), .int (nI (L 2)), .int (nI k2), .int (nI 0)]) C hK hW (c_X7_layOdds l g w16 125 (L 2) k2 tn po hk ao2 mu md bu bd nu (va_up (cpF 0 0 40 L TR2) (3 + (L 2)) v) O2 A2 hI hN (by omega) (by omega) (by omega) hkm h19 e17 h21 h22) gX7_keep_X7_layOdds rfl ⟨rfl, rfl⟩ (by decide +kernel) ⟨Nat.le_of_ble_eq_true rfl, Nat.le_of_ble_eq_true rfl⟩ ⟨Nat.zero_le _, Nat.zero_le _⟩ rfl (by omega) h19 rfl hl rfl (Nat.le_of_ble_eq_true rfl) dX7_keep_61 (fun w23 H locs q24 hW => ?_)
          obtain ⟨T1_30, h26, h27, h28, f29⟩ := q24
          have hcq : cL 7 0 (spreadO (onF (va_up (cpF 0 0 40 L TR2) (3 + L 2) v)) (backF (va_up (cpF 0 0 40 L TR2) (3 + L 2) v)) 10 (L 2) k2) = cL 7 0 (odF (va_up L (3 + L 2) v) k2) := cL_congr (fun f hf => by
            rw [Nat.zero_add]
            show _ = spreadO (onF (va_up L (3 + L 2) v)) (backF (va_up L (3 + L 2) v)) 10 ((va_up L (3 + L 2) v) 2) k2 f
            rw [va_up_ne _ _ (by omega)]
            exact od_congr bg_up hf)
          have h31 : w23 128 = .inl (gJ g, 7, .inr (.inl (cL 7 0 (odF (va_up L (3 + L 2) v) k2)))) := h27.trans (by rw [hcq])
          have hO := odF_le (L := va_up L (3 + L 2) v) (n := k2) (f := L 2) (by omega) hs2
          have hp := p10 (k := k2) (by omega)
          have hm : 10 ^ k2 * k3 ≤ 1000000000 * 100 := Nat.mul_le_mul hp.2 (by omega)
          refine lv_ldc2 (v := (lN 100)) C.1 C.2.1 C.2.2.2.1 (C.2.2.2.2 _ (List.mem_of_getElem? (i := 3) rfl)) dX7_keep_64 ?_
          refine lv_aload_n C.1 C.2.1 dX7_keep_67 rfl (lv_at hl 1 rfl) ?_
          refine xget C hK hW hinX7 rfl (by omega) h26 12 (by decide) (List.mem_of_getElem? (i := 4) rfl) rfl dX7_keep_68 ?_
          refine lv_aload_n C.1 C.2.1 dX7_keep_71 rfl (lv_at hl 1 rfl) ?_
          refine xget C hK hW hinX7 rfl (by omega) h26 7 (by decide) (List.mem_of_getElem? (i := 2) rfl) rfl dX7_keep_72 ?_
          refine lv_iconst (v := (nI 2)) C.1 C.2.1 dX7_keep_75 (by decide) ?_
          have h32 : w23 124 = .inl (gI g, 177, .inl (cK 177 0 L)) := ((f29 124 (by omega) (by omega)).trans h20)
          refine xildK0 C hK hW (by omega) h32 (by omega) (by decide) dX7_keep_76 ?_
          refine xlldK0 C hK hW (by omega) h31 (by omega) (by decide) dX7_keep_77 ?_
          refine xlmul C dX7_keep_78 ?_
          refine lv_iload_n C.1 C.2.1 dX7_keep_79 rfl (lv_at hl 3 rfl) ?_
          refine xi2l C (by omega) dX7_keep_80 ?_
          refine lv_aload_n C.1 C.2.1 dX7_keep_81 rfl (lv_at hl 1 rfl) ?_
          refine xget C hK hW hinX7 rfl (by omega) h26 14 (by decide) (List.mem_of_getElem? (i := 5) rfl) rfl dX7_keep_82 ?_
          refine xlmul C dX7_keep_85 ?_
          refine xtopL (b := 10 ^ k2 * k3) (Nat.mul_comm _ _) ?_
          refine xLlt (tgt := 92) C (by omega) (by omega) dX7_keep_86 dX7_keep_87 (by decide) (fun c86 => ?_) (fun c86 => ?_)
          · have hq2 := hq.trans (firstF_n (p := fun v => decide (10 ^ cl y * cl z ≤ odF (va_up L (3 + L 2) v) (cl y) (L 2) * 100)) (by omega) (fun z9 => absurd c86 (by have := of_decide_eq_true z9; rw [hx_k2, hx_k3, cl_nI (by omega), cl_nI (by omega)] at this; omega)))
            refine lv_iinc (v := nI (v + 1)) (lv' := [(3, .int (nI (v + 1))), (0, .ref (gad g 119)), (1, .int (nI k2)), (2, .int (nI k3))]) C.1 C.2.1 dX7_keep_92 hl (k := 0) rfl (nI_add _ 1) (by decide) rfl (fun ls hl => ?_)
            refine lv_goto (tgt := 24) C.1 C.2.1 dX7_keep_95 (by decide) ?_
            have h33 : w23 120 = .inl (gI g, 4, .inl (kK 0 4 0 (laF ln))) := ((f29 120 (by omega) (by omega)).trans ((f18 120 (by omega)).trans ((f13 120 (by omega)).trans fa24_1)))
            have h34 : w23 121 = .inl (gI g, 4, .inl (cK 4 0 sz)) := ((f29 121 (by omega) (by omega)).trans ((f18 121 (by omega)).trans ((f13 121 (by omega)).trans fa24_2)))
            have h35 : w23 122 = .inl (gJ g, 96, .inr (.inl (kK 0 96 0 Z))) := ((f29 122 (by omega) (by omega)).trans ((f18 122 (by omega)).trans ((f13 122 (by omega)).trans fa24_3)))
            have h36 : w23 123 = .inl (gI g, 80, .inl (cK 80 0 T)) := ((f29 123 (by omega) (by omega)).trans ((f18 123 (by omega)).trans ((f13 123 (by omega)).trans fa24_4)))
            have h37 : w23 125 = .inl (gI g, 177, .inl (cK 177 0 (va_up (cpF 0 0 40 L TR2) (3 + (L 2)) v))) := ((f29 125 (by omega) (by omega)).trans e17)
            have h38 : w23 126 = .inl (gI g, 177, .inl (cK 177 0 RD)) := ((f29 126 (by omega) (by omega)).trans ((f18 126 (by omega)).trans ((f13 126 (by omega)).trans fa24_7)))
            have h39 : w23 127 = .inl (gI g, 177, .inl (cK 177 0 KP)) := ((f29 127 (by omega) (by omega)).trans ((f18 127 (by omega)).trans ((f13 127 (by omega)).trans fa24_8)))
            exact ih24 (10 - (v + 1)) (by omega) (v + 1) (10 ^ k2) (va_up (cpF 0 0 40 L TR2) (3 + (L 2)) v) (odF (va_up L (3 + L 2) v) k2) T1_30 w23 _ _ _ rfl h26 h33 h34 h35 h36 h32 h37 h38 h39 h31 h28 (fun j z0 => ((f29 j (by omega) (by omega)).trans ((f18 j (by omega)).trans ((f13 j (by omega)).trans (hfr24 j z0))))) (by omega) (hq2) hW hl
          · refine lv_iload_n C.1 C.2.1 dX7_keep_90 rfl (lv_at hl 0 rfl) ?_
            have h40 : w23 120 = .inl (gI g, 4, .inl (kK 0 4 0 (laF ln))) := ((f29 120 (by omega) (by omega)).trans ((f18 120 (by omega)).trans ((f13 120 (by omega)).trans fa24_1)))
            have h41 : w23 121 = .inl (gI g, 4, .inl (cK 4 0 sz)) := ((f29 121 (by omega) (by omega)).trans ((f18 121 (by omega)).trans ((f13 121 (by omega)).trans fa24_2)))
            have h42 : w23 122 = .inl (gJ g, 96, .inr (.inl (kK 0 96 0 Z))) := ((f29 122 (by omega) (by omega)).trans ((f18 122 (by omega)).trans ((f13 122 (by omega)).trans fa24_3)))
            have h43 : w23 123 = .inl (gI g, 80, .inl (cK 80 0 T)) := ((f29 123 (by omega) (by omega)).trans ((f18 123 (by omega)).trans ((f13 123 (by omega)).trans fa24_4)))
            have h44 : w23 125 = .inl (gI g, 177, .inl (cK 177 0 (va_up (cpF 0 0 40 L TR2) (3 + (L 2)) v))) := ((f29 125 (by omega) (by omega)).trans e17)
            have h45 : w23 126 = .inl (gI g, 177, .inl (cK 177 0 RD)) := ((f29 126 (by omega) (by omega)).trans ((f18 126 (by omega)).trans ((f13 126 (by omega)).trans fa24_7)))
            have h46 : w23 127 = .inl (gI g, 177, .inl (cK 177 0 KP)) := ((f29 127 (by omega) (by omega)).trans ((f18 127 (by omega)).trans ((f13 127 (by omega)).trans fa24_8)))
            exact xret_i C hr hlk hW ⟨⟨_, _, _, _, _, _, _, _, _, _, _, _, h26, h40, h41, h42, h43, h32, h44, h45, h46, m9, h31, h28⟩, (fun j z0 => ((f29 j (by omega) (by omega)).trans ((f18 j (by omega)).trans ((f13 j (by omega)).trans (hfr24 j z0))))), (by rw [keepS, if_pos (c := inR y (nI 1) (nI 9) ∧ inR z (nI 0) (nI 100)) ⟨c7, c17⟩, ← firstF_y (p := fun v => decide (10 ^ cl y * cl z ≤ odF (va_up L (3 + L 2) v) (cl y) (L 2) * 100)) (by omega) (decide_eq_true (by rw [hx_k2, hx_k3, cl_nI (by omega), cl_nI (by omega)]; omega)), hq])⟩ dX7_keep_91
      exact loop24 _ 0 ao TR O A w _ _ _ rfl m0 m1 m2 m3 m4 m5 m6 m7 m8 m10 m11 (fun j z0 => rfl) (by omega) (rfl) hW hl
    · refine lv_iconst (v := (-1 : Int32)) C.1 C.2.1 dX7_keep_20 (by decide) ?_
      exact xret_i C hr hlk hW ⟨⟨_, _, _, _, _, _, _, _, _, _, _, _, m0, m1, m2, m3, m4, m5, m6, m7, m8, m9, m10, m11⟩, (fun j z0 => rfl), (by rw [keepS, if_neg (c := inR y (nI 1) (nI 9) ∧ inR z (nI 0) (nI 100)) (fun h => c17 h.2)])⟩ dX7_keep_21

set_option maxHeartbeats 4000000 in
set_option maxRecDepth 100000 in
theorem c_X7_down (l : Launch) (g : GE) (w : Nat → va_E) (L K T ln sz : Nat → Nat) (hk tn : Nat) (Z : Nat → Int64) (x : Int32) (z : Int32) (hI : AdInj g) (hN : gN g = 130) (hS : OkS (L, K, hk, tn, T, ln, sz, Z)) (pr0 : MAll g (L, K, hk, tn, T, ln, sz, Z) w) : Met l yX7_down wsX7_down ({ frames := 3, cells := 0, slots := 0, locals := 81 } : Room) (XPc g w [.ref (gad g 119), .int x, .int z]) (XQl g (fun r w' => MAll g (L, K, hk, tn, T, ln, sz, Z) w' ∧ (∀ j : Nat, ¬ (119 ≤ j ∧ j < 130) → w' j = w j) ∧ r = downS L x z)) 0 0 (gA g) := by
  refine xmet (cc := cX7_down) (maxL := 5) (ret := (some .long)) (by decide) rfl hI (Nat.le_of_ble_eq_true rfl) ?_
  intro pG eG sG mG belowG methG cG ls C hr hlk hK hW hl
  have hl : lv_has ls 5 [(0, .ref (gad g 119)), (1, .int x), (2, .int z)] := hl
  have hinX7 : ∀ x ∈ u_ws RX7 TX7 19, x ∈ wsX7_down := by decide +kernel
  obtain ⟨po, ao, mu, md, bu, bd, nu, TR, RD, KP, O, A, m0, m1, m2, m3, m4, m5, m6, m7, m8, m9, m10, m11⟩ := pr0
  have hokL : OkL L := hS.1
  obtain ⟨hok, hs2, hdy, hdr, hcl, hkn, hcs, hps⟩ := hokL
  have htn : tn ≤ 80 := hS.2.2.1
  have hlz : ∀ s, s < 4 → ln s ≤ 4 ∧ sz s ≤ 24 := hS.2.2.2.2
  have m0 : w 119 = .inr (7, [.ref (gad g 120), .ref (gad g 121), .ref (gad g 122), .int (nI tn), .ref (gad g 123), .int (nI po), .int nu, .ref (gad g 124), .ref (gad g 125), .ref (gad g 126), .ref (gad g 127), .int (nI hk), .ref (gad g 128), .ref (gad g 129), .long (lN ao), .long (lN mu), .long (lN md), .long (lN bu), .long (lN bd)]) := m0
  have m1 : w 120 = .inl (gI g, 4, .inl (kK 0 4 0 (laF ln))) := m1
  have m2 : w 121 = .inl (gI g, 4, .inl (cK 4 0 sz)) := m2
  have m3 : w 122 = .inl (gJ g, 96, .inr (.inl (kK 0 96 0 Z))) := m3
  have m4 : w 123 = .inl (gI g, 80, .inl (cK 80 0 T)) := m4
  have m5 : w 124 = .inl (gI g, 177, .inl (cK 177 0 L)) := m5
  have m9 : hk = 1 → KP = K := m9
  refine lv_iload_n C.1 C.2.1 dX7_down_0 rfl (lv_at hl 1 rfl) ?_
  refine lv_aload_n C.1 C.2.1 dX7_down_1 rfl (lv_at hl 0 rfl) ?_
  refine xget C hK hW hinX7 rfl (by omega) m0 7 (by decide) (List.mem_of_getElem? (i := 1) rfl) rfl dX7_down_2 ?_
  refine lv_iconst (v := (nI 2)) C.1 C.2.1 dX7_down_5 (by decide) ?_
  refine xildK0 C hK hW (by omega) m5 (by omega) (by decide) dX7_down_6 ?_
  refine lv_bipush (v := (nI 6)) C.1 C.2.1 dX7_down_7 (by decide) ?_
  refine xcS_i (n := 3) (As := [.int x, .int (nI (L 2)), .int (nI 6)]) C hK hW (c_X7_in l g w x (nI (L 2)) (nI 6) hI hN) gX7_down_X7_in rfl ⟨rfl, rfl⟩ (by decide +kernel) ⟨Nat.le_of_ble_eq_true rfl, Nat.le_of_ble_eq_true rfl⟩ ⟨Nat.zero_le _, Nat.zero_le _⟩ rfl hl rfl (Nat.le_of_ble_eq_true rfl) dX7_down_9 (fun r3 w1 H locs q2 hW => ?_)
  obtain ⟨qw4, rfl⟩ := q2
  rw [qw4] at hW
  refine xBeq (tgt := 24) C dX7_down_12 (by decide) (fun c12 => ?_) (fun c12 => ?_)
  · refine lv_ldc2 (v := (-1 : Int64)) C.1 C.2.1 C.2.2.2.1 (C.2.2.2.2 _ (List.mem_of_getElem? (i := 2) rfl)) dX7_down_24 ?_
    exact xret_l C hr hlk hW ⟨⟨_, _, _, _, _, _, _, _, _, _, _, _, m0, m1, m2, m3, m4, m5, m6, m7, m8, m9, m10, m11⟩, (fun j z0 => rfl), (by rw [downS, if_neg (c := inR x (nI (L 2)) (nI 6) ∧ inR z (nI 0) (nI 2)) (fun h => c12 h.1)])⟩ dX7_down_27
  · refine lv_iload_n C.1 C.2.1 dX7_down_15 rfl (lv_at hl 2 rfl) ?_
    refine lv_iconst (v := (nI 0)) C.1 C.2.1 dX7_down_16 (by decide) ?_
    refine lv_iconst (v := (nI 2)) C.1 C.2.1 dX7_down_17 (by decide) ?_
    refine xcS_i (n := 3) (As := [.int z, .int (nI 0), .int (nI 2)]) C hK hW (c_X7_in l g w z (nI 0) (nI 2) hI hN) gX7_down_X7_in rfl ⟨rfl, rfl⟩ (by decide +kernel) ⟨Nat.le_of_ble_eq_true rfl, Nat.le_of_ble_eq_true rfl⟩ ⟨Nat.zero_le _, Nat.zero_le _⟩ rfl hl rfl (Nat.le_of_ble_eq_true rfl) dX7_down_18 (fun r7 w5 H locs q6 hW => ?_)
    obtain ⟨qw8, rfl⟩ := q6
    rw [qw8] at hW
    refine xBne (tgt := 28) C dX7_down_21 (by decide) (fun c21 => ?_) (fun c21 => ?_)
    · obtain ⟨k1, ha_k1, hb_k1, hx_k1⟩ := inR_N (by omega) (by omega) c12
      rw [hx_k1] at hl
      obtain ⟨k3, ha_k3, hb_k3, hx_k3⟩ := inR_N (by omega) (by omega) c21
      rw [hx_k3] at hl
      refine lv_bipush (v := (-4 : Int32)) C.1 C.2.1 dX7_down_28 (by decide) ?_
      refine lv_istore_n (lv' := [(3, .int (-4 : Int32)), (0, .ref (gad g 119)), (1, .int (nI k1)), (2, .int (nI k3))]) C.1 C.2.1 dX7_down_30 rfl hl (by decide) rfl (fun ls hl => ?_)
      have hl : lv_has ls 5 [(3, .int (if 0 = 0 then (-4 : Int32) else nI (dnF L k1 0))), (0, .ref (gad g 119)), (1, .int (nI k1)), (2, .int (nI k3))] := by rw [show (if 0 = 0 then (-4 : Int32) else nI (dnF L k1 0)) = (-4 : Int32) from (if_pos rfl)]; exact hl
      refine lv_iconst (v := (nI 0)) C.1 C.2.1 dX7_down_31 (by decide) ?_
      refine lv_istore (lv' := [(4, .int (nI 0)), (3, .int (if 0 = 0 then (-4 : Int32) else nI (dnF L k1 0))), (0, .ref (gad g 119)), (1, .int (nI k1)), (2, .int (nI k3))]) C.1 C.2.1 dX7_down_32 hl (by decide) rfl (fun ls hl => ?_)
      have loop34 : ∀ (kG : Nat) (o mu2 md2 bu2 bd2 : Nat) (TR2 : Nat → Nat) (v34 : Nat → va_E) (H : Heap) (locs : List Loc) (ls : Array Slot), kG = 7 - o → (v34 119 = .inr (7, [.ref (gad g 120), .ref (gad g 121), .ref (gad g 122), .int (nI tn), .ref (gad g 123), .int (nI po), .int nu, .ref (gad g 124), .ref (gad g 125), .ref (gad g 126), .ref (gad g 127), .int (nI hk), .ref (gad g 128), .ref (gad g 129), .long (lN ao), .long (lN mu2), .long (lN md2), .long (lN bu2), .long (lN bd2)])) → (v34 120 = .inl (gI g, 4, .inl (kK 0 4 0 (laF ln)))) → (v34 121 = .inl (gI g, 4, .inl (cK 4 0 sz))) → (v34 122 = .inl (gJ g, 96, .inr (.inl (kK 0 96 0 Z)))) → (v34 123 = .inl (gI g, 80, .inl (cK 80 0 T))) → (v34 124 = .inl (gI g, 177, .inl (cK 177 0 L))) → (v34 125 = .inl (gI g, 177, .inl (cK 177 0 TR2))) → (v34 126 = .inl (gI g, 177, .inl (cK 177 0 RD))) → (v34 127 = .inl (gI g, 177, .inl (cK 177 0 KP))) → (v34 128 = .inl (gJ g, 7, .inr (.inl (cL 7 0 O)))) → (v34 129 = .inl (gJ g, 7, .inr (.inl (cL 7 0 A)))) → (∀ j : Nat, ¬ (119 ≤ j ∧ j < 130) → v34 j = w j) → (o ≤ 7) → (0 < o → bu2 = mU (va_up L (10 + (dnF L k1 o)) 0) (L 2) k1 ∧ bd2 = mD (va_up L (10 + (dnF L k1 o)) 0) (L 2) k1) → XW g v34 (gA g) sG.heap H locs → lv_has ls 5 [(4, .int (nI o)), (3, .int (if o = 0 then (-4 : Int32) else nI (dnF L k1 o))), (0, .ref (gad g 119)), (1, .int (nI k1)), (2, .int (nI k3))] → W pG l eG ({ frames := 3, cells := 0, slots := 0, locals := 81 } : Room) sG mG ([.ref (gad g 119), .int x, .int z] : List Value).toArray belowG methG cG H locs 0 0 (MQ belowG (XQl g (fun r w' => MAll g (L, K, hk, tn, T, ln, sz, Z) w' ∧ (∀ j : Nat, ¬ (119 ≤ j ∧ j < 130) → w' j = w j) ∧ r = downS L x z)) ([.ref (gad g 119), .int x, .int z] : List Value).toArray sG 0 0 (gA g)) (F0 mG 34 ls []) := by
        intro k34
        induction k34 using Nat.strongRecOn with
        | _ k34 ih34 =>
        intro o mu2 md2 bu2 bd2 TR2 v34 H locs ls hk34 fa34_0 fa34_1 fa34_2 fa34_3 fa34_4 fa34_5 fa34_6 fa34_7 fa34_8 fa34_9 fa34_10 hfr34 ho hbest hW hl
        refine lv_iload C.1 C.2.1 dX7_down_34 (lv_at hl 0 rfl) ?_
        refine lv_bipush (v := (nI 7)) C.1 C.2.1 dX7_down_36 (by decide) ?_
        refine xge (tgt := 118) C (by omega) (by omega) dX7_down_38 (by decide) (fun c38 => ?_) (fun c38 => ?_)
        · have hb7 := hbest (by omega)
          have ho7 : o = 7 := by omega
          rw [ho7] at hb7
          have hdl := dnF_le L k1 7 (by omega)
          refine lv_iload_n C.1 C.2.1 dX7_down_118 rfl (lv_at hl 4 rfl) ?_
          refine x0ne (tgt := 127) C (by omega) dX7_down_119 (by decide) (fun c119 => ?_) (fun c119 => ?_)
          · refine lv_iload_n C.1 C.2.1 dX7_down_127 rfl (lv_at hl 4 rfl) ?_
            refine lv_iconst (v := (nI 1)) C.1 C.2.1 dX7_down_128 (by decide) ?_
            refine xne (tgt := 139) C (by omega) (by omega) dX7_down_129 (by decide) (fun c129 => ?_) (fun c129 => ?_)
            · refine lv_aload_n C.1 C.2.1 dX7_down_139 rfl (lv_at hl 2 rfl) ?_
              refine xget C hK hW hinX7 rfl (by omega) fa34_0 18 (by decide) (List.mem_of_getElem? (i := 5) rfl) rfl dX7_down_140 ?_
              exact xret_l C hr hlk hW ⟨⟨_, _, _, _, _, _, _, _, _, _, _, _, fa34_0, fa34_1, fa34_2, fa34_3, fa34_4, fa34_5, fa34_6, fa34_7, fa34_8, m9, fa34_9, fa34_10⟩, (fun j z0 => (hfr34 j z0)), (by rw [downS, if_pos (c := inR x (nI (L 2)) (nI 6) ∧ inR z (nI 0) (nI 2)) ⟨c12, c21⟩, hx_k1, hx_k3, cl_nI (by omega), cl_nI (by omega), if_neg (c := k3 = 0) (by omega), if_neg (c := k3 = 1) (by omega), ← hb7.2])⟩ dX7_down_143
            · refine lv_aload_n C.1 C.2.1 dX7_down_132 rfl (lv_at hl 2 rfl) ?_
              refine xget C hK hW hinX7 rfl (by omega) fa34_0 17 (by decide) (List.mem_of_getElem? (i := 6) rfl) rfl dX7_down_133 ?_
              refine lv_goto (tgt := 143) C.1 C.2.1 dX7_down_136 (by decide) ?_
              exact xret_l C hr hlk hW ⟨⟨_, _, _, _, _, _, _, _, _, _, _, _, fa34_0, fa34_1, fa34_2, fa34_3, fa34_4, fa34_5, fa34_6, fa34_7, fa34_8, m9, fa34_9, fa34_10⟩, (fun j z0 => (hfr34 j z0)), (by rw [downS, if_pos (c := inR x (nI (L 2)) (nI 6) ∧ inR z (nI 0) (nI 2)) ⟨c12, c21⟩, hx_k1, hx_k3, cl_nI (by omega), cl_nI (by omega), if_neg (c := k3 = 0) (by omega), if_pos (c := k3 = 1) (by omega), ← hb7.1])⟩ dX7_down_143
          · refine lv_iload_n C.1 C.2.1 dX7_down_122 rfl (lv_at hl 1 rfl) ?_
            refine xtopI (b := nI (dnF L k1 7)) (by rw [if_neg (by omega), ho7]) ?_
            refine xi2l C (by omega) dX7_down_123 ?_
            refine lv_goto (tgt := 143) C.1 C.2.1 dX7_down_124 (by decide) ?_
            exact xret_l C hr hlk hW ⟨⟨_, _, _, _, _, _, _, _, _, _, _, _, fa34_0, fa34_1, fa34_2, fa34_3, fa34_4, fa34_5, fa34_6, fa34_7, fa34_8, m9, fa34_9, fa34_10⟩, (fun j z0 => (hfr34 j z0)), (by rw [downS, if_pos (c := inR x (nI (L 2)) (nI 6) ∧ inR z (nI 0) (nI 2)) ⟨c12, c21⟩, hx_k1, hx_k3, cl_nI (by omega), cl_nI (by omega), if_pos (c := k3 = 0) (by omega)])⟩ dX7_down_143
        · have hokf := Okg_hedge (v := 0) hok (show o < 7 by omega) (by omega)
          have hkm : Okg (va_up (cpF 0 0 40 L TR2) (10 + o) 0) := Okg_congr hokf bg_up
          refine lv_aload_n C.1 C.2.1 dX7_down_41 rfl (lv_at hl 2 rfl) ?_
          refine xcV_v (n := 0) (As := []) C hK hW (c_X7_begin l g v34 hk tn po nu ao mu2 md2 bu2 bd2 L TR2 hI hN fa34_0 fa34_5 fa34_6) gX7_down_X7_begin rfl ⟨rfl, rfl⟩ (by decide +kernel) ⟨Nat.le_of_ble_eq_true rfl, Nat.le_of_ble_eq_true rfl⟩ ⟨Nat.zero_le _, Nat.zero_le _⟩ rfl (by omega) fa34_0 rfl hl rfl (Nat.le_of_ble_eq_true rfl) dX7_down_42 (fun w9 H locs q10 hW => ?_)
          obtain ⟨h12, f13⟩ := q10
          refine lv_aload_n C.1 C.2.1 dX7_down_45 rfl (lv_at hl 2 rfl) ?_
          have h14 : w9 119 = .inr (7, [.ref (gad g 120), .ref (gad g 121), .ref (gad g 122), .int (nI tn), .ref (gad g 123), .int (nI po), .int nu, .ref (gad g 124), .ref (gad g 125), .ref (gad g 126), .ref (gad g 127), .int (nI hk), .ref (gad g 128), .ref (gad g 129), .long (lN ao), .long (lN mu2), .long (lN md2), .long (lN bu2), .long (lN bd2)]) := ((f13 119 (by omega)).trans fa34_0)
          refine xget C hK hW hinX7 rfl (by omega) h14 8 (by decide) (List.mem_of_getElem? (i := 3) rfl) rfl dX7_down_46 ?_
          refine lv_bipush (v := (nI 10)) C.1 C.2.1 dX7_down_49 (by decide) ?_
          refine lv_iload C.1 C.2.1 dX7_down_51 (lv_at hl 0 rfl) ?_
          refine xadd C dX7_down_53 ?_
          refine lv_iconst (v := (nI 0)) C.1 C.2.1 dX7_down_54 (by decide) ?_
          refine xistK0 (v := 0) C hK hW (by omega) h12 (by omega) (by decide) dX7_down_55 (fun w15 H locs e16 f17 hW => ?_)
          refine lv_aload_n C.1 C.2.1 dX7_down_56 rfl (lv_at hl 2 rfl) ?_
          refine lv_aload_n C.1 C.2.1 dX7_down_57 rfl (lv_at hl 2 rfl) ?_
          have h18 : w15 119 = .inr (7, [.ref (gad g 120), .ref (gad g 121), .ref (gad g 122), .int (nI tn), .ref (gad g 123), .int (nI po), .int nu, .ref (gad g 124), .ref (gad g 125), .ref (gad g 126), .ref (gad g 127), .int (nI hk), .ref (gad g 128), .ref (gad g 129), .long (lN ao), .long (lN mu2), .long (lN md2), .long (lN bu2), .long (lN bd2)]) := ((f17 119 (by omega)).trans h14)
          refine xget C hK hW hinX7 rfl (by omega) h18 8 (by decide) (List.mem_of_getElem? (i := 3) rfl) rfl dX7_down_58 ?_
          refine lv_iload_n C.1 C.2.1 dX7_down_61 rfl (lv_at hl 3 rfl) ?_
          refine xcV_v (n := 2) (As := [.ref (gad g 125), .int (nI k1)]) C hK hW (c_X7_layMean l g w15 125 k1 tn po hk ao mu2 md2 bu2 bd2 nu (va_up (cpF 0 0 40 L TR2) (10 + o) 0) hI hN (by omega) (by omega) (by omega) (by rw [va_up_ne _ _ (by omega), bg_lo (by omega)]; exact hs2) hkm h18 e16) gX7_down_X7_layMean rfl ⟨rfl, rfl⟩ (by decide +kernel) ⟨Nat.le_of_ble_eq_true rfl, Nat.le_of_ble_eq_true rfl⟩ ⟨Nat.zero_le _, Nat.zero_le _⟩ rfl (by omega) h18 rfl hl rfl (Nat.le_of_ble_eq_true rfl) dX7_down_62 (fun w19 H locs q20 hW => ?_)
          obtain ⟨h22, f23⟩ := q20
          have hmc := mUD_congr (L := (va_up L (10 + o) 0)) (M := va_up (cpF 0 0 40 L TR2) (10 + o) 0) (a := L 2) (t := k1) bg_up (by omega)
          have hm2 : (va_up (cpF 0 0 40 L TR2) (10 + o) 0) 2 = L 2 := by rw [va_up_ne _ _ (by omega), bg_lo (by omega)]
          have h24 : w19 119 = .inr (7, [.ref (gad g 120), .ref (gad g 121), .ref (gad g 122), .int (nI tn), .ref (gad g 123), .int (nI po), .int nu, .ref (gad g 124), .ref (gad g 125), .ref (gad g 126), .ref (gad g 127), .int (nI hk), .ref (gad g 128), .ref (gad g 129), .long (lN ao), .long (lN (mU (va_up L (10 + o) 0) (L 2) k1)), .long (lN (mD (va_up L (10 + o) 0) (L 2) k1)), .long (lN bu2), .long (lN bd2)]) := h22.trans (by rw [hm2, hmc.1, hmc.2])
          have hm1 := mU_b hokf (L 2) (show k1 ≤ 6 by omega)
          refine lv_iload_n C.1 C.2.1 dX7_down_65 rfl (lv_at hl 1 rfl) ?_
          by_cases o0 : o = 0
          · refine xtopI (b := (-4 : Int32)) (if_pos o0) ?_
            refine lv_bipush (v := (-4 : Int32)) C.1 C.2.1 dX7_down_66 (by decide) ?_
            refine lv_icmp_eq (tgt := 93) C.1 C.2.1 dX7_down_68 (by decide) (fun c68 => ?_) (fun c68 => absurd c68 (by exact fun z => z rfl))
            refine lv_iload C.1 C.2.1 dX7_down_93 (lv_at hl 0 rfl) ?_
            refine lv_istore_n (lv' := [(3, .int (nI o)), (4, .int (nI o)), (0, .ref (gad g 119)), (1, .int (nI k1)), (2, .int (nI k3))]) C.1 C.2.1 dX7_down_95 rfl hl (by decide) rfl (fun ls hl => ?_)
            refine lv_aload_n C.1 C.2.1 dX7_down_96 rfl (lv_at hl 2 rfl) ?_
            refine lv_aload_n C.1 C.2.1 dX7_down_97 rfl (lv_at hl 2 rfl) ?_
            refine xget C hK hW hinX7 rfl (by omega) h24 15 (by decide) (List.mem_of_getElem? (i := 4) rfl) rfl dX7_down_98 ?_
            refine xput (v := .long (lN (mU (va_up L (10 + o) 0) (L 2) k1))) C hK hW hinX7 tyX7_ok nmX7 rfl (by omega) h24 17 (by decide) (List.mem_of_getElem? (i := 6) rfl) rfl rfl rfl (Nat.le_of_ble_eq_true rfl) dX7_down_101 (fun w25 H locs e26 f27 hW => ?_)
            refine lv_aload_n C.1 C.2.1 dX7_down_104 rfl (lv_at hl 2 rfl) ?_
            refine lv_aload_n C.1 C.2.1 dX7_down_105 rfl (lv_at hl 2 rfl) ?_
            refine xget C hK hW hinX7 rfl (by omega) e26 16 (by decide) (List.mem_of_getElem? (i := 7) rfl) rfl dX7_down_106 ?_
            refine xput (v := .long (lN (mD (va_up L (10 + o) 0) (L 2) k1))) C hK hW hinX7 tyX7_ok nmX7 rfl (by omega) e26 18 (by decide) (List.mem_of_getElem? (i := 5) rfl) rfl rfl rfl (Nat.le_of_ble_eq_true rfl) dX7_down_109 (fun w28 H locs e29 f30 hW => ?_)
            have hdn : dnF L k1 (o + 1) = o := dnF_y (Or.inl o0)
            have hl : lv_has ls 5 [(3, .int (if o + 1 = 0 then (-4 : Int32) else nI (dnF L k1 (o + 1)))), (4, .int (nI o)), (0, .ref (gad g 119)), (1, .int (nI k1)), (2, .int (nI k3))] := by rw [show (if o + 1 = 0 then (-4 : Int32) else nI (dnF L k1 (o + 1))) = (nI o) from (by rw [if_neg (by omega), hdn])]; exact hl
            refine lv_iinc (v := nI (o + 1)) (lv' := [(4, .int (nI (o + 1))), (3, .int (if o + 1 = 0 then (-4 : Int32) else nI (dnF L k1 (o + 1)))), (0, .ref (gad g 119)), (1, .int (nI k1)), (2, .int (nI k3))]) C.1 C.2.1 dX7_down_112 hl (k := 1) rfl (nI_add _ 1) (by decide) rfl (fun ls hl => ?_)
            refine lv_goto (tgt := 34) C.1 C.2.1 dX7_down_115 (by decide) ?_
            have h31 : w28 120 = .inl (gI g, 4, .inl (kK 0 4 0 (laF ln))) := ((f30 120 (by omega)).trans ((f27 120 (by omega)).trans ((f23 120 (by omega)).trans ((f17 120 (by omega)).trans ((f13 120 (by omega)).trans fa34_1)))))
            have h32 : w28 121 = .inl (gI g, 4, .inl (cK 4 0 sz)) := ((f30 121 (by omega)).trans ((f27 121 (by omega)).trans ((f23 121 (by omega)).trans ((f17 121 (by omega)).trans ((f13 121 (by omega)).trans fa34_2)))))
            have h33 : w28 122 = .inl (gJ g, 96, .inr (.inl (kK 0 96 0 Z))) := ((f30 122 (by omega)).trans ((f27 122 (by omega)).trans ((f23 122 (by omega)).trans ((f17 122 (by omega)).trans ((f13 122 (by omega)).trans fa34_3)))))
            have h34 : w28 123 = .inl (gI g, 80, .inl (cK 80 0 T)) := ((f30 123 (by omega)).trans ((f27 123 (by omega)).trans ((f23 123 (by omega)).trans ((f17 123 (by omega)).trans ((f13 123 (by omega)).trans fa34_4)))))
            have h35 : w28 124 = .inl (gI g, 177, .inl (cK 177 0 L)) := ((f30 124 (by omega)).trans ((f27 124 (by omega)).trans ((f23 124 (by omega)).trans ((f17 124 (by omega)).trans ((f13 124 (by omega)).trans fa34_5)))))
            have h36 : w28 125 = .inl (gI g, 177, .inl (cK 177 0 (va_up (cpF 0 0 40 L TR2) (10 + o) 0))) := ((f30 125 (by omega)).trans ((f27 125 (by omega)).trans ((f23 125 (by omega)).trans e16)))
            have h37 : w28 126 = .inl (gI g, 177, .inl (cK 177 0 RD)) := ((f30 126 (by omega)).trans ((f27 126 (by omega)).trans ((f23 126 (by omega)).trans ((f17 126 (by omega)).trans ((f13 126 (by omega)).trans fa34_7)))))
            have h38 : w28 127 = .inl (gI g, 177, .inl (cK 177 0 KP)) := ((f30 127 (by omega)).trans ((f27 127 (by omega)).trans ((f23 127 (by omega)).trans ((f17 127 (by omega)).trans ((f13 127 (by omega)).trans fa34_8)))))
            have h39 : w28 128 = .inl (gJ g, 7, .inr (.inl (cL 7 0 O))) := ((f30 128 (by omega)).trans ((f27 128 (by omega)).trans ((f23 128 (by omega)).trans ((f17 128 (by omega)).trans ((f13 128 (by omega)).trans fa34_9)))))
            have h40 : w28 129 = .inl (gJ g, 7, .inr (.inl (cL 7 0 A))) := ((f30 129 (by omega)).trans ((f27 129 (by omega)).trans ((f23 129 (by omega)).trans ((f17 129 (by omega)).trans ((f13 129 (by omega)).trans fa34_10)))))
            exact ih34 (7 - (o + 1)) (by omega) (o + 1) (mU (va_up L (10 + o) 0) (L 2) k1) (mD (va_up L (10 + o) 0) (L 2) k1) (mU (va_up L (10 + o) 0) (L 2) k1) (mD (va_up L (10 + o) 0) (L 2) k1) (va_up (cpF 0 0 40 L TR2) (10 + o) 0) w28 _ _ _ rfl e29 h31 h32 h33 h34 h35 h36 h37 h38 h39 h40 (fun j z0 => ((f30 j (by omega)).trans ((f27 j (by omega)).trans ((f23 j (by omega)).trans ((f17 j (by omega)).trans ((f13 j (by omega)).trans (hfr34 j z0))))))) (by omega) (fun _ => by rw [hdn]; exact ⟨rfl, rfl⟩) hW hl
          · have hdl0 := dnF_le L k1 o (by omega)
            refine xtopI (b := nI (dnF L k1 o)) (if_neg o0) ?_
            refine lv_bipush (v := (-4 : Int32)) C.1 C.2.1 dX7_down_66 (by decide) ?_
            refine lv_icmp_eq (tgt := 93) C.1 C.2.1 dX7_down_68 (by decide) (fun c68 => absurd c68 (by exact m4_ne hdl0)) (fun c68 => ?_)
            obtain ⟨hbp, hbq⟩ := hbest (by omega)
            have hdl := dnF_le L k1 o (by omega)
            have hm3 := mU_b (Okg_hedge (v := 0) hok hdl (by omega)) (L 2) (show k1 ≤ 6 by omega)
            have hx1 : mU (va_up L (10 + o) 0) (L 2) k1 * bd2 ≤ 6377292 * 531441 := Nat.mul_le_mul hm1.1 (by rw [hbq]; exact hm3.2.1)
            have hx2 : bu2 * mD (va_up L (10 + o) 0) (L 2) k1 ≤ 6377292 * 531441 := Nat.mul_le_mul (by rw [hbp]; exact hm3.1) hm1.2.1
            refine lv_aload_n C.1 C.2.1 dX7_down_71 rfl (lv_at hl 2 rfl) ?_
            refine xget C hK hW hinX7 rfl (by omega) h24 15 (by decide) (List.mem_of_getElem? (i := 4) rfl) rfl dX7_down_72 ?_
            refine lv_aload_n C.1 C.2.1 dX7_down_75 rfl (lv_at hl 2 rfl) ?_
            refine xget C hK hW hinX7 rfl (by omega) h24 18 (by decide) (List.mem_of_getElem? (i := 5) rfl) rfl dX7_down_76 ?_
            refine xlmul C dX7_down_79 ?_
            refine lv_aload_n C.1 C.2.1 dX7_down_80 rfl (lv_at hl 2 rfl) ?_
            refine xget C hK hW hinX7 rfl (by omega) h24 17 (by decide) (List.mem_of_getElem? (i := 6) rfl) rfl dX7_down_81 ?_
            refine lv_aload_n C.1 C.2.1 dX7_down_84 rfl (lv_at hl 2 rfl) ?_
            refine xget C hK hW hinX7 rfl (by omega) h24 16 (by decide) (List.mem_of_getElem? (i := 7) rfl) rfl dX7_down_85 ?_
            refine xlmul C dX7_down_88 ?_
            refine xLge (tgt := 112) C (by omega) (by omega) dX7_down_89 dX7_down_90 (by decide) (fun c89 => ?_) (fun c89 => ?_)
            · have hdn : dnF L k1 (o + 1) = dnF L k1 o := dnF_n (fun z => z.elim (fun z => absurd z o0) (fun z => absurd c89 (by rw [← hbp, ← hbq] at z; exact Nat.not_le.mpr z)))
              have hl : lv_has ls 5 [(4, .int (nI o)), (3, .int (if o + 1 = 0 then (-4 : Int32) else nI (dnF L k1 (o + 1)))), (0, .ref (gad g 119)), (1, .int (nI k1)), (2, .int (nI k3))] := by rw [show (if o + 1 = 0 then (-4 : Int32) else nI (dnF L k1 (o + 1))) = (if o = 0 then (-4 : Int32) else nI (dnF L k1 o)) from (by rw [if_neg (by omega), if_neg o0, hdn])]; exact hl
              refine lv_iinc (v := nI (o + 1)) (lv' := [(4, .int (nI (o + 1))), (3, .int (if o + 1 = 0 then (-4 : Int32) else nI (dnF L k1 (o + 1)))), (0, .ref (gad g 119)), (1, .int (nI k1)), (2, .int (nI k3))]) C.1 C.2.1 dX7_down_112 hl (k := 0) rfl (nI_add _ 1) (by decide) rfl (fun ls hl => ?_)
              refine lv_goto (tgt := 34) C.1 C.2.1 dX7_down_115 (by decide) ?_
              have h41 : w19 120 = .inl (gI g, 4, .inl (kK 0 4 0 (laF ln))) := ((f23 120 (by omega)).trans ((f17 120 (by omega)).trans ((f13 120 (by omega)).trans fa34_1)))
              have h42 : w19 121 = .inl (gI g, 4, .inl (cK 4 0 sz)) := ((f23 121 (by omega)).trans ((f17 121 (by omega)).trans ((f13 121 (by omega)).trans fa34_2)))
              have h43 : w19 122 = .inl (gJ g, 96, .inr (.inl (kK 0 96 0 Z))) := ((f23 122 (by omega)).trans ((f17 122 (by omega)).trans ((f13 122 (by omega)).trans fa34_3)))
              have h44 : w19 123 = .inl (gI g, 80, .inl (cK 80 0 T)) := ((f23 123 (by omega)).trans ((f17 123 (by omega)).trans ((f13 123 (by omega)).trans fa34_4)))
              have h45 : w19 124 = .inl (gI g, 177, .inl (cK 177 0 L)) := ((f23 124 (by omega)).trans ((f17 124 (by omega)).trans ((f13 124 (by omega)).trans fa34_5)))
              have h46 : w19 125 = .inl (gI g, 177, .inl (cK 177 0 (va_up (cpF 0 0 40 L TR2) (10 + o) 0))) := ((f23 125 (by omega)).trans e16)
              have h47 : w19 126 = .inl (gI g, 177, .inl (cK 177 0 RD)) := ((f23 126 (by omega)).trans ((f17 126 (by omega)).trans ((f13 126 (by omega)).trans fa34_7)))
              have h48 : w19 127 = .inl (gI g, 177, .inl (cK 177 0 KP)) := ((f23 127 (by omega)).trans ((f17 127 (by omega)).trans ((f13 127 (by omega)).trans fa34_8)))
              have h49 : w19 128 = .inl (gJ g, 7, .inr (.inl (cL 7 0 O))) := ((f23 128 (by omega)).trans ((f17 128 (by omega)).trans ((f13 128 (by omega)).trans fa34_9)))
              have h50 : w19 129 = .inl (gJ g, 7, .inr (.inl (cL 7 0 A))) := ((f23 129 (by omega)).trans ((f17 129 (by omega)).trans ((f13 129 (by omega)).trans fa34_10)))
              exact ih34 (7 - (o + 1)) (by omega) (o + 1) (mU (va_up L (10 + o) 0) (L 2) k1) (mD (va_up L (10 + o) 0) (L 2) k1) bu2 bd2 (va_up (cpF 0 0 40 L TR2) (10 + o) 0) w19 _ _ _ rfl h24 h41 h42 h43 h44 h45 h46 h47 h48 h49 h50 (fun j z0 => ((f23 j (by omega)).trans ((f17 j (by omega)).trans ((f13 j (by omega)).trans (hfr34 j z0))))) (by omega) (fun _ => by rw [hdn]; exact ⟨hbp, hbq⟩) hW hl
            · refine lv_iload C.1 C.2.1 dX7_down_93 (lv_at hl 0 rfl) ?_
              refine lv_istore_n (lv' := [(3, .int (nI o)), (4, .int (nI o)), (0, .ref (gad g 119)), (1, .int (nI k1)), (2, .int (nI k3))]) C.1 C.2.1 dX7_down_95 rfl hl (by decide) rfl (fun ls hl => ?_)
              refine lv_aload_n C.1 C.2.1 dX7_down_96 rfl (lv_at hl 2 rfl) ?_
              refine lv_aload_n C.1 C.2.1 dX7_down_97 rfl (lv_at hl 2 rfl) ?_
              refine xget C hK hW hinX7 rfl (by omega) h24 15 (by decide) (List.mem_of_getElem? (i := 4) rfl) rfl dX7_down_98 ?_
              refine xput (v := .long (lN (mU (va_up L (10 + o) 0) (L 2) k1))) C hK hW hinX7 tyX7_ok nmX7 rfl (by omega) h24 17 (by decide) (List.mem_of_getElem? (i := 6) rfl) rfl rfl rfl (Nat.le_of_ble_eq_true rfl) dX7_down_101 (fun w51 H locs e52 f53 hW => ?_)
              refine lv_aload_n C.1 C.2.1 dX7_down_104 rfl (lv_at hl 2 rfl) ?_
              refine lv_aload_n C.1 C.2.1 dX7_down_105 rfl (lv_at hl 2 rfl) ?_
              refine xget C hK hW hinX7 rfl (by omega) e52 16 (by decide) (List.mem_of_getElem? (i := 7) rfl) rfl dX7_down_106 ?_
              refine xput (v := .long (lN (mD (va_up L (10 + o) 0) (L 2) k1))) C hK hW hinX7 tyX7_ok nmX7 rfl (by omega) e52 18 (by decide) (List.mem_of_getElem? (i := 5) rfl) rfl rfl rfl (Nat.le_of_ble_eq_true rfl) dX7_down_109 (fun w54 H locs e55 f56 hW => ?_)
              have hdn : dnF L k1 (o + 1) = o := dnF_y (Or.inr (by rw [← hbp, ← hbq]; exact Nat.not_le.mp c89))
              have hl : lv_has ls 5 [(3, .int (if o + 1 = 0 then (-4 : Int32) else nI (dnF L k1 (o + 1)))), (4, .int (nI o)), (0, .ref (gad g 119)), (1, .int (nI k1)), (2, .int (nI k3))] := by rw [show (if o + 1 = 0 then (-4 : Int32) else nI (dnF L k1 (o + 1))) = (nI o) from (by rw [if_neg (by omega), hdn])]; exact hl
              refine lv_iinc (v := nI (o + 1)) (lv' := [(4, .int (nI (o + 1))), (3, .int (if o + 1 = 0 then (-4 : Int32) else nI (dnF L k1 (o + 1)))), (0, .ref (gad g 119)), (1, .int (nI k1)), (2, .int (nI k3))]) C.1 C.2.1 dX7_down_112 hl (k := 1) rfl (nI_add _ 1) (by decide) rfl (fun ls hl => ?_)
              refine lv_goto (tgt := 34) C.1 C.2.1 dX7_down_115 (by decide) ?_
              have h57 : w54 120 = .inl (gI g, 4, .inl (kK 0 4 0 (laF ln))) := ((f56 120 (by omega)).trans ((f53 120 (by omega)).trans ((f23 120 (by omega)).trans ((f17 120 (by omega)).trans ((f13 120 (by omega)).trans fa34_1)))))
              have h58 : w54 121 = .inl (gI g, 4, .inl (cK 4 0 sz)) := ((f56 121 (by omega)).trans ((f53 121 (by omega)).trans ((f23 121 (by omega)).trans ((f17 121 (by omega)).trans ((f13 121 (by omega)).trans fa34_2)))))
              have h59 : w54 122 = .inl (gJ g, 96, .inr (.inl (kK 0 96 0 Z))) := ((f56 122 (by omega)).trans ((f53 122 (by omega)).trans ((f23 122 (by omega)).trans ((f17 122 (by omega)).trans ((f13 122 (by omega)).trans fa34_3)))))
              have h60 : w54 123 = .inl (gI g, 80, .inl (cK 80 0 T)) := ((f56 123 (by omega)).trans ((f53 123 (by omega)).trans ((f23 123 (by omega)).trans ((f17 123 (by omega)).trans ((f13 123 (by omega)).trans fa34_4)))))
              have h61 : w54 124 = .inl (gI g, 177, .inl (cK 177 0 L)) := ((f56 124 (by omega)).trans ((f53 124 (by omega)).trans ((f23 124 (by omega)).trans ((f17 124 (by omega)).trans ((f13 124 (by omega)).trans fa34_5)))))
              have h62 : w54 125 = .inl (gI g, 177, .inl (cK 177 0 (va_up (cpF 0 0 40 L TR2) (10 + o) 0))) := ((f56 125 (by omega)).trans ((f53 125 (by omega)).trans ((f23 125 (by omega)).trans e16)))
              have h63 : w54 126 = .inl (gI g, 177, .inl (cK 177 0 RD)) := ((f56 126 (by omega)).trans ((f53 126 (by omega)).trans ((f23 126 (by omega)).trans ((f17 126 (by omega)).trans ((f13 126 (by omega)).trans fa34_7)))))
              have h64 : w54 127 = .inl (gI g, 177, .inl (cK 177 0 KP)) := ((f56 127 (by omega)).trans ((f53 127 (by omega)).trans ((f23 127 (by omega)).trans ((f17 127 (by omega)).trans ((f13 127 (by omega)).trans fa34_8)))))
              have h65 : w54 128 = .inl (gJ g, 7, .inr (.inl (cL 7 0 O))) := ((f56 128 (by omega)).trans ((f53 128 (by omega)).trans ((f23 128 (by omega)).trans ((f17 128 (by omega)).trans ((f13 128 (by omega)).trans fa34_9)))))
              have h66 : w54 129 = .inl (gJ g, 7, .inr (.inl (cL 7 0 A))) := ((f56 129 (by omega)).trans ((f53 129 (by omega)).trans ((f23 129 (by omega)).trans ((f17 129 (by omega)).trans ((f13 129 (by omega)).trans fa34_10)))))
              exact ih34 (7 - (o + 1)) (by omega) (o + 1) (mU (va_up L (10 + o) 0) (L 2) k1) (mD (va_up L (10 + o) 0) (L 2) k1) (mU (va_up L (10 + o) 0) (L 2) k1) (mD (va_up L (10 + o) 0) (L 2) k1) (va_up (cpF 0 0 40 L TR2) (10 + o) 0) w54 _ _ _ rfl e55 h57 h58 h59 h60 h61 h62 h63 h64 h65 h66 (fun j z0 => ((f56 j (by omega)).trans ((f53 j (by omega)).trans ((f23 j (by omega)).trans ((f17 j (by omega)).trans ((f13 j (by omega)).trans (hfr34 j z0))))))) (by omega) (fun _ => by rw [hdn]; exact ⟨rfl, rfl⟩) hW hl
      exact loop34 _ 0 mu md bu bd TR w _ _ _ rfl m0 m1 m2 m3 m4 m5 m6 m7 m8 m10 m11 (fun j z0 => rfl) (by omega) (fun z => absurd z (Nat.lt_irrefl 0)) hW hl
    · refine lv_ldc2 (v := (-1 : Int64)) C.1 C.2.1 C.2.2.2.1 (C.2.2.2.2 _ (List.mem_of_getElem? (i := 2) rfl)) dX7_down_24 ?_
      exact xret_l C hr hlk hW ⟨⟨_, _, _, _, _, _, _, _, _, _, _, _, m0, m1, m2, m3, m4, m5, m6, m7, m8, m9, m10, m11⟩, (fun j z0 => rfl), (by rw [downS, if_neg (c := inR x (nI (L 2)) (nI 6) ∧ inR z (nI 0) (nI 2)) (fun h => c21 h.2)])⟩ dX7_down_27
