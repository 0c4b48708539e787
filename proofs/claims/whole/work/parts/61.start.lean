/-! the start: the addresses moved, what is known, the two objects made -/
theorem XLand.ad {g : GE} {ad ad' : Nat → Nat} {N N' b : Nat} {L : Nat → Nat} {w : Nat → va_E} (h : XLand (gx g ad N) b L w) (ha : ∀ j, b ≤ j → j < b + 33 → ad' j = ad j) : XLand (gx g ad' N') b L w := by
  obtain ⟨π, P, K, h1, h2, h3, h4, h5, h6⟩ := h
  exact ⟨π, P, K, h1.ad (fun j a c => ha j a (by omega)) (fun _ _ _ => rfl), h2.ad (fun _ _ _ => rfl), h3, h4.ad h5.1.1 ha (fun _ _ _ => rfl), h5.ad ha (fun _ _ _ => rfl), h6⟩
theorem XTrial.ad {g : GE} {ad ad' : Nat → Nat} {N N' : Nat} {w : Nat → va_E} (h : XTrial (gx g ad N) w) (ha : ∀ j, j < 119 → ad' j = ad j) : XTrial (gx g ad' N') w := by
  obtain ⟨x, y, L, K, h1, h2⟩ := h
  exact ⟨x, y, L, K, h1.ad (fun j a c => ha j (by omega)) (fun _ _ _ => rfl), h2.ad (fun _ _ _ => rfl)⟩
theorem XWays.ad {g : GE} {ad ad' : Nat → Nat} {N N' : Nat} {w : Nat → va_E} (h : XWays (gx g ad N) w) (ha : ∀ j, j < 119 → ad' j = ad j) : XWays (gx g ad' N') w := by
  obtain ⟨wh, al, x, y, on, bk, O, A, h1, h2, h3, h4, h5, h6⟩ := h
  refine ⟨wh, al, x, y, on, bk, O, A, h1.trans ?_, h2, h3, h4, h5, h6⟩
  show (.inr (5, [.ref (ad 101), .ref (ad 102), .int (nI wh), .ref (ad 103), .ref (ad 104), .long (lN al), .ref (ad 105)]) : va_E) = .inr (5, [.ref (ad' 101), .ref (ad' 102), .int (nI wh), .ref (ad' 103), .ref (ad' 104), .long (lN al), .ref (ad' 105)])
  rw [ha 101 (by omega), ha 102 (by omega), ha 103 (by omega), ha 104 (by omega), ha 105 (by omega)]
theorem XRead.ad {g : GE} {ad ad' : Nat → Nat} {N N' n : Nat} {T : Nat → Nat} {w : Nat → va_E} (h : XRead (gx g ad N) n T w) (ha : ∀ j, j < 119 → ad' j = ad j) : XRead (gx g ad' N') n T w := by
  obtain ⟨po, h1, h2⟩ := h
  refine ⟨po, h1.trans ?_, h2⟩
  show (.inr (3, [.ref (ad 109), .int (nI n), .int (nI po)]) : va_E) = .inr (3, [.ref (ad' 109), .int (nI n), .int (nI po)])
  rw [ha 109 (by omega)]
theorem XSheet.ad {g : GE} {ad ad' : Nat → Nat} {N N' s ln sz : Nat} {Z : Nat → Int64} {w : Nat → va_E} (h : XSheet (gx g ad N) s ln sz Z w) (hs : s < 4) (ha : ∀ j, j < 119 → ad' j = ad j) : XSheet (gx g ad' N') s ln sz Z w := by
  obtain ⟨hd, la, le, Y, h1, h2, h3, h4⟩ := h
  refine ⟨hd, la, le, Y, h1.trans ?_, h2, h3, h4⟩
  show (.inr (4, [.int (nI hd), .int (nI la), .int (nI le), .ref (ad (112 + 2 * s))]) : va_E) = .inr (4, [.int (nI hd), .int (nI la), .int (nI le), .ref (ad' (112 + 2 * s))])
  rw [ha (112 + 2 * s) (by omega)]
theorem XShs.ad {g : GE} {ad ad' : Nat → Nat} {N N' : Nat} {ln sz : Nat → Nat} {Z : Nat → Int64} {w : Nat → va_E} (h : XShs (gx g ad N) ln sz Z w) (ha : ∀ j, j < 119 → ad' j = ad j) : XShs (gx g ad' N') ln sz Z w := by
  refine ⟨h.1.trans ?_, fun s hs => (h.2 s hs).ad hs ha⟩
  have e : kK none 4 0 (fun s => some (ad (111 + 2 * s))) = kK none 4 0 (fun s => some (ad' (111 + 2 * s))) := kK_congr (fun j hj => by rw [Nat.zero_add, ha _ (by omega)])
  show (.inl (gS g, 4, .inr (.inr (.inr (.inr (kK none 4 0 (fun s => some (ad (111 + 2 * s)))))))) : va_E) = .inl (gS g, 4, .inr (.inr (.inr (.inr (kK none 4 0 (fun s => some (ad' (111 + 2 * s))))))))
  rw [e]
theorem XAll.ad {g : GE} {ad ad' : Nat → Nat} {N N' : Nat} {S : GS} {w : Nat → va_E} (h : XAll (gx g ad N) S w) (ha : ∀ j, j < 119 → ad' j = ad j) : XAll (gx g ad' N') S w := by
  obtain ⟨h1, h2, ⟨K', h3, h3'⟩, h4, h5, h6, h7, h8⟩ := h
  refine ⟨h1.trans ?_, h2.ad (fun j _ _ => ha j (by omega)), ⟨K', h3.ad (fun j _ _ => ha j (by omega)), h3'⟩, h4.ad ha, h5.ad ha, h6, h7.ad ha, h8.ad ha⟩
  show (.inr (6, [.ref (ad 1), .ref (ad 34), .ref (ad 67), .ref (ad 100), .ref (ad 106), .ref (ad 107), .ref (ad 108), .ref (ad 110), .int (nI (sH S))]) : va_E) = .inr (6, [.ref (ad' 1), .ref (ad' 34), .ref (ad' 67), .ref (ad' 100), .ref (ad' 106), .ref (ad' 107), .ref (ad' 108), .ref (ad' 110), .int (nI (sH S))])
  rw [ha 1 (by omega), ha 34 (by omega), ha 67 (by omega), ha 100 (by omega), ha 106 (by omega), ha 107 (by omega), ha 108 (by omega), ha 110 (by omega)]
set_option maxHeartbeats 4000000 in
set_option maxRecDepth 100000 in
theorem law_known {s : State} {b : Nat} (hts : ∀ w ∈ lw_tbl, w.before #[Value.ref b] s = true) : ∃ g : GE, WKn g s := by
  obtain ⟨c0, i0, k0⟩ := u_known (C := RX0) (T := TX0) (N := 2) (n := 2) hts inX0 (hts (.instantiable RX0 2) (List.mem_append_right _ (List.mem_of_getElem? (i := 104) (by decide +kernel))))
  obtain ⟨c1, i1, k1⟩ := u_known (C := RX1) (T := TX1) (N := 8) (n := 8) hts inX1 (hts (.instantiable RX1 8) (List.mem_append_right _ (List.mem_of_getElem? (i := 20) (by decide +kernel))))
  obtain ⟨c2, i2, k2⟩ := u_known (C := RX2) (T := TX2) (N := 5) (n := 5) hts inX2 (hts (.instantiable RX2 5) (List.mem_append_right _ (List.mem_of_getElem? (i := 26) (by decide +kernel))))
  obtain ⟨c3, i3, k3⟩ := u_known (C := RX3) (T := TX3) (N := 3) (n := 3) hts inX3 (hts (.instantiable RX3 3) (List.mem_append_right _ (List.mem_of_getElem? (i := 148) (by decide +kernel))))
  obtain ⟨c4, i4, k4⟩ := u_known (C := RX4) (T := TX4) (N := 4) (n := 4) hts inX4 (hts (.instantiable RX4 4) (List.mem_append_right _ (List.mem_of_getElem? (i := 167) (by decide +kernel))))
  obtain ⟨c5, i5, k5⟩ := u_known (C := RX5) (T := TX5) (N := 7) (n := 7) hts inX5 (hts (.instantiable RX5 7) (List.mem_append_right _ (List.mem_of_getElem? (i := 98) (by decide +kernel))))
  obtain ⟨c6, i6, k6⟩ := u_known (C := RX6) (T := TX6) (N := 9) (n := 9) hts inX6 (hts (.instantiable RX6 9) (List.mem_append_right _ (List.mem_of_getElem? (i := 12) (by decide +kernel))))
  obtain ⟨c7, i7, k7⟩ := u_known (C := RX7) (T := TX7) (N := 19) (n := 19) hts inX7 (hts (.instantiable RX7 19) (List.mem_append_right _ (List.mem_of_getElem? (i := 616) (by decide +kernel))))
  obtain ⟨aI, kI, pI, fI, eI, hI⟩ := Cond.arrayClass_spec (hts (.arrayClass .int) (List.mem_append_right _ (List.mem_of_getElem? (i := 60) (by decide +kernel))))
  obtain ⟨aJ, kJ, pJ, fJ, eJ, hJ⟩ := Cond.arrayClass_spec (hts (.arrayClass .long) (List.mem_append_right _ (List.mem_of_getElem? (i := 120) (by decide +kernel))))
  have hoM := (hts (.arrayOver (.object RX2)) (List.mem_append_right _ (List.mem_of_getElem? (i := 61) (by decide +kernel))))
  have hoS := (hts (.arrayOver (.object RX4)) (List.mem_append_right _ (List.mem_of_getElem? (i := 166) (by decide +kernel))))
  obtain ⟨pM, aM, kM, m1, m2, m3, m4, m5⟩ := Cond.arrayOver_spec hoM
  obtain ⟨pS, aS, kS, s1, s2, s3, s4, s5⟩ := Cond.arrayOver_spec hoS
  refine ⟨(fun k => if k = 0 then c0 else if k = 1 then c1 else if k = 2 then c2 else if k = 3 then c3 else if k = 4 then c4 else if k = 5 then c5 else if k = 6 then c6 else c7, fun k => if k = 0 then i0 else if k = 1 then i1 else if k = 2 then i2 else if k = 3 then i3 else if k = 4 then i4 else if k = 5 then i5 else if k = 6 then i6 else i7, (aI, aJ, aM, aS), fun _ => 0, 0), ⟨⟨⟨?_, ?_⟩, va_Nw.of rfl (hts (.methodLinkNest RX1 42 yX6_isWithin RX6) (List.mem_append_right _ (List.mem_of_getElem? (i := 247) (by decide +kernel)))), va_Nw.of rfl (hts (.methodLinkNest RX3 84 yX6_isWithin RX6) (List.mem_append_right _ (List.mem_of_getElem? (i := 309) (by decide +kernel)))), va_Nw.of rfl (hts (.methodLinkNest RX1 90 yX6_isField RX6) (List.mem_append_right _ (List.mem_of_getElem? (i := 378) (by decide +kernel)))), va_Nw.of rfl (hts (.methodLinkNest RX5 49 yX6_isField RX6) (List.mem_append_right _ (List.mem_of_getElem? (i := 433) (by decide +kernel)))), va_Nw.of rfl (hts (.methodLinkNest RX5 56 yX6_power RX6) (List.mem_append_right _ (List.mem_of_getElem? (i := 435) (by decide +kernel))))⟩, va_AO.of hoM, va_AO.of hoS, va_Nw.of rfl (hts (.methodLinkNest RX1 17 yX2_init RX6) (List.mem_append_right _ (List.mem_of_getElem? (i := 27) (by decide +kernel)))), va_Nw.of rfl (hts (.methodLinkNest RX6 24 yX5_init RX6) (List.mem_append_right _ (List.mem_of_getElem? (i := 99) (by decide +kernel)))), va_Nw.of rfl (hts (.methodLinkNest RX5 35 yX0_init RX6) (List.mem_append_right _ (List.mem_of_getElem? (i := 105) (by decide +kernel)))), va_Nw.of rfl (hts (.methodLinkNest RX6 31 yX0_init RX6) (List.mem_append_right _ (List.mem_of_getElem? (i := 146) (by decide +kernel)))), va_Nw.of rfl (hts (.methodLinkNest RX6 41 yX3_init RX6) (List.mem_append_right _ (List.mem_of_getElem? (i := 149) (by decide +kernel)))), va_Nw.of rfl (hts (.methodLinkNest RX6 52 yX4_init RX6) (List.mem_append_right _ (List.mem_of_getElem? (i := 168) (by decide +kernel))))⟩⟩
  · intro k q hq
    match k, hq with
    | 0, hq => cases hq; exact k0
    | 1, hq => cases hq; exact k1
    | 2, hq => cases hq; exact k2
    | 3, hq => cases hq; exact k3
    | 4, hq => cases hq; exact k4
    | 5, hq => cases hq; exact k5
    | 6, hq => cases hq; exact k6
    | 7, hq => cases hq; exact k7
    | k + 8, hq => simp [vwCl] at hq
  · intro k q hq
    match k, hq with
    | 0, hq => obtain rfl := Option.some.inj hq; exact ⟨fun n z => ⟨(fun k h => by cases h), kI, eI, pI, hI⟩, fI⟩
    | 1, hq => obtain rfl := Option.some.inj hq; exact ⟨fun n z => ⟨(fun k h => by cases h), kJ, eJ, pJ, hJ⟩, fJ⟩
    | 2, hq => obtain rfl := Option.some.inj hq; exact ⟨fun n z => ⟨(fun k h => by cases h), kM, m3, pM, m4⟩, kM, pM, m3, m4, m1, m5⟩
    | 3, hq => obtain rfl := Option.some.inj hq; exact ⟨fun n z => ⟨(fun k h => by cases h), kS, s3, pS, s4⟩, kS, pS, s3, s4, s1, s5⟩
    | k + 4, hq => simp [tysG] at hq
set_option maxHeartbeats 4000000 in
set_option maxRecDepth 100000 in
theorem law_start {p : Program} {e : Env} {s : State} {m : MethodId} {below : List Frame} {meth : Method} {c : Code} (l : Launch) {b L : Nat} {xs : Nat → Int32} (hL : L ≤ 448) (C0 : lw_At p s m meth c b L xs) : W p l e room_1 s m #[Value.ref b] below meth c s.heap [] 0 0 (lw_Z below #[Value.ref b] s) (entryFrame m ([Value.ref b] : List Value).toArray 4) := by
  obtain ⟨hx, hb, hr, hml, hown, hts, hX, hbl, hlk, hgv⟩ := id C0
  obtain ⟨g, hK⟩ := law_known hts
  have C : CallFix p m c code 4 s #[Value.ref b] wsL_law RL := ⟨hx, hb, hml, hown, fun w h => hts w (wsL_law_in w h)⟩
  have hA : ∀ q, s.heap.size ≤ q → lwA s q := fun _ h => h
  have hl := lv_entry ([.ref b]) (n := 4) (Nat.le_of_ble_eq_true rfl)
  rw [lg_entry_eq]
  generalize (lg_sl ([.ref b]) ++ List.replicate (4 - (lg_sl ([.ref b])).length) Slot.unset).toArray = ls at hl ⊢
  have hl : lv_has ls 4 [(0, .ref b)] := hl
  have hW : XW (gx g (fun _ => 0) 0) (fun _ => cF0 0 0) (lwA s) s.heap s.heap [] := ⟨fun k q h => by simp [wlg, wl, gN, gx] at h, va_S.rf, fun i j hi => absurd hi (Nat.not_lt_zero i), fun i hi => absurd hi (Nat.not_lt_zero i)⟩
  refine ynew (ci := 6) (fs := [.null, .null, .null, .null, .null, .null, .null, .null, .int 0]) (ty := tyX6) C hK hW hA inlX6 tyX6_ok rfl (List.mem_of_getElem? (i := 0) rfl) (List.mem_of_getElem? (i := 1) rfl) (List.mem_of_getElem? (i := 2) rfl) (fun j hj => by rcases (show j = 0 ∨ j = 1 ∨ j = 2 ∨ j = 3 ∨ j = 4 ∨ j = 5 ∨ j = 6 ∨ j = 7 ∨ j = 8 by omega) with rfl | rfl | rfl | rfl | rfl | rfl | rfl | rfl | rfl <;> rfl) (Nat.le_of_ble_eq_true rfl) (Nat.le_of_ble_eq_true rfl) dL_law_0 (fun q0 ad1 w1 H ha1 hg1 hb1 hv1 hW => ?_)
  refine W.widen (k := 1) (n := 9) (Nat.le_of_ble_eq_true rfl) (Nat.le_of_ble_eq_true rfl) ?_
  refine lv_dup C.1 C.2.1 dL_law_3 rfl ?_
  refine ycI C hK hW hA (n_X6_init l g ad1 w1 q0 H.size hW.2.2.1 ha1 hb1) gL_law_X6_init rfl rfl rfl (List.mem_of_getElem? (i := 7) rfl) (List.mem_of_getElem? (i := 2) rfl) rfl (List.mem_of_getElem? (i := 8) rfl) (by decide +kernel) ⟨(Nat.le_of_ble_eq_true rfl), (Nat.le_of_ble_eq_true rfl)⟩ hl (Nat.le_of_ble_eq_true rfl) dL_law_4 ⟨(Nat.le_of_ble_eq_true rfl), (Nat.le_of_ble_eq_true rfl)⟩ (fun ad2 w2 H locs p2 hW => ?_)
  obtain ⟨hg2, hv2, hX2⟩ := p2
  refine W.widen (k := 119) (n := 876) (Nat.le_of_ble_eq_true rfl) (Nat.le_of_ble_eq_true rfl) ?_
  refine lv_astore_n (lv' := [(1, .ref q0), (0, .ref b)]) C.1 C.2.1 dL_law_7 rfl hl (by decide) rfl (fun ls hl => ?_)
  refine ynew (ci := 7) (fs := [.null, .null, .null, .int 0, .null, .int 0, .int 0, .null, .null, .null, .null, .int 0, .null, .null, .long 0, .long 0, .long 0, .long 0, .long 0]) (ty := tyX7) C hK hW hA inlX7 tyX7_ok rfl (List.mem_of_getElem? (i := 3) rfl) (List.mem_of_getElem? (i := 4) rfl) (List.mem_of_getElem? (i := 5) rfl) (fun j hj => by rcases (show j = 0 ∨ j = 1 ∨ j = 2 ∨ j = 3 ∨ j = 4 ∨ j = 5 ∨ j = 6 ∨ j = 7 ∨ j = 8 ∨ j = 9 ∨ j = 10 ∨ j = 11 ∨ j = 12 ∨ j = 13 ∨ j = 14 ∨ j = 15 ∨ j = 16 ∨ j = 17 ∨ j = 18 by omega) with rfl | rfl | rfl | rfl | rfl | rfl | rfl | rfl | rfl | rfl | rfl | rfl | rfl | rfl | rfl | rfl | rfl | rfl | rfl <;> rfl) (Nat.le_of_ble_eq_true rfl) (Nat.le_of_ble_eq_true rfl) dL_law_8 (fun q1 ad3 w3 H ha3 hg3 hb3 hv3 hW => ?_)
  refine W.widen (k := 120) (n := 895) (Nat.le_of_ble_eq_true rfl) (Nat.le_of_ble_eq_true rfl) ?_
  refine lv_dup C.1 C.2.1 dL_law_11 rfl ?_
  refine ycI C hK hW hA (n_X7_init l g ad3 w3 q1 H.size hW.2.2.1 ha3 hb3) gL_law_X7_init rfl rfl rfl (List.mem_of_getElem? (i := 91) rfl) (List.mem_of_getElem? (i := 5) rfl) rfl (List.mem_of_getElem? (i := 92) rfl) (by decide +kernel) ⟨(Nat.le_of_ble_eq_true rfl), (Nat.le_of_ble_eq_true rfl)⟩ hl (Nat.le_of_ble_eq_true rfl) dL_law_12 ⟨(Nat.le_of_ble_eq_true rfl), (Nat.le_of_ble_eq_true rfl)⟩ (fun ad4 w4 H locs p4 hW => ?_)
  obtain ⟨hg4, hv4, hM4⟩ := p4
  refine W.widen (k := 600000) (n := 7302250) (Nat.le_of_ble_eq_true rfl) (Nat.le_of_ble_eq_true rfl) ?_
  refine lv_astore_n (lv' := [(2, .ref q1), (1, .ref q0), (0, .ref b)]) C.1 C.2.1 dL_law_15 rfl hl (by decide) rfl (fun ls hl => ?_)
  refine lv_iconst (v := nI 0) C.1 C.2.1 dL_law_16 (by decide) ?_
  refine lv_istore_n (lv' := [(3, .int (nI 0)), (2, .ref q1), (1, .ref q0), (0, .ref b)]) C.1 C.2.1 dL_law_17 rfl hl (by decide) rfl (fun ls hl => ?_)
  have e0 : ad4 0 = q0 := (hg4 0 (by omega)).trans ((hg3 0 (by omega)).trans ((hg2 0 (by omega)).trans ha1))
  have e1 : ad4 119 = q1 := (hg4 119 (by omega)).trans ha3
  have hX4 := (hX2.ad (N' := 130) (fun j hj => (hg4 j (by omega)).trans (hg3 j (by omega)))).fr (fun j hj => (hv4 j (by omega)).trans (hv3 j (by omega)))
  rw [← e0, ← e1] at hl
  exact law_loop (g := gx g ad4 130) C hr hlk hK.1 rfl hX hbl hL (L + 1) 0 _ w4 _ _ _ (by omega) (by omega) ok_start hX4 hM4 hW hl
