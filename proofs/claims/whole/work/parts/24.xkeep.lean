/-! a land taken whole, the image; letters typed -/
def mixP (n : Nat) (A B : Nat → Nat → Nat) : Nat → Nat → Nat := fun p => if p < n then A p else B p
theorem mixP_0 {A B : Nat → Nat → Nat} : mixP 0 A B = B := by
  funext p
  exact if_neg (by omega)
theorem mixP_up {n : Nat} {A B : Nat → Nat → Nat} : mixP (n + 1) A B = va_up (mixP n A B) n (A n) := by
  funext p
  by_cases q : p = n
  · rw [q, va_up_self]
    exact if_pos (by omega)
  · rw [va_up_ne _ _ q]
    unfold mixP
    by_cases h : p < n
    · rw [if_pos (by omega), if_pos h]
    · rw [if_neg (by omega), if_neg h]
theorem mixP_past {n : Nat} {A B : Nat → Nat → Nat} {L : Nat → Nat} (h : ∀ p, p < n → ∀ i, i < 17 → A p i = L (41 + 17 * p + i)) : ∀ p, p < n → ∀ i, i < 17 → mixP n A B p i = L (41 + 17 * p + i) := by
  intro p hp i hi
  unfold mixP
  rw [if_pos hp]
  exact h p hp i hi

set_option maxHeartbeats 4000000 in
set_option maxRecDepth 100000 in
theorem c_X1_takeAll (l : Launch) (g : GE) (w : Nat → va_E) (b o n : Nat) (x1 y1 y : Int32) (L0 L K0 K πo πb : Nat → Nat) (Po Pb : Nat → Nat → Nat) (hI : AdInj g) (hN : gN g = 130) (hb : b + 33 ≤ 119) (ho : o + 33 ≤ 119) (hd : b + 33 ≤ o ∨ o + 33 ≤ b) (hn : n ≤ 8) (pr0 : GAt g b x1 y1 L0 w) (pr1 : CAt g b K0 w) (pr2 : PArr g b πb w) (pr3 : PMom g b πb Pb w) (pr4 : GAt g o (nI n) y L w) (pr5 : CAt g o K w) (pr6 : PArr g o πo w) (pr7 : PMom g o πo Po w) : Met l yX1_takeAll wsX1_takeAll ({ frames := 3, cells := 0, slots := 0, locals := 74 } : Room) (XPc g w [.ref (gad g b), .ref (gad g o)]) (XQv g (fun w' => GAt g b (nI n) y L w' ∧ CAt g b K w' ∧ PArr g b πb w' ∧ PMom g b πb (mixP n Po Pb) w' ∧ (∀ j : Nat, ¬ (b ≤ j ∧ j < b + 33) → w' j = w j))) 0 0 (gA g) := by
  refine xmet (cc := cX1_takeAll) (maxL := 3) (ret := none) (by decide) rfl hI (Nat.le_of_ble_eq_true rfl) ?_
  intro pG eG sG mG belowG methG cG ls C hr hlk hK hW hl
  have hl : lv_has ls 3 [(0, .ref (gad g b)), (1, .ref (gad g o))] := hl
  have hinX1 : ∀ x ∈ u_ws RX1 TX1 8, x ∈ wsX1_takeAll := by decide +kernel
  have hpb := pr3.1.1
  have hpo := pr7.1.1
  refine lv_aload_n C.1 C.2.1 dX1_takeAll_0 rfl (lv_at hl 0 rfl) ?_
  refine lv_aload_n C.1 C.2.1 dX1_takeAll_1 rfl (lv_at hl 1 rfl) ?_
  refine xcV_v (n := 1) (As := [.ref (gad g o)]) C hK hW (c_X1_takeGround l g w b o x1 y1 (nI n) y L0 L hI hN (by omega) (by omega) (by omega) pr0 pr4) gX1_takeAll_X1_takeGround rfl ⟨rfl, rfl⟩ (by decide +kernel) ⟨Nat.le_of_ble_eq_true rfl, Nat.le_of_ble_eq_true rfl⟩ ⟨Nat.zero_le _, Nat.zero_le _⟩ rfl (by omega) pr0.1 rfl hl rfl (Nat.le_of_ble_eq_true rfl) dX1_takeAll_2 (fun w1 H locs q2 hW => ?_)
  obtain ⟨h4, f5⟩ := q2
  refine lv_aload_n C.1 C.2.1 dX1_takeAll_5 rfl (lv_at hl 0 rfl) ?_
  refine lv_aload_n C.1 C.2.1 dX1_takeAll_6 rfl (lv_at hl 1 rfl) ?_
  have h6 : CAt g b K0 w1 := (CAt.fr pr1 (fun j h1 h2 => f5 j (by omega)))
  have h7 : GAt g o (nI n) y L w1 := (GAt.fr pr4 (fun j h1 h2 => f5 j (by omega)))
  have h8 : CAt g o K w1 := (CAt.fr pr5 (fun j h1 h2 => f5 j (by omega)))
  refine xcV_v (n := 1) (As := [.ref (gad g o)]) C hK hW (c_X1_takeClaims l g w1 b o x1 y1 (nI n) y L L K0 K hI hN (by omega) (by omega) (by omega) h4 h6 h7 h8) gX1_takeAll_X1_takeClaims rfl ⟨rfl, rfl⟩ (by decide +kernel) ⟨Nat.le_of_ble_eq_true rfl, Nat.le_of_ble_eq_true rfl⟩ ⟨Nat.zero_le _, Nat.zero_le _⟩ rfl (by omega) h4.1 rfl hl rfl (Nat.le_of_ble_eq_true rfl) dX1_takeAll_7 (fun w9 H locs q10 hW => ?_)
  obtain ⟨h12, h13, f14⟩ := q10
  refine lv_iconst (v := (nI 0)) C.1 C.2.1 dX1_takeAll_10 (by decide) ?_
  refine lv_istore_n (lv' := [(2, .int (nI 0)), (0, .ref (gad g b)), (1, .ref (gad g o))]) C.1 C.2.1 dX1_takeAll_11 rfl hl (by decide) rfl (fun ls hl => ?_)
  have loop12 : ∀ (kG : Nat) (d : Nat) (v12 : Nat → va_E) (H : Heap) (locs : List Loc) (ls : Array Slot), kG = n - d → (GAt g b x1 y L v12) → (CAt g b K v12) → (PArr g b πb v12) → (PMom g b πb (mixP d Po Pb) v12) → (GAt g o (nI n) y L v12) → (CAt g o K v12) → (PArr g o πo v12) → (PMom g o πo Po v12) → (∀ j : Nat, ¬ (b ≤ j ∧ j < b + 33) → v12 j = w j) → (d ≤ n) → XW g v12 (gA g) sG.heap H locs → lv_has ls 3 [(2, .int (nI d)), (0, .ref (gad g b)), (1, .ref (gad g o))] → W pG l eG ({ frames := 3, cells := 0, slots := 0, locals := 74 } : Room) sG mG ([.ref (gad g b), .ref (gad g o)] : List Value).toArray belowG methG cG H locs 0 0 (MQ belowG (XQv g (fun w' => GAt g b (nI n) y L w' ∧ CAt g b K w' ∧ PArr g b πb w' ∧ PMom g b πb (mixP n Po Pb) w' ∧ (∀ j : Nat, ¬ (b ≤ j ∧ j < b + 33) → w' j = w j))) ([.ref (gad g b), .ref (gad g o)] : List Value).toArray sG 0 0 (gA g)) (F0 mG 12 ls []) := by
    intro k12
    induction k12 using Nat.strongRecOn with
    | _ k12 ih12 =>
    intro d v12 H locs ls hk12 fa12_0 fa12_1 fa12_2 fa12_3 fa12_4 fa12_5 fa12_6 fa12_7 hfr12 hdn hW hl
    refine lv_iload_n C.1 C.2.1 dX1_takeAll_12 rfl (lv_at hl 0 rfl) ?_
    refine lv_aload_n C.1 C.2.1 dX1_takeAll_13 rfl (lv_at hl 2 rfl) ?_
    refine xget C hK hW hinX1 rfl (by omega) fa12_4.1 3 (by decide) (List.mem_of_getElem? (i := 1) rfl) rfl dX1_takeAll_14 ?_
    refine xge (tgt := 41) C (by omega) (by omega) dX1_takeAll_17 (by decide) (fun c17 => ?_) (fun c17 => ?_)
    · refine lv_aload_n C.1 C.2.1 dX1_takeAll_41 rfl (lv_at hl 1 rfl) ?_
      refine lv_aload_n C.1 C.2.1 dX1_takeAll_42 rfl (lv_at hl 2 rfl) ?_
      refine xget C hK hW hinX1 rfl (by omega) fa12_4.1 3 (by decide) (List.mem_of_getElem? (i := 1) rfl) rfl dX1_takeAll_43 ?_
      refine xput (v := .int (nI n)) C hK hW hinX1 tyX1_ok nmX1 rfl (by omega) fa12_0.1 3 (by decide) (List.mem_of_getElem? (i := 1) rfl) rfl rfl rfl (Nat.le_of_ble_eq_true rfl) dX1_takeAll_46 (fun w15 H locs e16 f17 hW => ?_)
      have h18 : GAt g b (nI n) y L w15 := GAt_o fa12_0 e16 f17
      have h19 : CAt g b K w15 := (CAt.fr fa12_1 (fun j h1 h2 => f17 j (by omega)))
      have h20 : PArr g b πb w15 := (PArr.fr fa12_2 (fun j h1 h2 => f17 j (by omega)))
      have h21 : PMom g b πb (mixP d Po Pb) w15 := (PMom.fr fa12_3 (fun j h1 h2 => f17 j (by omega)))
      exact xret_v C hr hlk hW ⟨h18, h19, h20, (by rw [show n = d by omega]; exact h21), (fun j z0 => ((f17 j (by omega)).trans (hfr12 j z0)))⟩ dX1_takeAll_49
    · have hqb := hpb d (by omega)
      have hqo := hpo d (by omega)
      refine lv_aload_n C.1 C.2.1 dX1_takeAll_20 rfl (lv_at hl 1 rfl) ?_
      refine xget C hK hW hinX1 rfl (by omega) fa12_0.1 2 (by decide) (List.mem_of_getElem? (i := 2) rfl) rfl dX1_takeAll_21 ?_
      refine lv_iload_n C.1 C.2.1 dX1_takeAll_24 rfl (lv_at hl 0 rfl) ?_
      refine xaldM (q := gad g (b + 9 + 3 * πb (d))) C hK hW (by omega) fa12_2 (vp_in_nI (by omega) (by decide)) (by rw [nI_clamp (by omega)]; exact PArr_at (by omega) rfl) dX1_takeAll_25 ?_
      refine lv_aload_n C.1 C.2.1 dX1_takeAll_26 rfl (lv_at hl 2 rfl) ?_
      refine xget C hK hW hinX1 rfl (by omega) fa12_4.1 2 (by decide) (List.mem_of_getElem? (i := 2) rfl) rfl dX1_takeAll_27 ?_
      refine lv_iload_n C.1 C.2.1 dX1_takeAll_30 rfl (lv_at hl 0 rfl) ?_
      refine xaldM (q := gad g (o + 9 + 3 * πo (d))) C hK hW (by omega) fa12_6 (vp_in_nI (by omega) (by decide)) (by rw [nI_clamp (by omega)]; exact PArr_at (by omega) rfl) dX1_takeAll_31 ?_
      refine xcV_v (n := 1) (As := [.ref (gad g (o + 9 + 3 * πo (d)))]) C hK hW (c_X2_take l g v12 (b + 9 + 3 * πb (d)) (o + 9 + 3 * πo (d)) (mixP d Po Pb d) (Po d) hI hN (by omega) (by omega) (by omega) (fa12_3.2 d (by omega)) (fa12_7.2 d (by omega))) gX1_takeAll_X2_take rfl ⟨rfl, rfl⟩ (by decide +kernel) ⟨Nat.le_of_ble_eq_true rfl, Nat.le_of_ble_eq_true rfl⟩ ⟨Nat.zero_le _, Nat.zero_le _⟩ rfl (by omega) (fa12_3.2 d (by omega)).1 rfl hl rfl (Nat.le_of_ble_eq_true rfl) dX1_takeAll_32 (fun w22 H locs q23 hW => ?_)
      obtain ⟨h25, f26⟩ := q23
      have h27 : PMom g o πo Po w22 := (PMom.fr fa12_7 (fun j h1 h2 => f26 j (by omega)))
      have h28 : PMom g b πb (va_up (mixP d Po Pb) d (Po d)) w22 := PMom_take fa12_3 (by omega) h25 f26
      refine lv_iinc (v := nI (d + 1)) (lv' := [(2, .int (nI (d + 1))), (0, .ref (gad g b)), (1, .ref (gad g o))]) C.1 C.2.1 dX1_takeAll_35 hl (k := 0) rfl (nI_add _ 1) (by decide) rfl (fun ls hl => ?_)
      refine lv_goto (tgt := 12) C.1 C.2.1 dX1_takeAll_38 (by decide) ?_
      have h29 : GAt g b x1 y L w22 := (GAt.fr fa12_0 (fun j h1 h2 => f26 j (by omega)))
      have h30 : CAt g b K w22 := (CAt.fr fa12_1 (fun j h1 h2 => f26 j (by omega)))
      have h31 : PArr g b πb w22 := (PArr.fr fa12_2 (fun j h1 h2 => f26 j (by omega)))
      have h32 : GAt g o (nI n) y L w22 := (GAt.fr fa12_4 (fun j h1 h2 => f26 j (by omega)))
      have h33 : CAt g o K w22 := (CAt.fr fa12_5 (fun j h1 h2 => f26 j (by omega)))
      have h34 : PArr g o πo w22 := (PArr.fr fa12_6 (fun j h1 h2 => f26 j (by omega)))
      exact ih12 (n - (d + 1)) (by omega) (d + 1) w22 _ _ _ rfl h29 h30 h31 (by rw [mixP_up]; exact h28) h32 h33 h34 h27 (fun j z0 => ((f26 j (by omega)).trans (hfr12 j z0))) (by omega) hW hl
  have h35 : PArr g b πb w9 := (PArr.fr (PArr.fr pr2 (fun j h1 h2 => f5 j (by omega))) (fun j h1 h2 => f14 j (by omega) (by omega)))
  have h36 : PMom g b πb Pb w9 := (PMom.fr (PMom.fr pr3 (fun j h1 h2 => f5 j (by omega))) (fun j h1 h2 => f14 j (by omega) (by omega)))
  have h37 : GAt g o (nI n) y L w9 := (GAt.fr h7 (fun j h1 h2 => f14 j (by omega) (by omega)))
  have h38 : CAt g o K w9 := (CAt.fr h8 (fun j h1 h2 => f14 j (by omega) (by omega)))
  have h39 : PArr g o πo w9 := (PArr.fr (PArr.fr pr6 (fun j h1 h2 => f5 j (by omega))) (fun j h1 h2 => f14 j (by omega) (by omega)))
  have h40 : PMom g o πo Po w9 := (PMom.fr (PMom.fr pr7 (fun j h1 h2 => f5 j (by omega))) (fun j h1 h2 => f14 j (by omega) (by omega)))
  exact loop12 _ 0 w9 _ _ _ rfl h12 h13 h35 (by rw [mixP_0]; exact h36) h37 h38 h39 h40 (fun j z0 => ((f14 j (by omega) (by omega)).trans (f5 j (by omega)))) (by omega) hW hl

set_option maxHeartbeats 4000000 in
set_option maxRecDepth 100000 in
theorem c_X6_image (l : Launch) (g : GE) (w : Nat → va_E) (L K T ln sz : Nat → Nat) (hk tn : Nat) (Z : Nat → Int64)  (hI : AdInj g) (hN : gN g = 130) (hS : OkS (L, K, hk, tn, T, ln, sz, Z)) (pr0 : XAll g (L, K, hk, tn, T, ln, sz, Z) w) : Met l yX6_image wsX6_image ({ frames := 4, cells := 0, slots := 0, locals := 96 } : Room) (XPc g w [.ref (gad g 0)]) (XQi g (fun r w' => XAll g (L, L, 1, tn, T, ln, sz, Z) w' ∧ (∀ j : Nat, ¬ (0 ≤ j ∧ j < 119) → w' j = w j) ∧ r = nI 1)) 0 0 (gA g) := by
  refine xmet (cc := cX6_image) (maxL := 1) (ret := (some .int)) (by decide) rfl hI (Nat.le_of_ble_eq_true rfl) ?_
  intro pG eG sG mG belowG methG cG ls C hr hlk hK hW hl
  have hl : lv_has ls 1 [(0, .ref (gad g 0))] := hl
  have hinX6 : ∀ x ∈ u_ws RX6 TX6 9, x ∈ wsX6_image := by decide +kernel
  obtain ⟨hXa, hXl, hXk, hXt, hXw, hXf, hXr, hXs⟩ := pr0
  have hXa : w 0 = cX0 g hk := hXa
  have hXl : XLand g 1 L w := hXl
  have hXk : XKept g hk K w := hXk
  have hXr : XRead g tn T w := hXr
  have hXs : XShs g ln sz Z w := hXs
  have hokL : OkL L := hS.1
  obtain ⟨hok, hs2, hdy, hdr, hcl, hkn, hcs, hps⟩ := hokL
  obtain ⟨π, P, CK, hG, hC, hCk, hPa, hPm, hPk⟩ := id hXl
  have hs2K : hk = 0 ∨ (hk = 1 ∧ OkL K) := hS.2.1
  obtain ⟨K1, hKl, hK1⟩ := hXk
  obtain ⟨ρ, R, CR, hGk, hCk1, hCkk, hPak, hPmk, hPkk⟩ := hKl
  have hhk : hk ≤ 1 := hs2K.elim (fun h => Nat.le_trans (Nat.le_of_eq h) (Nat.zero_le 1)) (fun h => Nat.le_of_eq h.1)
  refine lv_aload_n C.1 C.2.1 dX6_image_0 rfl (lv_at hl 0 rfl) ?_
  refine xget C hK hW hinX6 rfl (by omega) hXa 1 (by decide) (List.mem_of_getElem? (i := 1) rfl) rfl dX6_image_1 ?_
  refine lv_aload_n C.1 C.2.1 dX6_image_4 rfl (lv_at hl 0 rfl) ?_
  refine xget C hK hW hinX6 rfl (by omega) hXa 0 (by decide) (List.mem_of_getElem? (i := 2) rfl) rfl dX6_image_5 ?_
  refine xcV_v (n := 1) (As := [.ref (gad g 1)]) C hK hW (c_X1_takeAll l g w 34 1 (L 40) (nI (K1 40)) (nI (K1 24)) (nI (L 24)) K1 L CR CK π ρ P R hI hN (by omega) (by omega) (by omega) (by omega) hGk hCk1 hPak hPmk hG hC hPa hPm) gX6_image_X1_takeAll rfl ⟨rfl, rfl⟩ (by decide +kernel) ⟨Nat.le_of_ble_eq_true rfl, Nat.le_of_ble_eq_true rfl⟩ ⟨Nat.zero_le _, Nat.zero_le _⟩ rfl (by omega) hGk.1 rfl hl rfl (Nat.le_of_ble_eq_true rfl) dX6_image_8 (fun w1 H locs q2 hW => ?_)
  obtain ⟨h4, h5, h6, h7, f8⟩ := q2
  refine lv_aload_n C.1 C.2.1 dX6_image_11 rfl (lv_at hl 0 rfl) ?_
  refine lv_iconst (v := (nI 1)) C.1 C.2.1 dX6_image_12 (by decide) ?_
  have h9 : w1 0 = .inr (6, [.ref (gad g 1), .ref (gad g 34), .ref (gad g 67), .ref (gad g 100), .ref (gad g 106), .ref (gad g 107), .ref (gad g 108), .ref (gad g 110), .int (nI hk)]) := ((f8 0 (by omega)).trans hXa)
  refine xput (v := .int (nI 1)) C hK hW hinX6 tyX6_ok nmX6 rfl (by omega) h9 8 (by decide) (List.mem_of_getElem? (i := 3) rfl) rfl rfl rfl (Nat.le_of_ble_eq_true rfl) dX6_image_13 (fun w10 H locs e11 f12 hW => ?_)
  refine lv_iconst (v := (nI 1)) C.1 C.2.1 dX6_image_16 (by decide) ?_
  have h13 : GAt g 34 (nI (L 40)) (nI (L 24)) L w10 := (GAt.fr h4 (fun j h1 h2 => f12 j (by omega)))
  have h14 : CAt g 34 CK w10 := (CAt.fr h5 (fun j h1 h2 => f12 j (by omega)))
  have h15 : PArr g 34 ρ w10 := (PArr.fr h6 (fun j h1 h2 => f12 j (by omega)))
  have h16 : PMom g 34 ρ (mixP (L 40) P R) w10 := (PMom.fr h7 (fun j h1 h2 => f12 j (by omega)))
  have h17 : GAt g 1 (nI (L 40)) (nI (L 24)) L w10 := (GAt.fr (GAt.fr hG (fun j h1 h2 => f8 j (by omega))) (fun j h1 h2 => f12 j (by omega)))
  have h18 : CAt g 1 CK w10 := (CAt.fr (CAt.fr hC (fun j h1 h2 => f8 j (by omega))) (fun j h1 h2 => f12 j (by omega)))
  have h19 : PArr g 1 π w10 := (PArr.fr (PArr.fr hPa (fun j h1 h2 => f8 j (by omega))) (fun j h1 h2 => f12 j (by omega)))
  have h20 : PMom g 1 π P w10 := (PMom.fr (PMom.fr hPm (fun j h1 h2 => f8 j (by omega))) (fun j h1 h2 => f12 j (by omega)))
  have h21 : XTrial g  w10 := (XTrial.fr (XTrial.fr hXt (fun j h1 h2 => f8 j (by omega))) (fun j h1 h2 => f12 j (by omega)))
  have h22 : XWays g  w10 := (XWays.fr (XWays.fr hXw (fun j h1 h2 => f8 j (by omega))) (fun j h1 h2 => f12 j (by omega)))
  have h23 : XFr g  w10 := (XFr.fr (XFr.fr hXf (fun j h1 h2 => f8 j (by omega))) (fun j h1 h2 => f12 j (by omega)))
  have h24 : XRead g tn T w10 := (XRead.fr (XRead.fr hXr (fun j h1 h2 => f8 j (by omega))) (fun j h1 h2 => f12 j (by omega)))
  have h25 : XShs g ln sz Z w10 := (XShs.fr (XShs.fr hXs (fun j h1 h2 => f8 j (by omega))) (fun j h1 h2 => f12 j (by omega)))
  exact xret_i C hr hlk hW ⟨⟨e11, ⟨π, P, CK, h17, h18, hCk, h19, h20, hPk⟩, ⟨L, ⟨ρ, _, CK, h13, h14, hCk, h15, h16, mixP_past hPk⟩, fun _ => rfl⟩, h21, h22, h23, h24, h25⟩, (fun j z0 => ((f12 j (by omega)).trans (f8 j (by omega)))), rfl⟩ dX6_image_17

set_option maxHeartbeats 4000000 in
set_option maxRecDepth 100000 in
theorem c_X6_restore (l : Launch) (g : GE) (w : Nat → va_E) (L K T ln sz : Nat → Nat) (hk tn : Nat) (Z : Nat → Int64)  (hI : AdInj g) (hN : gN g = 130) (hS : OkS (L, K, hk, tn, T, ln, sz, Z)) (pr0 : XAll g (L, K, hk, tn, T, ln, sz, Z) w) : Met l yX6_restore wsX6_restore ({ frames := 4, cells := 0, slots := 0, locals := 96 } : Room) (XPc g w [.ref (gad g 0)]) (XQi g (fun r w' => XAll g (restL hk L K, K, hk, tn, T, ln, sz, Z) w' ∧ (∀ j : Nat, ¬ (0 ≤ j ∧ j < 119) → w' j = w j) ∧ r = restS hk)) 0 0 (gA g) := by
  refine xmet (cc := cX6_restore) (maxL := 1) (ret := (some .int)) (by decide) rfl hI (Nat.le_of_ble_eq_true rfl) ?_
  intro pG eG sG mG belowG methG cG ls C hr hlk hK hW hl
  have hl : lv_has ls 1 [(0, .ref (gad g 0))] := hl
  have hinX6 : ∀ x ∈ u_ws RX6 TX6 9, x ∈ wsX6_restore := by decide +kernel
  obtain ⟨hXa, hXl, hXk, hXt, hXw, hXf, hXr, hXs⟩ := pr0
  have hXa : w 0 = cX0 g hk := hXa
  have hXl : XLand g 1 L w := hXl
  have hXk : XKept g hk K w := hXk
  have hXr : XRead g tn T w := hXr
  have hXs : XShs g ln sz Z w := hXs
  have hokL : OkL L := hS.1
  obtain ⟨hok, hs2, hdy, hdr, hcl, hkn, hcs, hps⟩ := hokL
  obtain ⟨π, P, CK, hG, hC, hCk, hPa, hPm, hPk⟩ := id hXl
  have hs2K : hk = 0 ∨ (hk = 1 ∧ OkL K) := hS.2.1
  obtain ⟨K1, hKl, hK1⟩ := hXk
  obtain ⟨ρ, R, CR, hGk, hCk1, hCkk, hPak, hPmk, hPkk⟩ := hKl
  have hhk : hk ≤ 1 := hs2K.elim (fun h => Nat.le_trans (Nat.le_of_eq h) (Nat.zero_le 1)) (fun h => Nat.le_of_eq h.1)
  refine lv_aload_n C.1 C.2.1 dX6_restore_0 rfl (lv_at hl 0 rfl) ?_
  refine xget C hK hW hinX6 rfl (by omega) hXa 8 (by decide) (List.mem_of_getElem? (i := 1) rfl) rfl dX6_restore_1 ?_
  refine x0ne (tgt := 10) C (by omega) dX6_restore_4 (by decide) (fun c4 => ?_) (fun c4 => ?_)
  · have hk1 : hk = 1 := by omega
    have hKK : K1 = K := hK1 hk1
    have hk8 : K1 40 ≤ 8 := by
      rw [hKK]
      exact (hs2K.elim (fun h => absurd h (by omega)) (fun h => h.2)).2.2.2.2.2.1
    refine lv_aload_n C.1 C.2.1 dX6_restore_10 rfl (lv_at hl 0 rfl) ?_
    refine xget C hK hW hinX6 rfl (by omega) hXa 0 (by decide) (List.mem_of_getElem? (i := 2) rfl) rfl dX6_restore_11 ?_
    refine lv_aload_n C.1 C.2.1 dX6_restore_14 rfl (lv_at hl 0 rfl) ?_
    refine xget C hK hW hinX6 rfl (by omega) hXa 1 (by decide) (List.mem_of_getElem? (i := 3) rfl) rfl dX6_restore_15 ?_
    refine xcV_v (n := 1) (As := [.ref (gad g 34)]) C hK hW (c_X1_takeAll l g w 1 34 (K1 40) (nI (L 40)) (nI (L 24)) (nI (K1 24)) L K1 CK CR ρ π R P hI hN (by omega) (by omega) (by omega) (by omega) hG hC hPa hPm hGk hCk1 hPak hPmk) gX6_restore_X1_takeAll rfl ⟨rfl, rfl⟩ (by decide +kernel) ⟨Nat.le_of_ble_eq_true rfl, Nat.le_of_ble_eq_true rfl⟩ ⟨Nat.zero_le _, Nat.zero_le _⟩ rfl (by omega) hG.1 rfl hl rfl (Nat.le_of_ble_eq_true rfl) dX6_restore_18 (fun w1 H locs q2 hW => ?_)
    obtain ⟨h4, h5, h6, h7, f8⟩ := q2
    refine lv_iconst (v := (nI 1)) C.1 C.2.1 dX6_restore_21 (by decide) ?_
    have h9 : GAt g 34 (nI (K1 40)) (nI (K1 24)) K1 w1 := (GAt.fr hGk (fun j h1 h2 => f8 j (by omega)))
    have h10 : CAt g 34 CR w1 := (CAt.fr hCk1 (fun j h1 h2 => f8 j (by omega)))
    have h11 : PArr g 34 ρ w1 := (PArr.fr hPak (fun j h1 h2 => f8 j (by omega)))
    have h12 : PMom g 34 ρ R w1 := (PMom.fr hPmk (fun j h1 h2 => f8 j (by omega)))
    have h13 : w1 0 = .inr (6, [.ref (gad g 1), .ref (gad g 34), .ref (gad g 67), .ref (gad g 100), .ref (gad g 106), .ref (gad g 107), .ref (gad g 108), .ref (gad g 110), .int (nI hk)]) := ((f8 0 (by omega)).trans hXa)
    have h14 : XTrial g  w1 := (XTrial.fr hXt (fun j h1 h2 => f8 j (by omega)))
    have h15 : XWays g  w1 := (XWays.fr hXw (fun j h1 h2 => f8 j (by omega)))
    have h16 : XFr g  w1 := (XFr.fr hXf (fun j h1 h2 => f8 j (by omega)))
    have h17 : XRead g tn T w1 := (XRead.fr hXr (fun j h1 h2 => f8 j (by omega)))
    have h18 : XShs g ln sz Z w1 := (XShs.fr hXs (fun j h1 h2 => f8 j (by omega)))
    exact xret_i C hr hlk hW ⟨⟨h13, (by rw [restL, if_neg (by omega), ← hKK]; exact ⟨π, _, CR, h4, h5, hCkk, h6, h7, mixP_past hPkk⟩), ⟨K1, ⟨ρ, R, CR, h9, h10, hCkk, h11, h12, hPkk⟩, hK1⟩, h14, h15, h16, h17, h18⟩, (fun j z0 => (f8 j (by omega))), (by rw [restS, if_neg (by omega)]; rfl)⟩ dX6_restore_22
  · refine lv_bipush (v := (-4 : Int32)) C.1 C.2.1 dX6_restore_7 (by decide) ?_
    exact xret_i C hr hlk hW ⟨⟨hXa, (by rw [restL, if_pos (by omega)]; exact ⟨π, P, CK, hG, hC, hCk, hPa, hPm, hPk⟩), ⟨K1, ⟨ρ, R, CR, hGk, hCk1, hCkk, hPak, hPmk, hPkk⟩, hK1⟩, hXt, hXw, hXf, hXr, hXs⟩, (fun j z0 => rfl), (by rw [restS, if_pos (by omega)])⟩ dX6_restore_9

set_option maxHeartbeats 4000000 in
set_option maxRecDepth 100000 in
theorem c_X3_add (l : Launch) (g : GE) (w : Nat → va_E) (c n po : Nat) (T : Nat → Nat) (hI : AdInj g) (hN : gN g = 130) (hn : n ≤ 80) (pr0 : w 108 = .inr (3, [.ref (gad g 109), .int (nI n), .int (nI po)])) (pr1 : w 109 = .inl (gI g, 80, .inl (cK 80 0 T))) : Met l yX3_add wsX3_add ({ frames := 0, cells := 0, slots := 0, locals := 0 } : Room) (XPc g w [.ref (gad g 108), .int (nI c)]) (XQi g (fun r w' => w' 108 = .inr (3, [.ref (gad g 109), .int (nI (if n < 80 then n + 1 else n)), .int (nI po)]) ∧ w' 109 = .inl (gI g, 80, .inl (cK 80 0 (if n < 80 then va_up T n c else T))) ∧ (∀ j : Nat, ¬ (108 ≤ j ∧ j < 110) → w' j = w j) ∧ r = (bI (n < 80)))) 0 0 (gA g) := by
  refine xmet (cc := cX3_add) (maxL := 2) (ret := (some .boolean)) (by decide) rfl hI (Nat.le_of_ble_eq_true rfl) ?_
  intro pG eG sG mG belowG methG cG ls C hr hlk hK hW hl
  have hl : lv_has ls 2 [(0, .ref (gad g 108)), (1, .int (nI c))] := hl
  have hinX3 : ∀ x ∈ u_ws RX3 TX3 3, x ∈ wsX3_add := by decide +kernel
  refine lv_aload_n C.1 C.2.1 dX3_add_0 rfl (lv_at hl 0 rfl) ?_
  refine xget C hK hW hinX3 rfl (by omega) pr0 1 (by decide) (List.mem_of_getElem? (i := 1) rfl) rfl dX3_add_1 ?_
  refine lv_bipush (v := (nI 80)) C.1 C.2.1 dX3_add_4 (by decide) ?_
  refine xlt (tgt := 11) C (by omega) (by omega) dX3_add_6 (by decide) (fun c6 => ?_) (fun c6 => ?_)
  · refine lv_aload_n C.1 C.2.1 dX3_add_11 rfl (lv_at hl 0 rfl) ?_
    refine xget C hK hW hinX3 rfl (by omega) pr0 0 (by decide) (List.mem_of_getElem? (i := 2) rfl) rfl dX3_add_12 ?_
    refine lv_aload_n C.1 C.2.1 dX3_add_15 rfl (lv_at hl 0 rfl) ?_
    refine xget C hK hW hinX3 rfl (by omega) pr0 1 (by decide) (List.mem_of_getElem? (i := 1) rfl) rfl dX3_add_16 ?_
    refine lv_iload_n C.1 C.2.1 dX3_add_19 rfl (lv_at hl 1 rfl) ?_
    refine xistK0 (v := c) C hK hW (by omega) pr1 (by omega) (by decide) dX3_add_20 (fun w1 H locs e2 f3 hW => ?_)
    refine lv_aload_n C.1 C.2.1 dX3_add_21 rfl (lv_at hl 0 rfl) ?_
    refine lv_dup C.1 C.2.1 dX3_add_22 rfl ?_
    have h4 : w1 108 = .inr (3, [.ref (gad g 109), .int (nI n), .int (nI po)]) := ((f3 108 (by omega)).trans pr0)
    refine xget C hK hW hinX3 rfl (by omega) h4 1 (by decide) (List.mem_of_getElem? (i := 1) rfl) rfl dX3_add_23 ?_
    refine lv_iconst (v := (nI 1)) C.1 C.2.1 dX3_add_26 (by decide) ?_
    refine xadd C dX3_add_27 ?_
    refine xput (v := .int (nI (n + 1))) C hK hW hinX3 tyX3_ok nmX3 rfl (by omega) h4 1 (by decide) (List.mem_of_getElem? (i := 1) rfl) rfl rfl rfl (Nat.le_of_ble_eq_true rfl) dX3_add_28 (fun w5 H locs e6 f7 hW => ?_)
    refine lv_iconst (v := (nI 1)) C.1 C.2.1 dX3_add_31 (by decide) ?_
    have h8 : w5 109 = .inl (gI g, 80, .inl (cK 80 0 (va_up T n c))) := ((f7 109 (by omega)).trans e2)
    exact xret_z C hr hlk hW rfl ⟨(by rw [if_pos c6]; exact e6), (by rw [if_pos c6]; exact h8), (fun j z0 => ((f7 j (by omega)).trans (f3 j (by omega)))), (bI_t c6).symm⟩ dX3_add_32
  · refine lv_iconst (v := (nI 0)) C.1 C.2.1 dX3_add_9 (by decide) ?_
    exact xret_z C hr hlk hW rfl ⟨(by rw [if_neg c6]; exact pr0), (by rw [if_neg c6]; exact pr1), (fun j z0 => rfl), (bI_f c6).symm⟩ dX3_add_10

set_option maxHeartbeats 4000000 in
set_option maxRecDepth 100000 in
theorem c_X6_type (l : Launch) (g : GE) (w : Nat → va_E) (L K T ln sz : Nat → Nat) (hk tn : Nat) (Z : Nat → Int64) (x : Int32) (hI : AdInj g) (hN : gN g = 130) (hS : OkS (L, K, hk, tn, T, ln, sz, Z)) (pr0 : XAll g (L, K, hk, tn, T, ln, sz, Z) w) : Met l yX6_type wsX6_type ({ frames := 1, cells := 0, slots := 0, locals := 22 } : Room) (XPc g w [.ref (gad g 0), .int x]) (XQi g (fun r w' => XAll g (L, K, hk, typeN tn x, typeT tn T x, ln, sz, Z) w' ∧ (∀ j : Nat, ¬ (0 ≤ j ∧ j < 119) → w' j = w j) ∧ r = typeS tn x)) 0 0 (gA g) := by
  refine xmet (cc := cX6_type) (maxL := 2) (ret := (some .int)) (by decide) rfl hI (Nat.le_of_ble_eq_true rfl) ?_
  intro pG eG sG mG belowG methG cG ls C hr hlk hK hW hl
  have hl : lv_has ls 2 [(0, .ref (gad g 0)), (1, .int x)] := hl
  have hinX3 : ∀ x ∈ u_ws RX3 TX3 3, x ∈ wsX6_type := by decide +kernel
  have hinX6 : ∀ x ∈ u_ws RX6 TX6 9, x ∈ wsX6_type := by decide +kernel
  obtain ⟨hXa, hXl, hXk, hXt, hXw, hXf, hXr, hXs⟩ := pr0
  have hXa : w 0 = cX0 g hk := hXa
  have hXl : XLand g 1 L w := hXl
  have hXk : XKept g hk K w := hXk
  have hXr : XRead g tn T w := hXr
  have hXs : XShs g ln sz Z w := hXs
  have hokL : OkL L := hS.1
  obtain ⟨hok, hs2, hdy, hdr, hcl, hkn, hcs, hps⟩ := hokL
  have htn : tn ≤ 80 := hS.2.2.1
  obtain ⟨po, hR0, hR1⟩ := hXr
  refine lv_iload_n C.1 C.2.1 dX6_type_0 rfl (lv_at hl 1 rfl) ?_
  refine lv_bipush (v := (nI 32)) C.1 C.2.1 dX6_type_1 (by decide) ?_
  refine lv_bipush (v := (nI 126)) C.1 C.2.1 dX6_type_3 (by decide) ?_
  refine xcS_i (n := 3) (As := [.int x, .int (nI 32), .int (nI 126)]) C hK hW (c_X6_isWithin l g w x (nI 32) (nI 126) hI hN) gX6_type_X6_isWithin rfl ⟨rfl, rfl⟩ (by decide +kernel) ⟨Nat.le_of_ble_eq_true rfl, Nat.le_of_ble_eq_true rfl⟩ ⟨Nat.zero_le _, Nat.zero_le _⟩ rfl hl rfl (Nat.le_of_ble_eq_true rfl) dX6_type_5 (fun r3 w1 H locs q2 hW => ?_)
  obtain ⟨qw4, rfl⟩ := q2
  rw [qw4] at hW
  refine xBne (tgt := 13) C dX6_type_8 (by decide) (fun c8 => ?_) (fun c8 => ?_)
  · obtain ⟨k1, ha_k1, hb_k1, hx_k1⟩ := inR_N (by omega) (by omega) c8
    rw [hx_k1] at hl
    refine lv_aload_n C.1 C.2.1 dX6_type_13 rfl (lv_at hl 0 rfl) ?_
    refine xget C hK hW hinX6 rfl (by omega) hXa 6 (by decide) (List.mem_of_getElem? (i := 1) rfl) rfl dX6_type_14 ?_
    refine lv_iload_n C.1 C.2.1 dX6_type_17 rfl (lv_at hl 1 rfl) ?_
    refine xcV_i (n := 1) (As := [.int (nI k1)]) C hK hW (c_X3_add l g w k1 tn po T hI hN (by omega) hR0 hR1) gX6_type_X3_add rfl ⟨rfl, rfl⟩ (by decide +kernel) ⟨Nat.le_of_ble_eq_true rfl, Nat.le_of_ble_eq_true rfl⟩ ⟨Nat.zero_le _, Nat.zero_le _⟩ rfl (by omega) hR0 rfl hl rfl (Nat.le_of_ble_eq_true rfl) dX6_type_18 (fun r7 w5 H locs q6 hW => ?_)
    obtain ⟨h8, h9, f10, rfl⟩ := q6
    refine xBeq (tgt := 34) C dX6_type_21 (by decide) (fun c21 => ?_) (fun c21 => ?_)
    · have h11 : w5 108 = .inr (3, [.ref (gad g 109), .int (nI tn), .int (nI po)]) := h8.trans (by rw [if_neg c21])
      have h12 : w5 109 = .inl (gI g, 80, .inl (cK 80 0 T)) := h9.trans (by rw [if_neg c21])
      refine lv_bipush (v := (-3 : Int32)) C.1 C.2.1 dX6_type_34 (by decide) ?_
      have h13 : w5 0 = .inr (6, [.ref (gad g 1), .ref (gad g 34), .ref (gad g 67), .ref (gad g 100), .ref (gad g 106), .ref (gad g 107), .ref (gad g 108), .ref (gad g 110), .int (nI hk)]) := ((f10 0 (by omega)).trans hXa)
      have h14 : XLand g 1 L w5 := (XLand.fr hXl (fun j h1 h2 => f10 j (by omega)))
      have h15 : XKept g hk K w5 := (XKept.fr hXk (fun j h1 h2 => f10 j (by omega)))
      have h16 : XTrial g  w5 := (XTrial.fr hXt (fun j h1 h2 => f10 j (by omega)))
      have h17 : XWays g  w5 := (XWays.fr hXw (fun j h1 h2 => f10 j (by omega)))
      have h18 : XFr g  w5 := (XFr.fr hXf (fun j h1 h2 => f10 j (by omega)))
      have h19 : XShs g ln sz Z w5 := (XShs.fr hXs (fun j h1 h2 => f10 j (by omega)))
      exact xret_i C hr hlk hW ⟨⟨h13, h14, h15, h16, h17, h18, (by rw [typeN, typeT, if_neg (c := okType x ∧ tn < 80) (fun h => c21 h.2), if_neg (c := okType x ∧ tn < 80) (fun h => c21 h.2)]; exact ⟨po, h11, h12⟩), h19⟩, (fun j z0 => (f10 j (by omega))), (by rw [typeS, if_pos (c := okType x) c8, if_neg c21])⟩ dX6_type_36
    · have h20 : w5 108 = .inr (3, [.ref (gad g 109), .int (nI (tn + 1)), .int (nI po)]) := h8.trans (by rw [if_pos c21])
      have h21 : w5 109 = .inl (gI g, 80, .inl (cK 80 0 (va_up T tn k1))) := h9.trans (by rw [if_pos c21])
      refine lv_aload_n C.1 C.2.1 dX6_type_24 rfl (lv_at hl 0 rfl) ?_
      have h22 : w5 0 = .inr (6, [.ref (gad g 1), .ref (gad g 34), .ref (gad g 67), .ref (gad g 100), .ref (gad g 106), .ref (gad g 107), .ref (gad g 108), .ref (gad g 110), .int (nI hk)]) := ((f10 0 (by omega)).trans hXa)
      refine xget C hK hW hinX6 rfl (by omega) h22 6 (by decide) (List.mem_of_getElem? (i := 1) rfl) rfl dX6_type_25 ?_
      refine xget C hK hW hinX3 rfl (by omega) h20 1 (by decide) (List.mem_of_getElem? (i := 2) rfl) rfl dX6_type_28 ?_
      refine lv_goto (tgt := 36) C.1 C.2.1 dX6_type_31 (by decide) ?_
      have h23 : XLand g 1 L w5 := (XLand.fr hXl (fun j h1 h2 => f10 j (by omega)))
      have h24 : XKept g hk K w5 := (XKept.fr hXk (fun j h1 h2 => f10 j (by omega)))
      have h25 : XTrial g  w5 := (XTrial.fr hXt (fun j h1 h2 => f10 j (by omega)))
      have h26 : XWays g  w5 := (XWays.fr hXw (fun j h1 h2 => f10 j (by omega)))
      have h27 : XFr g  w5 := (XFr.fr hXf (fun j h1 h2 => f10 j (by omega)))
      have h28 : XShs g ln sz Z w5 := (XShs.fr hXs (fun j h1 h2 => f10 j (by omega)))
      exact xret_i C hr hlk hW ⟨⟨h22, h23, h24, h25, h26, h27, (by rw [typeN, typeT, if_pos (c := okType x ∧ tn < 80) ⟨c8, c21⟩, if_pos (c := okType x ∧ tn < 80) ⟨c8, c21⟩, hx_k1, cl_nI (by omega)]; exact ⟨po, h20, h21⟩), h28⟩, (fun j z0 => (f10 j (by omega))), (by rw [typeS, if_pos (c := okType x) c8, if_pos c21])⟩ dX6_type_36
  · refine lv_iconst (v := (-1 : Int32)) C.1 C.2.1 dX6_type_11 (by decide) ?_
    exact xret_i C hr hlk hW ⟨⟨hXa, hXl, hXk, hXt, hXw, hXf, (by rw [typeN, typeT, if_neg (c := okType x ∧ tn < 80) (fun h => c8 h.1), if_neg (c := okType x ∧ tn < 80) (fun h => c8 h.1)]; exact ⟨po, hR0, hR1⟩), hXs⟩, (fun j z0 => rfl), (by rw [typeS, if_neg (c := okType x) c8])⟩ dX6_type_12

set_option maxHeartbeats 4000000 in
set_option maxRecDepth 100000 in
theorem c_X3_clear (l : Launch) (g : GE) (w : Nat → va_E) (n po : Nat) (hI : AdInj g) (hN : gN g = 130) (pr0 : w 108 = .inr (3, [.ref (gad g 109), .int (nI n), .int (nI po)])) : Met l yX3_clear wsX3_clear ({ frames := 0, cells := 0, slots := 0, locals := 0 } : Room) (XPc g w [.ref (gad g 108)]) (XQv g (fun w' => w' 108 = .inr (3, [.ref (gad g 109), .int (nI 0), .int (nI po)]) ∧ (∀ j : Nat, ¬ (108 ≤ j ∧ j < 109) → w' j = w j))) 0 0 (gA g) := by
  refine xmet (cc := cX3_clear) (maxL := 1) (ret := none) (by decide) rfl hI (Nat.le_of_ble_eq_true rfl) ?_
  intro pG eG sG mG belowG methG cG ls C hr hlk hK hW hl
  have hl : lv_has ls 1 [(0, .ref (gad g 108))] := hl
  have hinX3 : ∀ x ∈ u_ws RX3 TX3 3, x ∈ wsX3_clear := by decide +kernel
  refine lv_aload_n C.1 C.2.1 dX3_clear_0 rfl (lv_at hl 0 rfl) ?_
  refine lv_iconst (v := (nI 0)) C.1 C.2.1 dX3_clear_1 (by decide) ?_
  refine xput (v := .int (nI 0)) C hK hW hinX3 tyX3_ok nmX3 rfl (by omega) pr0 1 (by decide) (List.mem_of_getElem? (i := 1) rfl) rfl rfl rfl (Nat.le_of_ble_eq_true rfl) dX3_clear_2 (fun w1 H locs e2 f3 hW => ?_)
  exact xret_v C hr hlk hW ⟨e2, (fun j z0 => (f3 j (by omega)))⟩ dX3_clear_5
