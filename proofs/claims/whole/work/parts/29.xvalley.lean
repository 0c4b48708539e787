/-! a valley read: what both sides hold behind it -/
abbrev rowsA (m : Nat) (K K' : Nat → Nat) : Prop := ∀ c, c < m → K (25 + c) = K' (25 + c) ∧ K (30 + c) = K' (30 + c) ∧ K (35 + c) = K' (35 + c)
theorem rowsA_add {m f t z : Nat} {K K' : Nat → Nat} (hm : m < 5) (h : rowsA m K K') : rowsA (m + 1) (addC m f t z K) (addC m f t z K') := by
  intro c hc
  rw [← addC_25 hm (by omega), ← addC_25 hm (by omega), ← addC_30 hm (by omega), ← addC_30 hm (by omega), ← addC_35 hm (by omega), ← addC_35 hm (by omega)]
  by_cases q : c = m
  · rw [q]
    simp only [va_up_self, and_self]
  · have hk := h c (by omega)
    rw [va_up_ne (k := 25 + m) _ _ (by omega), va_up_ne (k := 25 + m) _ _ (by omega), va_up_ne (k := 30 + m) _ _ (by omega), va_up_ne (k := 30 + m) _ _ (by omega), va_up_ne (k := 35 + m) _ _ (by omega), va_up_ne (k := 35 + m) _ _ (by omega)]
    exact hk
theorem clR_K {T : Nat → Nat} {n : Nat} : ∀ k p m (K K' : Nat → Nat), m + k ≤ 5 → rowsA m K K' → (clR T n k p m K).1 = (clR T n k p m K').1 ∧ (clR T n k p m K).2.1 = (clR T n k p m K').2.1 ∧ (clR T n k p m K).2.2.1 = (clR T n k p m K').2.2.1 ∧ (clR T n k p m K).2.2.1 ≤ 5 ∧ rowsA (clR T n k p m K).2.2.1 (clR T n k p m K).2.2.2 (clR T n k p m K').2.2.2
  | 0, p, m, K, K', h5, h => ⟨rfl, rfl, rfl, by show m ≤ 5; omega, h⟩
  | k + 1, p, m, K, K', h5, h => by
    unfold clR
    by_cases q : cOk T n p ∧ ¬ dg T n (cA T n p)
    · rw [if_pos q, if_pos q]
      by_cases q0 : k = 0
      · rw [if_pos q0, if_pos q0]
        exact ⟨rfl, rfl, rfl, by show m + 1 ≤ 5; omega, rowsA_add (by omega) h⟩
      · rw [if_neg q0, if_neg q0]
        by_cases qa : aOk T n (cA T n p) 44
        · rw [if_pos qa, if_pos qa]
          exact clR_K k _ _ _ _ (by omega) (rowsA_add (by omega) h)
        · rw [if_neg qa, if_neg qa]
          exact ⟨rfl, rfl, rfl, by show m + 1 ≤ 5; omega, rowsA_add (by omega) h⟩
    · rw [if_neg q, if_neg q]
      exact ⟨rfl, rfl, rfl, by show m ≤ 5; omega, h⟩
theorem vC_K {T : Nat → Nat} {n : Nat} (K K' : Nat → Nat) : (vC T n K).1 = (vC T n K').1 ∧ (vC T n K).2.1 = (vC T n K').2.1 ∧ (vC T n K).2.2.1 = (vC T n K').2.2.1 ∧ (vC T n K).2.2.1 ≤ 5 ∧ rowsA (vC T n K).2.2.1 (vC T n K).2.2.2 (vC T n K').2.2.2 := by
  unfold vC
  by_cases q : aOk T n (vL T n).2 59
  · rw [if_pos q, if_pos q]
    exact clR_K 5 _ 0 _ _ (by omega) (fun c hc => by omega)
  · rw [if_neg q, if_neg q]
    exact ⟨rfl, rfl, rfl, Nat.zero_le _, fun c hc => absurd hc (Nat.not_lt_zero c)⟩
theorem vOk_K {T : Nat → Nat} {n : Nat} {K K' : Nat → Nat} (h : vOk T n K) : vOk T n K' := by
  obtain ⟨e1, e2, e3, e4⟩ := vC_K (T := T) (n := n) K K'
  refine ⟨h.1, h.2.1, ?_, ?_⟩
  · rw [← e1]
    exact h.2.2.1
  · rw [← e2]
    exact h.2.2.2
theorem vP_K {T : Nat → Nat} {n : Nat} (K K' : Nat → Nat) : vP T n K = vP T n K' := by
  obtain ⟨e1, e2, e3, e4⟩ := vC_K (T := T) (n := n) K K'
  unfold vP
  rw [e1, e2]
theorem gW_lo {T : Nat → Nat} {n p : Nat} {B : Nat → Nat} {i : Nat} (hi : i < 3) : ∀ k, gW T n p B k i = B i
  | 0 => rfl
  | k + 1 => by
    show fW T n (pF T n p k) k (gW T n p B k) i = B i
    unfold fW
    rw [va_up_ne _ _ (by omega), va_up_ne _ _ (by omega), va_up_ne _ _ (by omega)]
    exact gW_lo hi k
theorem gW_agree {T : Nat → Nat} {n p : Nat} {B B' : Nat → Nat} {i : Nat} : ∀ k, k ≤ 7 → (B i = B' i ∨ (3 ≤ i ∧ i < 3 + k) ∨ (10 ≤ i ∧ i < 10 + k) ∨ (17 ≤ i ∧ i < 17 + k)) → gW T n p B k i = gW T n p B' k i
  | 0, _, h => by
    show B i = B' i
    rcases h with h | h | h | h
    · exact h
    · omega
    · omega
    · omega
  | k + 1, hk, h => by
    show fW T n (pF T n p k) k (gW T n p B k) i = fW T n (pF T n p k) k (gW T n p B' k) i
    unfold fW
    by_cases a : i = 10 + k
    · rw [a, va_up_self, va_up_self]
    · rw [va_up_ne (k := 10 + k) _ _ a, va_up_ne (k := 10 + k) _ _ a]
      by_cases b : i = 3 + k
      · rw [b, va_up_self, va_up_self]
      · rw [va_up_ne (k := 3 + k) _ _ b, va_up_ne (k := 3 + k) _ _ b]
        by_cases c : i = 17 + k
        · rw [c, va_up_self, va_up_self]
        · rw [va_up_ne (k := 17 + k) _ _ c, va_up_ne (k := 17 + k) _ _ c]
          refine gW_agree k (by omega) ?_
          rcases h with h | h | h | h
          · exact Or.inl h
          · exact Or.inr (Or.inl (by omega))
          · exact Or.inr (Or.inr (Or.inl (by omega)))
          · exact Or.inr (Or.inr (Or.inr (by omega)))
def zF : Nat → Nat := fun _ => 0
def zD (d : Nat) : Nat → Nat := va_up zF 1 d
theorem vW_agree {T : Nat → Nat} {n : Nat} {L : Nat → Nat} {i : Nat} (h0 : 0 < i) (h : i < 24) : vW T n L i = vW T n (zD (L 1)) i := by
  unfold vW
  refine gW_agree 7 (by omega) ?_
  by_cases a : i = 1
  · rw [a]
    exact Or.inl (by rw [va_up_ne _ _ (by omega), va_up_ne _ _ (by omega), zD, va_up_self])
  · by_cases b : i = 2
    · rw [b]
      exact Or.inl (by rw [va_up_self, va_up_self])
    · exact Or.inr (by omega)
theorem vW_0 {T : Nat → Nat} {n d : Nat} : vW T n (zD d) 0 = 0 := by
  unfold vW
  rw [gW_lo (by omega), va_up_ne _ _ (by omega), zD, va_up_ne _ _ (by omega)]
  rfl
def vNew (T : Nat → Nat) (n : Nat) (L : Nat → Nat) : Nat → Nat := fun i => if i < 24 then vW T n (zD (L 1)) i else if i = 24 then (vC T n zF).2.2.1 else if i < 40 then (vC T n zF).2.2.2 i else 0
def valL (T : Nat → Nat) (n : Nat) (L : Nat → Nat) : Nat → Nat := if vOk T n zF then vNew T n L else L
def valS (T : Nat → Nat) (n : Nat) : Int32 := if vOk T n zF then nI (vC T n zF).2.2.1 else (-20 : Int32) - nI (vP T n zF)
theorem vNew_lo {T : Nat → Nat} {n : Nat} {L : Nat → Nat} {i : Nat} (h : i < 24) : vNew T n L i = vW T n (zD (L 1)) i := if_pos h
theorem vNew_24 {T : Nat → Nat} {n : Nat} {L : Nat → Nat} : vNew T n L 24 = (vC T n zF).2.2.1 := rfl
theorem vNew_cl {T : Nat → Nat} {n : Nat} {L : Nat → Nat} {i : Nat} (h : 25 ≤ i) (h2 : i < 40) : vNew T n L i = (vC T n zF).2.2.2 i := by
  unfold vNew
  rw [if_neg (by omega), if_neg (by omega), if_pos h2]
theorem vNew_hi {T : Nat → Nat} {n : Nat} {L : Nat → Nat} {i : Nat} (h : 40 ≤ i) : vNew T n L i = 0 := by
  unfold vNew
  rw [if_neg (by omega), if_neg (by omega), if_neg (by omega)]
theorem XLand_new {g : GE} {b n m1 : Nat} {T L K1 TC : Nat → Nat} {L1 : Nat → Nat} {π : Nat → Nat} {P : Nat → Nat → Nat} {w : Nat → va_E} (hG : GAt g b (nI 0) (nI m1) (va_up L1 0 0) w) (hC : CAt g b K1 w) (hPa : PArr g b π w) (hPm : PMom g b π P w) (h : m1 = (vC T n TC).2.2.1 ∧ K1 = (vC T n TC).2.2.2 ∧ L1 = vW T n L) : XLand g b (vNew T n L) w := by
  obtain ⟨h1, h2, h3⟩ := h
  obtain ⟨e1, e2, e3, e4, e5⟩ := vC_K (T := T) (n := n) TC zF
  refine XLand_0 (n := m1) (vNew_hi (by omega)) (by rw [vNew_24, h1, e3]) (hG.congr (fun i hi => ?_)) hC (fun c hc => ?_) hPa hPm
  · rw [vNew_lo hi, h3]
    by_cases q : i = 0
    · rw [q, va_up_self, vW_0]
    · rw [va_up_ne _ _ q]
      exact vW_agree (by omega) hi
  · rw [h1] at hc
    rw [vNew_cl (by omega) (by omega), vNew_cl (by omega) (by omega), vNew_cl (by omega) (by omega), h2]
    exact e5 c hc

set_option maxHeartbeats 4000000 in
set_option maxRecDepth 100000 in
theorem c_X6_valley (l : Launch) (g : GE) (w : Nat → va_E) (L K T ln sz : Nat → Nat) (hk tn : Nat) (Z : Nat → Int64)  (hI : AdInj g) (hN : gN g = 130) (hS : OkS (L, K, hk, tn, T, ln, sz, Z)) (pr0 : XAll g (L, K, hk, tn, T, ln, sz, Z) w) : Met l yX6_valley wsX6_valley ({ frames := 6, cells := 0, slots := 0, locals := 136 } : Room) (XPc g w [.ref (gad g 0)]) (XQi g (fun r w' => XAll g (valL T tn L, K, hk, 0, T, ln, sz, Z) w' ∧ (∀ j : Nat, ¬ (0 ≤ j ∧ j < 119) → w' j = w j) ∧ r = valS T tn)) 0 0 (gA g) := by
  refine xmet (cc := cX6_valley) (maxL := 3) (ret := (some .int)) (by decide) rfl hI (Nat.le_of_ble_eq_true rfl) ?_
  intro pG eG sG mG belowG methG cG ls C hr hlk hK hW hl
  have hl : lv_has ls 3 [(0, .ref (gad g 0))] := hl
  have hinX1 : ∀ x ∈ u_ws RX1 TX1 8, x ∈ wsX6_valley := by decide +kernel
  have hinX2 : ∀ x ∈ u_ws RX2 TX2 5, x ∈ wsX6_valley := by decide +kernel
  have hinX3 : ∀ x ∈ u_ws RX3 TX3 3, x ∈ wsX6_valley := by decide +kernel
  have hinX6 : ∀ x ∈ u_ws RX6 TX6 9, x ∈ wsX6_valley := by decide +kernel
  obtain ⟨hXa, hXl, hXk, hXt, hXw, hXf, hXr, hXs⟩ := pr0
  have hXa : w 0 = cX0 g hk := hXa
  have hXl : XLand g 1 L w := hXl
  have hXk : XKept g hk K w := hXk
  have hXr : XRead g tn T w := hXr
  have hXs : XShs g ln sz Z w := hXs
  have hokL : OkL L := hS.1
  obtain ⟨hok, hs2, hdy, hdr, hcl, hkn, hcs, hps⟩ := hokL
  obtain ⟨π, P, CK, hG, hC, hCk, hPa, hPm, hPk⟩ := id hXl
  obtain ⟨tx, ty, TL, TC, hT, hTC⟩ := hXt
  have htn : tn ≤ 80 := hS.2.2.1
  have hTx : OkT T tn := hS.2.2.2.1
  obtain ⟨po, hR0, hR1⟩ := hXr
  refine lv_aload_n C.1 C.2.1 dX6_valley_0 rfl (lv_at hl 0 rfl) ?_
  refine xget C hK hW hinX6 rfl (by omega) hXa 2 (by decide) (List.mem_of_getElem? (i := 1) rfl) rfl dX6_valley_1 ?_
  refine lv_aload_n C.1 C.2.1 dX6_valley_4 rfl (lv_at hl 0 rfl) ?_
  refine xget C hK hW hinX6 rfl (by omega) hXa 0 (by decide) (List.mem_of_getElem? (i := 2) rfl) rfl dX6_valley_5 ?_
  refine xcV_v (n := 1) (As := [.ref (gad g 1)]) C hK hW (c_X1_takeGround l g w 67 1 tx ty (nI (L 40)) (nI (L 24)) TL L hI hN (by omega) (by omega) (by omega) hT hG) gX6_valley_X1_takeGround rfl ⟨rfl, rfl⟩ (by decide +kernel) ⟨Nat.le_of_ble_eq_true rfl, Nat.le_of_ble_eq_true rfl⟩ ⟨Nat.zero_le _, Nat.zero_le _⟩ rfl (by omega) hT.1 rfl hl rfl (Nat.le_of_ble_eq_true rfl) dX6_valley_8 (fun w1 H locs q2 hW => ?_)
  obtain ⟨h4, f5⟩ := q2
  refine lv_aload_n C.1 C.2.1 dX6_valley_11 rfl (lv_at hl 0 rfl) ?_
  have h6 : w1 0 = .inr (6, [.ref (gad g 1), .ref (gad g 34), .ref (gad g 67), .ref (gad g 100), .ref (gad g 106), .ref (gad g 107), .ref (gad g 108), .ref (gad g 110), .int (nI hk)]) := ((f5 0 (by omega)).trans hXa)
  refine xget C hK hW hinX6 rfl (by omega) h6 6 (by decide) (List.mem_of_getElem? (i := 3) rfl) rfl dX6_valley_12 ?_
  refine lv_aload_n C.1 C.2.1 dX6_valley_15 rfl (lv_at hl 0 rfl) ?_
  refine xget C hK hW hinX6 rfl (by omega) h6 2 (by decide) (List.mem_of_getElem? (i := 1) rfl) rfl dX6_valley_16 ?_
  have h7 : w1 108 = .inr (3, [.ref (gad g 109), .int (nI tn), .int (nI po)]) := ((f5 108 (by omega)).trans hR0)
  have h8 : w1 109 = .inl (gI g, 80, .inl (cK 80 0 T)) := ((f5 109 (by omega)).trans hR1)
  have h9 : CAt g 67 TC w1 := (CAt.fr hTC (fun j h1 h2 => f5 j (by omega)))
  refine xcV_i (n := 1) (As := [.ref (gad g 67)]) C hK hW (c_X3_readValley l g w1 tn po tx ty T L TC hI hN htn hTx h7 h8 h4 h9) gX6_valley_X3_readValley rfl ⟨rfl, rfl⟩ (by decide +kernel) ⟨Nat.le_of_ble_eq_true rfl, Nat.le_of_ble_eq_true rfl⟩ ⟨Nat.zero_le _, Nat.zero_le _⟩ rfl (by omega) h7 rfl hl rfl (Nat.le_of_ble_eq_true rfl) dX6_valley_19 (fun r12 w10 H locs q11 hW => ?_)
  obtain ⟨m1_18, L1_19, K1_20, h13, h14, h15, f16, x17, rfl⟩ := q11
  refine lv_istore_n (lv' := [(1, .int (bI (vOk T tn TC))), (0, .ref (gad g 0))]) C.1 C.2.1 dX6_valley_22 rfl hl (by decide) rfl (fun ls hl => ?_)
  refine lv_bipush (v := (-20 : Int32)) C.1 C.2.1 dX6_valley_23 (by decide) ?_
  refine lv_aload_n C.1 C.2.1 dX6_valley_25 rfl (lv_at hl 1 rfl) ?_
  have h21 : w10 0 = .inr (6, [.ref (gad g 1), .ref (gad g 34), .ref (gad g 67), .ref (gad g 100), .ref (gad g 106), .ref (gad g 107), .ref (gad g 108), .ref (gad g 110), .int (nI hk)]) := ((f16 0 (by omega) (by omega) (by omega)).trans h6)
  refine xget C hK hW hinX6 rfl (by omega) h21 6 (by decide) (List.mem_of_getElem? (i := 3) rfl) rfl dX6_valley_26 ?_
  refine xget C hK hW hinX3 rfl (by omega) h13 2 (by decide) (List.mem_of_getElem? (i := 4) rfl) rfl dX6_valley_29 ?_
  refine lv_isub C.1 C.2.1 dX6_valley_32 ?_
  refine lv_istore_n (lv' := [(2, .int ((-20 : Int32) - (nI (vP T tn TC)))), (1, .int (bI (vOk T tn TC))), (0, .ref (gad g 0))]) C.1 C.2.1 dX6_valley_33 rfl hl (by decide) rfl (fun ls hl => ?_)
  refine lv_aload_n C.1 C.2.1 dX6_valley_34 rfl (lv_at hl 2 rfl) ?_
  refine xget C hK hW hinX6 rfl (by omega) h21 6 (by decide) (List.mem_of_getElem? (i := 3) rfl) rfl dX6_valley_35 ?_
  refine xcV_v (n := 0) (As := []) C hK hW (c_X3_clear l g w10 tn (vP T tn TC) hI hN h13) gX6_valley_X3_clear rfl ⟨rfl, rfl⟩ (by decide +kernel) ⟨Nat.le_of_ble_eq_true rfl, Nat.le_of_ble_eq_true rfl⟩ ⟨Nat.zero_le _, Nat.zero_le _⟩ rfl (by omega) h13 rfl hl rfl (Nat.le_of_ble_eq_true rfl) dX6_valley_38 (fun w22 H locs q23 hW => ?_)
  obtain ⟨h25, f26⟩ := q23
  refine lv_iload_n C.1 C.2.1 dX6_valley_41 rfl (lv_at hl 1 rfl) ?_
  refine xBne (tgt := 47) C dX6_valley_42 (by decide) (fun c42 => ?_) (fun c42 => ?_)
  · refine lv_aload_n C.1 C.2.1 dX6_valley_47 rfl (lv_at hl 2 rfl) ?_
    have h27 : w22 0 = .inr (6, [.ref (gad g 1), .ref (gad g 34), .ref (gad g 67), .ref (gad g 100), .ref (gad g 106), .ref (gad g 107), .ref (gad g 108), .ref (gad g 110), .int (nI hk)]) := ((f26 0 (by omega)).trans h21)
    refine xget C hK hW hinX6 rfl (by omega) h27 0 (by decide) (List.mem_of_getElem? (i := 2) rfl) rfl dX6_valley_48 ?_
    refine lv_aload_n C.1 C.2.1 dX6_valley_51 rfl (lv_at hl 2 rfl) ?_
    refine xget C hK hW hinX6 rfl (by omega) h27 2 (by decide) (List.mem_of_getElem? (i := 1) rfl) rfl dX6_valley_52 ?_
    have h28 : GAt g 1 (nI (L 40)) (nI (L 24)) L w22 := (GAt.fr (GAt.fr (GAt.fr hG (fun j h1 h2 => f5 j (by omega))) (fun j h1 h2 => f16 j (by omega) (by omega) (by omega))) (fun j h1 h2 => f26 j (by omega)))
    have h29 : GAt g 67 tx (nI m1_18) L1_19 w22 := (GAt.fr h14 (fun j h1 h2 => f26 j (by omega)))
    refine xcV_v (n := 1) (As := [.ref (gad g 67)]) C hK hW (c_X1_takeGround l g w22 1 67 (nI (L 40)) (nI (L 24)) tx (nI m1_18) L L1_19 hI hN (by omega) (by omega) (by omega) h28 h29) gX6_valley_X1_takeGround rfl ⟨rfl, rfl⟩ (by decide +kernel) ⟨Nat.le_of_ble_eq_true rfl, Nat.le_of_ble_eq_true rfl⟩ ⟨Nat.zero_le _, Nat.zero_le _⟩ rfl (by omega) h28.1 rfl hl rfl (Nat.le_of_ble_eq_true rfl) dX6_valley_55 (fun w30 H locs q31 hW => ?_)
    obtain ⟨h33, f34⟩ := q31
    refine lv_aload_n C.1 C.2.1 dX6_valley_58 rfl (lv_at hl 2 rfl) ?_
    have h35 : w30 0 = .inr (6, [.ref (gad g 1), .ref (gad g 34), .ref (gad g 67), .ref (gad g 100), .ref (gad g 106), .ref (gad g 107), .ref (gad g 108), .ref (gad g 110), .int (nI hk)]) := ((f34 0 (by omega)).trans h27)
    refine xget C hK hW hinX6 rfl (by omega) h35 0 (by decide) (List.mem_of_getElem? (i := 2) rfl) rfl dX6_valley_59 ?_
    refine lv_aload_n C.1 C.2.1 dX6_valley_62 rfl (lv_at hl 2 rfl) ?_
    refine xget C hK hW hinX6 rfl (by omega) h35 2 (by decide) (List.mem_of_getElem? (i := 1) rfl) rfl dX6_valley_63 ?_
    have h36 : CAt g 1 CK w30 := (CAt.fr (CAt.fr (CAt.fr (CAt.fr hC (fun j h1 h2 => f5 j (by omega))) (fun j h1 h2 => f16 j (by omega) (by omega) (by omega))) (fun j h1 h2 => f26 j (by omega))) (fun j h1 h2 => f34 j (by omega)))
    have h37 : GAt g 67 tx (nI m1_18) L1_19 w30 := (GAt.fr h29 (fun j h1 h2 => f34 j (by omega)))
    have h38 : CAt g 67 K1_20 w30 := (CAt.fr (CAt.fr h15 (fun j h1 h2 => f26 j (by omega))) (fun j h1 h2 => f34 j (by omega)))
    refine xcV_v (n := 1) (As := [.ref (gad g 67)]) C hK hW (c_X1_takeClaims l g w30 1 67 (nI (L 40)) (nI (L 24)) tx (nI m1_18) L1_19 L1_19 CK K1_20 hI hN (by omega) (by omega) (by omega) h33 h36 h37 h38) gX6_valley_X1_takeClaims rfl ⟨rfl, rfl⟩ (by decide +kernel) ⟨Nat.le_of_ble_eq_true rfl, Nat.le_of_ble_eq_true rfl⟩ ⟨Nat.zero_le _, Nat.zero_le _⟩ rfl (by omega) h33.1 rfl hl rfl (Nat.le_of_ble_eq_true rfl) dX6_valley_66 (fun w39 H locs q40 hW => ?_)
    obtain ⟨h42, h43, f44⟩ := q40
    refine lv_aload_n C.1 C.2.1 dX6_valley_69 rfl (lv_at hl 2 rfl) ?_
    have h45 : w39 0 = .inr (6, [.ref (gad g 1), .ref (gad g 34), .ref (gad g 67), .ref (gad g 100), .ref (gad g 106), .ref (gad g 107), .ref (gad g 108), .ref (gad g 110), .int (nI hk)]) := ((f44 0 (by omega) (by omega)).trans h35)
    refine xget C hK hW hinX6 rfl (by omega) h45 0 (by decide) (List.mem_of_getElem? (i := 2) rfl) rfl dX6_valley_70 ?_
    refine xget C hK hW hinX1 rfl (by omega) h42.1 1 (by decide) (List.mem_of_getElem? (i := 5) rfl) rfl dX6_valley_73 ?_
    refine lv_iconst (v := (nI 0)) C.1 C.2.1 dX6_valley_76 (by decide) ?_
    refine xput (v := .int (nI 0)) C hK hW hinX2 tyX2_ok nmX2 rfl (by omega) h42.2.2.1 1 (by decide) (List.mem_of_getElem? (i := 6) rfl) rfl rfl rfl (Nat.le_of_ble_eq_true rfl) dX6_valley_77 (fun w46 H locs e47 f48 hW => ?_)
    have h49 : GAt g 1 (nI (L 40)) (nI m1_18) (va_up L1_19 0 0) w46 := GAt_day h42 e47 f48
    refine lv_aload_n C.1 C.2.1 dX6_valley_80 rfl (lv_at hl 2 rfl) ?_
    have h50 : w46 0 = .inr (6, [.ref (gad g 1), .ref (gad g 34), .ref (gad g 67), .ref (gad g 100), .ref (gad g 106), .ref (gad g 107), .ref (gad g 108), .ref (gad g 110), .int (nI hk)]) := ((f48 0 (by omega)).trans h45)
    refine xget C hK hW hinX6 rfl (by omega) h50 0 (by decide) (List.mem_of_getElem? (i := 2) rfl) rfl dX6_valley_81 ?_
    refine xcV_v (n := 0) (As := []) C hK hW (c_X1_forget l g w46 1 (nI (L 40)) (nI m1_18) (va_up L1_19 0 0) hI hN (by omega) h49) gX6_valley_X1_forget rfl ⟨rfl, rfl⟩ (by decide +kernel) ⟨Nat.le_of_ble_eq_true rfl, Nat.le_of_ble_eq_true rfl⟩ ⟨Nat.zero_le _, Nat.zero_le _⟩ rfl (by omega) h49.1 rfl hl rfl (Nat.le_of_ble_eq_true rfl) dX6_valley_84 (fun w51 H locs q52 hW => ?_)
    obtain ⟨h54, f55⟩ := q52
    refine lv_aload_n C.1 C.2.1 dX6_valley_87 rfl (lv_at hl 2 rfl) ?_
    have h56 : w51 0 = .inr (6, [.ref (gad g 1), .ref (gad g 34), .ref (gad g 67), .ref (gad g 100), .ref (gad g 106), .ref (gad g 107), .ref (gad g 108), .ref (gad g 110), .int (nI hk)]) := ((f55 0 (by omega)).trans h50)
    refine xget C hK hW hinX6 rfl (by omega) h56 0 (by decide) (List.mem_of_getElem? (i := 2) rfl) rfl dX6_valley_88 ?_
    refine xget C hK hW hinX1 rfl (by omega) h54.1 7 (by decide) (List.mem_of_getElem? (i := 7) rfl) rfl dX6_valley_91 ?_
    have h57 : w51 108 = .inr (3, [.ref (gad g 109), .int (nI 0), .int (nI (vP T tn TC))]) := ((f55 108 (by omega)).trans ((f48 108 (by omega)).trans ((f44 108 (by omega) (by omega)).trans ((f34 108 (by omega)).trans h25))))
    have h58 : w51 109 = .inl (gI g, 80, .inl (cK 80 0 T)) := ((f55 109 (by omega)).trans ((f48 109 (by omega)).trans ((f44 109 (by omega) (by omega)).trans ((f34 109 (by omega)).trans ((f26 109 (by omega)).trans ((f16 109 (by omega) (by omega) (by omega)).trans h8))))))
    have h59 : CAt g 1 K1_20 w51 := (CAt.fr (CAt.fr h43 (fun j h1 h2 => f48 j (by omega))) (fun j h1 h2 => f55 j (by omega)))
    have h60 : PArr g 1 π w51 := (PArr.fr (PArr.fr (PArr.fr (PArr.fr (PArr.fr (PArr.fr (PArr.fr hPa (fun j h1 h2 => f5 j (by omega))) (fun j h1 h2 => f16 j (by omega) (by omega) (by omega))) (fun j h1 h2 => f26 j (by omega))) (fun j h1 h2 => f34 j (by omega))) (fun j h1 h2 => f44 j (by omega) (by omega))) (fun j h1 h2 => f48 j (by omega))) (fun j h1 h2 => f55 j (by omega)))
    have h61 : PMom g 1 π P w51 := (PMom.fr (PMom.fr (PMom.fr (PMom.fr (PMom.fr (PMom.fr (PMom.fr hPm (fun j h1 h2 => f5 j (by omega))) (fun j h1 h2 => f16 j (by omega) (by omega) (by omega))) (fun j h1 h2 => f26 j (by omega))) (fun j h1 h2 => f34 j (by omega))) (fun j h1 h2 => f44 j (by omega) (by omega))) (fun j h1 h2 => f48 j (by omega))) (fun j h1 h2 => f55 j (by omega)))
    have hyes : vOk T tn zF := vOk_K c42
    have h62 : XKept g hk K w51 := (XKept.fr (XKept.fr (XKept.fr (XKept.fr (XKept.fr (XKept.fr (XKept.fr hXk (fun j h1 h2 => f5 j (by omega))) (fun j h1 h2 => f16 j (by omega) (by omega) (by omega))) (fun j h1 h2 => f26 j (by omega))) (fun j h1 h2 => f34 j (by omega))) (fun j h1 h2 => f44 j (by omega) (by omega))) (fun j h1 h2 => f48 j (by omega))) (fun j h1 h2 => f55 j (by omega)))
    have h63 : GAt g 67 tx (nI m1_18) L1_19 w51 := (GAt.fr (GAt.fr (GAt.fr h37 (fun j h1 h2 => f44 j (by omega) (by omega))) (fun j h1 h2 => f48 j (by omega))) (fun j h1 h2 => f55 j (by omega)))
    have h64 : CAt g 67 K1_20 w51 := (CAt.fr (CAt.fr (CAt.fr h38 (fun j h1 h2 => f44 j (by omega) (by omega))) (fun j h1 h2 => f48 j (by omega))) (fun j h1 h2 => f55 j (by omega)))
    have h65 : XWays g  w51 := (XWays.fr (XWays.fr (XWays.fr (XWays.fr (XWays.fr (XWays.fr (XWays.fr hXw (fun j h1 h2 => f5 j (by omega))) (fun j h1 h2 => f16 j (by omega) (by omega) (by omega))) (fun j h1 h2 => f26 j (by omega))) (fun j h1 h2 => f34 j (by omega))) (fun j h1 h2 => f44 j (by omega) (by omega))) (fun j h1 h2 => f48 j (by omega))) (fun j h1 h2 => f55 j (by omega)))
    have h66 : XFr g  w51 := (XFr.fr (XFr.fr (XFr.fr (XFr.fr (XFr.fr (XFr.fr (XFr.fr hXf (fun j h1 h2 => f5 j (by omega))) (fun j h1 h2 => f16 j (by omega) (by omega) (by omega))) (fun j h1 h2 => f26 j (by omega))) (fun j h1 h2 => f34 j (by omega))) (fun j h1 h2 => f44 j (by omega) (by omega))) (fun j h1 h2 => f48 j (by omega))) (fun j h1 h2 => f55 j (by omega)))
    have h67 : XShs g ln sz Z w51 := (XShs.fr (XShs.fr (XShs.fr (XShs.fr (XShs.fr (XShs.fr (XShs.fr hXs (fun j h1 h2 => f5 j (by omega))) (fun j h1 h2 => f16 j (by omega) (by omega) (by omega))) (fun j h1 h2 => f26 j (by omega))) (fun j h1 h2 => f34 j (by omega))) (fun j h1 h2 => f44 j (by omega) (by omega))) (fun j h1 h2 => f48 j (by omega))) (fun j h1 h2 => f55 j (by omega)))
    exact xret_i C hr hlk hW ⟨⟨h56, (by rw [valL, if_pos hyes]; exact XLand_new h54 h59 h60 h61 (x17 c42)), h62, ⟨_, _, _, _, h63, h64⟩, h65, h66, ⟨_, h57, h58⟩, h67⟩, (fun j z0 => ((f55 j (by omega)).trans ((f48 j (by omega)).trans ((f44 j (by omega) (by omega)).trans ((f34 j (by omega)).trans ((f26 j (by omega)).trans ((f16 j (by omega) (by omega) (by omega)).trans (f5 j (by omega))))))))), (by rw [valS, if_pos hyes, (x17 c42).1, (vC_K TC zF).2.2.1])⟩ dX6_valley_94
  · refine lv_iload_n C.1 C.2.1 dX6_valley_45 rfl (lv_at hl 0 rfl) ?_
    have h68 : w22 109 = .inl (gI g, 80, .inl (cK 80 0 T)) := ((f26 109 (by omega)).trans ((f16 109 (by omega) (by omega) (by omega)).trans h8))
    have h69 : GAt g 1 (nI (L 40)) (nI (L 24)) L w22 := (GAt.fr (GAt.fr (GAt.fr hG (fun j h1 h2 => f5 j (by omega))) (fun j h1 h2 => f16 j (by omega) (by omega) (by omega))) (fun j h1 h2 => f26 j (by omega)))
    have h70 : CAt g 1 CK w22 := (CAt.fr (CAt.fr (CAt.fr hC (fun j h1 h2 => f5 j (by omega))) (fun j h1 h2 => f16 j (by omega) (by omega) (by omega))) (fun j h1 h2 => f26 j (by omega)))
    have h71 : PArr g 1 π w22 := (PArr.fr (PArr.fr (PArr.fr hPa (fun j h1 h2 => f5 j (by omega))) (fun j h1 h2 => f16 j (by omega) (by omega) (by omega))) (fun j h1 h2 => f26 j (by omega)))
    have h72 : PMom g 1 π P w22 := (PMom.fr (PMom.fr (PMom.fr hPm (fun j h1 h2 => f5 j (by omega))) (fun j h1 h2 => f16 j (by omega) (by omega) (by omega))) (fun j h1 h2 => f26 j (by omega)))
    have hno : ¬ vOk T tn zF := fun z => c42 (vOk_K z)
    have h73 : w22 0 = .inr (6, [.ref (gad g 1), .ref (gad g 34), .ref (gad g 67), .ref (gad g 100), .ref (gad g 106), .ref (gad g 107), .ref (gad g 108), .ref (gad g 110), .int (nI hk)]) := ((f26 0 (by omega)).trans h21)
    have h74 : XKept g hk K w22 := (XKept.fr (XKept.fr (XKept.fr hXk (fun j h1 h2 => f5 j (by omega))) (fun j h1 h2 => f16 j (by omega) (by omega) (by omega))) (fun j h1 h2 => f26 j (by omega)))
    have h75 : GAt g 67 tx (nI m1_18) L1_19 w22 := (GAt.fr h14 (fun j h1 h2 => f26 j (by omega)))
    have h76 : CAt g 67 K1_20 w22 := (CAt.fr h15 (fun j h1 h2 => f26 j (by omega)))
    have h77 : XWays g  w22 := (XWays.fr (XWays.fr (XWays.fr hXw (fun j h1 h2 => f5 j (by omega))) (fun j h1 h2 => f16 j (by omega) (by omega) (by omega))) (fun j h1 h2 => f26 j (by omega)))
    have h78 : XFr g  w22 := (XFr.fr (XFr.fr (XFr.fr hXf (fun j h1 h2 => f5 j (by omega))) (fun j h1 h2 => f16 j (by omega) (by omega) (by omega))) (fun j h1 h2 => f26 j (by omega)))
    have h79 : XShs g ln sz Z w22 := (XShs.fr (XShs.fr (XShs.fr hXs (fun j h1 h2 => f5 j (by omega))) (fun j h1 h2 => f16 j (by omega) (by omega) (by omega))) (fun j h1 h2 => f26 j (by omega)))
    exact xret_i C hr hlk hW ⟨⟨h73, (by rw [valL, if_neg hno]; exact ⟨π, P, CK, h69, h70, hCk, h71, h72, hPk⟩), h74, ⟨_, _, _, _, h75, h76⟩, h77, h78, ⟨_, h25, h68⟩, h79⟩, (fun j z0 => ((f26 j (by omega)).trans ((f16 j (by omega) (by omega) (by omega)).trans (f5 j (by omega))))), (by rw [valS, if_neg hno, vP_K zF TC])⟩ dX6_valley_46
