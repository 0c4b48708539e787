/-! the reference: a way seen -/
section XNR2
variable {p : Program} {l : Launch} {e : Env} {R : Room} {s : State} {m : MethodId} {args : Array Value} {below : List Frame} {meth : Method} {c : Code} {H : Heap} {locs : List Loc} {cells slots : Nat} {Q : State → Prop}
variable {cc : ByteArray} {nL pc : Nat} {ls : Array Slot} {rest : List Value} {Ts : List Cond} {own : String}
theorem xLne (C : CallFix p m c cc nL s args Ts own) {a b : Nat} {off : Int} {tgt : Nat} (ha : a < 2 ^ 63) (hb : b < 2 ^ 63) (hd0 : decode cc pc = .ok (.lcmp, 1)) (hdg : decode cc (pc + 1) = .ok (.ifCond .ne off, 3)) (ht : ((pc + 1 : Nat) : Int) + off = (tgt : Int)) (kt : ¬ a = b → W p l e R s m args below meth c H locs cells slots Q (F0 m tgt ls rest)) (kf : a = b → W p l e R s m args below meth c H locs cells slots Q (F0 m (pc + 1 + 3) ls rest)) : W p l e R s m args below meth c H locs cells slots Q (F0 m pc ls (.long (lN b) :: .long (lN a) :: rest)) :=
  xRne C hd0 hdg ht (fun h => kt (fun q => h (by rw [q]))) (fun h => kf ((pk_lEQ ha hb).mp h))
end XNR2
theorem pred_eqL {y f : Nat} (hy : y < 7) (hf : f < 7) : lN y = (nI f - nI 1).toInt64 ↔ y + 1 = f := by
  have hz : ∀ f, f < 7 → ∀ y, y < 7 → (lN y = (nI f - nI 1).toInt64 ↔ y + 1 = f) := by decide
  exact hz f hf y hy
theorem fld_in {v : Int64} (h : ¬ v < lN 0 ∧ ¬ lN 6 < v) : ∃ y, y < 7 ∧ v = lN y := by
  obtain ⟨y, hy, rfl⟩ := pk_lOf h.1
  rw [pk_lLT (by omega) hy] at h
  exact ⟨y, by omega, rfl⟩
theorem fldX_N {y : Nat} (hy : y < 7) : fldX (lN y) = nI y := ((fld_eq hy).mp rfl).symm
theorem in6_N {y : Nat} (hy : y < 7) : in6 (nI y) := (inR_nn (by omega) (by decide) (by decide)).mpr ⟨by omega, by omega⟩
theorem way_step {on bk : Nat → Nat} {x : Int32} {q : Nat → Int64} {d b f y wt : Nat} (hb : b = wgA on bk 10 x q d) (hfr : b = 0 ∨ nI f = frA x q d) (hf : f < 7) (hy : y < 7) (hq : q d = lN y) (hw : wtN on bk 10 f y = wt) : b * wt = wgA on bk 10 x q (d + 1) := by
  show b * wt = wgA on bk 10 x q d * wtI on bk 10 (frA x q d) (fldX (q d))
  rw [← hb]
  rcases hfr with h | h
  · rw [h, Nat.zero_mul, Nat.zero_mul]
  · rw [← h, hq, fldX_N hy, wtI, if_pos ⟨in6_N hf, in6_N hy⟩, cl_nI (by omega), cl_nI (by omega), hw]
theorem way_no {on bk : Nat → Nat} {x : Int32} {q : Nat → Int64} {d : Nat} (h : ¬ (¬ q d < lN 0 ∧ ¬ lN 6 < q d)) : 0 = wgA on bk 10 x q (d + 1) := by
  show 0 = wgA on bk 10 x q d * wtI on bk 10 (frA x q d) (fldX (q d))
  have e : fldX (q d) = -1 := if_neg h
  have hz : ¬ in6 (-1 : Int32) := by decide
  rw [e, wtI, if_neg (fun z => hz z.2), Nat.mul_zero]
/-- the last k of n from i on taken over -/
def dnZ (o0 o1 a b n k : Nat) (Z : Nat → Int64) : Nat → Int64 := fun t => if o1 + b + (n - k) ≤ t ∧ t < o1 + b + n then Z (o0 + a + (t - (o1 + b))) else Z t
theorem cpZ_0 {o0 o1 a b : Nat} {F Z : Nat → Int64} : cpZ o0 o1 a b 0 F Z = Z := by
  funext t
  exact if_neg (by omega)
theorem dnZ_0 {o0 o1 a b n : Nat} {Z : Nat → Int64} : dnZ o0 o1 a b n 0 Z = Z := by
  funext t
  exact if_neg (by omega)
theorem dnZ_all {o0 o1 a b n : Nat} {Z : Nat → Int64} : dnZ o0 o1 a b n n Z = cpZ o0 o1 a b n Z Z := by
  unfold dnZ cpZ
  rw [Nat.sub_self, Nat.add_zero]
theorem cpZ_up {o0 o1 a b k : Nat} {F Z : Nat → Int64} : cpZ o0 o1 a b (k + 1) F Z = va_up (cpZ o0 o1 a b k F Z) (o1 + b + k) (F (o0 + a + k)) := by
  funext t
  by_cases h : t = o1 + b + k
  · rw [h, va_up_self]
    refine (if_pos (by omega)).trans ?_
    rw [show o1 + b + k - (o1 + b) = k by omega]
  · rw [va_up_ne _ _ h]
    unfold cpZ
    by_cases q : o1 + b ≤ t ∧ t < o1 + b + k
    · rw [if_pos q, if_pos (by omega)]
    · rw [if_neg q, if_neg (by omega)]
theorem dnZ_up {o0 o1 a b n k : Nat} {Z : Nat → Int64} (hk : k < n) : dnZ o0 o1 a b n (k + 1) Z = va_up (dnZ o0 o1 a b n k Z) (o1 + b + (n - 1 - k)) (Z (o0 + a + (n - 1 - k))) := by
  funext t
  by_cases h : t = o1 + b + (n - 1 - k)
  · rw [h, va_up_self]
    refine (if_pos (by omega)).trans ?_
    rw [show o1 + b + (n - 1 - k) - (o1 + b) = n - 1 - k by omega]
  · rw [va_up_ne _ _ h]
    unfold dnZ
    by_cases q : o1 + b + (n - k) ≤ t ∧ t < o1 + b + n
    · rw [if_pos q, if_pos (by omega)]
    · rw [if_neg q, if_neg (by omega)]
theorem cpZ_read {o0 o1 a b k t : Nat} {F Z : Nat → Int64} (h : ¬ (o1 + b ≤ t ∧ t < o1 + b + k)) : cpZ o0 o1 a b k F Z t = Z t := if_neg h
theorem dnZ_read {o0 o1 a b n k t : Nat} {Z : Nat → Int64} (h : ¬ (o1 + b + (n - k) ≤ t ∧ t < o1 + b + n)) : dnZ o0 o1 a b n k Z t = Z t := if_neg h
theorem dnZ_end {o0 o1 a b n k : Nat} {Z : Nat → Int64} (h : k = n) : dnZ o0 o1 a b n k Z = cpZ o0 o1 a b n Z Z := by
  rw [h, dnZ_all]
theorem cpZ_end {o0 o1 a b n k : Nat} {F Z : Nat → Int64} (h : k = n) : cpZ o0 o1 a b k F Z = cpZ o0 o1 a b n F Z := by
  rw [h]

set_option maxHeartbeats 4000000 in
set_option maxRecDepth 100000 in
theorem c_X7_wayOdds (l : Launch) (g : GE) (w : Nat → va_E) (f0 k i n hk tn po : Nat) (nu : Int32) (ao mu md bu bd : Nat) (L : Nat → Nat) (Z : Nat → Int64) (hI : AdInj g) (hN : gN g = 130) (hf0 : f0 < 7) (hk4 : k < 4) (hin : i + n ≤ 24) (hok : Okg L) (pr0 : w 119 = .inr (7, [.ref (gad g 120), .ref (gad g 121), .ref (gad g 122), .int (nI tn), .ref (gad g 123), .int (nI po), .int nu, .ref (gad g 124), .ref (gad g 125), .ref (gad g 126), .ref (gad g 127), .int (nI hk), .ref (gad g 128), .ref (gad g 129), .long (lN ao), .long (lN mu), .long (lN md), .long (lN bu), .long (lN bd)])) (pr1 : w 122 = .inl (gJ g, 96, .inr (.inl (kK 0 96 0 Z)))) (pr2 : w 124 = .inl (gI g, 177, .inl (cK 177 0 L))) : Met l yX7_wayOdds wsX7_wayOdds ({ frames := 2, cells := 0, slots := 0, locals := 46 } : Room) (XPc g w [.ref (gad g 119), .int (nI f0), .int (nI k), .int (nI i), .int (nI n)]) (XQl g (fun r w' => w' = w ∧ r = (lN (waW L (seq8 Z (24 * k) i) n f0)))) 0 0 (gA g) := by
  refine xmet (cc := cX7_wayOdds) (maxL := 14) (ret := (some .long)) (by decide) rfl hI (Nat.le_of_ble_eq_true rfl) ?_
  intro pG eG sG mG belowG methG cG ls C hr hlk hK hW hl
  have hl : lv_has ls 14 [(0, .ref (gad g 119)), (1, .int (nI f0)), (2, .int (nI k)), (3, .int (nI i)), (4, .int (nI n))] := hl
  have hinX7 : ∀ x ∈ u_ws RX7 TX7 19, x ∈ wsX7_wayOdds := by decide +kernel
  refine lv_lconst (v := lN 1) C.1 C.2.1 dX7_wayOdds_0 (by decide) ?_
  refine lv_lstore (lv' := [(5, .long (lN 1)), (0, .ref (gad g 119)), (1, .int (nI f0)), (2, .int (nI k)), (3, .int (nI i)), (4, .int (nI n))]) C.1 C.2.1 dX7_wayOdds_1 hl (by decide) rfl (fun ls hl => ?_)
  refine lv_iload_n C.1 C.2.1 dX7_wayOdds_3 rfl (lv_at hl 2 rfl) ?_
  refine lv_istore (lv' := [(7, .int (nI f0)), (5, .long (lN 1)), (0, .ref (gad g 119)), (1, .int (nI f0)), (2, .int (nI k)), (3, .int (nI i)), (4, .int (nI n))]) C.1 C.2.1 dX7_wayOdds_4 hl (by decide) rfl (fun ls hl => ?_)
  refine lv_iconst (v := (nI 0)) C.1 C.2.1 dX7_wayOdds_6 (by decide) ?_
  refine lv_istore (lv' := [(8, .int (nI 0)), (7, .int (nI f0)), (5, .long (lN 1)), (0, .ref (gad g 119)), (1, .int (nI f0)), (2, .int (nI k)), (3, .int (nI i)), (4, .int (nI n))]) C.1 C.2.1 dX7_wayOdds_7 hl (by decide) rfl (fun ls hl => ?_)
  have loop9 : ∀ (kG : Nat) (d f b : Nat) (H : Heap) (locs : List Loc) (ls : Array Slot), kG = n - d → (d ≤ n) → (f < 7) → (b = wgA (onF L) (backF L) 10 (nI f0) (seq8 Z (24 * k) i) d) → (b = 0 ∨ nI f = frA (nI f0) (seq8 Z (24 * k) i) d) → XW g w (gA g) sG.heap H locs → lv_has ls 14 [(8, .int (nI d)), (7, .int (nI f)), (5, .long (lN b)), (0, .ref (gad g 119)), (2, .int (nI k)), (3, .int (nI i)), (4, .int (nI n))] → W pG l eG ({ frames := 2, cells := 0, slots := 0, locals := 46 } : Room) sG mG ([.ref (gad g 119), .int (nI f0), .int (nI k), .int (nI i), .int (nI n)] : List Value).toArray belowG methG cG H locs 0 0 (MQ belowG (XQl g (fun r w' => w' = w ∧ r = (lN (waW L (seq8 Z (24 * k) i) n f0)))) ([.ref (gad g 119), .int (nI f0), .int (nI k), .int (nI i), .int (nI n)] : List Value).toArray sG 0 0 (gA g)) (F0 mG 9 ls []) := by
    intro k9
    induction k9 using Nat.strongRecOn with
    | _ k9 ih9 =>
    intro d f b H locs ls hk9 hdn hf7 hb hfr hW hl
    refine lv_iload C.1 C.2.1 dX7_wayOdds_9 (lv_at hl 0 rfl) ?_
    refine lv_iload C.1 C.2.1 dX7_wayOdds_11 (lv_at hl 6 rfl) ?_
    refine xge (tgt := 172) C (by omega) (by omega) dX7_wayOdds_13 (by decide) (fun c13 => ?_) (fun c13 => ?_)
    · refine lv_lload C.1 C.2.1 dX7_wayOdds_172 (lv_at hl 2 rfl) ?_
      exact xret_l C hr hlk hW ⟨rfl, by rw [waW, show n = d by omega, ← hb]⟩ dX7_wayOdds_174
    · refine lv_aload_n C.1 C.2.1 dX7_wayOdds_16 rfl (lv_at hl 3 rfl) ?_
      refine xget C hK hW hinX7 rfl (by omega) pr0 2 (by decide) (List.mem_of_getElem? (i := 1) rfl) rfl dX7_wayOdds_17 ?_
      refine lv_bipush (v := (nI 24)) C.1 C.2.1 dX7_wayOdds_20 (by decide) ?_
      refine lv_iload_n C.1 C.2.1 dX7_wayOdds_22 rfl (lv_at hl 4 rfl) ?_
      refine xmul C dX7_wayOdds_23 ?_
      refine lv_iload_n C.1 C.2.1 dX7_wayOdds_24 rfl (lv_at hl 5 rfl) ?_
      refine xadd C dX7_wayOdds_25 ?_
      refine lv_iload C.1 C.2.1 dX7_wayOdds_26 (lv_at hl 0 rfl) ?_
      refine xadd C dX7_wayOdds_28 ?_
      refine xlldR0 C hK hW (by omega) pr1 (by omega) (by decide) dX7_wayOdds_29 ?_
      refine xtopJ (b := Z (24 * k + (i + d))) (by rw [Nat.add_assoc]) ?_
      refine lv_lstore (lv' := [(9, .long (Z (24 * k + (i + d)))), (8, .int (nI d)), (7, .int (nI f)), (5, .long (lN b)), (0, .ref (gad g 119)), (2, .int (nI k)), (3, .int (nI i)), (4, .int (nI n))]) C.1 C.2.1 dX7_wayOdds_30 hl (by decide) rfl (fun ls hl => ?_)
      by_cases iv : ¬ Z (24 * k + (i + d)) < lN 0 ∧ ¬ lN 6 < Z (24 * k + (i + d))
      · obtain ⟨y, hy, hyv⟩ := fld_in iv
        rw [hyv] at hl
        refine lv_lload C.1 C.2.1 dX7_wayOdds_32 (lv_at hl 0 rfl) ?_
        refine lv_lconst (v := lN 0) C.1 C.2.1 dX7_wayOdds_34 (by decide) ?_
        refine xLlt (tgt := 52) C (by omega) (by omega) dX7_wayOdds_35 dX7_wayOdds_36 (by decide) (fun c35 => absurd c35 (by omega)) (fun c35 => ?_)
        refine lv_lload C.1 C.2.1 dX7_wayOdds_39 (lv_at hl 0 rfl) ?_
        refine lv_ldc2 (v := (lN 6)) C.1 C.2.1 C.2.2.2.1 (C.2.2.2.2 _ (List.mem_of_getElem? (i := 2) rfl)) dX7_wayOdds_41 ?_
        refine xLgt (tgt := 52) C (by omega) (by omega) dX7_wayOdds_44 dX7_wayOdds_45 (by decide) (fun c44 => absurd c44 (by omega)) (fun c44 => ?_)
        refine lv_iconst (v := (nI 1)) C.1 C.2.1 dX7_wayOdds_48 (by decide) ?_
        refine lv_goto (tgt := 53) C.1 C.2.1 dX7_wayOdds_49 (by decide) ?_
        refine lv_istore (lv' := [(11, .int (nI 1)), (9, .long (lN y)), (8, .int (nI d)), (7, .int (nI f)), (5, .long (lN b)), (0, .ref (gad g 119)), (2, .int (nI k)), (3, .int (nI i)), (4, .int (nI n))]) C.1 C.2.1 dX7_wayOdds_53 hl (by decide) rfl (fun ls hl => ?_)
        refine lv_aload_n C.1 C.2.1 dX7_wayOdds_55 rfl (lv_at hl 5 rfl) ?_
        refine xget C hK hW hinX7 rfl (by omega) pr0 7 (by decide) (List.mem_of_getElem? (i := 3) rfl) rfl dX7_wayOdds_56 ?_
        refine lv_iload C.1 C.2.1 dX7_wayOdds_59 (lv_at hl 3 rfl) ?_
        refine xcS_i (n := 2) (As := [.ref (gad g 124), .int (nI f)]) C hK hW (c_X7_onOf l g w 124 f L hI hN (by omega) (by omega) hok pr2) gX7_wayOdds_X7_onOf rfl ⟨rfl, rfl⟩ (by decide +kernel) ⟨Nat.le_of_ble_eq_true rfl, Nat.le_of_ble_eq_true rfl⟩ ⟨Nat.zero_le _, Nat.zero_le _⟩ rfl hl rfl (Nat.le_of_ble_eq_true rfl) dX7_wayOdds_61 (fun r3 w1 H locs q2 hW => ?_)
        obtain ⟨qw4, rfl⟩ := q2
        rw [qw4] at hW
        have hob := onF_back L f
        refine lv_istore (lv' := [(12, .int (nI (onF L f))), (11, .int (nI 1)), (9, .long (lN y)), (8, .int (nI d)), (7, .int (nI f)), (5, .long (lN b)), (0, .ref (gad g 119)), (2, .int (nI k)), (3, .int (nI i)), (4, .int (nI n))]) C.1 C.2.1 dX7_wayOdds_64 hl (by decide) rfl (fun ls hl => ?_)
        refine lv_aload_n C.1 C.2.1 dX7_wayOdds_66 rfl (lv_at hl 6 rfl) ?_
        refine xget C hK hW hinX7 rfl (by omega) pr0 7 (by decide) (List.mem_of_getElem? (i := 3) rfl) rfl dX7_wayOdds_67 ?_
        refine lv_iload C.1 C.2.1 dX7_wayOdds_70 (lv_at hl 4 rfl) ?_
        refine xcS_i (n := 2) (As := [.ref (gad g 124), .int (nI f)]) C hK hW (c_X7_backOf l g w 124 f L hI hN (by omega) (by omega) hok pr2) gX7_wayOdds_X7_backOf rfl ⟨rfl, rfl⟩ (by decide +kernel) ⟨Nat.le_of_ble_eq_true rfl, Nat.le_of_ble_eq_true rfl⟩ ⟨Nat.zero_le _, Nat.zero_le _⟩ rfl hl rfl (Nat.le_of_ble_eq_true rfl) dX7_wayOdds_72 (fun r7 w5 H locs q6 hW => ?_)
        obtain ⟨qw8, rfl⟩ := q6
        rw [qw8] at hW
        refine lv_istore (lv' := [(13, .int (nI (backF L f))), (12, .int (nI (onF L f))), (11, .int (nI 1)), (9, .long (lN y)), (8, .int (nI d)), (7, .int (nI f)), (5, .long (lN b)), (0, .ref (gad g 119)), (2, .int (nI k)), (3, .int (nI i)), (4, .int (nI n))]) C.1 C.2.1 dX7_wayOdds_75 hl (by decide) rfl (fun ls hl => ?_)
        refine lv_lload C.1 C.2.1 dX7_wayOdds_77 (lv_at hl 6 rfl) ?_
        refine lv_lload C.1 C.2.1 dX7_wayOdds_79 (lv_at hl 3 rfl) ?_
        refine lv_iload C.1 C.2.1 dX7_wayOdds_81 (lv_at hl 5 rfl) ?_
        refine lv_iconst (v := (nI 1)) C.1 C.2.1 dX7_wayOdds_83 (by decide) ?_
        refine xadd C dX7_wayOdds_84 ?_
        refine xi2l C (by omega) dX7_wayOdds_85 ?_
        refine xLne (tgt := 96) C (by omega) (by omega) dX7_wayOdds_86 dX7_wayOdds_87 (by decide) (fun c86 => ?_) (fun c86 => ?_)
        · refine lv_lload C.1 C.2.1 dX7_wayOdds_96 (lv_at hl 3 rfl) ?_
          refine lv_iload C.1 C.2.1 dX7_wayOdds_98 (lv_at hl 5 rfl) ?_
          refine lv_iconst (v := (nI 1)) C.1 C.2.1 dX7_wayOdds_100 (by decide) ?_
          refine lv_isub C.1 C.2.1 dX7_wayOdds_101 ?_
          refine lv_i2l (v := ((nI f) - (nI 1)).toInt64) C.1 C.2.1 dX7_wayOdds_102 rfl ?_
          refine xRne (tgt := 113) C dX7_wayOdds_103 dX7_wayOdds_104 (by decide) (fun c103 => ?_) (fun c103 => ?_)
          · refine lv_lload C.1 C.2.1 dX7_wayOdds_113 (lv_at hl 3 rfl) ?_
            refine lv_iload C.1 C.2.1 dX7_wayOdds_115 (lv_at hl 5 rfl) ?_
            refine xi2l C (by omega) dX7_wayOdds_117 ?_
            refine xLne (tgt := 134) C (by omega) (by omega) dX7_wayOdds_118 dX7_wayOdds_119 (by decide) (fun c118 => ?_) (fun c118 => ?_)
            · refine lv_lconst (v := lN 0) C.1 C.2.1 dX7_wayOdds_134 (by decide) ?_
              refine xlmul C dX7_wayOdds_135 ?_
              refine xtopL (b := wgA (onF L) (backF L) 10 (nI f0) (seq8 Z (24 * k) i) (d + 1)) (way_step hb hfr hf7 hy (by rw [← hyv]) (by rw [wtN, if_neg c118, if_neg c86, if_neg (fun z => c103 ((pred_eqL hy hf7).mpr z))])) ?_
              refine lv_lstore (lv' := [(5, .long (lN (wgA (onF L) (backF L) 10 (nI f0) (seq8 Z (24 * k) i) (d + 1)))), (13, .int (nI (backF L f))), (12, .int (nI (onF L f))), (11, .int (nI 1)), (9, .long (lN y)), (8, .int (nI d)), (7, .int (nI f)), (0, .ref (gad g 119)), (2, .int (nI k)), (3, .int (nI i)), (4, .int (nI n))]) C.1 C.2.1 dX7_wayOdds_136 hl (by decide) rfl (fun ls hl => ?_)
              refine lv_iload C.1 C.2.1 dX7_wayOdds_138 (lv_at hl 3 rfl) ?_
              refine x0eq (tgt := 149) C (by omega) dX7_wayOdds_140 (by decide) (fun c140 => absurd c140 (by omega)) (fun c140 => ?_)
              refine lv_lload C.1 C.2.1 dX7_wayOdds_143 (lv_at hl 4 rfl) ?_
              refine xl2i C dX7_wayOdds_145 ?_
              refine lv_goto (tgt := 151) C.1 C.2.1 dX7_wayOdds_146 (by decide) ?_
              refine lv_istore (lv' := [(7, .int (nI y)), (5, .long (lN (wgA (onF L) (backF L) 10 (nI f0) (seq8 Z (24 * k) i) (d + 1)))), (13, .int (nI (backF L f))), (12, .int (nI (onF L f))), (11, .int (nI 1)), (9, .long (lN y)), (8, .int (nI d)), (0, .ref (gad g 119)), (2, .int (nI k)), (3, .int (nI i)), (4, .int (nI n))]) C.1 C.2.1 dX7_wayOdds_151 hl (by decide) rfl (fun ls hl => ?_)
              refine lv_iload C.1 C.2.1 dX7_wayOdds_153 (lv_at hl 4 rfl) ?_
              refine x0eq (tgt := 163) C (by omega) dX7_wayOdds_155 (by decide) (fun c155 => absurd c155 (by omega)) (fun c155 => ?_)
              refine lv_lload C.1 C.2.1 dX7_wayOdds_158 (lv_at hl 1 rfl) ?_
              refine lv_goto (tgt := 164) C.1 C.2.1 dX7_wayOdds_160 (by decide) ?_
              refine lv_lstore (lv' := [(5, .long (lN (wgA (onF L) (backF L) 10 (nI f0) (seq8 Z (24 * k) i) (d + 1)))), (7, .int (nI y)), (13, .int (nI (backF L f))), (12, .int (nI (onF L f))), (11, .int (nI 1)), (9, .long (lN y)), (8, .int (nI d)), (0, .ref (gad g 119)), (2, .int (nI k)), (3, .int (nI i)), (4, .int (nI n))]) C.1 C.2.1 dX7_wayOdds_164 hl (by decide) rfl (fun ls hl => ?_)
              refine lv_iinc (v := nI (d + 1)) (lv' := [(8, .int (nI (d + 1))), (5, .long (lN (wgA (onF L) (backF L) 10 (nI f0) (seq8 Z (24 * k) i) (d + 1)))), (7, .int (nI y)), (13, .int (nI (backF L f))), (12, .int (nI (onF L f))), (11, .int (nI 1)), (9, .long (lN y)), (0, .ref (gad g 119)), (2, .int (nI k)), (3, .int (nI i)), (4, .int (nI n))]) C.1 C.2.1 dX7_wayOdds_166 hl (k := 6) rfl (nI_add _ 1) (by decide) rfl (fun ls hl => ?_)
              refine lv_goto (tgt := 9) C.1 C.2.1 dX7_wayOdds_169 (by decide) ?_
              exact ih9 (n - (d + 1)) (by omega) (d + 1) y (wgA (onF L) (backF L) 10 (nI f0) (seq8 Z (24 * k) i) (d + 1)) _ _ _ rfl (by omega) (hy) (rfl) (Or.inr (by rw [frA, ← fldX_N hy, ← hyv])) hW (lv_sub hl [0, 2, 1, 7, 8, 9, 10] rfl)
            · refine lv_bipush (v := (nI 10)) C.1 C.2.1 dX7_wayOdds_122 (by decide) ?_
              refine lv_iload C.1 C.2.1 dX7_wayOdds_124 (lv_at hl 1 rfl) ?_
              refine xsub C (by omega) dX7_wayOdds_126 ?_
              refine lv_iload C.1 C.2.1 dX7_wayOdds_127 (lv_at hl 0 rfl) ?_
              refine xsub C (by omega) dX7_wayOdds_129 ?_
              refine xi2l C (by omega) dX7_wayOdds_130 ?_
              refine lv_goto (tgt := 135) C.1 C.2.1 dX7_wayOdds_131 (by decide) ?_
              refine xlmul C dX7_wayOdds_135 ?_
              refine xtopL (b := wgA (onF L) (backF L) 10 (nI f0) (seq8 Z (24 * k) i) (d + 1)) (way_step hb hfr hf7 hy (by rw [← hyv]) (by rw [wtN, if_pos c118])) ?_
              refine lv_lstore (lv' := [(5, .long (lN (wgA (onF L) (backF L) 10 (nI f0) (seq8 Z (24 * k) i) (d + 1)))), (13, .int (nI (backF L f))), (12, .int (nI (onF L f))), (11, .int (nI 1)), (9, .long (lN y)), (8, .int (nI d)), (7, .int (nI f)), (0, .ref (gad g 119)), (2, .int (nI k)), (3, .int (nI i)), (4, .int (nI n))]) C.1 C.2.1 dX7_wayOdds_136 hl (by decide) rfl (fun ls hl => ?_)
              refine lv_iload C.1 C.2.1 dX7_wayOdds_138 (lv_at hl 3 rfl) ?_
              refine x0eq (tgt := 149) C (by omega) dX7_wayOdds_140 (by decide) (fun c140 => absurd c140 (by omega)) (fun c140 => ?_)
              refine lv_lload C.1 C.2.1 dX7_wayOdds_143 (lv_at hl 4 rfl) ?_
              refine xl2i C dX7_wayOdds_145 ?_
              refine lv_goto (tgt := 151) C.1 C.2.1 dX7_wayOdds_146 (by decide) ?_
              refine lv_istore (lv' := [(7, .int (nI y)), (5, .long (lN (wgA (onF L) (backF L) 10 (nI f0) (seq8 Z (24 * k) i) (d + 1)))), (13, .int (nI (backF L f))), (12, .int (nI (onF L f))), (11, .int (nI 1)), (9, .long (lN y)), (8, .int (nI d)), (0, .ref (gad g 119)), (2, .int (nI k)), (3, .int (nI i)), (4, .int (nI n))]) C.1 C.2.1 dX7_wayOdds_151 hl (by decide) rfl (fun ls hl => ?_)
              refine lv_iload C.1 C.2.1 dX7_wayOdds_153 (lv_at hl 4 rfl) ?_
              refine x0eq (tgt := 163) C (by omega) dX7_wayOdds_155 (by decide) (fun c155 => absurd c155 (by omega)) (fun c155 => ?_)
              refine lv_lload C.1 C.2.1 dX7_wayOdds_158 (lv_at hl 1 rfl) ?_
              refine lv_goto (tgt := 164) C.1 C.2.1 dX7_wayOdds_160 (by decide) ?_
              refine lv_lstore (lv' := [(5, .long (lN (wgA (onF L) (backF L) 10 (nI f0) (seq8 Z (24 * k) i) (d + 1)))), (7, .int (nI y)), (13, .int (nI (backF L f))), (12, .int (nI (onF L f))), (11, .int (nI 1)), (9, .long (lN y)), (8, .int (nI d)), (0, .ref (gad g 119)), (2, .int (nI k)), (3, .int (nI i)), (4, .int (nI n))]) C.1 C.2.1 dX7_wayOdds_164 hl (by decide) rfl (fun ls hl => ?_)
              refine lv_iinc (v := nI (d + 1)) (lv' := [(8, .int (nI (d + 1))), (5, .long (lN (wgA (onF L) (backF L) 10 (nI f0) (seq8 Z (24 * k) i) (d + 1)))), (7, .int (nI y)), (13, .int (nI (backF L f))), (12, .int (nI (onF L f))), (11, .int (nI 1)), (9, .long (lN y)), (0, .ref (gad g 119)), (2, .int (nI k)), (3, .int (nI i)), (4, .int (nI n))]) C.1 C.2.1 dX7_wayOdds_166 hl (k := 6) rfl (nI_add _ 1) (by decide) rfl (fun ls hl => ?_)
              refine lv_goto (tgt := 9) C.1 C.2.1 dX7_wayOdds_169 (by decide) ?_
              exact ih9 (n - (d + 1)) (by omega) (d + 1) y (wgA (onF L) (backF L) 10 (nI f0) (seq8 Z (24 * k) i) (d + 1)) _ _ _ rfl (by omega) (hy) (rfl) (Or.inr (by rw [frA, ← fldX_N hy, ← hyv])) hW (lv_sub hl [0, 2, 1, 7, 8, 9, 10] rfl)
          · refine lv_iload C.1 C.2.1 dX7_wayOdds_107 (lv_at hl 0 rfl) ?_
            refine xi2l C (by omega) dX7_wayOdds_109 ?_
            refine lv_goto (tgt := 135) C.1 C.2.1 dX7_wayOdds_110 (by decide) ?_
            refine xlmul C dX7_wayOdds_135 ?_
            refine xtopL (b := wgA (onF L) (backF L) 10 (nI f0) (seq8 Z (24 * k) i) (d + 1)) (way_step hb hfr hf7 hy (by rw [← hyv]) (by rw [wtN, if_neg (by have := (pred_eqL hy hf7).mp c103; omega), if_neg c86, if_pos ((pred_eqL hy hf7).mp c103)])) ?_
            refine lv_lstore (lv' := [(5, .long (lN (wgA (onF L) (backF L) 10 (nI f0) (seq8 Z (24 * k) i) (d + 1)))), (13, .int (nI (backF L f))), (12, .int (nI (onF L f))), (11, .int (nI 1)), (9, .long (lN y)), (8, .int (nI d)), (7, .int (nI f)), (0, .ref (gad g 119)), (2, .int (nI k)), (3, .int (nI i)), (4, .int (nI n))]) C.1 C.2.1 dX7_wayOdds_136 hl (by decide) rfl (fun ls hl => ?_)
            refine lv_iload C.1 C.2.1 dX7_wayOdds_138 (lv_at hl 3 rfl) ?_
            refine x0eq (tgt := 149) C (by omega) dX7_wayOdds_140 (by decide) (fun c140 => absurd c140 (by omega)) (fun c140 => ?_)
            refine lv_lload C.1 C.2.1 dX7_wayOdds_143 (lv_at hl 4 rfl) ?_
            refine xl2i C dX7_wayOdds_145 ?_
            refine lv_goto (tgt := 151) C.1 C.2.1 dX7_wayOdds_146 (by decide) ?_
            refine lv_istore (lv' := [(7, .int (nI y)), (5, .long (lN (wgA (onF L) (backF L) 10 (nI f0) (seq8 Z (24 * k) i) (d + 1)))), (13, .int (nI (backF L f))), (12, .int (nI (onF L f))), (11, .int (nI 1)), (9, .long (lN y)), (8, .int (nI d)), (0, .ref (gad g 119)), (2, .int (nI k)), (3, .int (nI i)), (4, .int (nI n))]) C.1 C.2.1 dX7_wayOdds_151 hl (by decide) rfl (fun ls hl => ?_)
            refine lv_iload C.1 C.2.1 dX7_wayOdds_153 (lv_at hl 4 rfl) ?_
            refine x0eq (tgt := 163) C (by omega) dX7_wayOdds_155 (by decide) (fun c155 => absurd c155 (by omega)) (fun c155 => ?_)
            refine lv_lload C.1 C.2.1 dX7_wayOdds_158 (lv_at hl 1 rfl) ?_
            refine lv_goto (tgt := 164) C.1 C.2.1 dX7_wayOdds_160 (by decide) ?_
            refine lv_lstore (lv' := [(5, .long (lN (wgA (onF L) (backF L) 10 (nI f0) (seq8 Z (24 * k) i) (d + 1)))), (7, .int (nI y)), (13, .int (nI (backF L f))), (12, .int (nI (onF L f))), (11, .int (nI 1)), (9, .long (lN y)), (8, .int (nI d)), (0, .ref (gad g 119)), (2, .int (nI k)), (3, .int (nI i)), (4, .int (nI n))]) C.1 C.2.1 dX7_wayOdds_164 hl (by decide) rfl (fun ls hl => ?_)
            refine lv_iinc (v := nI (d + 1)) (lv' := [(8, .int (nI (d + 1))), (5, .long (lN (wgA (onF L) (backF L) 10 (nI f0) (seq8 Z (24 * k) i) (d + 1)))), (7, .int (nI y)), (13, .int (nI (backF L f))), (12, .int (nI (onF L f))), (11, .int (nI 1)), (9, .long (lN y)), (0, .ref (gad g 119)), (2, .int (nI k)), (3, .int (nI i)), (4, .int (nI n))]) C.1 C.2.1 dX7_wayOdds_166 hl (k := 6) rfl (nI_add _ 1) (by decide) rfl (fun ls hl => ?_)
            refine lv_goto (tgt := 9) C.1 C.2.1 dX7_wayOdds_169 (by decide) ?_
            exact ih9 (n - (d + 1)) (by omega) (d + 1) y (wgA (onF L) (backF L) 10 (nI f0) (seq8 Z (24 * k) i) (d + 1)) _ _ _ rfl (by omega) (hy) (rfl) (Or.inr (by rw [frA, ← fldX_N hy, ← hyv])) hW (lv_sub hl [0, 2, 1, 7, 8, 9, 10] rfl)
        · refine lv_iload C.1 C.2.1 dX7_wayOdds_90 (lv_at hl 1 rfl) ?_
          refine xi2l C (by omega) dX7_wayOdds_92 ?_
          refine lv_goto (tgt := 135) C.1 C.2.1 dX7_wayOdds_93 (by decide) ?_
          refine xlmul C dX7_wayOdds_135 ?_
          refine xtopL (b := wgA (onF L) (backF L) 10 (nI f0) (seq8 Z (24 * k) i) (d + 1)) (way_step hb hfr hf7 hy (by rw [← hyv]) (by rw [wtN, if_neg (by omega), if_pos c86])) ?_
          refine lv_lstore (lv' := [(5, .long (lN (wgA (onF L) (backF L) 10 (nI f0) (seq8 Z (24 * k) i) (d + 1)))), (13, .int (nI (backF L f))), (12, .int (nI (onF L f))), (11, .int (nI 1)), (9, .long (lN y)), (8, .int (nI d)), (7, .int (nI f)), (0, .ref (gad g 119)), (2, .int (nI k)), (3, .int (nI i)), (4, .int (nI n))]) C.1 C.2.1 dX7_wayOdds_136 hl (by decide) rfl (fun ls hl => ?_)
          refine lv_iload C.1 C.2.1 dX7_wayOdds_138 (lv_at hl 3 rfl) ?_
          refine x0eq (tgt := 149) C (by omega) dX7_wayOdds_140 (by decide) (fun c140 => absurd c140 (by omega)) (fun c140 => ?_)
          refine lv_lload C.1 C.2.1 dX7_wayOdds_143 (lv_at hl 4 rfl) ?_
          refine xl2i C dX7_wayOdds_145 ?_
          refine lv_goto (tgt := 151) C.1 C.2.1 dX7_wayOdds_146 (by decide) ?_
          refine lv_istore (lv' := [(7, .int (nI y)), (5, .long (lN (wgA (onF L) (backF L) 10 (nI f0) (seq8 Z (24 * k) i) (d + 1)))), (13, .int (nI (backF L f))), (12, .int (nI (onF L f))), (11, .int (nI 1)), (9, .long (lN y)), (8, .int (nI d)), (0, .ref (gad g 119)), (2, .int (nI k)), (3, .int (nI i)), (4, .int (nI n))]) C.1 C.2.1 dX7_wayOdds_151 hl (by decide) rfl (fun ls hl => ?_)
          refine lv_iload C.1 C.2.1 dX7_wayOdds_153 (lv_at hl 4 rfl) ?_
          refine x0eq (tgt := 163) C (by omega) dX7_wayOdds_155 (by decide) (fun c155 => absurd c155 (by omega)) (fun c155 => ?_)
          refine lv_lload C.1 C.2.1 dX7_wayOdds_158 (lv_at hl 1 rfl) ?_
          refine lv_goto (tgt := 164) C.1 C.2.1 dX7_wayOdds_160 (by decide) ?_
          refine lv_lstore (lv' := [(5, .long (lN (wgA (onF L) (backF L) 10 (nI f0) (seq8 Z (24 * k) i) (d + 1)))), (7, .int (nI y)), (13, .int (nI (backF L f))), (12, .int (nI (onF L f))), (11, .int (nI 1)), (9, .long (lN y)), (8, .int (nI d)), (0, .ref (gad g 119)), (2, .int (nI k)), (3, .int (nI i)), (4, .int (nI n))]) C.1 C.2.1 dX7_wayOdds_164 hl (by decide) rfl (fun ls hl => ?_)
          refine lv_iinc (v := nI (d + 1)) (lv' := [(8, .int (nI (d + 1))), (5, .long (lN (wgA (onF L) (backF L) 10 (nI f0) (seq8 Z (24 * k) i) (d + 1)))), (7, .int (nI y)), (13, .int (nI (backF L f))), (12, .int (nI (onF L f))), (11, .int (nI 1)), (9, .long (lN y)), (0, .ref (gad g 119)), (2, .int (nI k)), (3, .int (nI i)), (4, .int (nI n))]) C.1 C.2.1 dX7_wayOdds_166 hl (k := 6) rfl (nI_add _ 1) (by decide) rfl (fun ls hl => ?_)
          refine lv_goto (tgt := 9) C.1 C.2.1 dX7_wayOdds_169 (by decide) ?_
          exact ih9 (n - (d + 1)) (by omega) (d + 1) y (wgA (onF L) (backF L) 10 (nI f0) (seq8 Z (24 * k) i) (d + 1)) _ _ _ rfl (by omega) (hy) (rfl) (Or.inr (by rw [frA, ← fldX_N hy, ← hyv])) hW (lv_sub hl [0, 2, 1, 7, 8, 9, 10] rfl)
      · refine lv_lload C.1 C.2.1 dX7_wayOdds_32 (lv_at hl 0 rfl) ?_
        refine lv_lconst (v := lN 0) C.1 C.2.1 dX7_wayOdds_34 (by decide) ?_
        refine xRlt (tgt := 52) C dX7_wayOdds_35 dX7_wayOdds_36 (by decide) (fun c35 => ?_) (fun c35 => ?_)
        · refine lv_iconst (v := (nI 0)) C.1 C.2.1 dX7_wayOdds_52 (by decide) ?_
          refine lv_istore (lv' := [(11, .int (nI 0)), (9, .long (Z (24 * k + (i + d)))), (8, .int (nI d)), (7, .int (nI f)), (5, .long (lN b)), (0, .ref (gad g 119)), (2, .int (nI k)), (3, .int (nI i)), (4, .int (nI n))]) C.1 C.2.1 dX7_wayOdds_53 hl (by decide) rfl (fun ls hl => ?_)
          refine lv_aload_n C.1 C.2.1 dX7_wayOdds_55 rfl (lv_at hl 5 rfl) ?_
          refine xget C hK hW hinX7 rfl (by omega) pr0 7 (by decide) (List.mem_of_getElem? (i := 3) rfl) rfl dX7_wayOdds_56 ?_
          refine lv_iload C.1 C.2.1 dX7_wayOdds_59 (lv_at hl 3 rfl) ?_
          refine xcS_i (n := 2) (As := [.ref (gad g 124), .int (nI f)]) C hK hW (c_X7_onOf l g w 124 f L hI hN (by omega) (by omega) hok pr2) gX7_wayOdds_X7_onOf rfl ⟨rfl, rfl⟩ (by decide +kernel) ⟨Nat.le_of_ble_eq_true rfl, Nat.le_of_ble_eq_true rfl⟩ ⟨Nat.zero_le _, Nat.zero_le _⟩ rfl hl rfl (Nat.le_of_ble_eq_true rfl) dX7_wayOdds_61 (fun r11 w9 H locs q10 hW => ?_)
          obtain ⟨qw12, rfl⟩ := q10
          rw [qw12] at hW
          have hob := onF_back L f
          refine lv_istore (lv' := [(12, .int (nI (onF L f))), (11, .int (nI 0)), (9, .long (Z (24 * k + (i + d)))), (8, .int (nI d)), (7, .int (nI f)), (5, .long (lN b)), (0, .ref (gad g 119)), (2, .int (nI k)), (3, .int (nI i)), (4, .int (nI n))]) C.1 C.2.1 dX7_wayOdds_64 hl (by decide) rfl (fun ls hl => ?_)
          refine lv_aload_n C.1 C.2.1 dX7_wayOdds_66 rfl (lv_at hl 6 rfl) ?_
          refine xget C hK hW hinX7 rfl (by omega) pr0 7 (by decide) (List.mem_of_getElem? (i := 3) rfl) rfl dX7_wayOdds_67 ?_
          refine lv_iload C.1 C.2.1 dX7_wayOdds_70 (lv_at hl 4 rfl) ?_
          refine xcS_i (n := 2) (As := [.ref (gad g 124), .int (nI f)]) C hK hW (c_X7_backOf l g w 124 f L hI hN (by omega) (by omega) hok pr2) gX7_wayOdds_X7_backOf rfl ⟨rfl, rfl⟩ (by decide +kernel) ⟨Nat.le_of_ble_eq_true rfl, Nat.le_of_ble_eq_true rfl⟩ ⟨Nat.zero_le _, Nat.zero_le _⟩ rfl hl rfl (Nat.le_of_ble_eq_true rfl) dX7_wayOdds_72 (fun r15 w13 H locs q14 hW => ?_)
          obtain ⟨qw16, rfl⟩ := q14
          rw [qw16] at hW
          refine lv_istore (lv' := [(13, .int (nI (backF L f))), (12, .int (nI (onF L f))), (11, .int (nI 0)), (9, .long (Z (24 * k + (i + d)))), (8, .int (nI d)), (7, .int (nI f)), (5, .long (lN b)), (0, .ref (gad g 119)), (2, .int (nI k)), (3, .int (nI i)), (4, .int (nI n))]) C.1 C.2.1 dX7_wayOdds_75 hl (by decide) rfl (fun ls hl => ?_)
          refine lv_lload C.1 C.2.1 dX7_wayOdds_77 (lv_at hl 6 rfl) ?_
          refine lv_lload C.1 C.2.1 dX7_wayOdds_79 (lv_at hl 3 rfl) ?_
          refine lv_iload C.1 C.2.1 dX7_wayOdds_81 (lv_at hl 5 rfl) ?_
          refine lv_iconst (v := (nI 1)) C.1 C.2.1 dX7_wayOdds_83 (by decide) ?_
          refine xadd C dX7_wayOdds_84 ?_
          refine xi2l C (by omega) dX7_wayOdds_85 ?_
          refine xRne (tgt := 96) C dX7_wayOdds_86 dX7_wayOdds_87 (by decide) (fun c86 => ?_) (fun c86 => ?_)
          · refine lv_lload C.1 C.2.1 dX7_wayOdds_96 (lv_at hl 3 rfl) ?_
            refine lv_iload C.1 C.2.1 dX7_wayOdds_98 (lv_at hl 5 rfl) ?_
            refine lv_iconst (v := (nI 1)) C.1 C.2.1 dX7_wayOdds_100 (by decide) ?_
            refine lv_isub C.1 C.2.1 dX7_wayOdds_101 ?_
            refine lv_i2l (v := ((nI f) - (nI 1)).toInt64) C.1 C.2.1 dX7_wayOdds_102 rfl ?_
            refine xRne (tgt := 113) C dX7_wayOdds_103 dX7_wayOdds_104 (by decide) (fun c103 => ?_) (fun c103 => ?_)
            · refine lv_lload C.1 C.2.1 dX7_wayOdds_113 (lv_at hl 3 rfl) ?_
              refine lv_iload C.1 C.2.1 dX7_wayOdds_115 (lv_at hl 5 rfl) ?_
              refine xi2l C (by omega) dX7_wayOdds_117 ?_
              refine xRne (tgt := 134) C dX7_wayOdds_118 dX7_wayOdds_119 (by decide) (fun c118 => ?_) (fun c118 => ?_)
              · refine lv_lconst (v := lN 0) C.1 C.2.1 dX7_wayOdds_134 (by decide) ?_
                refine xlmul C dX7_wayOdds_135 ?_
                refine lv_lstore (lv' := [(5, .long (lN (b * 0))), (13, .int (nI (backF L f))), (12, .int (nI (onF L f))), (11, .int (nI 0)), (9, .long (Z (24 * k + (i + d)))), (8, .int (nI d)), (7, .int (nI f)), (0, .ref (gad g 119)), (2, .int (nI k)), (3, .int (nI i)), (4, .int (nI n))]) C.1 C.2.1 dX7_wayOdds_136 hl (by decide) rfl (fun ls hl => ?_)
                refine lv_iload C.1 C.2.1 dX7_wayOdds_138 (lv_at hl 3 rfl) ?_
                refine x0eq (tgt := 149) C (by omega) dX7_wayOdds_140 (by decide) (fun c140 => ?_) (fun c140 => absurd c140 (by omega))
                refine lv_iload C.1 C.2.1 dX7_wayOdds_149 (lv_at hl 6 rfl) ?_
                refine lv_istore (lv' := [(7, .int (nI f)), (5, .long (lN (b * 0))), (13, .int (nI (backF L f))), (12, .int (nI (onF L f))), (11, .int (nI 0)), (9, .long (Z (24 * k + (i + d)))), (8, .int (nI d)), (0, .ref (gad g 119)), (2, .int (nI k)), (3, .int (nI i)), (4, .int (nI n))]) C.1 C.2.1 dX7_wayOdds_151 hl (by decide) rfl (fun ls hl => ?_)
                refine lv_iload C.1 C.2.1 dX7_wayOdds_153 (lv_at hl 4 rfl) ?_
                refine x0eq (tgt := 163) C (by omega) dX7_wayOdds_155 (by decide) (fun c155 => ?_) (fun c155 => absurd c155 (by omega))
                refine lv_lconst (v := lN 0) C.1 C.2.1 dX7_wayOdds_163 (by decide) ?_
                refine lv_lstore (lv' := [(5, .long (lN 0)), (7, .int (nI f)), (13, .int (nI (backF L f))), (12, .int (nI (onF L f))), (11, .int (nI 0)), (9, .long (Z (24 * k + (i + d)))), (8, .int (nI d)), (0, .ref (gad g 119)), (2, .int (nI k)), (3, .int (nI i)), (4, .int (nI n))]) C.1 C.2.1 dX7_wayOdds_164 hl (by decide) rfl (fun ls hl => ?_)
                refine lv_iinc (v := nI (d + 1)) (lv' := [(8, .int (nI (d + 1))), (5, .long (lN 0)), (7, .int (nI f)), (13, .int (nI (backF L f))), (12, .int (nI (onF L f))), (11, .int (nI 0)), (9, .long (Z (24 * k + (i + d)))), (0, .ref (gad g 119)), (2, .int (nI k)), (3, .int (nI i)), (4, .int (nI n))]) C.1 C.2.1 dX7_wayOdds_166 hl (k := 6) rfl (nI_add _ 1) (by decide) rfl (fun ls hl => ?_)
                refine lv_goto (tgt := 9) C.1 C.2.1 dX7_wayOdds_169 (by decide) ?_
                exact ih9 (n - (d + 1)) (by omega) (d + 1) f 0 _ _ _ rfl (by omega) (hf7) (way_no iv) (Or.inl rfl) hW (lv_sub hl [0, 2, 1, 7, 8, 9, 10] rfl)
              · refine lv_bipush (v := (nI 10)) C.1 C.2.1 dX7_wayOdds_122 (by decide) ?_
                refine lv_iload C.1 C.2.1 dX7_wayOdds_124 (lv_at hl 1 rfl) ?_
                refine xsub C (by omega) dX7_wayOdds_126 ?_
                refine lv_iload C.1 C.2.1 dX7_wayOdds_127 (lv_at hl 0 rfl) ?_
                refine xsub C (by omega) dX7_wayOdds_129 ?_
                refine xi2l C (by omega) dX7_wayOdds_130 ?_
                refine lv_goto (tgt := 135) C.1 C.2.1 dX7_wayOdds_131 (by decide) ?_
                refine xlmul C dX7_wayOdds_135 ?_
                refine lv_lstore (lv' := [(5, .long (lN (b * ((10 - (onF L f)) - (backF L f))))), (13, .int (nI (backF L f))), (12, .int (nI (onF L f))), (11, .int (nI 0)), (9, .long (Z (24 * k + (i + d)))), (8, .int (nI d)), (7, .int (nI f)), (0, .ref (gad g 119)), (2, .int (nI k)), (3, .int (nI i)), (4, .int (nI n))]) C.1 C.2.1 dX7_wayOdds_136 hl (by decide) rfl (fun ls hl => ?_)
                refine lv_iload C.1 C.2.1 dX7_wayOdds_138 (lv_at hl 3 rfl) ?_
                refine x0eq (tgt := 149) C (by omega) dX7_wayOdds_140 (by decide) (fun c140 => ?_) (fun c140 => absurd c140 (by omega))
                refine lv_iload C.1 C.2.1 dX7_wayOdds_149 (lv_at hl 6 rfl) ?_
                refine lv_istore (lv' := [(7, .int (nI f)), (5, .long (lN (b * ((10 - (onF L f)) - (backF L f))))), (13, .int (nI (backF L f))), (12, .int (nI (onF L f))), (11, .int (nI 0)), (9, .long (Z (24 * k + (i + d)))), (8, .int (nI d)), (0, .ref (gad g 119)), (2, .int (nI k)), (3, .int (nI i)), (4, .int (nI n))]) C.1 C.2.1 dX7_wayOdds_151 hl (by decide) rfl (fun ls hl => ?_)
                refine lv_iload C.1 C.2.1 dX7_wayOdds_153 (lv_at hl 4 rfl) ?_
                refine x0eq (tgt := 163) C (by omega) dX7_wayOdds_155 (by decide) (fun c155 => ?_) (fun c155 => absurd c155 (by omega))
                refine lv_lconst (v := lN 0) C.1 C.2.1 dX7_wayOdds_163 (by decide) ?_
                refine lv_lstore (lv' := [(5, .long (lN 0)), (7, .int (nI f)), (13, .int (nI (backF L f))), (12, .int (nI (onF L f))), (11, .int (nI 0)), (9, .long (Z (24 * k + (i + d)))), (8, .int (nI d)), (0, .ref (gad g 119)), (2, .int (nI k)), (3, .int (nI i)), (4, .int (nI n))]) C.1 C.2.1 dX7_wayOdds_164 hl (by decide) rfl (fun ls hl => ?_)
                refine lv_iinc (v := nI (d + 1)) (lv' := [(8, .int (nI (d + 1))), (5, .long (lN 0)), (7, .int (nI f)), (13, .int (nI (backF L f))), (12, .int (nI (onF L f))), (11, .int (nI 0)), (9, .long (Z (24 * k + (i + d)))), (0, .ref (gad g 119)), (2, .int (nI k)), (3, .int (nI i)), (4, .int (nI n))]) C.1 C.2.1 dX7_wayOdds_166 hl (k := 6) rfl (nI_add _ 1) (by decide) rfl (fun ls hl => ?_)
                refine lv_goto (tgt := 9) C.1 C.2.1 dX7_wayOdds_169 (by decide) ?_
                exact ih9 (n - (d + 1)) (by omega) (d + 1) f 0 _ _ _ rfl (by omega) (hf7) (way_no iv) (Or.inl rfl) hW (lv_sub hl [0, 2, 1, 7, 8, 9, 10] rfl)
            · refine lv_iload C.1 C.2.1 dX7_wayOdds_107 (lv_at hl 0 rfl) ?_
              refine xi2l C (by omega) dX7_wayOdds_109 ?_
              refine lv_goto (tgt := 135) C.1 C.2.1 dX7_wayOdds_110 (by decide) ?_
              refine xlmul C dX7_wayOdds_135 ?_
              refine lv_lstore (lv' := [(5, .long (lN (b * (backF L f)))), (13, .int (nI (backF L f))), (12, .int (nI (onF L f))), (11, .int (nI 0)), (9, .long (Z (24 * k + (i + d)))), (8, .int (nI d)), (7, .int (nI f)), (0, .ref (gad g 119)), (2, .int (nI k)), (3, .int (nI i)), (4, .int (nI n))]) C.1 C.2.1 dX7_wayOdds_136 hl (by decide) rfl (fun ls hl => ?_)
              refine lv_iload C.1 C.2.1 dX7_wayOdds_138 (lv_at hl 3 rfl) ?_
              refine x0eq (tgt := 149) C (by omega) dX7_wayOdds_140 (by decide) (fun c140 => ?_) (fun c140 => absurd c140 (by omega))
              refine lv_iload C.1 C.2.1 dX7_wayOdds_149 (lv_at hl 6 rfl) ?_
              refine lv_istore (lv' := [(7, .int (nI f)), (5, .long (lN (b * (backF L f)))), (13, .int (nI (backF L f))), (12, .int (nI (onF L f))), (11, .int (nI 0)), (9, .long (Z (24 * k + (i + d)))), (8, .int (nI d)), (0, .ref (gad g 119)), (2, .int (nI k)), (3, .int (nI i)), (4, .int (nI n))]) C.1 C.2.1 dX7_wayOdds_151 hl (by decide) rfl (fun ls hl => ?_)
              refine lv_iload C.1 C.2.1 dX7_wayOdds_153 (lv_at hl 4 rfl) ?_
              refine x0eq (tgt := 163) C (by omega) dX7_wayOdds_155 (by decide) (fun c155 => ?_) (fun c155 => absurd c155 (by omega))
              refine lv_lconst (v := lN 0) C.1 C.2.1 dX7_wayOdds_163 (by decide) ?_
              refine lv_lstore (lv' := [(5, .long (lN 0)), (7, .int (nI f)), (13, .int (nI (backF L f))), (12, .int (nI (onF L f))), (11, .int (nI 0)), (9, .long (Z (24 * k + (i + d)))), (8, .int (nI d)), (0, .ref (gad g 119)), (2, .int (nI k)), (3, .int (nI i)), (4, .int (nI n))]) C.1 C.2.1 dX7_wayOdds_164 hl (by decide) rfl (fun ls hl => ?_)
              refine lv_iinc (v := nI (d + 1)) (lv' := [(8, .int (nI (d + 1))), (5, .long (lN 0)), (7, .int (nI f)), (13, .int (nI (backF L f))), (12, .int (nI (onF L f))), (11, .int (nI 0)), (9, .long (Z (24 * k + (i + d)))), (0, .ref (gad g 119)), (2, .int (nI k)), (3, .int (nI i)), (4, .int (nI n))]) C.1 C.2.1 dX7_wayOdds_166 hl (k := 6) rfl (nI_add _ 1) (by decide) rfl (fun ls hl => ?_)
              refine lv_goto (tgt := 9) C.1 C.2.1 dX7_wayOdds_169 (by decide) ?_
              exact ih9 (n - (d + 1)) (by omega) (d + 1) f 0 _ _ _ rfl (by omega) (hf7) (way_no iv) (Or.inl rfl) hW (lv_sub hl [0, 2, 1, 7, 8, 9, 10] rfl)
          · refine lv_iload C.1 C.2.1 dX7_wayOdds_90 (lv_at hl 1 rfl) ?_
            refine xi2l C (by omega) dX7_wayOdds_92 ?_
            refine lv_goto (tgt := 135) C.1 C.2.1 dX7_wayOdds_93 (by decide) ?_
            refine xlmul C dX7_wayOdds_135 ?_
            refine lv_lstore (lv' := [(5, .long (lN (b * (onF L f)))), (13, .int (nI (backF L f))), (12, .int (nI (onF L f))), (11, .int (nI 0)), (9, .long (Z (24 * k + (i + d)))), (8, .int (nI d)), (7, .int (nI f)), (0, .ref (gad g 119)), (2, .int (nI k)), (3, .int (nI i)), (4, .int (nI n))]) C.1 C.2.1 dX7_wayOdds_136 hl (by decide) rfl (fun ls hl => ?_)
            refine lv_iload C.1 C.2.1 dX7_wayOdds_138 (lv_at hl 3 rfl) ?_
            refine x0eq (tgt := 149) C (by omega) dX7_wayOdds_140 (by decide) (fun c140 => ?_) (fun c140 => absurd c140 (by omega))
            refine lv_iload C.1 C.2.1 dX7_wayOdds_149 (lv_at hl 6 rfl) ?_
            refine lv_istore (lv' := [(7, .int (nI f)), (5, .long (lN (b * (onF L f)))), (13, .int (nI (backF L f))), (12, .int (nI (onF L f))), (11, .int (nI 0)), (9, .long (Z (24 * k + (i + d)))), (8, .int (nI d)), (0, .ref (gad g 119)), (2, .int (nI k)), (3, .int (nI i)), (4, .int (nI n))]) C.1 C.2.1 dX7_wayOdds_151 hl (by decide) rfl (fun ls hl => ?_)
            refine lv_iload C.1 C.2.1 dX7_wayOdds_153 (lv_at hl 4 rfl) ?_
            refine x0eq (tgt := 163) C (by omega) dX7_wayOdds_155 (by decide) (fun c155 => ?_) (fun c155 => absurd c155 (by omega))
            refine lv_lconst (v := lN 0) C.1 C.2.1 dX7_wayOdds_163 (by decide) ?_
            refine lv_lstore (lv' := [(5, .long (lN 0)), (7, .int (nI f)), (13, .int (nI (backF L f))), (12, .int (nI (onF L f))), (11, .int (nI 0)), (9, .long (Z (24 * k + (i + d)))), (8, .int (nI d)), (0, .ref (gad g 119)), (2, .int (nI k)), (3, .int (nI i)), (4, .int (nI n))]) C.1 C.2.1 dX7_wayOdds_164 hl (by decide) rfl (fun ls hl => ?_)
            refine lv_iinc (v := nI (d + 1)) (lv' := [(8, .int (nI (d + 1))), (5, .long (lN 0)), (7, .int (nI f)), (13, .int (nI (backF L f))), (12, .int (nI (onF L f))), (11, .int (nI 0)), (9, .long (Z (24 * k + (i + d)))), (0, .ref (gad g 119)), (2, .int (nI k)), (3, .int (nI i)), (4, .int (nI n))]) C.1 C.2.1 dX7_wayOdds_166 hl (k := 6) rfl (nI_add _ 1) (by decide) rfl (fun ls hl => ?_)
            refine lv_goto (tgt := 9) C.1 C.2.1 dX7_wayOdds_169 (by decide) ?_
            exact ih9 (n - (d + 1)) (by omega) (d + 1) f 0 _ _ _ rfl (by omega) (hf7) (way_no iv) (Or.inl rfl) hW (lv_sub hl [0, 2, 1, 7, 8, 9, 10] rfl)
        · refine lv_lload C.1 C.2.1 dX7_wayOdds_39 (lv_at hl 0 rfl) ?_
          refine lv_ldc2 (v := (lN 6)) C.1 C.2.1 C.2.2.2.1 (C.2.2.2.2 _ (List.mem_of_getElem? (i := 2) rfl)) dX7_wayOdds_41 ?_
          refine xRgt (tgt := 52) C dX7_wayOdds_44 dX7_wayOdds_45 (by decide) (fun c44 => ?_) (fun c44 => absurd c44 (by exact fun z => iv ⟨c35, z⟩))
          refine lv_iconst (v := (nI 0)) C.1 C.2.1 dX7_wayOdds_52 (by decide) ?_
          refine lv_istore (lv' := [(11, .int (nI 0)), (9, .long (Z (24 * k + (i + d)))), (8, .int (nI d)), (7, .int (nI f)), (5, .long (lN b)), (0, .ref (gad g 119)), (2, .int (nI k)), (3, .int (nI i)), (4, .int (nI n))]) C.1 C.2.1 dX7_wayOdds_53 hl (by decide) rfl (fun ls hl => ?_)
          refine lv_aload_n C.1 C.2.1 dX7_wayOdds_55 rfl (lv_at hl 5 rfl) ?_
          refine xget C hK hW hinX7 rfl (by omega) pr0 7 (by decide) (List.mem_of_getElem? (i := 3) rfl) rfl dX7_wayOdds_56 ?_
          refine lv_iload C.1 C.2.1 dX7_wayOdds_59 (lv_at hl 3 rfl) ?_
          refine xcS_i (n := 2) (As := [.ref (gad g 124), .int (nI f)]) C hK hW (c_X7_onOf l g w 124 f L hI hN (by omega) (by omega) hok pr2) gX7_wayOdds_X7_onOf rfl ⟨rfl, rfl⟩ (by decide +kernel) ⟨Nat.le_of_ble_eq_true rfl, Nat.le_of_ble_eq_true rfl⟩ ⟨Nat.zero_le _, Nat.zero_le _⟩ rfl hl rfl (Nat.le_of_ble_eq_true rfl) dX7_wayOdds_61 (fun r19 w17 H locs q18 hW => ?_)
          obtain ⟨qw20, rfl⟩ := q18
          rw [qw20] at hW
          have hob := onF_back L f
          refine lv_istore (lv' := [(12, .int (nI (onF L f))), (11, .int (nI 0)), (9, .long (Z (24 * k + (i + d)))), (8, .int (nI d)), (7, .int (nI f)), (5, .long (lN b)), (0, .ref (gad g 119)), (2, .int (nI k)), (3, .int (nI i)), (4, .int (nI n))]) C.1 C.2.1 dX7_wayOdds_64 hl (by decide) rfl (fun ls hl => ?_)
          refine lv_aload_n C.1 C.2.1 dX7_wayOdds_66 rfl (lv_at hl 6 rfl) ?_
          refine xget C hK hW hinX7 rfl (by omega) pr0 7 (by decide) (List.mem_of_getElem? (i := 3) rfl) rfl dX7_wayOdds_67 ?_
          refine lv_iload C.1 C.2.1 dX7_wayOdds_70 (lv_at hl 4 rfl) ?_
          refine xcS_i (n := 2) (As := [.ref (gad g 124), .int (nI f)]) C hK hW (c_X7_backOf l g w 124 f L hI hN (by omega) (by omega) hok pr2) gX7_wayOdds_X7_backOf rfl ⟨rfl, rfl⟩ (by decide +kernel) ⟨Nat.le_of_ble_eq_true rfl, Nat.le_of_ble_eq_true rfl⟩ ⟨Nat.zero_le _, Nat.zero_le _⟩ rfl hl rfl (Nat.le_of_ble_eq_true rfl) dX7_wayOdds_72 (fun r23 w21 H locs q22 hW => ?_)
          obtain ⟨qw24, rfl⟩ := q22
          rw [qw24] at hW
          refine lv_istore (lv' := [(13, .int (nI (backF L f))), (12, .int (nI (onF L f))), (11, .int (nI 0)), (9, .long (Z (24 * k + (i + d)))), (8, .int (nI d)), (7, .int (nI f)), (5, .long (lN b)), (0, .ref (gad g 119)), (2, .int (nI k)), (3, .int (nI i)), (4, .int (nI n))]) C.1 C.2.1 dX7_wayOdds_75 hl (by decide) rfl (fun ls hl => ?_)
          refine lv_lload C.1 C.2.1 dX7_wayOdds_77 (lv_at hl 6 rfl) ?_
          refine lv_lload C.1 C.2.1 dX7_wayOdds_79 (lv_at hl 3 rfl) ?_
          refine lv_iload C.1 C.2.1 dX7_wayOdds_81 (lv_at hl 5 rfl) ?_
          refine lv_iconst (v := (nI 1)) C.1 C.2.1 dX7_wayOdds_83 (by decide) ?_
          refine xadd C dX7_wayOdds_84 ?_
          refine xi2l C (by omega) dX7_wayOdds_85 ?_
          refine xRne (tgt := 96) C dX7_wayOdds_86 dX7_wayOdds_87 (by decide) (fun c86 => ?_) (fun c86 => ?_)
          · refine lv_lload C.1 C.2.1 dX7_wayOdds_96 (lv_at hl 3 rfl) ?_
            refine lv_iload C.1 C.2.1 dX7_wayOdds_98 (lv_at hl 5 rfl) ?_
            refine lv_iconst (v := (nI 1)) C.1 C.2.1 dX7_wayOdds_100 (by decide) ?_
            refine lv_isub C.1 C.2.1 dX7_wayOdds_101 ?_
            refine lv_i2l (v := ((nI f) - (nI 1)).toInt64) C.1 C.2.1 dX7_wayOdds_102 rfl ?_
            refine xRne (tgt := 113) C dX7_wayOdds_103 dX7_wayOdds_104 (by decide) (fun c103 => ?_) (fun c103 => ?_)
            · refine lv_lload C.1 C.2.1 dX7_wayOdds_113 (lv_at hl 3 rfl) ?_
              refine lv_iload C.1 C.2.1 dX7_wayOdds_115 (lv_at hl 5 rfl) ?_
              refine xi2l C (by omega) dX7_wayOdds_117 ?_
              refine xRne (tgt := 134) C dX7_wayOdds_118 dX7_wayOdds_119 (by decide) (fun c118 => ?_) (fun c118 => ?_)
              · refine lv_lconst (v := lN 0) C.1 C.2.1 dX7_wayOdds_134 (by decide) ?_
                refine xlmul C dX7_wayOdds_135 ?_
                refine lv_lstore (lv' := [(5, .long (lN (b * 0))), (13, .int (nI (backF L f))), (12, .int (nI (onF L f))), (11, .int (nI 0)), (9, .long (Z (24 * k + (i + d)))), (8, .int (nI d)), (7, .int (nI f)), (0, .ref (gad g 119)), (2, .int (nI k)), (3, .int (nI i)), (4, .int (nI n))]) C.1 C.2.1 dX7_wayOdds_136 hl (by decide) rfl (fun ls hl => ?_)
                refine lv_iload C.1 C.2.1 dX7_wayOdds_138 (lv_at hl 3 rfl) ?_
                refine x0eq (tgt := 149) C (by omega) dX7_wayOdds_140 (by decide) (fun c140 => ?_) (fun c140 => absurd c140 (by omega))
                refine lv_iload C.1 C.2.1 dX7_wayOdds_149 (lv_at hl 6 rfl) ?_
                refine lv_istore (lv' := [(7, .int (nI f)), (5, .long (lN (b * 0))), (13, .int (nI (backF L f))), (12, .int (nI (onF L f))), (11, .int (nI 0)), (9, .long (Z (24 * k + (i + d)))), (8, .int (nI d)), (0, .ref (gad g 119)), (2, .int (nI k)), (3, .int (nI i)), (4, .int (nI n))]) C.1 C.2.1 dX7_wayOdds_151 hl (by decide) rfl (fun ls hl => ?_)
                refine lv_iload C.1 C.2.1 dX7_wayOdds_153 (lv_at hl 4 rfl) ?_
                refine x0eq (tgt := 163) C (by omega) dX7_wayOdds_155 (by decide) (fun c155 => ?_) (fun c155 => absurd c155 (by omega))
                refine lv_lconst (v := lN 0) C.1 C.2.1 dX7_wayOdds_163 (by decide) ?_
                refine lv_lstore (lv' := [(5, .long (lN 0)), (7, .int (nI f)), (13, .int (nI (backF L f))), (12, .int (nI (onF L f))), (11, .int (nI 0)), (9, .long (Z (24 * k + (i + d)))), (8, .int (nI d)), (0, .ref (gad g 119)), (2, .int (nI k)), (3, .int (nI i)), (4, .int (nI n))]) C.1 C.2.1 dX7_wayOdds_164 hl (by decide) rfl (fun ls hl => ?_)
                refine lv_iinc (v := nI (d + 1)) (lv' := [(8, .int (nI (d + 1))), (5, .long (lN 0)), (7, .int (nI f)), (13, .int (nI (backF L f))), (12, .int (nI (onF L f))), (11, .int (nI 0)), (9, .long (Z (24 * k + (i + d)))), (0, .ref (gad g 119)), (2, .int (nI k)), (3, .int (nI i)), (4, .int (nI n))]) C.1 C.2.1 dX7_wayOdds_166 hl (k := 6) rfl (nI_add _ 1) (by decide) rfl (fun ls hl => ?_)
                refine lv_goto (tgt := 9) C.1 C.2.1 dX7_wayOdds_169 (by decide) ?_
                exact ih9 (n - (d + 1)) (by omega) (d + 1) f 0 _ _ _ rfl (by omega) (hf7) (way_no iv) (Or.inl rfl) hW (lv_sub hl [0, 2, 1, 7, 8, 9, 10] rfl)
              · refine lv_bipush (v := (nI 10)) C.1 C.2.1 dX7_wayOdds_122 (by decide) ?_
                refine lv_iload C.1 C.2.1 dX7_wayOdds_124 (lv_at hl 1 rfl) ?_
                refine xsub C (by omega) dX7_wayOdds_126 ?_
                refine lv_iload C.1 C.2.1 dX7_wayOdds_127 (lv_at hl 0 rfl) ?_
                refine xsub C (by omega) dX7_wayOdds_129 ?_
                refine xi2l C (by omega) dX7_wayOdds_130 ?_
                refine lv_goto (tgt := 135) C.1 C.2.1 dX7_wayOdds_131 (by decide) ?_
                refine xlmul C dX7_wayOdds_135 ?_
                refine lv_lstore (lv' := [(5, .long (lN (b * ((10 - (onF L f)) - (backF L f))))), (13, .int (nI (backF L f))), (12, .int (nI (onF L f))), (11, .int (nI 0)), (9, .long (Z (24 * k + (i + d)))), (8, .int (nI d)), (7, .int (nI f)), (0, .ref (gad g 119)), (2, .int (nI k)), (3, .int (nI i)), (4, .int (nI n))]) C.1 C.2.1 dX7_wayOdds_136 hl (by decide) rfl (fun ls hl => ?_)
                refine lv_iload C.1 C.2.1 dX7_wayOdds_138 (lv_at hl 3 rfl) ?_
                refine x0eq (tgt := 149) C (by omega) dX7_wayOdds_140 (by decide) (fun c140 => ?_) (fun c140 => absurd c140 (by omega))
                refine lv_iload C.1 C.2.1 dX7_wayOdds_149 (lv_at hl 6 rfl) ?_
                refine lv_istore (lv' := [(7, .int (nI f)), (5, .long (lN (b * ((10 - (onF L f)) - (backF L f))))), (13, .int (nI (backF L f))), (12, .int (nI (onF L f))), (11, .int (nI 0)), (9, .long (Z (24 * k + (i + d)))), (8, .int (nI d)), (0, .ref (gad g 119)), (2, .int (nI k)), (3, .int (nI i)), (4, .int (nI n))]) C.1 C.2.1 dX7_wayOdds_151 hl (by decide) rfl (fun ls hl => ?_)
                refine lv_iload C.1 C.2.1 dX7_wayOdds_153 (lv_at hl 4 rfl) ?_
                refine x0eq (tgt := 163) C (by omega) dX7_wayOdds_155 (by decide) (fun c155 => ?_) (fun c155 => absurd c155 (by omega))
                refine lv_lconst (v := lN 0) C.1 C.2.1 dX7_wayOdds_163 (by decide) ?_
                refine lv_lstore (lv' := [(5, .long (lN 0)), (7, .int (nI f)), (13, .int (nI (backF L f))), (12, .int (nI (onF L f))), (11, .int (nI 0)), (9, .long (Z (24 * k + (i + d)))), (8, .int (nI d)), (0, .ref (gad g 119)), (2, .int (nI k)), (3, .int (nI i)), (4, .int (nI n))]) C.1 C.2.1 dX7_wayOdds_164 hl (by decide) rfl (fun ls hl => ?_)
                refine lv_iinc (v := nI (d + 1)) (lv' := [(8, .int (nI (d + 1))), (5, .long (lN 0)), (7, .int (nI f)), (13, .int (nI (backF L f))), (12, .int (nI (onF L f))), (11, .int (nI 0)), (9, .long (Z (24 * k + (i + d)))), (0, .ref (gad g 119)), (2, .int (nI k)), (3, .int (nI i)), (4, .int (nI n))]) C.1 C.2.1 dX7_wayOdds_166 hl (k := 6) rfl (nI_add _ 1) (by decide) rfl (fun ls hl => ?_)
                refine lv_goto (tgt := 9) C.1 C.2.1 dX7_wayOdds_169 (by decide) ?_
                exact ih9 (n - (d + 1)) (by omega) (d + 1) f 0 _ _ _ rfl (by omega) (hf7) (way_no iv) (Or.inl rfl) hW (lv_sub hl [0, 2, 1, 7, 8, 9, 10] rfl)
            · refine lv_iload C.1 C.2.1 dX7_wayOdds_107 (lv_at hl 0 rfl) ?_
              refine xi2l C (by omega) dX7_wayOdds_109 ?_
              refine lv_goto (tgt := 135) C.1 C.2.1 dX7_wayOdds_110 (by decide) ?_
              refine xlmul C dX7_wayOdds_135 ?_
              refine lv_lstore (lv' := [(5, .long (lN (b * (backF L f)))), (13, .int (nI (backF L f))), (12, .int (nI (onF L f))), (11, .int (nI 0)), (9, .long (Z (24 * k + (i + d)))), (8, .int (nI d)), (7, .int (nI f)), (0, .ref (gad g 119)), (2, .int (nI k)), (3, .int (nI i)), (4, .int (nI n))]) C.1 C.2.1 dX7_wayOdds_136 hl (by decide) rfl (fun ls hl => ?_)
              refine lv_iload C.1 C.2.1 dX7_wayOdds_138 (lv_at hl 3 rfl) ?_
              refine x0eq (tgt := 149) C (by omega) dX7_wayOdds_140 (by decide) (fun c140 => ?_) (fun c140 => absurd c140 (by omega))
              refine lv_iload C.1 C.2.1 dX7_wayOdds_149 (lv_at hl 6 rfl) ?_
              refine lv_istore (lv' := [(7, .int (nI f)), (5, .long (lN (b * (backF L f)))), (13, .int (nI (backF L f))), (12, .int (nI (onF L f))), (11, .int (nI 0)), (9, .long (Z (24 * k + (i + d)))), (8, .int (nI d)), (0, .ref (gad g 119)), (2, .int (nI k)), (3, .int (nI i)), (4, .int (nI n))]) C.1 C.2.1 dX7_wayOdds_151 hl (by decide) rfl (fun ls hl => ?_)
              refine lv_iload C.1 C.2.1 dX7_wayOdds_153 (lv_at hl 4 rfl) ?_
              refine x0eq (tgt := 163) C (by omega) dX7_wayOdds_155 (by decide) (fun c155 => ?_) (fun c155 => absurd c155 (by omega))
              refine lv_lconst (v := lN 0) C.1 C.2.1 dX7_wayOdds_163 (by decide) ?_
              refine lv_lstore (lv' := [(5, .long (lN 0)), (7, .int (nI f)), (13, .int (nI (backF L f))), (12, .int (nI (onF L f))), (11, .int (nI 0)), (9, .long (Z (24 * k + (i + d)))), (8, .int (nI d)), (0, .ref (gad g 119)), (2, .int (nI k)), (3, .int (nI i)), (4, .int (nI n))]) C.1 C.2.1 dX7_wayOdds_164 hl (by decide) rfl (fun ls hl => ?_)
              refine lv_iinc (v := nI (d + 1)) (lv' := [(8, .int (nI (d + 1))), (5, .long (lN 0)), (7, .int (nI f)), (13, .int (nI (backF L f))), (12, .int (nI (onF L f))), (11, .int (nI 0)), (9, .long (Z (24 * k + (i + d)))), (0, .ref (gad g 119)), (2, .int (nI k)), (3, .int (nI i)), (4, .int (nI n))]) C.1 C.2.1 dX7_wayOdds_166 hl (k := 6) rfl (nI_add _ 1) (by decide) rfl (fun ls hl => ?_)
              refine lv_goto (tgt := 9) C.1 C.2.1 dX7_wayOdds_169 (by decide) ?_
              exact ih9 (n - (d + 1)) (by omega) (d + 1) f 0 _ _ _ rfl (by omega) (hf7) (way_no iv) (Or.inl rfl) hW (lv_sub hl [0, 2, 1, 7, 8, 9, 10] rfl)
          · refine lv_iload C.1 C.2.1 dX7_wayOdds_90 (lv_at hl 1 rfl) ?_
            refine xi2l C (by omega) dX7_wayOdds_92 ?_
            refine lv_goto (tgt := 135) C.1 C.2.1 dX7_wayOdds_93 (by decide) ?_
            refine xlmul C dX7_wayOdds_135 ?_
            refine lv_lstore (lv' := [(5, .long (lN (b * (onF L f)))), (13, .int (nI (backF L f))), (12, .int (nI (onF L f))), (11, .int (nI 0)), (9, .long (Z (24 * k + (i + d)))), (8, .int (nI d)), (7, .int (nI f)), (0, .ref (gad g 119)), (2, .int (nI k)), (3, .int (nI i)), (4, .int (nI n))]) C.1 C.2.1 dX7_wayOdds_136 hl (by decide) rfl (fun ls hl => ?_)
            refine lv_iload C.1 C.2.1 dX7_wayOdds_138 (lv_at hl 3 rfl) ?_
            refine x0eq (tgt := 149) C (by omega) dX7_wayOdds_140 (by decide) (fun c140 => ?_) (fun c140 => absurd c140 (by omega))
            refine lv_iload C.1 C.2.1 dX7_wayOdds_149 (lv_at hl 6 rfl) ?_
            refine lv_istore (lv' := [(7, .int (nI f)), (5, .long (lN (b * (onF L f)))), (13, .int (nI (backF L f))), (12, .int (nI (onF L f))), (11, .int (nI 0)), (9, .long (Z (24 * k + (i + d)))), (8, .int (nI d)), (0, .ref (gad g 119)), (2, .int (nI k)), (3, .int (nI i)), (4, .int (nI n))]) C.1 C.2.1 dX7_wayOdds_151 hl (by decide) rfl (fun ls hl => ?_)
            refine lv_iload C.1 C.2.1 dX7_wayOdds_153 (lv_at hl 4 rfl) ?_
            refine x0eq (tgt := 163) C (by omega) dX7_wayOdds_155 (by decide) (fun c155 => ?_) (fun c155 => absurd c155 (by omega))
            refine lv_lconst (v := lN 0) C.1 C.2.1 dX7_wayOdds_163 (by decide) ?_
            refine lv_lstore (lv' := [(5, .long (lN 0)), (7, .int (nI f)), (13, .int (nI (backF L f))), (12, .int (nI (onF L f))), (11, .int (nI 0)), (9, .long (Z (24 * k + (i + d)))), (8, .int (nI d)), (0, .ref (gad g 119)), (2, .int (nI k)), (3, .int (nI i)), (4, .int (nI n))]) C.1 C.2.1 dX7_wayOdds_164 hl (by decide) rfl (fun ls hl => ?_)
            refine lv_iinc (v := nI (d + 1)) (lv' := [(8, .int (nI (d + 1))), (5, .long (lN 0)), (7, .int (nI f)), (13, .int (nI (backF L f))), (12, .int (nI (onF L f))), (11, .int (nI 0)), (9, .long (Z (24 * k + (i + d)))), (0, .ref (gad g 119)), (2, .int (nI k)), (3, .int (nI i)), (4, .int (nI n))]) C.1 C.2.1 dX7_wayOdds_166 hl (k := 6) rfl (nI_add _ 1) (by decide) rfl (fun ls hl => ?_)
            refine lv_goto (tgt := 9) C.1 C.2.1 dX7_wayOdds_169 (by decide) ?_
            exact ih9 (n - (d + 1)) (by omega) (d + 1) f 0 _ _ _ rfl (by omega) (hf7) (way_no iv) (Or.inl rfl) hW (lv_sub hl [0, 2, 1, 7, 8, 9, 10] rfl)
  exact loop9 _ 0 f0 1 _ _ _ rfl (by omega) (hf0) (rfl) (Or.inr rfl) hW (lv_sub hl [0, 1, 2, 3, 5, 6, 7] rfl)

set_option maxHeartbeats 4000000 in
set_option maxRecDepth 100000 in
theorem c_X7_seen (l : Launch) (g : GE) (w : Nat → va_E) (L K T ln sz : Nat → Nat) (hk tn : Nat) (Z : Nat → Int64) (s : Int32) (c : Int32) (i : Int32) (n : Int32) (z : Int32) (hI : AdInj g) (hN : gN g = 130) (hS : OkS (L, K, hk, tn, T, ln, sz, Z)) (pr0 : MAll g (L, K, hk, tn, T, ln, sz, Z) w) : Met l yX7_seen wsX7_seen ({ frames := 3, cells := 0, slots := 0, locals := 79 } : Room) (XPc g w [.ref (gad g 119), .int s, .int c, .int i, .int n, .int z]) (XQi g (fun r w' => MAll g (L, K, hk, tn, T, ln, sz, Z) w' ∧ (∀ j : Nat, ¬ (119 ≤ j ∧ j < 130) → w' j = w j) ∧ r = seenS L ln sz Z s c i n z)) 0 0 (gA g) := by
  refine xmet (cc := cX7_seen) (maxL := 10) (ret := (some .int)) (by decide) rfl hI (Nat.le_of_ble_eq_true rfl) ?_
  intro pG eG sG mG belowG methG cG ls C hr hlk hK hW hl
  have hl : lv_has ls 10 [(0, .ref (gad g 119)), (1, .int s), (2, .int c), (3, .int i), (4, .int n), (5, .int z)] := hl
  have hinX7 : ∀ x ∈ u_ws RX7 TX7 19, x ∈ wsX7_seen := by decide +kernel
  obtain ⟨po, ao, mu, md, bu, bd, nu, TR, RD, KP, O, A, m0, m1, m2, m3, m4, m5, m6, m7, m8, m9, m10, m11⟩ := pr0
  have hokL : OkL L := hS.1
  obtain ⟨hok, hs2, hdy, hdr, hcl, hkn, hcs, hps⟩ := hokL
  have htn : tn ≤ 80 := hS.2.2.1
  have hlz : ∀ s, s < 4 → ln s ≤ 4 ∧ sz s ≤ 24 := hS.2.2.2.2
  have m0 : w 119 = .inr (7, [.ref (gad g 120), .ref (gad g 121), .ref (gad g 122), .int (nI tn), .ref (gad g 123), .int (nI po), .int nu, .ref (gad g 124), .ref (gad g 125), .ref (gad g 126), .ref (gad g 127), .int (nI hk), .ref (gad g 128), .ref (gad g 129), .long (lN ao), .long (lN mu), .long (lN md), .long (lN bu), .long (lN bd)]) := m0
  have m1 : w 120 = .inl (gI g, 4, .inl (kK 0 4 0 (laF ln))) := m1
  have m2 : w 121 = .inl (gI g, 4, .inl (cK 4 0 sz)) := m2
  have m3 : w 122 = .inl (gJ g, 96, .inr (.inl (kK 0 96 0 Z))) := m3
  have m4 : w 123 = .inl (gI g, 80, .inl (cK 80 0 T)) := m4
  have m5 : w 124 = .inl (gI g, 177, .inl (cK 177 0 L)) := m5
  have m9 : hk = 1 → KP = K := m9
  refine lv_iload_n C.1 C.2.1 dX7_seen_0 rfl (lv_at hl 1 rfl) ?_
  refine xcS_i (n := 1) (As := [.int s]) C hK hW (c_X7_isSheet l g w s hI hN) gX7_seen_X7_isSheet rfl ⟨rfl, rfl⟩ (by decide +kernel) ⟨Nat.le_of_ble_eq_true rfl, Nat.le_of_ble_eq_true rfl⟩ ⟨Nat.zero_le _, Nat.zero_le _⟩ rfl hl rfl (Nat.le_of_ble_eq_true rfl) dX7_seen_1 (fun r3 w1 H locs q2 hW => ?_)
  obtain ⟨qw4, rfl⟩ := q2
  rw [qw4] at hW
  refine xBeq (tgt := 37) C dX7_seen_4 (by decide) (fun c4 => ?_) (fun c4 => ?_)
  · refine lv_iconst (v := (-1 : Int32)) C.1 C.2.1 dX7_seen_37 (by decide) ?_
    exact xret_i C hr hlk hW ⟨⟨_, _, _, _, _, _, _, _, _, _, _, _, m0, m1, m2, m3, m4, m5, m6, m7, m8, m9, m10, m11⟩, (fun j z0 => rfl), (by rw [seenS, if_neg (c := okSe s c n z) (fun h => c4 h.1.1)])⟩ dX7_seen_38
  · refine lv_iload_n C.1 C.2.1 dX7_seen_7 rfl (lv_at hl 2 rfl) ?_
    refine lv_iconst (v := (nI 0)) C.1 C.2.1 dX7_seen_8 (by decide) ?_
    refine lv_iconst (v := (nI 3)) C.1 C.2.1 dX7_seen_9 (by decide) ?_
    refine xcS_i (n := 3) (As := [.int c, .int (nI 0), .int (nI 3)]) C hK hW (c_X7_in l g w c (nI 0) (nI 3) hI hN) gX7_seen_X7_in rfl ⟨rfl, rfl⟩ (by decide +kernel) ⟨Nat.le_of_ble_eq_true rfl, Nat.le_of_ble_eq_true rfl⟩ ⟨Nat.zero_le _, Nat.zero_le _⟩ rfl hl rfl (Nat.le_of_ble_eq_true rfl) dX7_seen_10 (fun r7 w5 H locs q6 hW => ?_)
    obtain ⟨qw8, rfl⟩ := q6
    rw [qw8] at hW
    refine xBeq (tgt := 37) C dX7_seen_13 (by decide) (fun c13 => ?_) (fun c13 => ?_)
    · refine lv_iconst (v := (-1 : Int32)) C.1 C.2.1 dX7_seen_37 (by decide) ?_
      exact xret_i C hr hlk hW ⟨⟨_, _, _, _, _, _, _, _, _, _, _, _, m0, m1, m2, m3, m4, m5, m6, m7, m8, m9, m10, m11⟩, (fun j z0 => rfl), (by rw [seenS, if_neg (c := okSe s c n z) (fun h => c13 h.1.2)])⟩ dX7_seen_38
    · refine lv_iload C.1 C.2.1 dX7_seen_16 (lv_at hl 4 rfl) ?_
      refine lv_iconst (v := (nI 1)) C.1 C.2.1 dX7_seen_18 (by decide) ?_
      refine lv_bipush (v := (nI 8)) C.1 C.2.1 dX7_seen_19 (by decide) ?_
      refine xcS_i (n := 3) (As := [.int n, .int (nI 1), .int (nI 8)]) C hK hW (c_X7_in l g w n (nI 1) (nI 8) hI hN) gX7_seen_X7_in rfl ⟨rfl, rfl⟩ (by decide +kernel) ⟨Nat.le_of_ble_eq_true rfl, Nat.le_of_ble_eq_true rfl⟩ ⟨Nat.zero_le _, Nat.zero_le _⟩ rfl hl rfl (Nat.le_of_ble_eq_true rfl) dX7_seen_21 (fun r11 w9 H locs q10 hW => ?_)
      obtain ⟨qw12, rfl⟩ := q10
      rw [qw12] at hW
      refine xBeq (tgt := 37) C dX7_seen_24 (by decide) (fun c24 => ?_) (fun c24 => ?_)
      · refine lv_iconst (v := (-1 : Int32)) C.1 C.2.1 dX7_seen_37 (by decide) ?_
        exact xret_i C hr hlk hW ⟨⟨_, _, _, _, _, _, _, _, _, _, _, _, m0, m1, m2, m3, m4, m5, m6, m7, m8, m9, m10, m11⟩, (fun j z0 => rfl), (by rw [seenS, if_neg (c := okSe s c n z) (fun h => c24 h.2.1)])⟩ dX7_seen_38
      · refine lv_iload C.1 C.2.1 dX7_seen_27 (lv_at hl 5 rfl) ?_
        refine lv_iconst (v := (nI 0)) C.1 C.2.1 dX7_seen_29 (by decide) ?_
        refine lv_iconst (v := (nI 2)) C.1 C.2.1 dX7_seen_30 (by decide) ?_
        refine xcS_i (n := 3) (As := [.int z, .int (nI 0), .int (nI 2)]) C hK hW (c_X7_in l g w z (nI 0) (nI 2) hI hN) gX7_seen_X7_in rfl ⟨rfl, rfl⟩ (by decide +kernel) ⟨Nat.le_of_ble_eq_true rfl, Nat.le_of_ble_eq_true rfl⟩ ⟨Nat.zero_le _, Nat.zero_le _⟩ rfl hl rfl (Nat.le_of_ble_eq_true rfl) dX7_seen_31 (fun r15 w13 H locs q14 hW => ?_)
        obtain ⟨qw16, rfl⟩ := q14
        rw [qw16] at hW
        refine xBne (tgt := 39) C dX7_seen_34 (by decide) (fun c34 => ?_) (fun c34 => ?_)
        · obtain ⟨k2, ha_k2, hb_k2, hx_k2⟩ := inR_N (by omega) (by omega) c4
          rw [hx_k2] at hl
          obtain ⟨k3, ha_k3, hb_k3, hx_k3⟩ := inR_N (by omega) (by omega) c34
          rw [hx_k3] at hl
          have hiw : wrS ln sz s c i n = wrongS (ln k2) (sz k2) c i n := by rw [wrS, hx_k2, cl_nI (by omega)]
          have hl4 := hlz k2 (by omega)
          refine lv_aload_n C.1 C.2.1 dX7_seen_39 rfl (lv_at hl 0 rfl) ?_
          refine lv_iload_n C.1 C.2.1 dX7_seen_40 rfl (lv_at hl 1 rfl) ?_
          refine lv_iload_n C.1 C.2.1 dX7_seen_41 rfl (lv_at hl 2 rfl) ?_
          refine lv_iload_n C.1 C.2.1 dX7_seen_42 rfl (lv_at hl 3 rfl) ?_
          refine lv_iload C.1 C.2.1 dX7_seen_43 (lv_at hl 4 rfl) ?_
          refine xcV_i (n := 4) (As := [.int (nI k2), .int c, .int i, .int n]) C hK hW (c_X7_wrong l g w hk tn po nu ao mu md bu bd k2 c i n ln sz hI hN (by omega) hl4.1 m0 m1 m2) gX7_seen_X7_wrong rfl ⟨rfl, rfl⟩ (by decide +kernel) ⟨Nat.le_of_ble_eq_true rfl, Nat.le_of_ble_eq_true rfl⟩ ⟨Nat.zero_le _, Nat.zero_le _⟩ rfl (by omega) m0 rfl hl rfl (Nat.le_of_ble_eq_true rfl) dX7_seen_45 (fun r19 w17 H locs q18 hW => ?_)
          obtain ⟨qw20, rfl⟩ := q18
          rw [qw20] at hW
          refine lv_istore (lv' := [(6, .int (wrongS (ln k2) (sz k2) c i n)), (0, .ref (gad g 119)), (1, .int (nI k2)), (2, .int c), (3, .int i), (4, .int n), (5, .int (nI k3))]) C.1 C.2.1 dX7_seen_48 hl (by decide) rfl (fun ls hl => ?_)
          refine lv_iload C.1 C.2.1 dX7_seen_50 (lv_at hl 0 rfl) ?_
          refine lv_if_eq (tgt := 58) C.1 C.2.1 dX7_seen_52 (by decide) (fun c52 => ?_) (fun c52 => ?_)
          · obtain ⟨hu1, hu2, hu3⟩ := wrong_ok c52
            obtain ⟨a, m, hx_a, hx_m, ham⟩ := isPt_nat hl4.2 hu3
            rw [hx_a, hx_m] at hl
            have hm8 : m ≤ 8 := by
              have q := c24.2
              rw [hx_m] at q
              exact (nI_leI (by omega) (by decide)).mp q
            have hob2 : ∀ f, f < 7 → onF L f + backF L f ≤ 10 := fun f hf => onF_back L f
            have hp := p10 (k := m) (by omega)
            refine lv_iload C.1 C.2.1 dX7_seen_58 (lv_at hl 6 rfl) ?_
            refine lv_iconst (v := (nI 2)) C.1 C.2.1 dX7_seen_60 (by decide) ?_
            refine xge (tgt := 114) C (by omega) (by omega) dX7_seen_61 (by decide) (fun c61 => ?_) (fun c61 => ?_)
            · refine lv_iconst (v := (nI 0)) C.1 C.2.1 dX7_seen_114 (by decide) ?_
              refine lv_istore (lv' := [(7, .int (nI 0)), (6, .int (wrongS (ln k2) (sz k2) c (nI a) (nI m))), (0, .ref (gad g 119)), (1, .int (nI k2)), (2, .int c), (3, .int (nI a)), (4, .int (nI m)), (5, .int (nI k3))]) C.1 C.2.1 dX7_seen_115 hl (by decide) rfl (fun ls hl => ?_)
              refine lv_iconst (v := (nI 0)) C.1 C.2.1 dX7_seen_117 (by decide) ?_
              refine lv_istore (lv' := [(8, .int (nI 0)), (7, .int (nI 0)), (6, .int (wrongS (ln k2) (sz k2) c (nI a) (nI m))), (0, .ref (gad g 119)), (1, .int (nI k2)), (2, .int c), (3, .int (nI a)), (4, .int (nI m)), (5, .int (nI k3))]) C.1 C.2.1 dX7_seen_118 hl (by decide) rfl (fun ls hl => ?_)
              have loop120 : ∀ (kG : Nat) (f : Nat) (H : Heap) (locs : List Loc) (ls : Array Slot), kG = 7 - f → (f ≤ 7) → XW g w (gA g) sG.heap H locs → lv_has ls 10 [(8, .int (nI f)), (7, .int (setF (fun f => decide (0 < waW L (seq8 Z (24 * k2) a) m f)) f)), (0, .ref (gad g 119)), (1, .int (nI k2)), (3, .int (nI a)), (4, .int (nI m))] → W pG l eG ({ frames := 3, cells := 0, slots := 0, locals := 79 } : Room) sG mG ([.ref (gad g 119), .int s, .int c, .int i, .int n, .int z] : List Value).toArray belowG methG cG H locs 0 0 (MQ belowG (XQi g (fun r w' => MAll g (L, K, hk, tn, T, ln, sz, Z) w' ∧ (∀ j : Nat, ¬ (119 ≤ j ∧ j < 130) → w' j = w j) ∧ r = seenS L ln sz Z s c i n z)) ([.ref (gad g 119), .int s, .int c, .int i, .int n, .int z] : List Value).toArray sG 0 0 (gA g)) (F0 mG 120 ls []) := by
                intro k120
                induction k120 using Nat.strongRecOn with
                | _ k120 ih120 =>
                intro f H locs ls hk120 hf7 hW hl
                refine lv_iload C.1 C.2.1 dX7_seen_120 (lv_at hl 0 rfl) ?_
                refine lv_bipush (v := (nI 7)) C.1 C.2.1 dX7_seen_122 (by decide) ?_
                refine xge (tgt := 161) C (by omega) (by omega) dX7_seen_124 (by decide) (fun c124 => ?_) (fun c124 => ?_)
                · refine lv_iload C.1 C.2.1 dX7_seen_161 (lv_at hl 1 rfl) ?_
                  exact xret_i C hr hlk hW ⟨⟨_, _, _, _, _, _, _, _, _, _, _, _, m0, m1, m2, m3, m4, m5, m6, m7, m8, m9, m10, m11⟩, (fun j z0 => rfl), (by rw [seenS, if_pos (c := okSe s c n z) ⟨⟨c4, c13⟩, c24, c34⟩, hiw, if_pos c52, hx_k2, hx_a, hx_m, hx_k3, cl_nI (by omega), cl_nI (by omega), cl_nI (by omega), cl_nI (by omega), if_pos (c := k3 = 2) (by omega), show f = 7 by omega])⟩ dX7_seen_163
                · refine lv_iload C.1 C.2.1 dX7_seen_127 (lv_at hl 1 rfl) ?_
                  refine lv_aload_n C.1 C.2.1 dX7_seen_129 rfl (lv_at hl 2 rfl) ?_
                  refine lv_iload C.1 C.2.1 dX7_seen_130 (lv_at hl 0 rfl) ?_
                  refine lv_iload_n C.1 C.2.1 dX7_seen_132 rfl (lv_at hl 3 rfl) ?_
                  refine lv_iload_n C.1 C.2.1 dX7_seen_133 rfl (lv_at hl 4 rfl) ?_
                  refine lv_iload C.1 C.2.1 dX7_seen_134 (lv_at hl 5 rfl) ?_
                  refine xcV_l (n := 4) (As := [.int (nI f), .int (nI k2), .int (nI a), .int (nI m)]) C hK hW (c_X7_wayOdds l g w f k2 a m hk tn po nu ao mu md bu bd L Z hI hN (by omega) (by omega) (by omega) hok m0 m3 m5) gX7_seen_X7_wayOdds rfl ⟨rfl, rfl⟩ (by decide +kernel) ⟨Nat.le_of_ble_eq_true rfl, Nat.le_of_ble_eq_true rfl⟩ ⟨Nat.zero_le _, Nat.zero_le _⟩ rfl (by omega) m0 rfl hl rfl (Nat.le_of_ble_eq_true rfl) dX7_seen_136 (fun r23 w21 H locs q22 hW => ?_)
                  obtain ⟨qw24, rfl⟩ := q22
                  rw [qw24] at hW
                  have hwb : waW L (seq8 Z (24 * k2) a) m f ≤ 100000000 := wgA_b hob2 (by decide) hm8
                  refine lv_lconst (v := lN 0) C.1 C.2.1 dX7_seen_139 (by decide) ?_
                  refine xLle (tgt := 151) C (by omega) (by omega) dX7_seen_140 dX7_seen_141 (by decide) (fun c140 => ?_) (fun c140 => ?_)
                  · refine lv_iconst (v := (nI 0)) C.1 C.2.1 dX7_seen_151 (by decide) ?_
                    refine lv_ior C.1 C.2.1 dX7_seen_152 ?_
                    refine xtopI (b := setF (fun f => decide (0 < waW L (seq8 Z (24 * k2) a) m f)) (f + 1)) ((or_nI0 _).trans (setF_n (p := fun f => decide (0 < waW L (seq8 Z (24 * k2) a) m f)) (fun z => absurd (of_decide_eq_true z) (by omega))).symm) ?_
                    refine lv_istore (lv' := [(7, .int (setF (fun f => decide (0 < waW L (seq8 Z (24 * k2) a) m f)) (f + 1))), (8, .int (nI f)), (0, .ref (gad g 119)), (1, .int (nI k2)), (3, .int (nI a)), (4, .int (nI m))]) C.1 C.2.1 dX7_seen_153 hl (by decide) rfl (fun ls hl => ?_)
                    refine lv_iinc (v := nI (f + 1)) (lv' := [(8, .int (nI (f + 1))), (7, .int (setF (fun f => decide (0 < waW L (seq8 Z (24 * k2) a) m f)) (f + 1))), (0, .ref (gad g 119)), (1, .int (nI k2)), (3, .int (nI a)), (4, .int (nI m))]) C.1 C.2.1 dX7_seen_155 hl (k := 1) rfl (nI_add _ 1) (by decide) rfl (fun ls hl => ?_)
                    refine lv_goto (tgt := 120) C.1 C.2.1 dX7_seen_158 (by decide) ?_
                    exact ih120 (7 - (f + 1)) (by omega) (f + 1) _ _ _ rfl (by omega) hW hl
                  · refine lv_iconst (v := (nI 1)) C.1 C.2.1 dX7_seen_144 (by decide) ?_
                    refine lv_iload C.1 C.2.1 dX7_seen_145 (lv_at hl 0 rfl) ?_
                    refine lv_ishl C.1 C.2.1 dX7_seen_147 ?_
                    refine lv_goto (tgt := 152) C.1 C.2.1 dX7_seen_148 (by decide) ?_
                    refine lv_ior C.1 C.2.1 dX7_seen_152 ?_
                    refine xtopI (b := setF (fun f => decide (0 < waW L (seq8 Z (24 * k2) a) m f)) (f + 1)) (setF_y (p := fun f => decide (0 < waW L (seq8 Z (24 * k2) a) m f)) (decide_eq_true (by omega))).symm ?_
                    refine lv_istore (lv' := [(7, .int (setF (fun f => decide (0 < waW L (seq8 Z (24 * k2) a) m f)) (f + 1))), (8, .int (nI f)), (0, .ref (gad g 119)), (1, .int (nI k2)), (3, .int (nI a)), (4, .int (nI m))]) C.1 C.2.1 dX7_seen_153 hl (by decide) rfl (fun ls hl => ?_)
                    refine lv_iinc (v := nI (f + 1)) (lv' := [(8, .int (nI (f + 1))), (7, .int (setF (fun f => decide (0 < waW L (seq8 Z (24 * k2) a) m f)) (f + 1))), (0, .ref (gad g 119)), (1, .int (nI k2)), (3, .int (nI a)), (4, .int (nI m))]) C.1 C.2.1 dX7_seen_155 hl (k := 1) rfl (nI_add _ 1) (by decide) rfl (fun ls hl => ?_)
                    refine lv_goto (tgt := 120) C.1 C.2.1 dX7_seen_158 (by decide) ?_
                    exact ih120 (7 - (f + 1)) (by omega) (f + 1) _ _ _ rfl (by omega) hW hl
              exact loop120 _ 0 _ _ _ rfl (by omega) hW (lv_sub hl [0, 1, 3, 4, 6, 7] rfl)
            · refine lv_lconst (v := lN 1) C.1 C.2.1 dX7_seen_64 (by decide) ?_
              refine lv_lstore (lv' := [(7, .long (lN 1)), (6, .int (wrongS (ln k2) (sz k2) c (nI a) (nI m))), (0, .ref (gad g 119)), (1, .int (nI k2)), (2, .int c), (3, .int (nI a)), (4, .int (nI m)), (5, .int (nI k3))]) C.1 C.2.1 dX7_seen_65 hl (by decide) rfl (fun ls hl => ?_)
              refine lv_iconst (v := (nI 0)) C.1 C.2.1 dX7_seen_67 (by decide) ?_
              refine lv_istore (lv' := [(9, .int (nI 0)), (7, .long (lN 1)), (6, .int (wrongS (ln k2) (sz k2) c (nI a) (nI m))), (0, .ref (gad g 119)), (1, .int (nI k2)), (2, .int c), (3, .int (nI a)), (4, .int (nI m)), (5, .int (nI k3))]) C.1 C.2.1 dX7_seen_68 hl (by decide) rfl (fun ls hl => ?_)
              have loop70 : ∀ (kG : Nat) (j : Nat) (H : Heap) (locs : List Loc) (ls : Array Slot), kG = m - j → (j ≤ m) → XW g w (gA g) sG.heap H locs → lv_has ls 10 [(9, .int (nI j)), (7, .long (lN (10 ^ j))), (0, .ref (gad g 119)), (1, .int (nI k2)), (3, .int (nI a)), (4, .int (nI m)), (5, .int (nI k3))] → W pG l eG ({ frames := 3, cells := 0, slots := 0, locals := 79 } : Room) sG mG ([.ref (gad g 119), .int s, .int c, .int i, .int n, .int z] : List Value).toArray belowG methG cG H locs 0 0 (MQ belowG (XQi g (fun r w' => MAll g (L, K, hk, tn, T, ln, sz, Z) w' ∧ (∀ j : Nat, ¬ (119 ≤ j ∧ j < 130) → w' j = w j) ∧ r = seenS L ln sz Z s c i n z)) ([.ref (gad g 119), .int s, .int c, .int i, .int n, .int z] : List Value).toArray sG 0 0 (gA g)) (F0 mG 70 ls []) := by
                intro k70
                induction k70 using Nat.strongRecOn with
                | _ k70 ih70 =>
                intro j H locs ls hk70 hj hW hl
                refine lv_iload C.1 C.2.1 dX7_seen_70 (lv_at hl 0 rfl) ?_
                refine lv_iload C.1 C.2.1 dX7_seen_72 (lv_at hl 5 rfl) ?_
                refine xge (tgt := 91) C (by omega) (by omega) dX7_seen_74 (by decide) (fun c74 => ?_) (fun c74 => ?_)
                · have hl : lv_has ls 10 [(9, .int (nI j)), (7, .long (lN (10 ^ m))), (0, .ref (gad g 119)), (1, .int (nI k2)), (3, .int (nI a)), (4, .int (nI m)), (5, .int (nI k3))] := by rw [show 10 ^ m = 10 ^ j from (by rw [show m = j by omega])]; exact hl
                  refine lv_aload_n C.1 C.2.1 dX7_seen_91 rfl (lv_at hl 2 rfl) ?_
                  refine lv_aload_n C.1 C.2.1 dX7_seen_92 rfl (lv_at hl 2 rfl) ?_
                  refine xget C hK hW hinX7 rfl (by omega) m0 7 (by decide) (List.mem_of_getElem? (i := 2) rfl) rfl dX7_seen_93 ?_
                  refine lv_iconst (v := (nI 2)) C.1 C.2.1 dX7_seen_96 (by decide) ?_
                  refine xildK0 C hK hW (by omega) m5 (by omega) (by decide) dX7_seen_97 ?_
                  refine lv_iload_n C.1 C.2.1 dX7_seen_98 rfl (lv_at hl 3 rfl) ?_
                  refine lv_iload_n C.1 C.2.1 dX7_seen_99 rfl (lv_at hl 4 rfl) ?_
                  refine lv_iload C.1 C.2.1 dX7_seen_100 (lv_at hl 5 rfl) ?_
                  refine xcV_l (n := 4) (As := [.int (nI (L 2)), .int (nI k2), .int (nI a), .int (nI m)]) C hK hW (c_X7_wayOdds l g w (L 2) k2 a m hk tn po nu ao mu md bu bd L Z hI hN (by omega) (by omega) (by omega) hok m0 m3 m5) gX7_seen_X7_wayOdds rfl ⟨rfl, rfl⟩ (by decide +kernel) ⟨Nat.le_of_ble_eq_true rfl, Nat.le_of_ble_eq_true rfl⟩ ⟨Nat.zero_le _, Nat.zero_le _⟩ rfl (by omega) m0 rfl hl rfl (Nat.le_of_ble_eq_true rfl) dX7_seen_102 (fun r27 w25 H locs q26 hW => ?_)
                  obtain ⟨qw28, rfl⟩ := q26
                  rw [qw28] at hW
                  have hwb : waW L (seq8 Z (24 * k2) a) m (L 2) ≤ 100000000 := wgA_b hob2 (by decide) hm8
                  refine lv_lload C.1 C.2.1 dX7_seen_105 (lv_at hl 1 rfl) ?_
                  refine lv_iload C.1 C.2.1 dX7_seen_107 (lv_at hl 6 rfl) ?_
                  refine xcS_l (n := 3) (As := [.long (lN (waW L (seq8 Z (24 * k2) a) m (L 2))), .long (lN (10 ^ m)), .int (nI k3)]) C hK hW (c_X7_part l g w (waW L (seq8 Z (24 * k2) a) m (L 2)) (10 ^ m) k3 hI hN (by omega) (by omega) (by omega) (by omega)) gX7_seen_X7_part rfl ⟨rfl, rfl⟩ (by decide +kernel) ⟨Nat.le_of_ble_eq_true rfl, Nat.le_of_ble_eq_true rfl⟩ ⟨Nat.zero_le _, Nat.zero_le _⟩ rfl hl rfl (Nat.le_of_ble_eq_true rfl) dX7_seen_109 (fun r31 w29 H locs q30 hW => ?_)
                  obtain ⟨qw32, rfl⟩ := q30
                  rw [qw32] at hW
                  refine xl2i C dX7_seen_112 ?_
                  exact xret_i C hr hlk hW ⟨⟨_, _, _, _, _, _, _, _, _, _, _, _, m0, m1, m2, m3, m4, m5, m6, m7, m8, m9, m10, m11⟩, (fun j z0 => rfl), (by rw [seenS, if_pos (c := okSe s c n z) ⟨⟨c4, c13⟩, c24, c34⟩, hiw, if_pos c52, hx_k2, hx_a, hx_m, hx_k3, cl_nI (by omega), cl_nI (by omega), cl_nI (by omega), cl_nI (by omega), if_neg (c := k3 = 2) (by omega)])⟩ dX7_seen_113
                · refine lv_lload C.1 C.2.1 dX7_seen_77 (lv_at hl 1 rfl) ?_
                  refine lv_ldc2 (v := (lN 10)) C.1 C.2.1 C.2.2.2.1 (C.2.2.2.2 _ (List.mem_of_getElem? (i := 1) rfl)) dX7_seen_79 ?_
                  refine xlmul C dX7_seen_82 ?_
                  refine lv_lstore (lv' := [(7, .long (lN ((10 ^ j) * 10))), (9, .int (nI j)), (0, .ref (gad g 119)), (1, .int (nI k2)), (3, .int (nI a)), (4, .int (nI m)), (5, .int (nI k3))]) C.1 C.2.1 dX7_seen_83 hl (by decide) rfl (fun ls hl => ?_)
                  refine lv_iinc (v := nI (j + 1)) (lv' := [(9, .int (nI (j + 1))), (7, .long (lN ((10 ^ j) * 10))), (0, .ref (gad g 119)), (1, .int (nI k2)), (3, .int (nI a)), (4, .int (nI m)), (5, .int (nI k3))]) C.1 C.2.1 dX7_seen_85 hl (k := 1) rfl (nI_add _ 1) (by decide) rfl (fun ls hl => ?_)
                  refine lv_goto (tgt := 70) C.1 C.2.1 dX7_seen_88 (by decide) ?_
                  exact ih70 (m - (j + 1)) (by omega) (j + 1) _ _ _ rfl (by omega) hW hl
              exact loop70 _ 0 _ _ _ rfl (by omega) hW (lv_sub hl [0, 1, 3, 4, 6, 7, 8] rfl)
          · refine lv_iload C.1 C.2.1 dX7_seen_55 (lv_at hl 0 rfl) ?_
            exact xret_i C hr hlk hW ⟨⟨_, _, _, _, _, _, _, _, _, _, _, _, m0, m1, m2, m3, m4, m5, m6, m7, m8, m9, m10, m11⟩, (fun j z0 => rfl), (by rw [seenS, if_pos (c := okSe s c n z) ⟨⟨c4, c13⟩, c24, c34⟩, hiw, if_neg c52])⟩ dX7_seen_57
        · refine lv_iconst (v := (-1 : Int32)) C.1 C.2.1 dX7_seen_37 (by decide) ?_
          exact xret_i C hr hlk hW ⟨⟨_, _, _, _, _, _, _, _, _, _, _, _, m0, m1, m2, m3, m4, m5, m6, m7, m8, m9, m10, m11⟩, (fun j z0 => rfl), (by rw [seenS, if_neg (c := okSe s c n z) (fun h => c34 h.2.2)])⟩ dX7_seen_38

set_option maxHeartbeats 4000000 in
set_option maxRecDepth 100000 in
theorem c_X7_copy (l : Launch) (g : GE) (w : Nat → va_E) (L K T ln sz : Nat → Nat) (hk tn : Nat) (Z : Nat → Int64) (x : Int32) (i : Int32) (y : Int32) (j : Int32) (n : Int32) (hI : AdInj g) (hN : gN g = 130) (hS : OkS (L, K, hk, tn, T, ln, sz, Z)) (pr0 : MAll g (L, K, hk, tn, T, ln, sz, Z) w) : Met l yX7_copy wsX7_copy ({ frames := 2, cells := 0, slots := 0, locals := 42 } : Room) (XPc g w [.ref (gad g 119), .int x, .int i, .int y, .int j, .int n]) (XQi g (fun r w' => MAll g (L, K, hk, tn, T, ln, sz, copZ ln sz Z x i y j n) w' ∧ (∀ j : Nat, ¬ (119 ≤ j ∧ j < 130) → w' j = w j) ∧ r = copS ln sz x i y j n)) 0 0 (gA g) := by
  refine xmet (cc := cX7_copy) (maxL := 9) (ret := (some .int)) (by decide) rfl hI (Nat.le_of_ble_eq_true rfl) ?_
  intro pG eG sG mG belowG methG cG ls C hr hlk hK hW hl
  have hl : lv_has ls 9 [(0, .ref (gad g 119)), (1, .int x), (2, .int i), (3, .int y), (4, .int j), (5, .int n)] := hl
  have hinX7 : ∀ x ∈ u_ws RX7 TX7 19, x ∈ wsX7_copy := by decide +kernel
  obtain ⟨po, ao, mu, md, bu, bd, nu, TR, RD, KP, O, A, m0, m1, m2, m3, m4, m5, m6, m7, m8, m9, m10, m11⟩ := pr0
  have hokL : OkL L := hS.1
  obtain ⟨hok, hs2, hdy, hdr, hcl, hkn, hcs, hps⟩ := hokL
  have htn : tn ≤ 80 := hS.2.2.1
  have hlz : ∀ s, s < 4 → ln s ≤ 4 ∧ sz s ≤ 24 := hS.2.2.2.2
  have m0 : w 119 = .inr (7, [.ref (gad g 120), .ref (gad g 121), .ref (gad g 122), .int (nI tn), .ref (gad g 123), .int (nI po), .int nu, .ref (gad g 124), .ref (gad g 125), .ref (gad g 126), .ref (gad g 127), .int (nI hk), .ref (gad g 128), .ref (gad g 129), .long (lN ao), .long (lN mu), .long (lN md), .long (lN bu), .long (lN bd)]) := m0
  have m1 : w 120 = .inl (gI g, 4, .inl (kK 0 4 0 (laF ln))) := m1
  have m2 : w 121 = .inl (gI g, 4, .inl (cK 4 0 sz)) := m2
  have m3 : w 122 = .inl (gJ g, 96, .inr (.inl (kK 0 96 0 Z))) := m3
  have m4 : w 123 = .inl (gI g, 80, .inl (cK 80 0 T)) := m4
  have m5 : w 124 = .inl (gI g, 177, .inl (cK 177 0 L)) := m5
  have m9 : hk = 1 → KP = K := m9
  refine lv_iload_n C.1 C.2.1 dX7_copy_0 rfl (lv_at hl 1 rfl) ?_
  refine xcS_i (n := 1) (As := [.int x]) C hK hW (c_X7_isSheet l g w x hI hN) gX7_copy_X7_isSheet rfl ⟨rfl, rfl⟩ (by decide +kernel) ⟨Nat.le_of_ble_eq_true rfl, Nat.le_of_ble_eq_true rfl⟩ ⟨Nat.zero_le _, Nat.zero_le _⟩ rfl hl rfl (Nat.le_of_ble_eq_true rfl) dX7_copy_1 (fun r3 w1 H locs q2 hW => ?_)
  obtain ⟨qw4, rfl⟩ := q2
  rw [qw4] at hW
  refine xBeq (tgt := 14) C dX7_copy_4 (by decide) (fun c4 => ?_) (fun c4 => ?_)
  · refine lv_iconst (v := (-1 : Int32)) C.1 C.2.1 dX7_copy_14 (by decide) ?_
    exact xret_i C hr hlk hW ⟨(by rw [copZ, if_neg (c := (in3 x ∧ in3 y) ∧ ¬ copH ln x y ∧ ln (cl x) = ln (cl y) ∧ copP sz x i y j n) (fun h => c4 h.1.1)]; exact ⟨_, _, _, _, _, _, _, _, _, _, _, _, m0, m1, m2, m3, m4, m5, m6, m7, m8, m9, m10, m11⟩), (fun j z0 => rfl), (by rw [copS, if_neg (c := in3 x ∧ in3 y) (fun h => c4 h.1)])⟩ dX7_copy_15
  · refine lv_iload_n C.1 C.2.1 dX7_copy_7 rfl (lv_at hl 3 rfl) ?_
    refine xcS_i (n := 1) (As := [.int y]) C hK hW (c_X7_isSheet l g w y hI hN) gX7_copy_X7_isSheet rfl ⟨rfl, rfl⟩ (by decide +kernel) ⟨Nat.le_of_ble_eq_true rfl, Nat.le_of_ble_eq_true rfl⟩ ⟨Nat.zero_le _, Nat.zero_le _⟩ rfl hl rfl (Nat.le_of_ble_eq_true rfl) dX7_copy_8 (fun r7 w5 H locs q6 hW => ?_)
    obtain ⟨qw8, rfl⟩ := q6
    rw [qw8] at hW
    refine xBne (tgt := 16) C dX7_copy_11 (by decide) (fun c11 => ?_) (fun c11 => ?_)
    · obtain ⟨k1, ha_k1, hb_k1, hx_k1⟩ := inR_N (by omega) (by omega) c4
      rw [hx_k1] at hl
      obtain ⟨k2, ha_k2, hb_k2, hx_k2⟩ := inR_N (by omega) (by omega) c11
      rw [hx_k2] at hl
      have hex : cl x = k1 := by rw [hx_k1, cl_nI (by omega)]
      have hey : cl y = k2 := by rw [hx_k2, cl_nI (by omega)]
      have hl1 := (hlz k1 (by omega)).1
      have hl2 := (hlz k2 (by omega)).1
      refine lv_aload_n C.1 C.2.1 dX7_copy_16 rfl (lv_at hl 0 rfl) ?_
      refine xget C hK hW hinX7 rfl (by omega) m0 0 (by decide) (List.mem_of_getElem? (i := 1) rfl) rfl dX7_copy_17 ?_
      refine lv_iload_n C.1 C.2.1 dX7_copy_20 rfl (lv_at hl 1 rfl) ?_
      refine xildR0 C hK hW (by omega) m1 (by omega) (by decide) dX7_copy_21 ?_
      refine lv_if_lt (tgt := 34) C.1 C.2.1 dX7_copy_22 (by decide) (fun c22 => ?_) (fun c22 => ?_)
      · have hH : copH ln x y := Or.inl (by rw [hex]; exact (laF_lt hl1).mp (Int32.not_le.mpr c22))
        refine lv_bipush (v := (-11 : Int32)) C.1 C.2.1 dX7_copy_34 (by decide) ?_
        exact xret_i C hr hlk hW ⟨(by rw [copZ, if_neg (c := (in3 x ∧ in3 y) ∧ ¬ copH ln x y ∧ ln (cl x) = ln (cl y) ∧ copP sz x i y j n) (fun h => h.2.1 hH)]; exact ⟨_, _, _, _, _, _, _, _, _, _, _, _, m0, m1, m2, m3, m4, m5, m6, m7, m8, m9, m10, m11⟩), (fun j z0 => rfl), (by rw [copS, if_pos (c := in3 x ∧ in3 y) ⟨c4, c11⟩, if_pos hH])⟩ dX7_copy_36
      · refine lv_aload_n C.1 C.2.1 dX7_copy_25 rfl (lv_at hl 0 rfl) ?_
        refine xget C hK hW hinX7 rfl (by omega) m0 0 (by decide) (List.mem_of_getElem? (i := 1) rfl) rfl dX7_copy_26 ?_
        refine lv_iload_n C.1 C.2.1 dX7_copy_29 rfl (lv_at hl 3 rfl) ?_
        refine xildR0 C hK hW (by omega) m1 (by omega) (by decide) dX7_copy_30 ?_
        refine lv_if_ge (tgt := 37) C.1 C.2.1 dX7_copy_31 (by decide) (fun c31 => ?_) (fun c31 => ?_)
        · have hz1 : ¬ ln k1 = 0 := fun z => (laF_lt hl1).mpr z (Int32.not_lt.mp c22)
          have hz2 : ¬ ln k2 = 0 := fun z => (laF_lt hl2).mpr z c31
          have hH : ¬ copH ln x y := fun z => z.elim (fun z => hz1 (by rw [hex] at z; exact z)) (fun z => hz2 (by rw [hey] at z; exact z))
          have hlp1 := laF_pos hz1
          have hlp2 := laF_pos hz2
          refine lv_aload_n C.1 C.2.1 dX7_copy_37 rfl (lv_at hl 0 rfl) ?_
          refine xget C hK hW hinX7 rfl (by omega) m0 0 (by decide) (List.mem_of_getElem? (i := 1) rfl) rfl dX7_copy_38 ?_
          refine lv_iload_n C.1 C.2.1 dX7_copy_41 rfl (lv_at hl 1 rfl) ?_
          refine xildR0 C hK hW (by omega) m1 (by omega) (by decide) dX7_copy_42 ?_
          refine lv_aload_n C.1 C.2.1 dX7_copy_43 rfl (lv_at hl 0 rfl) ?_
          refine xget C hK hW hinX7 rfl (by omega) m0 0 (by decide) (List.mem_of_getElem? (i := 1) rfl) rfl dX7_copy_44 ?_
          refine lv_iload_n C.1 C.2.1 dX7_copy_47 rfl (lv_at hl 3 rfl) ?_
          refine xildR0 C hK hW (by omega) m1 (by omega) (by decide) dX7_copy_48 ?_
          refine lv_icmp_eq (tgt := 55) C.1 C.2.1 dX7_copy_49 (by decide) (fun c49 => ?_) (fun c49 => ?_)
          · have hL : ln (cl x) = ln (cl y) := by
              rw [hlp1, hlp2] at c49
              have hq := (nI_eq (by omega) (by omega)).mp c49
              rw [hex, hey]
              omega
            refine lv_iload_n C.1 C.2.1 dX7_copy_55 rfl (lv_at hl 2 rfl) ?_
            refine lv_iload C.1 C.2.1 dX7_copy_56 (lv_at hl 5 rfl) ?_
            refine lv_aload_n C.1 C.2.1 dX7_copy_58 rfl (lv_at hl 0 rfl) ?_
            refine xget C hK hW hinX7 rfl (by omega) m0 1 (by decide) (List.mem_of_getElem? (i := 2) rfl) rfl dX7_copy_59 ?_
            refine lv_iload_n C.1 C.2.1 dX7_copy_62 rfl (lv_at hl 1 rfl) ?_
            refine xildK0 C hK hW (by omega) m2 (by omega) (by decide) dX7_copy_63 ?_
            refine xcS_i (n := 3) (As := [.int i, .int n, .int (nI (sz k1))]) C hK hW (c_X7_isPart l g w (sz k1) i n hI hN) gX7_copy_X7_isPart rfl ⟨rfl, rfl⟩ (by decide +kernel) ⟨Nat.le_of_ble_eq_true rfl, Nat.le_of_ble_eq_true rfl⟩ ⟨Nat.zero_le _, Nat.zero_le _⟩ rfl hl rfl (Nat.le_of_ble_eq_true rfl) dX7_copy_64 (fun r11 w9 H locs q10 hW => ?_)
            obtain ⟨qw12, rfl⟩ := q10
            rw [qw12] at hW
            refine xBeq (tgt := 86) C dX7_copy_67 (by decide) (fun c67 => ?_) (fun c67 => ?_)
            · refine lv_bipush (v := (-13 : Int32)) C.1 C.2.1 dX7_copy_86 (by decide) ?_
              exact xret_i C hr hlk hW ⟨(by rw [copZ, if_neg (c := (in3 x ∧ in3 y) ∧ ¬ copH ln x y ∧ ln (cl x) = ln (cl y) ∧ copP sz x i y j n) (fun h => c67 (by have h2 := h.2.2.2.1; rw [hex] at h2; exact h2))]; exact ⟨_, _, _, _, _, _, _, _, _, _, _, _, m0, m1, m2, m3, m4, m5, m6, m7, m8, m9, m10, m11⟩), (fun j z0 => rfl), (by rw [copS, if_pos (c := in3 x ∧ in3 y) ⟨c4, c11⟩, if_neg hH, if_pos hL, if_neg (c := copP sz x i y j n) (fun h => c67 (by have h2 := h.1; rw [hex] at h2; exact h2))])⟩ dX7_copy_88
            · refine lv_iload C.1 C.2.1 dX7_copy_70 (lv_at hl 4 rfl) ?_
              refine lv_iload C.1 C.2.1 dX7_copy_72 (lv_at hl 5 rfl) ?_
              refine lv_aload_n C.1 C.2.1 dX7_copy_74 rfl (lv_at hl 0 rfl) ?_
              refine xget C hK hW hinX7 rfl (by omega) m0 1 (by decide) (List.mem_of_getElem? (i := 2) rfl) rfl dX7_copy_75 ?_
              refine lv_iload_n C.1 C.2.1 dX7_copy_78 rfl (lv_at hl 3 rfl) ?_
              refine xildK0 C hK hW (by omega) m2 (by omega) (by decide) dX7_copy_79 ?_
              refine xcS_i (n := 3) (As := [.int j, .int n, .int (nI (sz k2))]) C hK hW (c_X7_isPart l g w (sz k2) j n hI hN) gX7_copy_X7_isPart rfl ⟨rfl, rfl⟩ (by decide +kernel) ⟨Nat.le_of_ble_eq_true rfl, Nat.le_of_ble_eq_true rfl⟩ ⟨Nat.zero_le _, Nat.zero_le _⟩ rfl hl rfl (Nat.le_of_ble_eq_true rfl) dX7_copy_80 (fun r15 w13 H locs q14 hW => ?_)
              obtain ⟨qw16, rfl⟩ := q14
              rw [qw16] at hW
              refine xBne (tgt := 89) C dX7_copy_83 (by decide) (fun c83 => ?_) (fun c83 => ?_)
              · have hs1 := (hlz k1 (by omega)).2
                have hs3 := (hlz k2 (by omega)).2
                obtain ⟨a, m, hx_a, hx_m, ham⟩ := isPt_nat (hlz k1 (by omega)).2 c67
                obtain ⟨a2, mm2, hx_a2, hx_m2, ham2⟩ := isPt_nat (hlz k2 (by omega)).2 c83
                have hmm : mm2 = m := (nI_eq (by omega) (by omega)).mp (hx_m2.symm.trans hx_m)
                rw [hx_a, hx_a2, hx_m] at hl
                refine lv_iload_n C.1 C.2.1 dX7_copy_89 rfl (lv_at hl 1 rfl) ?_
                refine lv_iload_n C.1 C.2.1 dX7_copy_90 rfl (lv_at hl 3 rfl) ?_
                refine xne (tgt := 104) C (by omega) (by omega) dX7_copy_91 (by decide) (fun c91 => ?_) (fun c91 => ?_)
                · refine lv_iconst (v := (nI 0)) C.1 C.2.1 dX7_copy_104 (by decide) ?_
                  refine lv_istore (lv' := [(6, .int (nI 0)), (0, .ref (gad g 119)), (1, .int (nI k1)), (2, .int (nI a)), (3, .int (nI k2)), (4, .int (nI a2)), (5, .int (nI m))]) C.1 C.2.1 dX7_copy_105 hl (by decide) rfl (fun ls hl => ?_)
                  refine lv_iconst (v := (nI 0)) C.1 C.2.1 dX7_copy_107 (by decide) ?_
                  refine lv_istore (lv' := [(7, .int (nI 0)), (6, .int (nI 0)), (0, .ref (gad g 119)), (1, .int (nI k1)), (2, .int (nI a)), (3, .int (nI k2)), (4, .int (nI a2)), (5, .int (nI m))]) C.1 C.2.1 dX7_copy_108 hl (by decide) rfl (fun ls hl => ?_)
                  have loop110 : ∀ (kG : Nat) (k : Nat) (v110 : Nat → va_E) (H : Heap) (locs : List Loc) (ls : Array Slot), kG = m - k → (v110 119 = .inr (7, [.ref (gad g 120), .ref (gad g 121), .ref (gad g 122), .int (nI tn), .ref (gad g 123), .int (nI po), .int nu, .ref (gad g 124), .ref (gad g 125), .ref (gad g 126), .ref (gad g 127), .int (nI hk), .ref (gad g 128), .ref (gad g 129), .long (lN ao), .long (lN mu), .long (lN md), .long (lN bu), .long (lN bd)])) → (v110 120 = .inl (gI g, 4, .inl (kK 0 4 0 (laF ln)))) → (v110 121 = .inl (gI g, 4, .inl (cK 4 0 sz))) → (v110 122 = .inl (gJ g, 96, .inr (.inl (kK 0 96 0 (cpZ (24 * k1) (24 * k2) a a2 k Z Z))))) → (v110 123 = .inl (gI g, 80, .inl (cK 80 0 T))) → (v110 124 = .inl (gI g, 177, .inl (cK 177 0 L))) → (v110 125 = .inl (gI g, 177, .inl (cK 177 0 TR))) → (v110 126 = .inl (gI g, 177, .inl (cK 177 0 RD))) → (v110 127 = .inl (gI g, 177, .inl (cK 177 0 KP))) → (v110 128 = .inl (gJ g, 7, .inr (.inl (cL 7 0 O)))) → (v110 129 = .inl (gJ g, 7, .inr (.inl (cL 7 0 A)))) → (∀ j : Nat, ¬ (119 ≤ j ∧ j < 130) → v110 j = w j) → (k ≤ m) → XW g v110 (gA g) sG.heap H locs → lv_has ls 9 [(7, .int (nI k)), (6, .int (nI 0)), (0, .ref (gad g 119)), (1, .int (nI k1)), (3, .int (nI k2)), (2, .int (nI a)), (4, .int (nI a2)), (5, .int (nI m))] → W pG l eG ({ frames := 2, cells := 0, slots := 0, locals := 42 } : Room) sG mG ([.ref (gad g 119), .int x, .int i, .int y, .int j, .int n] : List Value).toArray belowG methG cG H locs 0 0 (MQ belowG (XQi g (fun r w' => MAll g (L, K, hk, tn, T, ln, sz, copZ ln sz Z x i y j n) w' ∧ (∀ j : Nat, ¬ (119 ≤ j ∧ j < 130) → w' j = w j) ∧ r = copS ln sz x i y j n)) ([.ref (gad g 119), .int x, .int i, .int y, .int j, .int n] : List Value).toArray sG 0 0 (gA g)) (F0 mG 110 ls []) := by
                    intro k110
                    induction k110 using Nat.strongRecOn with
                    | _ k110 ih110 =>
                    intro k v110 H locs ls hk110 fa110_0 fa110_1 fa110_2 fa110_3 fa110_4 fa110_5 fa110_6 fa110_7 fa110_8 fa110_9 fa110_10 hfr110 hkm hW hl
                    refine lv_iload C.1 C.2.1 dX7_copy_110 (lv_at hl 0 rfl) ?_
                    refine lv_iload C.1 C.2.1 dX7_copy_112 (lv_at hl 7 rfl) ?_
                    refine xge (tgt := 171) C (by omega) (by omega) dX7_copy_114 (by decide) (fun c114 => ?_) (fun c114 => ?_)
                    · have h17 : v110 122 = .inl (gJ g, 96, .inr (.inl (kK 0 96 0 (cpZ (24 * k1) (24 * k2) a a2 m Z Z)))) := fa110_3.trans (by rw [cpZ_end (show k = m by omega)])
                      refine lv_iload C.1 C.2.1 dX7_copy_171 (lv_at hl 7 rfl) ?_
                      have hP : copP sz x i y j n := ⟨by rw [hex]; exact c67, by rw [hey]; exact c83⟩
                      exact xret_i C hr hlk hW ⟨(by rw [copZ, if_pos (c := (in3 x ∧ in3 y) ∧ ¬ copH ln x y ∧ ln (cl x) = ln (cl y) ∧ copP sz x i y j n) ⟨⟨c4, c11⟩, hH, hL, hP⟩, hex, hey, hx_a, hx_a2, hx_m, cl_nI (by omega), cl_nI (by omega), cl_nI (by omega)]; exact ⟨_, _, _, _, _, _, _, _, _, _, _, _, fa110_0, fa110_1, fa110_2, h17, fa110_4, fa110_5, fa110_6, fa110_7, fa110_8, m9, fa110_9, fa110_10⟩), (fun j z0 => (hfr110 j z0)), (by rw [copS, if_pos (c := in3 x ∧ in3 y) ⟨c4, c11⟩, if_neg hH, if_pos hL, if_pos hP, hx_m])⟩ dX7_copy_173
                    · refine lv_iload C.1 C.2.1 dX7_copy_117 (lv_at hl 1 rfl) ?_
                      refine x0eq (tgt := 132) C (by omega) dX7_copy_119 (by decide) (fun c119 => ?_) (fun c119 => absurd c119 (by omega))
                      refine lv_iload C.1 C.2.1 dX7_copy_132 (lv_at hl 0 rfl) ?_
                      refine lv_istore (lv' := [(8, .int (nI k)), (7, .int (nI k)), (6, .int (nI 0)), (0, .ref (gad g 119)), (1, .int (nI k1)), (3, .int (nI k2)), (2, .int (nI a)), (4, .int (nI a2)), (5, .int (nI m))]) C.1 C.2.1 dX7_copy_134 hl (by decide) rfl (fun ls hl => ?_)
                      refine lv_aload_n C.1 C.2.1 dX7_copy_136 rfl (lv_at hl 3 rfl) ?_
                      refine xget C hK hW hinX7 rfl (by omega) fa110_0 2 (by decide) (List.mem_of_getElem? (i := 3) rfl) rfl dX7_copy_137 ?_
                      refine lv_bipush (v := (nI 24)) C.1 C.2.1 dX7_copy_140 (by decide) ?_
                      refine lv_iload_n C.1 C.2.1 dX7_copy_142 rfl (lv_at hl 5 rfl) ?_
                      refine xmul C dX7_copy_143 ?_
                      refine lv_iload C.1 C.2.1 dX7_copy_144 (lv_at hl 7 rfl) ?_
                      refine xadd C dX7_copy_146 ?_
                      refine lv_iload C.1 C.2.1 dX7_copy_147 (lv_at hl 0 rfl) ?_
                      refine xadd C dX7_copy_149 ?_
                      refine lv_aload_n C.1 C.2.1 dX7_copy_150 rfl (lv_at hl 3 rfl) ?_
                      refine xget C hK hW hinX7 rfl (by omega) fa110_0 2 (by decide) (List.mem_of_getElem? (i := 3) rfl) rfl dX7_copy_151 ?_
                      refine lv_bipush (v := (nI 24)) C.1 C.2.1 dX7_copy_154 (by decide) ?_
                      refine lv_iload_n C.1 C.2.1 dX7_copy_156 rfl (lv_at hl 4 rfl) ?_
                      refine xmul C dX7_copy_157 ?_
                      refine lv_iload_n C.1 C.2.1 dX7_copy_158 rfl (lv_at hl 6 rfl) ?_
                      refine xadd C dX7_copy_159 ?_
                      refine lv_iload C.1 C.2.1 dX7_copy_160 (lv_at hl 0 rfl) ?_
                      refine xadd C dX7_copy_162 ?_
                      refine xlldR0 C hK hW (by omega) fa110_3 (by omega) (by decide) dX7_copy_163 ?_
                      refine xtopJ (b := Z (24 * k1 + a + (k))) (cpZ_read (by omega)) ?_
                      refine xlstR0 (v := (Z (24 * k1 + a + (k)))) C hK hW (by omega) fa110_3 (by omega) (by decide) dX7_copy_164 (fun w18 H locs e19 f20 hW => ?_)
                      have h21 : w18 122 = .inl (gJ g, 96, .inr (.inl (kK 0 96 0 (cpZ (24 * k1) (24 * k2) a a2 (k + 1) Z Z)))) := e19.trans (by rw [cpZ_up])
                      refine lv_iinc (v := nI (k + 1)) (lv' := [(7, .int (nI (k + 1))), (8, .int (nI k)), (6, .int (nI 0)), (0, .ref (gad g 119)), (1, .int (nI k1)), (3, .int (nI k2)), (2, .int (nI a)), (4, .int (nI a2)), (5, .int (nI m))]) C.1 C.2.1 dX7_copy_165 hl (k := 1) rfl (nI_add _ 1) (by decide) rfl (fun ls hl => ?_)
                      refine lv_goto (tgt := 110) C.1 C.2.1 dX7_copy_168 (by decide) ?_
                      have h22 : w18 119 = .inr (7, [.ref (gad g 120), .ref (gad g 121), .ref (gad g 122), .int (nI tn), .ref (gad g 123), .int (nI po), .int nu, .ref (gad g 124), .ref (gad g 125), .ref (gad g 126), .ref (gad g 127), .int (nI hk), .ref (gad g 128), .ref (gad g 129), .long (lN ao), .long (lN mu), .long (lN md), .long (lN bu), .long (lN bd)]) := ((f20 119 (by omega)).trans fa110_0)
                      have h23 : w18 120 = .inl (gI g, 4, .inl (kK 0 4 0 (laF ln))) := ((f20 120 (by omega)).trans fa110_1)
                      have h24 : w18 121 = .inl (gI g, 4, .inl (cK 4 0 sz)) := ((f20 121 (by omega)).trans fa110_2)
                      have h25 : w18 123 = .inl (gI g, 80, .inl (cK 80 0 T)) := ((f20 123 (by omega)).trans fa110_4)
                      have h26 : w18 124 = .inl (gI g, 177, .inl (cK 177 0 L)) := ((f20 124 (by omega)).trans fa110_5)
                      have h27 : w18 125 = .inl (gI g, 177, .inl (cK 177 0 TR)) := ((f20 125 (by omega)).trans fa110_6)
                      have h28 : w18 126 = .inl (gI g, 177, .inl (cK 177 0 RD)) := ((f20 126 (by omega)).trans fa110_7)
                      have h29 : w18 127 = .inl (gI g, 177, .inl (cK 177 0 KP)) := ((f20 127 (by omega)).trans fa110_8)
                      have h30 : w18 128 = .inl (gJ g, 7, .inr (.inl (cL 7 0 O))) := ((f20 128 (by omega)).trans fa110_9)
                      have h31 : w18 129 = .inl (gJ g, 7, .inr (.inl (cL 7 0 A))) := ((f20 129 (by omega)).trans fa110_10)
                      exact ih110 (m - (k + 1)) (by omega) (k + 1) w18 _ _ _ rfl h22 h23 h24 h21 h25 h26 h27 h28 h29 h30 h31 (fun j z0 => ((f20 j (by omega)).trans (hfr110 j z0))) (by omega) hW (lv_sub hl [0, 2, 3, 4, 5, 6, 7, 8] rfl)
                  exact loop110 _ 0 w _ _ _ rfl m0 m1 m2 (by rw [cpZ_0]; exact m3) m4 m5 m6 m7 m8 m10 m11 (fun j z0 => rfl) (by omega) hW (lv_sub hl [0, 1, 2, 3, 5, 4, 6, 7] rfl)
                · refine lv_iload C.1 C.2.1 dX7_copy_94 (lv_at hl 4 rfl) ?_
                  refine lv_iload_n C.1 C.2.1 dX7_copy_96 rfl (lv_at hl 2 rfl) ?_
                  refine xle (tgt := 104) C (by omega) (by omega) dX7_copy_97 (by decide) (fun c97 => ?_) (fun c97 => ?_)
                  · refine lv_iconst (v := (nI 0)) C.1 C.2.1 dX7_copy_104 (by decide) ?_
                    refine lv_istore (lv' := [(6, .int (nI 0)), (0, .ref (gad g 119)), (1, .int (nI k1)), (2, .int (nI a)), (3, .int (nI k2)), (4, .int (nI a2)), (5, .int (nI m))]) C.1 C.2.1 dX7_copy_105 hl (by decide) rfl (fun ls hl => ?_)
                    refine lv_iconst (v := (nI 0)) C.1 C.2.1 dX7_copy_107 (by decide) ?_
                    refine lv_istore (lv' := [(7, .int (nI 0)), (6, .int (nI 0)), (0, .ref (gad g 119)), (1, .int (nI k1)), (2, .int (nI a)), (3, .int (nI k2)), (4, .int (nI a2)), (5, .int (nI m))]) C.1 C.2.1 dX7_copy_108 hl (by decide) rfl (fun ls hl => ?_)
                    have loop110 : ∀ (kG : Nat) (k : Nat) (v110 : Nat → va_E) (H : Heap) (locs : List Loc) (ls : Array Slot), kG = m - k → (v110 119 = .inr (7, [.ref (gad g 120), .ref (gad g 121), .ref (gad g 122), .int (nI tn), .ref (gad g 123), .int (nI po), .int nu, .ref (gad g 124), .ref (gad g 125), .ref (gad g 126), .ref (gad g 127), .int (nI hk), .ref (gad g 128), .ref (gad g 129), .long (lN ao), .long (lN mu), .long (lN md), .long (lN bu), .long (lN bd)])) → (v110 120 = .inl (gI g, 4, .inl (kK 0 4 0 (laF ln)))) → (v110 121 = .inl (gI g, 4, .inl (cK 4 0 sz))) → (v110 122 = .inl (gJ g, 96, .inr (.inl (kK 0 96 0 (cpZ (24 * k1) (24 * k2) a a2 k Z Z))))) → (v110 123 = .inl (gI g, 80, .inl (cK 80 0 T))) → (v110 124 = .inl (gI g, 177, .inl (cK 177 0 L))) → (v110 125 = .inl (gI g, 177, .inl (cK 177 0 TR))) → (v110 126 = .inl (gI g, 177, .inl (cK 177 0 RD))) → (v110 127 = .inl (gI g, 177, .inl (cK 177 0 KP))) → (v110 128 = .inl (gJ g, 7, .inr (.inl (cL 7 0 O)))) → (v110 129 = .inl (gJ g, 7, .inr (.inl (cL 7 0 A)))) → (∀ j : Nat, ¬ (119 ≤ j ∧ j < 130) → v110 j = w j) → (k ≤ m) → XW g v110 (gA g) sG.heap H locs → lv_has ls 9 [(7, .int (nI k)), (6, .int (nI 0)), (0, .ref (gad g 119)), (1, .int (nI k1)), (3, .int (nI k2)), (2, .int (nI a)), (4, .int (nI a2)), (5, .int (nI m))] → W pG l eG ({ frames := 2, cells := 0, slots := 0, locals := 42 } : Room) sG mG ([.ref (gad g 119), .int x, .int i, .int y, .int j, .int n] : List Value).toArray belowG methG cG H locs 0 0 (MQ belowG (XQi g (fun r w' => MAll g (L, K, hk, tn, T, ln, sz, copZ ln sz Z x i y j n) w' ∧ (∀ j : Nat, ¬ (119 ≤ j ∧ j < 130) → w' j = w j) ∧ r = copS ln sz x i y j n)) ([.ref (gad g 119), .int x, .int i, .int y, .int j, .int n] : List Value).toArray sG 0 0 (gA g)) (F0 mG 110 ls []) := by
                      intro k110
                      induction k110 using Nat.strongRecOn with
                      | _ k110 ih110 =>
                      intro k v110 H locs ls hk110 fa110_0 fa110_1 fa110_2 fa110_3 fa110_4 fa110_5 fa110_6 fa110_7 fa110_8 fa110_9 fa110_10 hfr110 hkm hW hl
                      refine lv_iload C.1 C.2.1 dX7_copy_110 (lv_at hl 0 rfl) ?_
                      refine lv_iload C.1 C.2.1 dX7_copy_112 (lv_at hl 7 rfl) ?_
                      refine xge (tgt := 171) C (by omega) (by omega) dX7_copy_114 (by decide) (fun c114 => ?_) (fun c114 => ?_)
                      · have h32 : v110 122 = .inl (gJ g, 96, .inr (.inl (kK 0 96 0 (cpZ (24 * k1) (24 * k2) a a2 m Z Z)))) := fa110_3.trans (by rw [cpZ_end (show k = m by omega)])
                        refine lv_iload C.1 C.2.1 dX7_copy_171 (lv_at hl 7 rfl) ?_
                        have hP : copP sz x i y j n := ⟨by rw [hex]; exact c67, by rw [hey]; exact c83⟩
                        exact xret_i C hr hlk hW ⟨(by rw [copZ, if_pos (c := (in3 x ∧ in3 y) ∧ ¬ copH ln x y ∧ ln (cl x) = ln (cl y) ∧ copP sz x i y j n) ⟨⟨c4, c11⟩, hH, hL, hP⟩, hex, hey, hx_a, hx_a2, hx_m, cl_nI (by omega), cl_nI (by omega), cl_nI (by omega)]; exact ⟨_, _, _, _, _, _, _, _, _, _, _, _, fa110_0, fa110_1, fa110_2, h32, fa110_4, fa110_5, fa110_6, fa110_7, fa110_8, m9, fa110_9, fa110_10⟩), (fun j z0 => (hfr110 j z0)), (by rw [copS, if_pos (c := in3 x ∧ in3 y) ⟨c4, c11⟩, if_neg hH, if_pos hL, if_pos hP, hx_m])⟩ dX7_copy_173
                      · refine lv_iload C.1 C.2.1 dX7_copy_117 (lv_at hl 1 rfl) ?_
                        refine x0eq (tgt := 132) C (by omega) dX7_copy_119 (by decide) (fun c119 => ?_) (fun c119 => absurd c119 (by omega))
                        refine lv_iload C.1 C.2.1 dX7_copy_132 (lv_at hl 0 rfl) ?_
                        refine lv_istore (lv' := [(8, .int (nI k)), (7, .int (nI k)), (6, .int (nI 0)), (0, .ref (gad g 119)), (1, .int (nI k1)), (3, .int (nI k2)), (2, .int (nI a)), (4, .int (nI a2)), (5, .int (nI m))]) C.1 C.2.1 dX7_copy_134 hl (by decide) rfl (fun ls hl => ?_)
                        refine lv_aload_n C.1 C.2.1 dX7_copy_136 rfl (lv_at hl 3 rfl) ?_
                        refine xget C hK hW hinX7 rfl (by omega) fa110_0 2 (by decide) (List.mem_of_getElem? (i := 3) rfl) rfl dX7_copy_137 ?_
                        refine lv_bipush (v := (nI 24)) C.1 C.2.1 dX7_copy_140 (by decide) ?_
                        refine lv_iload_n C.1 C.2.1 dX7_copy_142 rfl (lv_at hl 5 rfl) ?_
                        refine xmul C dX7_copy_143 ?_
                        refine lv_iload C.1 C.2.1 dX7_copy_144 (lv_at hl 7 rfl) ?_
                        refine xadd C dX7_copy_146 ?_
                        refine lv_iload C.1 C.2.1 dX7_copy_147 (lv_at hl 0 rfl) ?_
                        refine xadd C dX7_copy_149 ?_
                        refine lv_aload_n C.1 C.2.1 dX7_copy_150 rfl (lv_at hl 3 rfl) ?_
                        refine xget C hK hW hinX7 rfl (by omega) fa110_0 2 (by decide) (List.mem_of_getElem? (i := 3) rfl) rfl dX7_copy_151 ?_
                        refine lv_bipush (v := (nI 24)) C.1 C.2.1 dX7_copy_154 (by decide) ?_
                        refine lv_iload_n C.1 C.2.1 dX7_copy_156 rfl (lv_at hl 4 rfl) ?_
                        refine xmul C dX7_copy_157 ?_
                        refine lv_iload_n C.1 C.2.1 dX7_copy_158 rfl (lv_at hl 6 rfl) ?_
                        refine xadd C dX7_copy_159 ?_
                        refine lv_iload C.1 C.2.1 dX7_copy_160 (lv_at hl 0 rfl) ?_
                        refine xadd C dX7_copy_162 ?_
                        refine xlldR0 C hK hW (by omega) fa110_3 (by omega) (by decide) dX7_copy_163 ?_
                        refine xtopJ (b := Z (24 * k1 + a + (k))) (cpZ_read (by omega)) ?_
                        refine xlstR0 (v := (Z (24 * k1 + a + (k)))) C hK hW (by omega) fa110_3 (by omega) (by decide) dX7_copy_164 (fun w33 H locs e34 f35 hW => ?_)
                        have h36 : w33 122 = .inl (gJ g, 96, .inr (.inl (kK 0 96 0 (cpZ (24 * k1) (24 * k2) a a2 (k + 1) Z Z)))) := e34.trans (by rw [cpZ_up])
                        refine lv_iinc (v := nI (k + 1)) (lv' := [(7, .int (nI (k + 1))), (8, .int (nI k)), (6, .int (nI 0)), (0, .ref (gad g 119)), (1, .int (nI k1)), (3, .int (nI k2)), (2, .int (nI a)), (4, .int (nI a2)), (5, .int (nI m))]) C.1 C.2.1 dX7_copy_165 hl (k := 1) rfl (nI_add _ 1) (by decide) rfl (fun ls hl => ?_)
                        refine lv_goto (tgt := 110) C.1 C.2.1 dX7_copy_168 (by decide) ?_
                        have h37 : w33 119 = .inr (7, [.ref (gad g 120), .ref (gad g 121), .ref (gad g 122), .int (nI tn), .ref (gad g 123), .int (nI po), .int nu, .ref (gad g 124), .ref (gad g 125), .ref (gad g 126), .ref (gad g 127), .int (nI hk), .ref (gad g 128), .ref (gad g 129), .long (lN ao), .long (lN mu), .long (lN md), .long (lN bu), .long (lN bd)]) := ((f35 119 (by omega)).trans fa110_0)
                        have h38 : w33 120 = .inl (gI g, 4, .inl (kK 0 4 0 (laF ln))) := ((f35 120 (by omega)).trans fa110_1)
                        have h39 : w33 121 = .inl (gI g, 4, .inl (cK 4 0 sz)) := ((f35 121 (by omega)).trans fa110_2)
                        have h40 : w33 123 = .inl (gI g, 80, .inl (cK 80 0 T)) := ((f35 123 (by omega)).trans fa110_4)
                        have h41 : w33 124 = .inl (gI g, 177, .inl (cK 177 0 L)) := ((f35 124 (by omega)).trans fa110_5)
                        have h42 : w33 125 = .inl (gI g, 177, .inl (cK 177 0 TR)) := ((f35 125 (by omega)).trans fa110_6)
                        have h43 : w33 126 = .inl (gI g, 177, .inl (cK 177 0 RD)) := ((f35 126 (by omega)).trans fa110_7)
                        have h44 : w33 127 = .inl (gI g, 177, .inl (cK 177 0 KP)) := ((f35 127 (by omega)).trans fa110_8)
                        have h45 : w33 128 = .inl (gJ g, 7, .inr (.inl (cL 7 0 O))) := ((f35 128 (by omega)).trans fa110_9)
                        have h46 : w33 129 = .inl (gJ g, 7, .inr (.inl (cL 7 0 A))) := ((f35 129 (by omega)).trans fa110_10)
                        exact ih110 (m - (k + 1)) (by omega) (k + 1) w33 _ _ _ rfl h37 h38 h39 h36 h40 h41 h42 h43 h44 h45 h46 (fun j z0 => ((f35 j (by omega)).trans (hfr110 j z0))) (by omega) hW (lv_sub hl [0, 2, 3, 4, 5, 6, 7, 8] rfl)
                    exact loop110 _ 0 w _ _ _ rfl m0 m1 m2 (by rw [cpZ_0]; exact m3) m4 m5 m6 m7 m8 m10 m11 (fun j z0 => rfl) (by omega) hW (lv_sub hl [0, 1, 2, 3, 5, 4, 6, 7] rfl)
                  · refine lv_iconst (v := (nI 1)) C.1 C.2.1 dX7_copy_100 (by decide) ?_
                    refine lv_goto (tgt := 105) C.1 C.2.1 dX7_copy_101 (by decide) ?_
                    refine lv_istore (lv' := [(6, .int (nI 1)), (0, .ref (gad g 119)), (1, .int (nI k1)), (2, .int (nI a)), (3, .int (nI k2)), (4, .int (nI a2)), (5, .int (nI m))]) C.1 C.2.1 dX7_copy_105 hl (by decide) rfl (fun ls hl => ?_)
                    refine lv_iconst (v := (nI 0)) C.1 C.2.1 dX7_copy_107 (by decide) ?_
                    refine lv_istore (lv' := [(7, .int (nI 0)), (6, .int (nI 1)), (0, .ref (gad g 119)), (1, .int (nI k1)), (2, .int (nI a)), (3, .int (nI k2)), (4, .int (nI a2)), (5, .int (nI m))]) C.1 C.2.1 dX7_copy_108 hl (by decide) rfl (fun ls hl => ?_)
                    have loop110 : ∀ (kG : Nat) (k : Nat) (v110 : Nat → va_E) (H : Heap) (locs : List Loc) (ls : Array Slot), kG = m - k → (v110 119 = .inr (7, [.ref (gad g 120), .ref (gad g 121), .ref (gad g 122), .int (nI tn), .ref (gad g 123), .int (nI po), .int nu, .ref (gad g 124), .ref (gad g 125), .ref (gad g 126), .ref (gad g 127), .int (nI hk), .ref (gad g 128), .ref (gad g 129), .long (lN ao), .long (lN mu), .long (lN md), .long (lN bu), .long (lN bd)])) → (v110 120 = .inl (gI g, 4, .inl (kK 0 4 0 (laF ln)))) → (v110 121 = .inl (gI g, 4, .inl (cK 4 0 sz))) → (v110 122 = .inl (gJ g, 96, .inr (.inl (kK 0 96 0 (dnZ (24 * k1) (24 * k2) a a2 m k Z))))) → (v110 123 = .inl (gI g, 80, .inl (cK 80 0 T))) → (v110 124 = .inl (gI g, 177, .inl (cK 177 0 L))) → (v110 125 = .inl (gI g, 177, .inl (cK 177 0 TR))) → (v110 126 = .inl (gI g, 177, .inl (cK 177 0 RD))) → (v110 127 = .inl (gI g, 177, .inl (cK 177 0 KP))) → (v110 128 = .inl (gJ g, 7, .inr (.inl (cL 7 0 O)))) → (v110 129 = .inl (gJ g, 7, .inr (.inl (cL 7 0 A)))) → (∀ j : Nat, ¬ (119 ≤ j ∧ j < 130) → v110 j = w j) → (k ≤ m) → XW g v110 (gA g) sG.heap H locs → lv_has ls 9 [(7, .int (nI k)), (6, .int (nI 1)), (0, .ref (gad g 119)), (1, .int (nI k1)), (3, .int (nI k2)), (2, .int (nI a)), (4, .int (nI a2)), (5, .int (nI m))] → W pG l eG ({ frames := 2, cells := 0, slots := 0, locals := 42 } : Room) sG mG ([.ref (gad g 119), .int x, .int i, .int y, .int j, .int n] : List Value).toArray belowG methG cG H locs 0 0 (MQ belowG (XQi g (fun r w' => MAll g (L, K, hk, tn, T, ln, sz, copZ ln sz Z x i y j n) w' ∧ (∀ j : Nat, ¬ (119 ≤ j ∧ j < 130) → w' j = w j) ∧ r = copS ln sz x i y j n)) ([.ref (gad g 119), .int x, .int i, .int y, .int j, .int n] : List Value).toArray sG 0 0 (gA g)) (F0 mG 110 ls []) := by
                      intro k110
                      induction k110 using Nat.strongRecOn with
                      | _ k110 ih110 =>
                      intro k v110 H locs ls hk110 fa110_0 fa110_1 fa110_2 fa110_3 fa110_4 fa110_5 fa110_6 fa110_7 fa110_8 fa110_9 fa110_10 hfr110 hkm hW hl
                      refine lv_iload C.1 C.2.1 dX7_copy_110 (lv_at hl 0 rfl) ?_
                      refine lv_iload C.1 C.2.1 dX7_copy_112 (lv_at hl 7 rfl) ?_
                      refine xge (tgt := 171) C (by omega) (by omega) dX7_copy_114 (by decide) (fun c114 => ?_) (fun c114 => ?_)
                      · have h47 : v110 122 = .inl (gJ g, 96, .inr (.inl (kK 0 96 0 (cpZ (24 * k1) (24 * k2) a a2 m Z Z)))) := fa110_3.trans (by rw [dnZ_end (show k = m by omega)])
                        refine lv_iload C.1 C.2.1 dX7_copy_171 (lv_at hl 7 rfl) ?_
                        have hP : copP sz x i y j n := ⟨by rw [hex]; exact c67, by rw [hey]; exact c83⟩
                        exact xret_i C hr hlk hW ⟨(by rw [copZ, if_pos (c := (in3 x ∧ in3 y) ∧ ¬ copH ln x y ∧ ln (cl x) = ln (cl y) ∧ copP sz x i y j n) ⟨⟨c4, c11⟩, hH, hL, hP⟩, hex, hey, hx_a, hx_a2, hx_m, cl_nI (by omega), cl_nI (by omega), cl_nI (by omega)]; exact ⟨_, _, _, _, _, _, _, _, _, _, _, _, fa110_0, fa110_1, fa110_2, h47, fa110_4, fa110_5, fa110_6, fa110_7, fa110_8, m9, fa110_9, fa110_10⟩), (fun j z0 => (hfr110 j z0)), (by rw [copS, if_pos (c := in3 x ∧ in3 y) ⟨c4, c11⟩, if_neg hH, if_pos hL, if_pos hP, hx_m])⟩ dX7_copy_173
                      · refine lv_iload C.1 C.2.1 dX7_copy_117 (lv_at hl 1 rfl) ?_
                        refine x0eq (tgt := 132) C (by omega) dX7_copy_119 (by decide) (fun c119 => absurd c119 (by omega)) (fun c119 => ?_)
                        refine lv_iload C.1 C.2.1 dX7_copy_122 (lv_at hl 7 rfl) ?_
                        refine lv_iconst (v := (nI 1)) C.1 C.2.1 dX7_copy_124 (by decide) ?_
                        refine xsub C (by omega) dX7_copy_125 ?_
                        refine lv_iload C.1 C.2.1 dX7_copy_126 (lv_at hl 0 rfl) ?_
                        refine xsub C (by omega) dX7_copy_128 ?_
                        refine lv_goto (tgt := 134) C.1 C.2.1 dX7_copy_129 (by decide) ?_
                        refine lv_istore (lv' := [(8, .int (nI ((m - 1) - k))), (7, .int (nI k)), (6, .int (nI 1)), (0, .ref (gad g 119)), (1, .int (nI k1)), (3, .int (nI k2)), (2, .int (nI a)), (4, .int (nI a2)), (5, .int (nI m))]) C.1 C.2.1 dX7_copy_134 hl (by decide) rfl (fun ls hl => ?_)
                        refine lv_aload_n C.1 C.2.1 dX7_copy_136 rfl (lv_at hl 3 rfl) ?_
                        refine xget C hK hW hinX7 rfl (by omega) fa110_0 2 (by decide) (List.mem_of_getElem? (i := 3) rfl) rfl dX7_copy_137 ?_
                        refine lv_bipush (v := (nI 24)) C.1 C.2.1 dX7_copy_140 (by decide) ?_
                        refine lv_iload_n C.1 C.2.1 dX7_copy_142 rfl (lv_at hl 5 rfl) ?_
                        refine xmul C dX7_copy_143 ?_
                        refine lv_iload C.1 C.2.1 dX7_copy_144 (lv_at hl 7 rfl) ?_
                        refine xadd C dX7_copy_146 ?_
                        refine lv_iload C.1 C.2.1 dX7_copy_147 (lv_at hl 0 rfl) ?_
                        refine xadd C dX7_copy_149 ?_
                        refine lv_aload_n C.1 C.2.1 dX7_copy_150 rfl (lv_at hl 3 rfl) ?_
                        refine xget C hK hW hinX7 rfl (by omega) fa110_0 2 (by decide) (List.mem_of_getElem? (i := 3) rfl) rfl dX7_copy_151 ?_
                        refine lv_bipush (v := (nI 24)) C.1 C.2.1 dX7_copy_154 (by decide) ?_
                        refine lv_iload_n C.1 C.2.1 dX7_copy_156 rfl (lv_at hl 4 rfl) ?_
                        refine xmul C dX7_copy_157 ?_
                        refine lv_iload_n C.1 C.2.1 dX7_copy_158 rfl (lv_at hl 6 rfl) ?_
                        refine xadd C dX7_copy_159 ?_
                        refine lv_iload C.1 C.2.1 dX7_copy_160 (lv_at hl 0 rfl) ?_
                        refine xadd C dX7_copy_162 ?_
                        refine xlldR0 C hK hW (by omega) fa110_3 (by omega) (by decide) dX7_copy_163 ?_
                        refine xtopJ (b := Z (24 * k1 + a + (m - 1 - k))) (dnZ_read (by omega)) ?_
                        refine xlstR0 (v := (Z (24 * k1 + a + (m - 1 - k)))) C hK hW (by omega) fa110_3 (by omega) (by decide) dX7_copy_164 (fun w48 H locs e49 f50 hW => ?_)
                        have h51 : w48 122 = .inl (gJ g, 96, .inr (.inl (kK 0 96 0 (dnZ (24 * k1) (24 * k2) a a2 m (k + 1) Z)))) := e49.trans (by rw [dnZ_up (by omega)])
                        refine lv_iinc (v := nI (k + 1)) (lv' := [(7, .int (nI (k + 1))), (8, .int (nI ((m - 1) - k))), (6, .int (nI 1)), (0, .ref (gad g 119)), (1, .int (nI k1)), (3, .int (nI k2)), (2, .int (nI a)), (4, .int (nI a2)), (5, .int (nI m))]) C.1 C.2.1 dX7_copy_165 hl (k := 1) rfl (nI_add _ 1) (by decide) rfl (fun ls hl => ?_)
                        refine lv_goto (tgt := 110) C.1 C.2.1 dX7_copy_168 (by decide) ?_
                        have h52 : w48 119 = .inr (7, [.ref (gad g 120), .ref (gad g 121), .ref (gad g 122), .int (nI tn), .ref (gad g 123), .int (nI po), .int nu, .ref (gad g 124), .ref (gad g 125), .ref (gad g 126), .ref (gad g 127), .int (nI hk), .ref (gad g 128), .ref (gad g 129), .long (lN ao), .long (lN mu), .long (lN md), .long (lN bu), .long (lN bd)]) := ((f50 119 (by omega)).trans fa110_0)
                        have h53 : w48 120 = .inl (gI g, 4, .inl (kK 0 4 0 (laF ln))) := ((f50 120 (by omega)).trans fa110_1)
                        have h54 : w48 121 = .inl (gI g, 4, .inl (cK 4 0 sz)) := ((f50 121 (by omega)).trans fa110_2)
                        have h55 : w48 123 = .inl (gI g, 80, .inl (cK 80 0 T)) := ((f50 123 (by omega)).trans fa110_4)
                        have h56 : w48 124 = .inl (gI g, 177, .inl (cK 177 0 L)) := ((f50 124 (by omega)).trans fa110_5)
                        have h57 : w48 125 = .inl (gI g, 177, .inl (cK 177 0 TR)) := ((f50 125 (by omega)).trans fa110_6)
                        have h58 : w48 126 = .inl (gI g, 177, .inl (cK 177 0 RD)) := ((f50 126 (by omega)).trans fa110_7)
                        have h59 : w48 127 = .inl (gI g, 177, .inl (cK 177 0 KP)) := ((f50 127 (by omega)).trans fa110_8)
                        have h60 : w48 128 = .inl (gJ g, 7, .inr (.inl (cL 7 0 O))) := ((f50 128 (by omega)).trans fa110_9)
                        have h61 : w48 129 = .inl (gJ g, 7, .inr (.inl (cL 7 0 A))) := ((f50 129 (by omega)).trans fa110_10)
                        exact ih110 (m - (k + 1)) (by omega) (k + 1) w48 _ _ _ rfl h52 h53 h54 h51 h55 h56 h57 h58 h59 h60 h61 (fun j z0 => ((f50 j (by omega)).trans (hfr110 j z0))) (by omega) hW (lv_sub hl [0, 2, 3, 4, 5, 6, 7, 8] rfl)
                    exact loop110 _ 0 w _ _ _ rfl m0 m1 m2 (by rw [dnZ_0]; exact m3) m4 m5 m6 m7 m8 m10 m11 (fun j z0 => rfl) (by omega) hW (lv_sub hl [0, 1, 2, 3, 5, 4, 6, 7] rfl)
              · refine lv_bipush (v := (-13 : Int32)) C.1 C.2.1 dX7_copy_86 (by decide) ?_
                exact xret_i C hr hlk hW ⟨(by rw [copZ, if_neg (c := (in3 x ∧ in3 y) ∧ ¬ copH ln x y ∧ ln (cl x) = ln (cl y) ∧ copP sz x i y j n) (fun h => c83 (by have h2 := h.2.2.2.2; rw [hey] at h2; exact h2))]; exact ⟨_, _, _, _, _, _, _, _, _, _, _, _, m0, m1, m2, m3, m4, m5, m6, m7, m8, m9, m10, m11⟩), (fun j z0 => rfl), (by rw [copS, if_pos (c := in3 x ∧ in3 y) ⟨c4, c11⟩, if_neg hH, if_pos hL, if_neg (c := copP sz x i y j n) (fun h => c83 (by have h2 := h.2; rw [hey] at h2; exact h2))])⟩ dX7_copy_88
          · have hL : ¬ ln (cl x) = ln (cl y) := fun z => c49 (by rw [hlp1, hlp2, ← hex, ← hey, z])
            refine lv_bipush (v := (-12 : Int32)) C.1 C.2.1 dX7_copy_52 (by decide) ?_
            exact xret_i C hr hlk hW ⟨(by rw [copZ, if_neg (c := (in3 x ∧ in3 y) ∧ ¬ copH ln x y ∧ ln (cl x) = ln (cl y) ∧ copP sz x i y j n) (fun h => hL h.2.2.1)]; exact ⟨_, _, _, _, _, _, _, _, _, _, _, _, m0, m1, m2, m3, m4, m5, m6, m7, m8, m9, m10, m11⟩), (fun j z0 => rfl), (by rw [copS, if_pos (c := in3 x ∧ in3 y) ⟨c4, c11⟩, if_neg hH, if_neg hL])⟩ dX7_copy_54
        · have hH : copH ln x y := Or.inr (by rw [hey]; exact (laF_lt hl2).mp c31)
          refine lv_bipush (v := (-11 : Int32)) C.1 C.2.1 dX7_copy_34 (by decide) ?_
          exact xret_i C hr hlk hW ⟨(by rw [copZ, if_neg (c := (in3 x ∧ in3 y) ∧ ¬ copH ln x y ∧ ln (cl x) = ln (cl y) ∧ copP sz x i y j n) (fun h => h.2.1 hH)]; exact ⟨_, _, _, _, _, _, _, _, _, _, _, _, m0, m1, m2, m3, m4, m5, m6, m7, m8, m9, m10, m11⟩), (fun j z0 => rfl), (by rw [copS, if_pos (c := in3 x ∧ in3 y) ⟨c4, c11⟩, if_pos hH])⟩ dX7_copy_36
    · refine lv_iconst (v := (-1 : Int32)) C.1 C.2.1 dX7_copy_14 (by decide) ?_
      exact xret_i C hr hlk hW ⟨(by rw [copZ, if_neg (c := (in3 x ∧ in3 y) ∧ ¬ copH ln x y ∧ ln (cl x) = ln (cl y) ∧ copP sz x i y j n) (fun h => c11 h.1.2)]; exact ⟨_, _, _, _, _, _, _, _, _, _, _, _, m0, m1, m2, m3, m4, m5, m6, m7, m8, m9, m10, m11⟩), (fun j z0 => rfl), (by rw [copS, if_neg (c := in3 x ∧ in3 y) (fun h => c11 h.2)])⟩ dX7_copy_15
