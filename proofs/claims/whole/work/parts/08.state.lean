/-! STATE: a land as one flat row of naturals (0 day, 1 draw, 2 spot, 3.. food, 10.. hedge, 17.. kind, 24 claims, 25.. first, 30.. last, 35.. worth, 40 known, 41.. the past, 17 each), for both sides -/
section XNR0
variable {p : Program} {l : Launch} {e : Env} {R : Room} {s : State} {m : MethodId} {args : Array Value} {below : List Frame} {meth : Method} {c : Code} {H : Heap} {locs : List Loc} {cells slots : Nat} {Q : State → Prop}
variable {cc : ByteArray} {nL pc : Nat} {ls : Array Slot} {rest : List Value} {Ts : List Cond} {own : String} {g : GE} {w : Nat → va_E} {A0 : Nat → Prop} {H0 : Heap}
theorem xildK0 (C : CallFix p m c cc nL s args Ts own) (hK : WK g s) (hW : XW g w A0 H0 H locs) {i n : Nat} {L : Nat → Nat} (hi : i < gN g) (he : w i = .inl (gI g, n, .inl (cK n 0 L))) {k : Nat} (hk : k < n) (hn : n < 2 ^ 31) (hdg : decode cc pc = .ok (.iaload, 1))
    (kk : W p l e R s m args below meth c H locs cells slots Q (F0 m (pc + 1) ls (.int (nI (L k)) :: rest))) : W p l e R s m args below meth c H locs cells slots Q (F0 m pc ls (.int (nI k) :: .ref (gad g i) :: rest)) :=
  xildK C hK hW hi he hk hn hdg (by rw [Nat.zero_add]; exact kk)
theorem xistK0 (C : CallFix p m c cc nL s args Ts own) (hK : WK g s) (hW : XW g w A0 H0 H locs) {i n : Nat} {L : Nat → Nat} (hi : i < gN g) (he : w i = .inl (gI g, n, .inl (cK n 0 L))) {k v : Nat} (hk : k < n) (hn : n < 2 ^ 31) (hdg : decode cc pc = .ok (.iastore, 1))
    (kk : ∀ (w' : Nat → va_E) (H1 : Heap) (locs1 : List Loc), w' i = .inl (gI g, n, .inl (cK n 0 (va_up L k v))) → (∀ j, j ≠ i → w' j = w j) → XW g w' A0 H0 H1 locs1 → W p l e R s m args below meth c H1 locs1 cells slots Q (F0 m (pc + 1) ls rest)) : W p l e R s m args below meth c H locs cells slots Q (F0 m pc ls (.int (nI v) :: .int (nI k) :: .ref (gad g i) :: rest)) :=
  xistK C hK hW hi he hk hn hdg (fun w' H1 locs1 h1 h2 h3 => kk w' H1 locs1 (by rw [h1, Nat.zero_add]) h2 h3)
theorem xlldK0 (C : CallFix p m c cc nL s args Ts own) (hK : WK g s) (hW : XW g w A0 H0 H locs) {i n : Nat} {L : Nat → Nat} (hi : i < gN g) (he : w i = .inl (gJ g, n, .inr (.inl (cL n 0 L)))) {k : Nat} (hk : k < n) (hn : n < 2 ^ 31) (hdg : decode cc pc = .ok (.laload, 1))
    (kk : W p l e R s m args below meth c H locs cells slots Q (F0 m (pc + 1) ls (.long (lN (L k)) :: rest))) : W p l e R s m args below meth c H locs cells slots Q (F0 m pc ls (.int (nI k) :: .ref (gad g i) :: rest)) :=
  xlldK C hK hW hi he hk hn hdg (by rw [Nat.zero_add]; exact kk)
theorem xlstK0 (C : CallFix p m c cc nL s args Ts own) (hK : WK g s) (hW : XW g w A0 H0 H locs) {i n : Nat} {L : Nat → Nat} (hi : i < gN g) (he : w i = .inl (gJ g, n, .inr (.inl (cL n 0 L)))) {k v : Nat} (hk : k < n) (hn : n < 2 ^ 31) (hdg : decode cc pc = .ok (.lastore, 1))
    (kk : ∀ (w' : Nat → va_E) (H1 : Heap) (locs1 : List Loc), w' i = .inl (gJ g, n, .inr (.inl (cL n 0 (va_up L k v)))) → (∀ j, j ≠ i → w' j = w j) → XW g w' A0 H0 H1 locs1 → W p l e R s m args below meth c H1 locs1 cells slots Q (F0 m (pc + 1) ls rest)) : W p l e R s m args below meth c H locs cells slots Q (F0 m pc ls (.long (lN v) :: .int (nI k) :: .ref (gad g i) :: rest)) :=
  xlstK C hK hW hi he hk hn hdg (fun w' H1 locs1 h1 h2 h3 => kk w' H1 locs1 (by rw [h1, Nat.zero_add]) h2 h3)
theorem xlldR0 (C : CallFix p m c cc nL s args Ts own) (hK : WK g s) (hW : XW g w A0 H0 H locs) {i n : Nat} {Z : Nat → Int64} (hi : i < gN g) (he : w i = .inl (gJ g, n, .inr (.inl (kK 0 n 0 Z)))) {k : Nat} (hk : k < n) (hn : n < 2 ^ 31) (hdg : decode cc pc = .ok (.laload, 1))
    (kk : W p l e R s m args below meth c H locs cells slots Q (F0 m (pc + 1) ls (.long (Z k) :: rest))) : W p l e R s m args below meth c H locs cells slots Q (F0 m pc ls (.int (nI k) :: .ref (gad g i) :: rest)) :=
  xlldR C hK hW hi he hk hn hdg (by rw [Nat.zero_add]; exact kk)
theorem xlstR0 (C : CallFix p m c cc nL s args Ts own) (hK : WK g s) (hW : XW g w A0 H0 H locs) {i n : Nat} {Z : Nat → Int64} (hi : i < gN g) (he : w i = .inl (gJ g, n, .inr (.inl (kK 0 n 0 Z)))) {k : Nat} {v : Int64} (hk : k < n) (hn : n < 2 ^ 31) (hdg : decode cc pc = .ok (.lastore, 1))
    (kk : ∀ (w' : Nat → va_E) (H1 : Heap) (locs1 : List Loc), w' i = .inl (gJ g, n, .inr (.inl (kK 0 n 0 (va_up Z k v)))) → (∀ j, j ≠ i → w' j = w j) → XW g w' A0 H0 H1 locs1 → W p l e R s m args below meth c H1 locs1 cells slots Q (F0 m (pc + 1) ls rest)) : W p l e R s m args below meth c H locs cells slots Q (F0 m pc ls (.long v :: .int (nI k) :: .ref (gad g i) :: rest)) :=
  xlstR C hK hW hi he hk hn hdg (fun w' H1 locs1 h1 h2 h3 => kk w' H1 locs1 (by rw [h1, Nat.zero_add]) h2 h3)
theorem xildR0 (C : CallFix p m c cc nL s args Ts own) (hK : WK g s) (hW : XW g w A0 H0 H locs) {i n : Nat} {Z : Nat → Int32} (hi : i < gN g) (he : w i = .inl (gI g, n, .inl (kK 0 n 0 Z))) {k : Nat} (hk : k < n) (hn : n < 2 ^ 31) (hdg : decode cc pc = .ok (.iaload, 1))
    (kk : W p l e R s m args below meth c H locs cells slots Q (F0 m (pc + 1) ls (.int (Z k) :: rest))) : W p l e R s m args below meth c H locs cells slots Q (F0 m pc ls (.int (nI k) :: .ref (gad g i) :: rest)) :=
  xildR C hK hW hi he hk hn hdg (by rw [Nat.zero_add]; exact kk)
theorem xistR0 (C : CallFix p m c cc nL s args Ts own) (hK : WK g s) (hW : XW g w A0 H0 H locs) {i n : Nat} {Z : Nat → Int32} (hi : i < gN g) (he : w i = .inl (gI g, n, .inl (kK 0 n 0 Z))) {k : Nat} {v : Int32} (hk : k < n) (hn : n < 2 ^ 31) (hdg : decode cc pc = .ok (.iastore, 1))
    (kk : ∀ (w' : Nat → va_E) (H1 : Heap) (locs1 : List Loc), w' i = .inl (gI g, n, .inl (kK 0 n 0 (va_up Z k v))) → (∀ j, j ≠ i → w' j = w j) → XW g w' A0 H0 H1 locs1 → W p l e R s m args below meth c H1 locs1 cells slots Q (F0 m (pc + 1) ls rest)) : W p l e R s m args below meth c H locs cells slots Q (F0 m pc ls (.int v :: .int (nI k) :: .ref (gad g i) :: rest)) :=
  xistR C hK hW hi he hk hn hdg (fun w' H1 locs1 h1 h2 h3 => kk w' H1 locs1 (by rw [h1, Nat.zero_add]) h2 h3)
/-- Math.max, min of any two, the outcome told -/
theorem xmaxE (C : CallFix p m c cc nL s args Ts own) {lv : List (Nat × Value)} (hls : lv_has ls nL lv) {index : Nat} {x y : Int32} {r : Nat} (hq : (if x < y then y else x) = nI r) (hl : Cond.methodLink own index Lib.Math.max.name ∈ Ts) (h2 : Cond.static Lib.Math.max.name ∈ Ts) (h3 : Cond.initialized "java/lang/Math" ∈ Ts) (h4 : Cond.code Lib.Math.max.name Lib.Math.max.code 2 (some .int) ∈ Ts) (hfr : 1 ≤ R.frames) (hlo : (rest.map fun v => v.category).sum + 13 ≤ R.locals) (hcs : cells ≤ R.cells ∧ slots ≤ R.slots) (hdg : decode cc pc = .ok (.invokestatic index, 3)) (k : W p l e R s m args below meth c H locs cells slots Q (F0 m (pc + 3) ls (.int (nI r) :: rest))) : W p l e R s m args below meth c H locs cells slots Q (F0 m pc ls (.int y :: .int x :: rest)) :=
  va_mmax C.1 C.2.1 (C.2.2.1.trans hls.1.symm) C.2.2.2.1 (C.2.2.2.2 _ hl) (C.2.2.2.2 _ h2) (C.2.2.2.2 _ h3) (C.2.2.2.2 _ h4) hfr hlo hcs.1 hcs.2 hdg (by rw [hq]; exact k)
end XNR0
abbrev inR (x a b : Int32) : Prop := a ≤ x ∧ x ≤ b
theorem in_t {x a b : Int32} (h1 : ¬ x < a) (h2 : ¬ b < x) : nI 1 = bI (inR x a b) := (bI_t ⟨Int32.not_lt.mp h1, Int32.not_lt.mp h2⟩).symm
theorem in_f1 {x a b : Int32} (h1 : x < a) : nI 0 = bI (inR x a b) := (bI_f (fun h => absurd h1 (Int32.not_lt.mpr h.1))).symm
theorem in_f2 {x a b : Int32} (h1 : b < x) : nI 0 = bI (inR x a b) := (bI_f (fun h => absurd h1 (Int32.not_lt.mpr h.2))).symm
theorem inR_N {x : Int32} {a b : Nat} (ha : a < 2 ^ 31) (hb : b < 2 ^ 31) (h : inR x (nI a) (nI b)) : ∃ k, a ≤ k ∧ k ≤ b ∧ x = nI k := by
  obtain ⟨h1, h2⟩ := h
  have h0 : ¬ x < 0 := by
    rw [Int32.le_iff_toInt_le, nI_toInt ha] at h1
    rw [Int32.lt_iff_toInt_lt, Int32.toInt_zero]
    omega
  obtain ⟨k, hk, rfl⟩ := nI_of2 (M := nI b) (n := b) (nI_toInt hb) h0 h2
  exact ⟨k, (nI_leI ha (by omega)).mp h1, hk, rfl⟩
theorem inR_nn {k a b : Nat} (hk : k < 2 ^ 31) (ha : a < 2 ^ 31) (hb : b < 2 ^ 31) : inR (nI k) (nI a) (nI b) ↔ a ≤ k ∧ k ≤ b := by
  show (nI a ≤ nI k ∧ nI k ≤ nI b) ↔ _
  rw [nI_leI ha hk, nI_leI hk hb]
/-- by how many of ten on, from a field by its kind and food -/
def onv (k fd : Nat) : Nat := if k = 1 then 5 - fd / 2 else if k = 2 then (if fd = 0 then 7 else 5) else if k = 3 then max 1 (5 - fd / 2 - 3) else if k = 4 then (if fd = 0 then 7 else 5) + 2 else 5
def onF (L : Nat → Nat) (f : Nat) : Nat := if f < 6 then onv (L (17 + f)) (L (3 + f)) else 0
def backF (L : Nat → Nat) (f : Nat) : Nat := if f = 0 then 0 else min (L (10 + f)) (10 - onF L f)
theorem onv_le (k fd : Nat) : onv k fd ≤ 9 := by
  unfold onv
  repeat' split
  all_goals omega
theorem onF_le (L : Nat → Nat) (f : Nat) : onF L f ≤ 9 := by
  unfold onF
  split
  · exact onv_le _ _
  · omega
theorem onF_back (L : Nat → Nat) (f : Nat) : onF L f + backF L f ≤ 10 := by
  have := onF_le L f
  unfold backF
  split
  · omega
  · omega
theorem back_le (L : Nat → Nat) (f : Nat) : backF L f ≤ 10 := by have := onF_back L f; omega
def Okg (L : Nat → Nat) : Prop := ∀ f, f < 7 → L (17 + f) < 5 ∧ L (3 + f) ≤ 9 ∧ L (10 + f) ≤ 4
theorem onv_pos {k fd : Nat} (h : fd ≤ 9) : 1 ≤ onv k fd := by
  unfold onv
  repeat' split
  all_goals omega
theorem onF_pos {L : Nat → Nat} (h : Okg L) {f : Nat} (hf : f < 6) : 1 ≤ onF L f := by
  unfold onF
  rw [if_pos hf]
  exact onv_pos (h f (by omega)).2.1
theorem onF_congr {L M : Nat → Nat} {f : Nat} (h : ∀ i, i < 24 → M i = L i) (hf : f < 7) : onF M f = onF L f := by
  unfold onF
  rw [h (17 + f) (by omega), h (3 + f) (by omega)]
theorem backF_congr {L M : Nat → Nat} {f : Nat} (h : ∀ i, i < 24 → M i = L i) (hf : f < 7) : backF M f = backF L f := by
  unfold backF
  rw [onF_congr h hf, h (10 + f) (by omega)]
def drawF (d : Nat) : Nat := (d * 1103515245 + 12345) % 2147483648
def dayF (L : Nat → Nat) : Nat → Nat :=
  va_up (if drawF (L 1) / 65536 % 10 < onF L (L 2) then va_up (va_up L 1 (drawF (L 1))) 2 (L 2 + 1) else if drawF (L 1) / 65536 % 10 < onF L (L 2) + backF L (L 2) then va_up (va_up L 1 (drawF (L 1))) 2 (L 2 - 1) else va_up (va_up L 1 (drawF (L 1))) (3 + L 2) (L (3 + L 2) - 1)) 0 (L 0 + 1)
/-! a moment, a land's ground (x, y: its numbers known, claims), its claims' rows, its past -/
def cM0 (g : GE) (b : Nat) (M : Nat → Nat) : va_E := .inr (2, [.int (nI (M 2)), .int (nI (M 0)), .int (nI (M 1)), .ref (gad g (b + 1)), .ref (gad g (b + 2))])
def cI7 (g : GE) (o : Nat) (M : Nat → Nat) : va_E := .inl (gI g, 7, .inl (cK 7 o M))
def cI5 (g : GE) (o : Nat) (M : Nat → Nat) : va_E := .inl (gI g, 5, .inl (cK 5 o M))
def cG0 (g : GE) (b : Nat) (x y : Int32) : va_E := .inr (1, [.ref (gad g (b + 1)), .ref (gad g (b + 2)), .ref (gad g (b + 5)), .int x, .ref (gad g (b + 6)), .ref (gad g (b + 7)), .ref (gad g (b + 8)), .int y])
def cG2 (g : GE) (b : Nat) (M : Nat → Nat) : va_E := .inr (2, [.int (nI (M 2)), .int (nI (M 0)), .int (nI (M 1)), .ref (gad g (b + 3)), .ref (gad g (b + 4))])
def MomAt (g : GE) (b : Nat) (M : Nat → Nat) (w : Nat → va_E) : Prop := w b = cM0 g b M ∧ w (b + 1) = cI7 g 3 M ∧ w (b + 2) = cI7 g 10 M
def GAt (g : GE) (b : Nat) (x y : Int32) (L : Nat → Nat) (w : Nat → va_E) : Prop := w b = cG0 g b x y ∧ w (b + 1) = cI7 g 17 L ∧ w (b + 2) = cG2 g b L ∧ w (b + 3) = cI7 g 3 L ∧ w (b + 4) = cI7 g 10 L
def CAt (g : GE) (b : Nat) (L : Nat → Nat) (w : Nat → va_E) : Prop := w (b + 6) = cI5 g 25 L ∧ w (b + 7) = cI5 g 30 L ∧ w (b + 8) = cI5 g 35 L
def PArr (g : GE) (b : Nat) (π : Nat → Nat) (w : Nat → va_E) : Prop := w (b + 5) = .inl (gM g, 8, .inr (.inr (.inr (.inr (kK none 8 0 (fun j => some (gad g (b + 9 + 3 * π j))))))))
def PermOk (π : Nat → Nat) : Prop := (∀ j, j < 8 → π j < 8) ∧ ∀ i j, i < 8 → j < 8 → π i = π j → i = j
def PMom (g : GE) (b : Nat) (π : Nat → Nat) (P : Nat → Nat → Nat) (w : Nat → va_E) : Prop := PermOk π ∧ ∀ p, p < 8 → MomAt g (b + 9 + 3 * π p) (P p) w
theorem GAt.fr {g : GE} {b : Nat} {x y : Int32} {L : Nat → Nat} {w w' : Nat → va_E} (h : GAt g b x y L w) (f : ∀ j, b ≤ j → j < b + 5 → w' j = w j) : GAt g b x y L w' :=
  ⟨(f b (by omega) (by omega)).trans h.1, (f (b + 1) (by omega) (by omega)).trans h.2.1, (f (b + 2) (by omega) (by omega)).trans h.2.2.1, (f (b + 3) (by omega) (by omega)).trans h.2.2.2.1, (f (b + 4) (by omega) (by omega)).trans h.2.2.2.2⟩
theorem MomAt.fr {g : GE} {b : Nat} {L : Nat → Nat} {w w' : Nat → va_E} (h : MomAt g b L w) (f : ∀ j, b ≤ j → j < b + 3 → w' j = w j) : MomAt g b L w' :=
  ⟨(f b (by omega) (by omega)).trans h.1, (f (b + 1) (by omega) (by omega)).trans h.2.1, (f (b + 2) (by omega) (by omega)).trans h.2.2⟩
theorem CAt.fr {g : GE} {b : Nat} {L : Nat → Nat} {w w' : Nat → va_E} (h : CAt g b L w) (f : ∀ j, b + 6 ≤ j → j < b + 9 → w' j = w j) : CAt g b L w' :=
  ⟨(f (b + 6) (by omega) (by omega)).trans h.1, (f (b + 7) (by omega) (by omega)).trans h.2.1, (f (b + 8) (by omega) (by omega)).trans h.2.2⟩
theorem PArr.fr {g : GE} {b : Nat} {π : Nat → Nat} {w w' : Nat → va_E} (h : PArr g b π w) (f : ∀ j, b + 5 ≤ j → j < b + 6 → w' j = w j) : PArr g b π w' := (f (b + 5) (by omega) (by omega)).trans h
theorem PMom.fr {g : GE} {b : Nat} {π : Nat → Nat} {P : Nat → Nat → Nat} {w w' : Nat → va_E} (h : PMom g b π P w) (f : ∀ j, b + 9 ≤ j → j < b + 33 → w' j = w j) : PMom g b π P w' :=
  ⟨h.1, fun p hq => (h.2 p hq).fr (fun j h1 h2 => f j (by omega) (by have := h.1.1 p hq; omega))⟩
theorem cI7_c {g : GE} {o : Nat} {L M : Nat → Nat} (h : ∀ j, j < 7 → L (o + j) = M (o + j)) : cI7 g o L = cI7 g o M := by
  unfold cI7
  rw [cK_congr h]
theorem cI5_c {g : GE} {o : Nat} {L M : Nat → Nat} (h : ∀ j, j < 5 → L (o + j) = M (o + j)) : cI5 g o L = cI5 g o M := by
  unfold cI5
  rw [cK_congr h]
theorem GAt.congr {g : GE} {b : Nat} {x y : Int32} {L M : Nat → Nat} {w : Nat → va_E} (h : GAt g b x y L w) (hl : ∀ i, i < 24 → L i = M i) : GAt g b x y M w := by
  obtain ⟨a0, a1, a2, a3, a4⟩ := h
  refine ⟨a0, a1.trans (cI7_c (fun j hj => hl _ (by omega))), a2.trans ?_, a3.trans (cI7_c (fun j hj => hl _ (by omega))), a4.trans (cI7_c (fun j hj => hl _ (by omega)))⟩
  simp only [cG2, hl 2 (by omega), hl 0 (by omega), hl 1 (by omega)]
theorem MomAt.congr {g : GE} {b : Nat} {L M : Nat → Nat} {w : Nat → va_E} (h : MomAt g b L w) (hl : ∀ i, i < 17 → L i = M i) : MomAt g b M w := by
  obtain ⟨a0, a1, a2⟩ := h
  refine ⟨a0.trans ?_, a1.trans (cI7_c (fun j hj => hl _ (by omega))), a2.trans (cI7_c (fun j hj => hl _ (by omega)))⟩
  simp only [cM0, hl 2 (by omega), hl 0 (by omega), hl 1 (by omega)]
theorem CAt.congr {g : GE} {b : Nat} {L M : Nat → Nat} {w : Nat → va_E} (h : CAt g b L w) (hl : ∀ i, 25 ≤ i → i < 40 → L i = M i) : CAt g b M w := by
  obtain ⟨a0, a1, a2⟩ := h
  exact ⟨a0.trans (cI5_c (fun j hj => hl _ (by omega) (by omega))), a1.trans (cI5_c (fun j hj => hl _ (by omega) (by omega))), a2.trans (cI5_c (fun j hj => hl _ (by omega) (by omega)))⟩
theorem GAt.mom {g : GE} {b : Nat} {x y : Int32} {L : Nat → Nat} {w : Nat → va_E} (h : GAt g b x y L w) : MomAt g (b + 2) L w := ⟨h.2.2.1, h.2.2.2.1, h.2.2.2.2⟩
/-- the moment of a ground is another -/
theorem GAt_mom {g : GE} {b : Nat} {x y : Int32} {L M : Nat → Nat} {w w' : Nat → va_E} (h : GAt g b x y L w) (e : MomAt g (b + 2) M w') (f : ∀ j, b ≤ j → j < b + 2 → w' j = w j) (hM : ∀ i, 17 ≤ i → i < 24 → M i = L i) : GAt g b x y M w' :=
  ⟨(f b (by omega) (by omega)).trans h.1, by rw [f (b + 1) (by omega) (by omega), h.2.1]; exact cI7_c (fun j hj => (hM _ (by omega) (by omega)).symm), e.1, e.2.1, e.2.2⟩
/-- a number of the moment is another -/
theorem GAt_m {g : GE} {b k v : Nat} {x y : Int32} {L : Nat → Nat} {w w' : Nat → va_E} (h : GAt g b x y L w) (hk : k < 3) (e : w' (b + 2) = cG2 g b (va_up L k v)) (f : ∀ j, j ≠ b + 2 → w' j = w j) : GAt g b x y (va_up L k v) w' := by
  refine ⟨?_, ?_, e, ?_, ?_⟩
  · rw [f b (by omega), h.1]
  · rw [f (b + 1) (by omega), h.2.1]
    exact cI7_c (fun j hj => (va_up_ne _ _ (by omega)).symm)
  · rw [f (b + 3) (by omega), h.2.2.2.1]
    exact cI7_c (fun j hj => (va_up_ne _ _ (by omega)).symm)
  · rw [f (b + 4) (by omega), h.2.2.2.2]
    exact cI7_c (fun j hj => (va_up_ne _ _ (by omega)).symm)
theorem GAt_spot {g : GE} {b v : Nat} {x y : Int32} {L : Nat → Nat} {w w' : Nat → va_E} (h : GAt g b x y L w) (e : w' (b + 2) = .inr (2, [.int (nI v), .int (nI (L 0)), .int (nI (L 1)), .ref (gad g (b + 3)), .ref (gad g (b + 4))])) (f : ∀ j, j ≠ b + 2 → w' j = w j) : GAt g b x y (va_up L 2 v) w' := GAt_m h (by omega) e f
theorem GAt_day {g : GE} {b v : Nat} {x y : Int32} {L : Nat → Nat} {w w' : Nat → va_E} (h : GAt g b x y L w) (e : w' (b + 2) = .inr (2, [.int (nI (L 2)), .int (nI v), .int (nI (L 1)), .ref (gad g (b + 3)), .ref (gad g (b + 4))])) (f : ∀ j, j ≠ b + 2 → w' j = w j) : GAt g b x y (va_up L 0 v) w' := GAt_m h (by omega) e f
theorem GAt_draw {g : GE} {b v : Nat} {x y : Int32} {L : Nat → Nat} {w w' : Nat → va_E} (h : GAt g b x y L w) (e : w' (b + 2) = .inr (2, [.int (nI (L 2)), .int (nI (L 0)), .int (nI v), .ref (gad g (b + 3)), .ref (gad g (b + 4))])) (f : ∀ j, j ≠ b + 2 → w' j = w j) : GAt g b x y (va_up L 1 v) w' := GAt_m h (by omega) e f
/-- known, claims are others -/
theorem GAt_o {g : GE} {b : Nat} {x y x' y' : Int32} {L : Nat → Nat} {w w' : Nat → va_E} (h : GAt g b x y L w) (e : w' b = cG0 g b x' y') (f : ∀ j, j ≠ b → w' j = w j) : GAt g b x' y' L w' :=
  ⟨e, (f (b + 1) (by omega)).trans h.2.1, (f (b + 2) (by omega)).trans h.2.2.1, (f (b + 3) (by omega)).trans h.2.2.2.1, (f (b + 4) (by omega)).trans h.2.2.2.2⟩
/-- one of the three rows is another -/
theorem GAt_row {g : GE} {b r o : Nat} {x y : Int32} {L M : Nat → Nat} {w w' : Nat → va_E} (h : GAt g b x y L w) (hr : (r = 1 ∧ o = 17) ∨ (r = 3 ∧ o = 3) ∨ (r = 4 ∧ o = 10)) (e : w' (b + r) = cI7 g o M) (f : ∀ j, j ≠ b + r → w' j = w j) (hM : ∀ i, i < o ∨ o + 7 ≤ i → M i = L i) : GAt g b x y M w' := by
  have q2 : cG2 g b L = cG2 g b M := by simp only [cG2, hM 2 (by omega), hM 0 (by omega), hM 1 (by omega)]
  rcases hr with ⟨rfl, rfl⟩ | ⟨rfl, rfl⟩ | ⟨rfl, rfl⟩
  · exact ⟨by rw [f b (by omega), h.1], e, by rw [f (b + 2) (by omega), h.2.2.1, q2], by rw [f (b + 3) (by omega), h.2.2.2.1]; exact cI7_c (fun j hj => (hM _ (by omega)).symm), by rw [f (b + 4) (by omega), h.2.2.2.2]; exact cI7_c (fun j hj => (hM _ (by omega)).symm)⟩
  · exact ⟨by rw [f b (by omega), h.1], by rw [f (b + 1) (by omega), h.2.1]; exact cI7_c (fun j hj => (hM _ (by omega)).symm), by rw [f (b + 2) (by omega), h.2.2.1, q2], e, by rw [f (b + 4) (by omega), h.2.2.2.2]; exact cI7_c (fun j hj => (hM _ (by omega)).symm)⟩
  · exact ⟨by rw [f b (by omega), h.1], by rw [f (b + 1) (by omega), h.2.1]; exact cI7_c (fun j hj => (hM _ (by omega)).symm), by rw [f (b + 2) (by omega), h.2.2.1, q2], by rw [f (b + 3) (by omega), h.2.2.2.1]; exact cI7_c (fun j hj => (hM _ (by omega)).symm), e⟩
theorem GAt_kind {g : GE} {b k v : Nat} {x y : Int32} {L : Nat → Nat} {w w' : Nat → va_E} (h : GAt g b x y L w) (hk : k < 7) (e : w' (b + 1) = .inl (gI g, 7, .inl (cK 7 17 (va_up L (17 + k) v)))) (f : ∀ j, j ≠ b + 1 → w' j = w j) : GAt g b x y (va_up L (17 + k) v) w' := GAt_row (r := 1) (o := 17) h (Or.inl ⟨rfl, rfl⟩) e f (fun i hi => va_up_ne _ _ (by omega))
theorem GAt_food {g : GE} {b k v : Nat} {x y : Int32} {L : Nat → Nat} {w w' : Nat → va_E} (h : GAt g b x y L w) (hk : k < 7) (e : w' (b + 3) = .inl (gI g, 7, .inl (cK 7 3 (va_up L (3 + k) v)))) (f : ∀ j, j ≠ b + 3 → w' j = w j) : GAt g b x y (va_up L (3 + k) v) w' := GAt_row (r := 3) (o := 3) h (Or.inr (Or.inl ⟨rfl, rfl⟩)) e f (fun i hi => va_up_ne _ _ (by omega))
theorem GAt_hedge {g : GE} {b k v : Nat} {x y : Int32} {L : Nat → Nat} {w w' : Nat → va_E} (h : GAt g b x y L w) (hk : k < 7) (e : w' (b + 4) = .inl (gI g, 7, .inl (cK 7 10 (va_up L (10 + k) v)))) (f : ∀ j, j ≠ b + 4 → w' j = w j) : GAt g b x y (va_up L (10 + k) v) w' := GAt_row (r := 4) (o := 10) h (Or.inr (Or.inr ⟨rfl, rfl⟩)) e f (fun i hi => va_up_ne _ _ (by omega))
def mixF (n : Nat) (A B : Nat → Nat) : Nat → Nat := fun i => if i < n then A i else B i
theorem mixF_lt {n i : Nat} {A B : Nat → Nat} (h : i < n) : mixF n A B i = A i := if_pos h
theorem mixF_ge {n i : Nat} {A B : Nat → Nat} (h : ¬ i < n) : mixF n A B i = B i := if_neg h
section XNR1
variable {p : Program} {l : Launch} {e : Env} {R : Room} {s : State} {m : MethodId} {args : Array Value} {below : List Frame} {meth : Method} {c : Code} {H : Heap} {locs : List Loc} {cells slots : Nat} {Q : State → Prop}
variable {cc : ByteArray} {nL pc : Nat} {ls : Array Slot} {rest : List Value} {Ts : List Cond} {own : String}
theorem xtopN {a b : Nat} (h : a = b) (k : W p l e R s m args below meth c H locs cells slots Q (F0 m pc ls (.int (nI b) :: rest))) : W p l e R s m args below meth c H locs cells slots Q (F0 m pc ls (.int (nI a) :: rest)) := by rw [h]; exact k
theorem xtopI {a b : Int32} (h : a = b) (k : W p l e R s m args below meth c H locs cells slots Q (F0 m pc ls (.int b :: rest))) : W p l e R s m args below meth c H locs cells slots Q (F0 m pc ls (.int a :: rest)) := by rw [h]; exact k
theorem xtopL {a b : Nat} (h : a = b) (k : W p l e R s m args below meth c H locs cells slots Q (F0 m pc ls (.long (lN b) :: rest))) : W p l e R s m args below meth c H locs cells slots Q (F0 m pc ls (.long (lN a) :: rest)) := by rw [h]; exact k
theorem xtopJ {a b : Int64} (h : a = b) (k : W p l e R s m args below meth c H locs cells slots Q (F0 m pc ls (.long b :: rest))) : W p l e R s m args below meth c H locs cells slots Q (F0 m pc ls (.long a :: rest)) := by rw [h]; exact k
theorem nI_and31 (n : Nat) : nI n &&& nI 2147483647 = nI (n % 2147483648) := by
  rw [pk_and (nI n) 31 (by decide)]
  congr 1
  show (BitVec.ofNat 32 n).toNat % _ = _
  rw [BitVec.toNat_ofNat]
  omega
theorem xand31 (C : CallFix p m c cc nL s args Ts own) {n : Nat} (hdg : decode cc pc = .ok (.iand, 1)) (k : W p l e R s m args below meth c H locs cells slots Q (F0 m (pc + 1) ls (.int (nI (n % 2147483648)) :: rest))) : W p l e R s m args below meth c H locs cells slots Q (F0 m pc ls (.int (nI 2147483647) :: .int (nI n) :: rest)) :=
  lv_iand C.1 C.2.1 hdg (by rw [nI_and31]; exact k)
end XNR1
theorem max0_ok : ∀ n, n < 10 → (if nI 0 < nI n - nI 1 then nI n - nI 1 else nI 0) = nI (n - 1) := by decide
theorem gard_ok : ∀ n, n < 10 → (if nI 1 < nI (5 - n / 2) - nI 3 then nI (5 - n / 2) - nI 3 else nI 1) = nI (max 1 (5 - n / 2 - 3)) := by decide
theorem drawF_lt (d : Nat) : drawF d < 2147483648 := Nat.mod_lt _ (by decide)
theorem Okg_up {L : Nat → Nat} {k v : Nat} (h : Okg L) (hk : k < 3) : Okg (va_up L k v) := by
  intro f hf
  rw [va_up_ne _ _ (by omega), va_up_ne _ _ (by omega), va_up_ne _ _ (by omega)]
  exact h f hf
theorem onF_up {L : Nat → Nat} {k v f : Nat} (hk : k < 3) : onF (va_up L k v) f = onF L f := by
  unfold onF
  rw [va_up_ne _ _ (by omega), va_up_ne _ _ (by omega)]
theorem backF_up {L : Nat → Nat} {k v f : Nat} (hk : k < 3) : backF (va_up L k v) f = backF L f := by
  unfold backF
  rw [va_up_ne _ _ (by omega), onF_up hk]
theorem va_up_id {α : Type} {f : Nat → α} {k : Nat} {v : α} (h : f k = v) : va_up f k v = f := by
  funext j
  by_cases hj : j = k
  · subst hj
    rw [va_up_self, h]
  · rw [va_up_ne _ _ hj]
theorem mixF_0 {A B : Nat → Nat} : mixF 0 A B = B := by
  funext j
  exact mixF_ge (by omega)
theorem mixF_up {i : Nat} {A B : Nat → Nat} : mixF (i + 1) A B = va_up (mixF i A B) i (A i) := by
  funext j
  by_cases hj : j = i
  · subst hj
    rw [va_up_self, mixF_lt (by omega)]
  · rw [va_up_ne _ _ hj]
    by_cases h : j < i
    · rw [mixF_lt (by omega), mixF_lt h]
    · rw [mixF_ge (by omega), mixF_ge h]
theorem cK_mix {n : Nat} {A B : Nat → Nat} : cK n 0 (mixF n A B) = cK n 0 A := cK_congr (fun j hj => mixF_lt (by omega))
theorem cL_mix {n : Nat} {A B : Nat → Nat} : cL n 0 (mixF n A B) = cL n 0 A := cL_congr (fun j hj => mixF_lt (by omega))
/-- n from i on of A come to j on of B -/
def cpF (i j n : Nat) (A B : Nat → Nat) : Nat → Nat := fun t => if j ≤ t ∧ t < j + n then A (i + (t - j)) else B t
theorem cpF_0 {i j : Nat} {A B : Nat → Nat} : cpF i j 0 A B = B := by
  funext t
  exact if_neg (by omega)
theorem cpF_up {i j k : Nat} {A B : Nat → Nat} : cpF i j (k + 1) A B = va_up (cpF i j k A B) (j + k) (A (i + k)) := by
  funext t
  by_cases ht : t = j + k
  · subst ht
    rw [va_up_self, cpF, if_pos (by omega)]
    congr 1
    omega
  · rw [va_up_ne _ _ ht]
    unfold cpF
    by_cases h : j ≤ t ∧ t < j + k
    · rw [if_pos (by omega), if_pos h]
    · rw [if_neg (by omega), if_neg h]
theorem cpF_in {i j n t : Nat} {A B : Nat → Nat} (h : j ≤ t ∧ t < j + n) : cpF i j n A B t = A (i + (t - j)) := if_pos h
theorem cpF_out {i j n t : Nat} {A B : Nat → Nat} (h : ¬ (j ≤ t ∧ t < j + n)) : cpF i j n A B t = B t := if_neg h
theorem kK_none {n o k : Nat} {F : Nat → Nat} (h : k < n) : kK none n o (fun j => some (F j)) k = some (F (o + k)) := kK_at h
/-- one claim more behind n -/
def addC (n f t z : Nat) (K : Nat → Nat) : Nat → Nat := va_up (va_up (va_up K (25 + n) f) (30 + n) t) (35 + n) z
theorem addC_25 {n f t z j : Nat} {K : Nat → Nat} (hn : n < 5) (hj : j < 5) : va_up K (25 + n) f (25 + j) = addC n f t z K (25 + j) := by
  unfold addC
  rw [va_up_ne _ _ (by omega : 25 + j ≠ 35 + n), va_up_ne _ _ (by omega : 25 + j ≠ 30 + n)]
theorem addC_30 {n f t z j : Nat} {K : Nat → Nat} (hn : n < 5) (hj : j < 5) : va_up K (30 + n) t (30 + j) = addC n f t z K (30 + j) := by
  unfold addC
  rw [va_up_ne _ _ (by omega : 30 + j ≠ 35 + n)]
  by_cases h : j = n
  · subst h
    rw [va_up_self, va_up_self]
  · rw [va_up_ne _ _ (by omega), va_up_ne _ _ (by omega), va_up_ne _ _ (by omega)]
theorem addC_35 {n f t z j : Nat} {K : Nat → Nat} (hn : n < 5) (hj : j < 5) : va_up K (35 + n) z (35 + j) = addC n f t z K (35 + j) := by
  unfold addC
  by_cases h : j = n
  · subst h
    rw [va_up_self, va_up_self]
  · rw [va_up_ne _ _ (by omega), va_up_ne _ _ (by omega), va_up_ne _ _ (by omega), va_up_ne _ _ (by omega)]
