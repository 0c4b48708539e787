/-! the past: rotated, one more told, one taken back
-/
theorem PArr_at {g : GE} {b k v : Nat} {ρ : Nat → Nat} (h : k < 8) (e : ρ k = v) : kK none 8 0 (fun j => some (gad g (b + 9 + 3 * ρ j))) k = some (gad g (b + 9 + 3 * v)) := by
  rw [kK_at h, Nat.zero_add, e]
theorem PArr_up {g : GE} {b k v : Nat} {ρ : Nat → Nat} {w' : Nat → va_E} (h : k < 8) (e : w' (b + 5) = .inl (gM g, 8, .inr (.inr (.inr (.inr (va_up (kK none 8 0 (fun j => some (gad g (b + 9 + 3 * ρ j)))) (nI k).toNatClampNeg (some (gad g (b + 9 + 3 * v)))))))))  : PArr g b (va_up ρ k v) w' := by
  unfold PArr
  rw [e, nI_clamp (by omega), kK_up _ h, Nat.zero_add, va_up_f (fun x => some (gad g (b + 9 + 3 * x)))]
def rotP (π : Nat → Nat) : Nat → Nat := va_up (mixF 7 (fun j => π (j + 1)) π) 7 (π 0)
theorem rotP_lt {π : Nat → Nat} {p : Nat} (h : p < 7) : rotP π p = π (p + 1) := by
  unfold rotP
  rw [va_up_ne _ _ (by omega), mixF_lt h]
theorem rotP_7 {π : Nat → Nat} : rotP π 7 = π 0 := va_up_self _ _ _
theorem rotP_ok {π : Nat → Nat} (h : PermOk π) : PermOk (rotP π) := by
  constructor
  · intro j hj
    by_cases q : j < 7
    · rw [rotP_lt q]
      exact h.1 _ (by omega)
    · rw [show j = 7 by omega, rotP_7]
      exact h.1 _ (by omega)
  · intro i j hi hj e
    by_cases q : i < 7
    · by_cases r : j < 7
      · rw [rotP_lt q, rotP_lt r] at e
        have := h.2 _ _ (by omega) (by omega) e
        omega
      · rw [rotP_lt q, show j = 7 by omega, rotP_7] at e
        have := h.2 _ _ (by omega) (by omega) e
        omega
    · by_cases r : j < 7
      · rw [show i = 7 by omega, rotP_7, rotP_lt r] at e
        have := h.2 _ _ (by omega) (by omega) e
        omega
      · omega
def rotQ (P : Nat → Nat → Nat) : Nat → Nat → Nat := fun p => if p < 7 then P (p + 1) else P 0
theorem PMom_rot {g : GE} {b : Nat} {π : Nat → Nat} {P : Nat → Nat → Nat} {w : Nat → va_E} (h : PMom g b π P w) : PMom g b (rotP π) (rotQ P) w := by
  refine ⟨rotP_ok h.1, fun p hp => ?_⟩
  unfold rotQ
  by_cases q : p < 7
  · rw [rotP_lt q, if_pos q]
    exact h.2 _ (by omega)
  · rw [show p = 7 by omega, rotP_7]
    exact h.2 _ (by omega)
theorem PMom_take {g : GE} {b k : Nat} {ρ : Nat → Nat} {Q : Nat → Nat → Nat} {M : Nat → Nat} {w w' : Nat → va_E} (h : PMom g b ρ Q w) (hk : k < 8) (e : MomAt g (b + 9 + 3 * ρ k) M w') (f : ∀ j, ¬ (b + 9 + 3 * ρ k ≤ j ∧ j < b + 9 + 3 * ρ k + 3) → w' j = w j) : PMom g b ρ (va_up Q k M) w' := by
  refine ⟨h.1, fun p hp => ?_⟩
  by_cases q : p = k
  · subst q
    rw [va_up_self]
    exact e
  · rw [va_up_ne _ _ q]
    have hne : ρ p ≠ ρ k := fun z => q (h.1.2 _ _ hp hk z)
    exact (h.2 p hp).fr (fun j h1 h2 => f j (by omega))
def pastUp (n : Nat) (P : Nat → Nat → Nat) (L : Nat → Nat) : Nat → Nat → Nat := if n < 8 then va_up P n L else va_up (rotQ P) 7 L
def noteF (L : Nat → Nat) : Nat → Nat := if L 40 = 8 then va_up (cpF 0 160 17 (va_up (cpF 58 41 119 L L) 40 7) (va_up (cpF 58 41 119 L L) 40 7)) 40 8 else va_up (cpF 0 (41 + 17 * L 40) 17 L L) 40 (L 40 + 1)
theorem noteF_lo {L : Nat → Nat} {i : Nat} (h : i < 40) : noteF L i = L i := by
  unfold noteF
  split
  · rw [va_up_ne _ _ (by omega), cpF_out (by omega), va_up_ne _ _ (by omega), cpF_out (by omega)]
  · rw [va_up_ne _ _ (by omega), cpF_out (by omega)]
theorem noteF_40 {L : Nat → Nat} : noteF L 40 = if L 40 = 8 then 8 else L 40 + 1 := by
  unfold noteF
  split <;> exact va_up_self _ _ _
/-- behind it: the last one is as now, the others as they were (one further down when eight were known) -/
theorem noteF_past {L : Nat → Nat} (hk : L 40 ≤ 8) {P : Nat → Nat → Nat} (hP : ∀ p, p < L 40 → ∀ i, i < 17 → P p i = L (41 + 17 * p + i)) : ∀ p, p < noteF L 40 → ∀ i, i < 17 → pastUp (L 40) P L p i = noteF L (41 + 17 * p + i) := by
  intro p hp i hi
  rw [noteF_40] at hp
  unfold pastUp noteF
  by_cases h8 : L 40 = 8
  · rw [if_pos h8] at hp ⊢
    rw [if_neg (by omega), va_up_ne (k := 40) (j := 41 + 17 * p + i) _ _ (by omega)]
    by_cases q : p = 7
    · rw [q, va_up_self, cpF_in (by omega), va_up_ne (k := 40) _ _ (by omega), cpF_out (by omega)]
      exact congrArg L (by omega)
    · rw [va_up_ne (k := 7) _ _ q, cpF_out (by omega), va_up_ne (k := 40) _ _ (by omega), cpF_in (by omega)]
      unfold rotQ
      rw [if_pos (by omega), hP (p + 1) (by omega) i hi]
      exact congrArg L (by omega)
  · rw [if_neg h8] at hp ⊢
    rw [if_pos (by omega), va_up_ne (k := 40) (j := 41 + 17 * p + i) _ _ (by omega)]
    by_cases q : p = L 40
    · rw [q, va_up_self, cpF_in (by omega)]
      exact congrArg L (by omega)
    · rw [va_up_ne (k := L 40) (j := p) _ _ q, cpF_out (by omega)]
      exact hP p (by omega) i hi
/-- a land whose past is told one more -/
theorem XLand_note {g : GE} {b : Nat} {L K : Nat → Nat} {π' : Nat → Nat} {P P' : Nat → Nat → Nat} {w : Nat → va_E} (hk : L 40 ≤ 8) (hG : GAt g b (nI (if L 40 < 8 then L 40 + 1 else 8)) (nI (L 24)) L w) (hC : CAt g b K w) (hCk : ∀ c, c < L 24 → K (25 + c) = L (25 + c) ∧ K (30 + c) = L (30 + c) ∧ K (35 + c) = L (35 + c)) (h24 : L 24 ≤ 5)
    (hPa : PArr g b π' w) (hPm : PMom g b π' P' w) (hP' : P' = pastUp (L 40) P L) (hP : ∀ p, p < L 40 → ∀ i, i < 17 → P p i = L (41 + 17 * p + i)) : XLand g b (noteF L) w := by
  refine ⟨π', P', K, ?_, hC, ?_, hPa, hPm, ?_⟩
  · rw [noteF_lo (i := 24) (by omega), noteF_40]
    have e : (if L 40 = 8 then 8 else L 40 + 1) = (if L 40 < 8 then L 40 + 1 else 8) := by split <;> split <;> omega
    rw [e]
    exact hG.congr (fun i hi => (noteF_lo (by omega)).symm)
  · intro c hc
    rw [noteF_lo (i := 24) (by omega)] at hc
    rw [noteF_lo (i := 25 + c) (by omega), noteF_lo (i := 30 + c) (by omega), noteF_lo (i := 35 + c) (by omega)]
    exact hCk c hc
  · rw [hP']
    exact noteF_past hk hP
def undoF (L : Nat → Nat) : Nat → Nat := cpF (41 + 17 * (L 40 - 1)) 0 17 (va_up L 40 (L 40 - 1)) (va_up L 40 (L 40 - 1))
theorem undoF_lo {L : Nat → Nat} {i : Nat} (h : i < 17) : undoF L i = L (41 + 17 * (L 40 - 1) + i) := by
  unfold undoF
  rw [cpF_in (by omega), va_up_ne _ _ (by omega), Nat.sub_zero]
theorem undoF_hi {L : Nat → Nat} {i : Nat} (h : 17 ≤ i) (h4 : i ≠ 40) : undoF L i = L i := by
  unfold undoF
  rw [cpF_out (by omega), va_up_ne _ _ h4]
theorem undoF_40 {L : Nat → Nat} : undoF L 40 = L 40 - 1 := by
  unfold undoF
  rw [cpF_out (by omega), va_up_self]
