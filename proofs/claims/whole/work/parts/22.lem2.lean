/-! what is done: the land's rows put together again; the answers and the states behind them -/
theorem XLand_g {g : GE} {b : Nat} {M M' K : Nat → Nat} {π : Nat → Nat} {P : Nat → Nat → Nat} {w : Nat → va_E} (hl : ∀ i, 24 ≤ i → M' i = M i) (hG : GAt g b (nI (M 40)) (nI (M 24)) M' w) (hC : CAt g b K w) (hCk : ∀ c, c < M 24 → K (25 + c) = M (25 + c) ∧ K (30 + c) = M (30 + c) ∧ K (35 + c) = M (35 + c)) (hPa : PArr g b π w) (hPm : PMom g b π P w) (hPk : ∀ p, p < M 40 → ∀ i, i < 17 → P p i = M (41 + 17 * p + i)) : XLand g b M' w := by
  refine ⟨π, P, K, by rw [hl 40 (by omega), hl 24 (by omega)]; exact hG, hC, ?_, hPa, hPm, ?_⟩
  · intro c hc
    rw [hl 24 (by omega)] at hc
    rw [hl (25 + c) (by omega), hl (30 + c) (by omega), hl (35 + c) (by omega)]
    exact hCk c hc
  · intro p hp i hi
    rw [hl 40 (by omega)] at hp
    rw [hl _ (by omega)]
    exact hPk p hp i hi
/-- nothing is known of the past -/
theorem XLand_0 {g : GE} {b n : Nat} {M' K : Nat → Nat} {π : Nat → Nat} {P : Nat → Nat → Nat} {w : Nat → va_E} (h0 : M' 40 = 0) (hn : M' 24 = n) (hG : GAt g b (nI 0) (nI n) M' w) (hC : CAt g b K w) (hCk : ∀ c, c < n → K (25 + c) = M' (25 + c) ∧ K (30 + c) = M' (30 + c) ∧ K (35 + c) = M' (35 + c)) (hPa : PArr g b π w) (hPm : PMom g b π P w) : XLand g b M' w := by
  refine ⟨π, P, K, by rw [h0, hn]; exact hG, hC, fun c hc => hCk c (by omega), hPa, hPm, ?_⟩
  intro p hp
  rw [h0] at hp
  omega
theorem dayF_hi {L : Nat → Nat} {i : Nat} (hs : L 2 < 7) (h : 10 ≤ i) : dayF L i = L i := by
  unfold dayF
  rw [va_up_ne _ _ (by omega)]
  split
  · rw [va_up_ne _ _ (by omega), va_up_ne _ _ (by omega)]
  · split
    · rw [va_up_ne _ _ (by omega), va_up_ne _ _ (by omega)]
    · rw [va_up_ne _ _ (by omega), va_up_ne _ _ (by omega)]
theorem dayF_0 {L : Nat → Nat} : dayF L 0 = L 0 + 1 := va_up_self _ _ _
theorem dayF_1 {L : Nat → Nat} : dayF L 1 = drawF (L 1) := by
  unfold dayF
  rw [va_up_ne _ _ (by omega)]
  split
  · rw [va_up_ne _ _ (by omega), va_up_self]
  · split
    · rw [va_up_ne _ _ (by omega), va_up_self]
    · rw [va_up_ne _ _ (by omega), va_up_self]
def OkW (L : Nat → Nat) : Prop := Okg L ∧ L 2 < 7 ∧ L 1 < 2147483648 ∧ L 24 ≤ 5 ∧ L 40 ≤ 8
theorem OkL.w {L : Nat → Nat} (h : OkL L) : OkW L := ⟨h.1, h.2.1, h.2.2.2.1, h.2.2.2.2.1, h.2.2.2.2.2.1⟩
theorem Okg_congr {L M : Nat → Nat} (h : Okg L) (e : ∀ i, i < 24 → M i = L i) : Okg M := by
  intro f hf
  rw [e _ (by omega), e _ (by omega), e _ (by omega)]
  exact h f hf
theorem OkW_note {L : Nat → Nat} (h : OkW L) : OkW (noteF L) := by
  obtain ⟨h1, h2, h3, h4, h5⟩ := h
  refine ⟨Okg_congr h1 (fun i hi => noteF_lo (by omega)), by rw [noteF_lo (by omega)]; exact h2, by rw [noteF_lo (by omega)]; exact h3, by rw [noteF_lo (by omega)]; exact h4, ?_⟩
  rw [noteF_40]
  split <;> omega
theorem OkW_day {L : Nat → Nat} (h : OkW L) : OkW (dayF L) := by
  obtain ⟨h1, h2, h3, h4, h5⟩ := h
  have q := dayF_ok h1 h2
  exact ⟨q.1, q.2, by rw [dayF_1]; exact drawF_lt _, by rw [dayF_hi h2 (by omega)]; exact h4, by rw [dayF_hi h2 (by omega)]; exact h5⟩
def daysL (L : Nat → Nat) : Nat → (Nat → Nat)
  | 0 => L
  | n + 1 => dayF (noteF (daysL L n))
theorem OkW_days {L : Nat → Nat} (h : OkW L) : ∀ n, OkW (daysL L n)
  | 0 => h
  | n + 1 => OkW_day (OkW_note (OkW_days h n))
/-! field, claim, type, days, carry, lettuce, lay, undo, seed, image, restore -/
abbrev okField (x y : Int32) : Prop := in6 x ∧ inR y (nI 0) (nI 4)
def fieldS (L : Nat → Nat) (x y : Int32) : Int32 := if okField x y then nI (L (17 + cl x)) else -1
def fieldL (L : Nat → Nat) (x y : Int32) : Nat → Nat := if okField x y then va_up (va_up L (17 + cl x) (cl y)) 40 0 else L
abbrev okClaim (x y z : Int32) : Prop := in6 x ∧ inR y x (nI 6) ∧ inR z (nI 1) (nI 99)
def addF (L : Nat → Nat) (f t z : Nat) : Nat → Nat := va_up (addC (L 24) f t z (va_up L 40 0)) 24 (L 24 + 1)
def claimS (L : Nat → Nat) (x y z : Int32) : Int32 := if okClaim x y z then (if L 24 < 5 then nI (L 24) else -3) else -1
def claimL (L : Nat → Nat) (x y z : Int32) : Nat → Nat := if okClaim x y z ∧ L 24 < 5 then addF L (cl x) (cl y) (cl z) else L
abbrev okType (x : Int32) : Prop := inR x (nI 32) (nI 126)
def typeS (n : Nat) (x : Int32) : Int32 := if okType x then (if n < 80 then nI (n + 1) else -3) else -1
def typeN (n : Nat) (x : Int32) : Nat := if okType x ∧ n < 80 then n + 1 else n
def typeT (n : Nat) (T : Nat → Nat) (x : Int32) : Nat → Nat := if okType x ∧ n < 80 then va_up T n (cl x) else T
abbrev okDays (L : Nat → Nat) (x : Int32) : Prop := inR x (nI 1) (nI 40) ∧ L 0 + cl x ≤ 9999
def daysS (L : Nat → Nat) (x : Int32) : Int32 := if inR x (nI 1) (nI 40) then (if L 0 + cl x ≤ 9999 then nI (daysL L (cl x) 2) else -3) else -1
def daysM (L : Nat → Nat) (x : Int32) : Nat → Nat := if okDays L x then daysL L (cl x) else L
def carryS (L : Nat → Nat) (x : Int32) : Int32 := if in6 x then (if L 2 = cl x then -2 else nI (L 2)) else -1
def carryL (L : Nat → Nat) (x : Int32) : Nat → Nat := if in6 x ∧ ¬ L 2 = cl x then va_up (noteF L) 2 (cl x) else L
abbrev okLet (x y : Int32) : Prop := in6 x ∧ inR y (nI 1) (nI 9)
def letS (L : Nat → Nat) (x y : Int32) : Int32 := if okLet x y then (if L (3 + cl x) = 9 then -2 else nI (min 9 (L (3 + cl x) + cl y))) else -1
def letL (L : Nat → Nat) (x y : Int32) : Nat → Nat := if okLet x y ∧ ¬ L (3 + cl x) = 9 then va_up (noteF L) (3 + cl x) (min 9 (L (3 + cl x) + cl y)) else L
def layS (L : Nat → Nat) (x y : Int32) : Int32 := if okField x y then (if L (10 + cl x) = cl y then -2 else nI (L (10 + cl x))) else -1
def layL (L : Nat → Nat) (x y : Int32) : Nat → Nat := if okField x y ∧ ¬ L (10 + cl x) = cl y then va_up (noteF L) (10 + cl x) (cl y) else L
def undoS (L : Nat → Nat) : Int32 := if L 40 = 0 then -4 else nI (L 40 - 1)
def undoL (L : Nat → Nat) : Nat → Nat := if L 40 = 0 then L else undoF L
def seedS (L : Nat → Nat) (x : Int32) : Int32 := if x < 0 then -1 else nI (L 1)
def seedL (L : Nat → Nat) (x : Int32) : Nat → Nat := if x < 0 then L else va_up L 1 (cl x)
def restS (hk : Nat) : Int32 := if hk = 0 then -4 else 1
def restL (hk : Nat) (L K : Nat → Nat) : Nat → Nat := if hk = 0 then L else K
theorem inR_mid {x : Int32} {a b : Nat} {y : Int32} (ha : a < 2 ^ 31) (hb : b < 2 ^ 31) (e : y = nI a) (h : inR x y (nI b)) : ∃ k, a ≤ k ∧ k ≤ b ∧ x = nI k := by
  rw [e] at h
  exact inR_N ha hb h
theorem not_neg {x : Int32} (h : ¬ x < 0) : ∃ j, j < 2 ^ 31 ∧ x = nI j := nI_of h
theorem lt_of_nge {x : Int32} (h : ¬ 0 ≤ x) : x < 0 := Int32.not_le.mp h
theorem nlt_of_ge {x : Int32} (h : 0 ≤ x) : ¬ x < 0 := Int32.not_lt.mpr h
theorem addF_40 {L : Nat → Nat} {f t z : Nat} (h : L 24 < 5) : addF L f t z 40 = 0 := by
  unfold addF addC
  rw [va_up_ne _ _ (by omega), va_up_ne _ _ (by omega), va_up_ne _ _ (by omega), va_up_ne _ _ (by omega), va_up_self]
theorem addF_24 {L : Nat → Nat} {f t z : Nat} : addF L f t z 24 = L 24 + 1 := va_up_self _ _ _
theorem addF_lo {L : Nat → Nat} {f t z i : Nat} (h : i < 24) : addF L f t z i = L i := by
  unfold addF addC
  rw [va_up_ne _ _ (by omega), va_up_ne _ _ (by omega), va_up_ne _ _ (by omega), va_up_ne _ _ (by omega), va_up_ne _ _ (by omega)]
theorem addF_cl {L K : Nat → Nat} {f t z : Nat} (h5 : L 24 < 5) (hCk : ∀ c, c < L 24 → K (25 + c) = L (25 + c) ∧ K (30 + c) = L (30 + c) ∧ K (35 + c) = L (35 + c)) : ∀ c, c < L 24 + 1 → addC (L 24) f t z K (25 + c) = addF L f t z (25 + c) ∧ addC (L 24) f t z K (30 + c) = addF L f t z (30 + c) ∧ addC (L 24) f t z K (35 + c) = addF L f t z (35 + c) := by
  intro c hc
  unfold addF
  rw [va_up_ne (k := 24) _ _ (by omega), va_up_ne (k := 24) _ _ (by omega), va_up_ne (k := 24) _ _ (by omega)]
  rw [← addC_25 h5 (by omega), ← addC_25 h5 (by omega), ← addC_30 h5 (by omega), ← addC_30 h5 (by omega), ← addC_35 h5 (by omega), ← addC_35 h5 (by omega)]
  by_cases q : c = L 24
  · rw [q]
    simp only [va_up_self, and_self]
  · have hk := hCk c (by omega)
    rw [va_up_ne (k := 25 + L 24) _ _ (by omega), va_up_ne (k := 25 + L 24) _ _ (by omega), va_up_ne (k := 30 + L 24) _ _ (by omega), va_up_ne (k := 30 + L 24) _ _ (by omega), va_up_ne (k := 35 + L 24) _ _ (by omega), va_up_ne (k := 35 + L 24) _ _ (by omega), va_up_ne (k := 40) _ _ (by omega), va_up_ne (k := 40) _ _ (by omega), va_up_ne (k := 40) _ _ (by omega)]
    exact hk
theorem XLand_undo {g : GE} {b : Nat} {L K : Nat → Nat} {π : Nat → Nat} {P : Nat → Nat → Nat} {w : Nat → va_E} (h0 : 0 < L 40) (hG : GAt g b (nI (L 40 - 1)) (nI (L 24)) (mixF 17 (P (L 40 - 1)) L) w) (hC : CAt g b K w) (hCk : ∀ c, c < L 24 → K (25 + c) = L (25 + c) ∧ K (30 + c) = L (30 + c) ∧ K (35 + c) = L (35 + c)) (hPa : PArr g b π w) (hPm : PMom g b π P w) (hPk : ∀ p, p < L 40 → ∀ i, i < 17 → P p i = L (41 + 17 * p + i)) (h24 : L 24 ≤ 5) : XLand g b (undoF L) w := by
  refine ⟨π, P, K, ?_, hC, ?_, hPa, hPm, ?_⟩
  · rw [undoF_40, undoF_hi (i := 24) (by omega) (by omega)]
    refine hG.congr (fun i hi => ?_)
    by_cases q : i < 17
    · rw [mixF_lt q, undoF_lo q]
      exact hPk _ (by omega) i q
    · rw [mixF_ge q, undoF_hi (by omega) (by omega)]
  · intro c hc
    rw [undoF_hi (i := 24) (by omega) (by omega)] at hc
    rw [undoF_hi (i := 25 + c) (by omega) (by omega), undoF_hi (i := 30 + c) (by omega) (by omega), undoF_hi (i := 35 + c) (by omega) (by omega)]
    exact hCk c hc
  · intro p hp i hi
    rw [undoF_40] at hp
    rw [undoF_hi (by omega) (by omega)]
    exact hPk p (by omega) i hi
