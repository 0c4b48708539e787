/-! a text read: T the letters, n how many, p the place -/
def skN (T : Nat → Nat) (n : Nat) : Nat → Nat → Nat
  | 0, p => p
  | k + 1, p => if p < n ∧ T p = 32 then skN T n k (p + 1) else p
/-- the first place from p on that is no blank, or the end -/
def skp (T : Nat → Nat) (n p : Nat) : Nat := skN T n (n - p) p
theorem skp_stop {T : Nat → Nat} {n p : Nat} (h : ¬ (p < n ∧ T p = 32)) : skp T n p = p := by
  unfold skp
  cases n - p with
  | zero => rfl
  | succ k => exact if_neg h
theorem skp_go {T : Nat → Nat} {n p : Nat} (h : p < n) (e : T p = 32) : skp T n p = skp T n (p + 1) := by
  unfold skp
  rw [show n - p = (n - (p + 1)) + 1 by omega]
  exact if_pos ⟨h, e⟩
theorem skN_le {T : Nat → Nat} {n : Nat} : ∀ k p, k + p ≤ n → p ≤ skN T n k p ∧ skN T n k p ≤ n
  | 0, p, h => ⟨Nat.le_refl _, by show p ≤ n; omega⟩
  | k + 1, p, h => by
    unfold skN
    split
    · have := skN_le (T := T) (n := n) k (p + 1) (by omega)
      omega
    · omega
theorem skp_le {T : Nat → Nat} {n p : Nat} (h : p ≤ n) : p ≤ skp T n p ∧ skp T n p ≤ n := skN_le _ _ (by omega)
theorem skN_no {T : Nat → Nat} {n : Nat} : ∀ k p, n ≤ k + p → ¬ (skN T n k p < n ∧ T (skN T n k p) = 32)
  | 0, p, h => by show ¬ (p < n ∧ T p = 32); omega
  | k + 1, p, h => by
    unfold skN
    split
    · exact skN_no k (p + 1) (by omega)
    · assumption
theorem skp_no {T : Nat → Nat} {n p : Nat} : ¬ (skp T n p < n ∧ T (skp T n p) = 32) := skN_no _ _ (by omega)
theorem skp_skp {T : Nat → Nat} {n p : Nat} : skp T n (skp T n p) = skp T n p := skp_stop skp_no
def chX (T : Nat → Nat) (n q : Nat) : Int32 := if q < n then nI (T q) else -1
def chM (T : Nat → Nat) (n q : Nat) : Nat := if q < n then T q else 0
abbrev OkT (T : Nat → Nat) (n : Nat) : Prop := ∀ i, i < n → 32 ≤ T i ∧ T i ≤ 126
/-- one letter is taken; a digit is taken -/
abbrev aOk (T : Nat → Nat) (n p c : Nat) : Prop := skp T n p < n ∧ T (skp T n p) = c
def aP (T : Nat → Nat) (n p c : Nat) : Nat := if aOk T n p c then skp T n p + 1 else skp T n p
abbrev dOk (T : Nat → Nat) (n p lo hi : Nat) : Prop := skp T n p < n ∧ lo + 48 ≤ T (skp T n p) ∧ T (skp T n p) ≤ hi + 48
def dV (T : Nat → Nat) (n p : Nat) : Nat := T (skp T n p) - 48
def dP (T : Nat → Nat) (n p lo hi : Nat) : Nat := if dOk T n p lo hi then skp T n p + 1 else skp T n p
def dX (T : Nat → Nat) (n p lo hi : Nat) : Int32 := if dOk T n p lo hi then nI (dV T n p) else -1
theorem aP_le {T : Nat → Nat} {n p c : Nat} (h : p ≤ n) : aP T n p c ≤ n := by
  have := skp_le (T := T) h
  unfold aP
  split
  · rename_i q
    have := q.1
    omega
  · omega
theorem dP_le {T : Nat → Nat} {n p lo hi : Nat} (h : p ≤ n) : dP T n p lo hi ≤ n := by
  have := skp_le (T := T) h
  unfold dP
  split
  · rename_i q
    have := q.1
    omega
  · omega
theorem dV_in {T : Nat → Nat} {n p lo hi : Nat} (h : dOk T n p lo hi) : lo ≤ dV T n p ∧ dV T n p ≤ hi := by
  obtain ⟨h0, h1, h2⟩ := h
  unfold dV
  omega
theorem m1_ne {c : Nat} (h : c < 2 ^ 31) : (-1 : Int32) ≠ nI c := by
  intro e
  have := congrArg Int32.toInt e
  rw [nI_toInt h] at this
  have h2 : (-1 : Int32).toInt = -1 := by decide
  omega
theorem chX_eq {T : Nat → Nat} {n q c : Nat} (hT : OkT T n) (hc : c < 2 ^ 31) : chX T n q = nI c ↔ (q < n ∧ T q = c) := by
  unfold chX
  by_cases h : q < n
  · rw [if_pos h]
    have := hT q h
    rw [nI_eq (by omega) hc]
    exact ⟨fun e => ⟨h, e⟩, fun e => e.2⟩
  · rw [if_neg h]
    exact ⟨fun e => absurd e (m1_ne hc), fun e => absurd e.1 h⟩
theorem chX_in {T : Nat → Nat} {n p lo hi : Nat} (hT : OkT T n) (hlo : lo ≤ 9) (hhi : hi ≤ 9) : inR (chX T n (skp T n p) - nI 48) (nI lo) (nI hi) ↔ dOk T n p lo hi := by
  unfold chX dOk
  by_cases h : skp T n p < n
  · rw [if_pos h]
    have ht := hT _ h
    have hz : ∀ t, t < 127 → ∀ a, a < 10 → ∀ b, b < 10 → (inR (nI t - nI 48) (nI a) (nI b) ↔ (a + 48 ≤ t ∧ t ≤ b + 48)) := by
      intro t ht' a ha b hb
      have e : (nI t - nI 48).toInt = (t : Int) - 48 := by
        have q : ∀ t, t < 127 → (nI t - nI 48).toInt = (t : Int) - 48 := by decide
        exact q t ht'
      rw [inR, Int32.le_iff_toInt_le, Int32.le_iff_toInt_le, e, nI_toInt (by omega), nI_toInt (by omega)]
      omega
    rw [hz _ (by omega) lo (by omega) hi (by omega)]
    exact ⟨fun e => ⟨h, e⟩, fun e => e.2⟩
  · rw [if_neg h]
    refine ⟨fun e => absurd e.1 ?_, fun e => absurd e.1 h⟩
    have hz : ∀ a, a < 10 → ¬ (nI a ≤ (-1 : Int32) - nI 48) := by decide
    exact hz lo (by omega)
theorem chX_v {T : Nat → Nat} {n p lo hi : Nat} (hT : OkT T n) (h : dOk T n p lo hi) : chX T n (skp T n p) - nI 48 = nI (dV T n p) := by
  have ht := hT _ h.1
  unfold chX
  rw [if_pos h.1]
  exact pk_sub (by have := h.2.1; omega)
theorem chM_eq {T : Nat → Nat} {n q c : Nat} (hc : 0 < c) : chM T n q = c ↔ (q < n ∧ T q = c) := by
  unfold chM
  by_cases h : q < n
  · rw [if_pos h]
    exact ⟨fun e => ⟨h, e⟩, fun e => e.2⟩
  · rw [if_neg h]
    exact ⟨fun e => by omega, fun e => absurd e.1 h⟩
theorem chM_le {T : Nat → Nat} {n q : Nat} (hT : OkT T n) : chM T n q ≤ 126 := by
  unfold chM
  split
  · exact (hT _ (by assumption)).2
  · omega
/-! a field's kind by its letter; a field's text -/
def kd (c : Nat) : Nat := if c = 99 then 1 else if c = 103 then 3 else if c = 108 then 4 else if c = 109 then 0 else if c = 115 then 2 else 5
def kX (c : Int32) : Int32 := if c = nI 99 then nI 1 else if c = nI 103 then nI 3 else if c = nI 108 then nI 4 else if c = nI 109 then nI 0 else if c = nI 115 then nI 2 else -1
def kV (k : Nat) : Int32 := if k < 5 then nI k else -1
theorem kd_le (c : Nat) : kd c ≤ 5 := by
  unfold kd
  repeat' split
  all_goals omega
theorem kX_ch {T : Nat → Nat} {n q : Nat} (hT : OkT T n) : kX (chX T n q) = kV (kd (chM T n q)) := by
  unfold chX chM
  by_cases h : q < n
  · rw [if_pos h, if_pos h]
    have hz : ∀ t, t < 127 → kX (nI t) = kV (kd t) := by decide
    exact hz _ (by have := hT q h; omega)
  · rw [if_neg h, if_neg h]
    decide
def kdp (T : Nat → Nat) (n p : Nat) : Nat := kd (chM T n (skp T n p))
theorem kdp_lt {T : Nat → Nat} {n p : Nat} (h : kdp T n p < 5) : skp T n p < n := by
  unfold kdp chM at h
  by_cases q : skp T n p < n
  · exact q
  · rw [if_neg q] at h
    exact absurd h (by decide)
def q1 (T : Nat → Nat) (n p : Nat) : Nat := skp T n p + 1
def q2 (T : Nat → Nat) (n p : Nat) : Nat := dP T n (q1 T n p) 0 9
def q3 (T : Nat → Nat) (n p : Nat) : Nat := aP T n (q2 T n p) 35
def q4 (T : Nat → Nat) (n p : Nat) : Nat := dP T n (q3 T n p) 1 4
def foV (T : Nat → Nat) (n p : Nat) : Nat := if dOk T n (q1 T n p) 0 9 then dV T n (q1 T n p) else 0
def heV (T : Nat → Nat) (n p : Nat) : Nat := if aOk T n (q2 T n p) 35 then dV T n (q3 T n p) else 0
abbrev fOk (T : Nat → Nat) (n p : Nat) : Prop := kdp T n p < 5 ∧ (aOk T n (q2 T n p) 35 → dOk T n (q3 T n p) 1 4)
def fP (T : Nat → Nat) (n p : Nat) : Nat := if kdp T n p < 5 then (if aOk T n (q2 T n p) 35 then q4 T n p else q3 T n p) else skp T n p
def fW (T : Nat → Nat) (n p f : Nat) (L : Nat → Nat) : Nat → Nat := va_up (va_up (va_up L (17 + f) (kdp T n p)) (3 + f) (foV T n p)) (10 + f) (heV T n p)
theorem q1_le {T : Nat → Nat} {n p : Nat} (h : kdp T n p < 5) : q1 T n p ≤ n := by have := kdp_lt h; unfold q1; omega
theorem q2_le {T : Nat → Nat} {n p : Nat} (h : kdp T n p < 5) : q2 T n p ≤ n := dP_le (q1_le h)
theorem q3_le {T : Nat → Nat} {n p : Nat} (h : kdp T n p < 5) : q3 T n p ≤ n := aP_le (q2_le h)
theorem q4_le {T : Nat → Nat} {n p : Nat} (h : kdp T n p < 5) : q4 T n p ≤ n := dP_le (q3_le h)
theorem fP_le {T : Nat → Nat} {n p : Nat} (hp : p ≤ n) : fP T n p ≤ n := by
  unfold fP
  split
  · split
    · exact q4_le (by assumption)
    · exact q3_le (by assumption)
  · exact (skp_le hp).2
theorem foV_le {T : Nat → Nat} {n p : Nat} : foV T n p ≤ 9 := by
  unfold foV
  split
  · exact (dV_in (by assumption)).2
  · omega
theorem heV_le {T : Nat → Nat} {n p : Nat} (h : fOk T n p) : heV T n p ≤ 4 := by
  unfold heV
  split
  · exact (dV_in (h.2 (by assumption))).2
  · omega
/-- the place before field f; they all go -/
def pF (T : Nat → Nat) (n p : Nat) : Nat → Nat
  | 0 => p
  | f + 1 => fP T n (pF T n p f)
theorem pF_le {T : Nat → Nat} {n p : Nat} (h : p ≤ n) : ∀ f, pF T n p f ≤ n
  | 0 => h
  | f + 1 => fP_le (pF_le h f)
def gW (T : Nat → Nat) (n p : Nat) (L : Nat → Nat) : Nat → (Nat → Nat)
  | 0 => L
  | f + 1 => fW T n (pF T n p f) f (gW T n p L f)
theorem va_up_up {α : Type} {f : Nat → α} {k : Nat} {u v : α} : va_up (va_up f k u) k v = va_up f k v := by
  funext j
  by_cases h : j = k
  · rw [h, va_up_self, va_up_self]
  · rw [va_up_ne _ _ h, va_up_ne _ _ h, va_up_ne _ _ h]
theorem va_up_sw {α : Type} {f : Nat → α} {j k : Nat} {u v : α} (h : j ≠ k) : va_up (va_up f j u) k v = va_up (va_up f k v) j u := by
  funext i
  by_cases h1 : i = k
  · rw [h1, va_up_self, va_up_ne _ _ (Ne.symm h), va_up_self]
  · by_cases h2 : i = j
    · rw [h2, va_up_ne _ _ h, va_up_self, va_up_self]
    · rw [va_up_ne _ _ h1, va_up_ne _ _ h2, va_up_ne _ _ h2, va_up_ne _ _ h1]
