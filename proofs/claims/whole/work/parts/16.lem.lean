/-! what the answers' words come to -/
theorem p10 {k : Nat} (h : k ≤ 9) : 0 < 10 ^ k ∧ 10 ^ k ≤ 1000000000 := ⟨Nat.pow_pos (by decide), by
  have : (10 : Nat) ^ k ≤ 10 ^ 9 := Nat.pow_le_pow_right (by decide) h
  have e : (10 : Nat) ^ 9 = 1000000000 := by decide
  omega⟩
theorem p100 {k : Nat} (h : k ≤ 4) : 0 < 100 ^ k ∧ 100 ^ k ≤ 100000000 := ⟨Nat.pow_pos (by decide), by
  have : (100 : Nat) ^ k ≤ 100 ^ 4 := Nat.pow_le_pow_right (by decide) h
  have e : (100 : Nat) ^ 4 = 100000000 := by decide
  omega⟩
theorem odF_le {L : Nat → Nat} {n f : Nat} (hn : n ≤ 9) (hf : f < 7) : odF L n f ≤ 1000000000 := Nat.le_trans (spreadO_le (fun f _ => onF_back L f) n hf) (p10 hn).2
theorem odC_le {L : Nat → Nat} {c n f : Nat} (hn : n ≤ 4) (hf : f < 7) : odC L c n f ≤ 100000000 := Nat.le_trans (spreadO_le (fun f _ => onC_back) n hf) (p100 hn).2
theorem bestF_le (O : Nat → Nat) : ∀ i, bestF O i ≤ i
  | 0 => Nat.le_refl 0
  | i + 1 => by
    have := bestF_le O i
    unfold bestF
    split <;> omega
theorem bestF_y {O : Nat → Nat} {i : Nat} (h : O (bestF O i) < O (i + 1)) : bestF O (i + 1) = i + 1 := if_pos h
theorem bestF_n {O : Nat → Nat} {i : Nat} (h : ¬ O (bestF O i) < O (i + 1)) : bestF O (i + 1) = bestF O i := if_neg h
theorem setF_y {p : Nat → Bool} {i : Nat} (h : p i = true) : setF p (i + 1) = setF p i ||| (nI 1 <<< (nI i &&& 31)) := if_pos h
theorem setF_n {p : Nat → Bool} {i : Nat} (h : ¬ p i = true) : setF p (i + 1) = setF p i := if_neg h
theorem firstF_y {p : Nat → Bool} {v : Nat} (hv : v < 10) (h : p v = true) : firstF p v (10 - v) = nI v := by
  rw [show 10 - v = (10 - (v + 1)) + 1 by omega]
  exact if_pos h
theorem firstF_n {p : Nat → Bool} {v : Nat} (hv : v < 10) (h : ¬ p v = true) : firstF p v (10 - v) = firstF p (v + 1) (10 - (v + 1)) := by
  rw [show 10 - v = (10 - (v + 1)) + 1 by omega]
  exact if_neg h
theorem inR_claim {x : Int32} {n : Nat} (hn : n ≤ 5) (h : inR x (nI 0) (nI n - nI 1)) : ∃ k, k < n ∧ x = nI k := by
  by_cases h0 : n = 0
  · subst h0
    exfalso
    have h1 := Int32.le_trans h.1 h.2
    revert h1
    decide
  · rw [pk_sub (by omega)] at h
    obtain ⟨k, _, h2, h3⟩ := inR_N (by decide) (by omega) h
    exact ⟨k, by omega, h3⟩
theorem inR_claim' {k n : Nat} (hn : n ≤ 5) (h : k < n) : inR (nI k) (nI 0) (nI n - nI 1) := by
  rw [pk_sub (by omega)]
  exact (inR_nn (by omega) (by decide) (by omega)).mpr ⟨Nat.zero_le _, by omega⟩
theorem sumO_le {O : Nat → Nat} {a : Nat} : ∀ {n : Nat}, a + n ≤ 7 → (∀ f, f < 7 → O f ≤ 1000000000) → sumO O a n ≤ n * 1000000000
  | 0, _, _ => Nat.zero_le _
  | n + 1, h, hO => by
    have q1 := sumO_le (O := O) (a := a) (n := n) (by omega) hO
    have q2 := hO (a + n) (by omega)
    show sumO O a n + O (a + n) ≤ _
    omega
theorem red_div {n a b : Nat} (hb : 0 < b) : n * redU a b / redD a b = n * a / b := by
  have hg := gcd_pos' (a := a) hb
  have e1 := redU_mul (a := a) (b := b)
  have e2 := redD_mul (a := a) (b := b)
  generalize redU a b = u at *
  generalize redD a b = v at *
  generalize Nat.gcd a b = z at *
  rw [← e1, ← e2, Nat.mul_left_comm, Nat.mul_div_mul_left _ _ hg]
theorem dayF_ok {L : Nat → Nat} (hok : Okg L) (hs : L 2 < 7) : Okg (dayF L) ∧ (dayF L) 2 < 7 := by
  have hon := onF_z (L := L) (f := L 2)
  have hfd := (hok (L 2) hs).2.1
  constructor
  · intro f hf
    have q := hok f hf
    unfold dayF
    rw [va_up_ne _ _ (by omega), va_up_ne _ _ (by omega), va_up_ne _ _ (by omega)]
    split
    · rw [va_up_ne _ _ (by omega), va_up_ne _ _ (by omega), va_up_ne _ _ (by omega), va_up_ne _ _ (by omega), va_up_ne _ _ (by omega), va_up_ne _ _ (by omega)]
      exact q
    · split
      · rw [va_up_ne _ _ (by omega), va_up_ne _ _ (by omega), va_up_ne _ _ (by omega), va_up_ne _ _ (by omega), va_up_ne _ _ (by omega), va_up_ne _ _ (by omega)]
        exact q
      · rw [va_up_ne _ _ (by omega : 17 + f ≠ 3 + L 2), va_up_ne _ _ (by omega : 10 + f ≠ 3 + L 2), va_up_ne _ _ (by omega : 17 + f ≠ 1), va_up_ne _ _ (by omega : 10 + f ≠ 1)]
        refine ⟨q.1, ?_, q.2.2⟩
        by_cases h : f = L 2
        · rw [h, va_up_self]
          omega
        · rw [va_up_ne _ _ (by omega), va_up_ne _ _ (by omega)]
          exact q.2.1
  · unfold dayF
    rw [va_up_ne _ _ (by omega)]
    split
    · next h =>
      rw [va_up_self]
      have := hon (by omega)
      omega
    · split
      · rw [va_up_self]
        omega
      · rw [va_up_ne _ _ (by omega), va_up_ne _ _ (by omega)]
        exact hs
theorem daysF_ok {L : Nat → Nat} (hok : Okg L) (hs : L 2 < 7) : ∀ n, Okg (daysF L n) ∧ (daysF L n) 2 < 7
  | 0 => ⟨hok, hs⟩
  | n + 1 => dayF_ok (daysF_ok hok hs n).1 (daysF_ok hok hs n).2
theorem Okg_food {L : Nat → Nat} {k v : Nat} (h : Okg L) (hk : k < 7) (hv : v ≤ 9) : Okg (va_up L (3 + k) v) := by
  intro f hf
  have q := h f hf
  rw [va_up_ne _ _ (by omega : 17 + f ≠ 3 + k), va_up_ne _ _ (by omega : 10 + f ≠ 3 + k)]
  refine ⟨q.1, ?_, q.2.2⟩
  by_cases e : f = k
  · rw [e, va_up_self]; exact hv
  · rw [va_up_ne _ _ (by omega)]; exact q.2.1
theorem Okg_hedge {L : Nat → Nat} {k v : Nat} (h : Okg L) (hk : k < 7) (hv : v ≤ 4) : Okg (va_up L (10 + k) v) := by
  intro f hf
  have q := h f hf
  rw [va_up_ne _ _ (by omega : 17 + f ≠ 10 + k), va_up_ne _ _ (by omega : 3 + f ≠ 10 + k)]
  refine ⟨q.1, q.2.1, ?_⟩
  by_cases e : f = k
  · rw [e, va_up_self]; exact hv
  · rw [va_up_ne _ _ (by omega)]; exact q.2.2
theorem Okg_kind {L : Nat → Nat} {k v : Nat} (h : Okg L) (hk : k < 7) (hv : v < 5) : Okg (va_up L (17 + k) v) := by
  intro f hf
  have q := h f hf
  rw [va_up_ne _ _ (by omega : 3 + f ≠ 17 + k), va_up_ne _ _ (by omega : 10 + f ≠ 17 + k)]
  refine ⟨?_, q.2.1, q.2.2⟩
  by_cases e : f = k
  · rw [e, va_up_self]; exact hv
  · rw [va_up_ne _ _ (by omega)]; exact q.1
theorem mU_b {L : Nat → Nat} (hok : Okg L) (a : Nat) {t : Nat} (ht : t ≤ 6) : mU L a t ≤ 6377292 ∧ mD L a t ≤ 531441 ∧ 0 < mD L a t := by
  have hb := mB (on := onF L) (bk := backF L) a (onF_9 hok) (backF_4 hok) ht
  have h1 := redU_le (mS (onF L) (backF L) a t) (mP (onF L) t)
  have h2 := redD_le (mS (onF L) (backF L) a t) (mP (onF L) t)
  exact ⟨Nat.le_trans h1 hb.2.2.2, Nat.le_trans h2 hb.2.1, redD_pos hb.1⟩
theorem dnF_le (L : Nat → Nat) (t : Nat) : ∀ o, o ≤ 7 → dnF L t o < 7
  | 0, _ => Nat.zero_lt_succ 6
  | o + 1, h => by
    have := dnF_le L t o (by omega)
    unfold dnF
    split <;> omega
theorem setF_congr {p q : Nat → Bool} : ∀ {n : Nat}, (∀ c, c < n → p c = q c) → setF p n = setF q n
  | 0, _ => rfl
  | n + 1, h => by
    unfold setF
    rw [h n (by omega), setF_congr (fun c hc => h c (by omega))]
def ofS (L : Nat → Nat) (x y : Int32) : Int32 := if in6 x then (if y = nI 0 then nI (L (17 + cl x)) else if y = nI 1 then nI (L (3 + cl x)) else if y = nI 2 then nI (L (10 + cl x)) else if y = nI 3 then nI (onF L (cl x)) else if y = nI 4 then nI (backF L (cl x)) else -1) else -1
def atS (L : Nat → Nat) (x y : Int32) : Int32 := if inR x (nI 0) (nI (L 24) - nI 1) then (if y = nI 0 then nI (L (25 + cl x)) else if y = nI 1 then nI (L (30 + cl x)) else if y = nI 2 then nI (L (35 + cl x)) else -1) else -1
def countS (L : Nat → Nat) (y : Int32) : Int32 := if y = nI 0 then nI (L 24) else if y = nI 1 then nI (L 2) else if y = nI 2 then nI (L 0) else if y = nI 3 then nI (sumO L 3 7) else if y = nI 4 then nI (sumO L 10 7) else if y = nI 5 then setF (fun c => decide (inR (nI (L 2)) (nI (L (25 + c))) (nI (L (30 + c))))) (L 24) else if y = nI 6 then nI (L 40) else -1
/-- a number that is none of the first ones is above them, or below 0 -/
theorem sw_ne {x : Int32} {k : Nat} (hk : k < 2 ^ 31) (h : ¬ x = nI k) : ¬ x.toInt = (k : Int) := by
  intro q
  exact h (Int32.toInt_inj.mp (by rw [q, nI_toInt hk]))
theorem sw_out3 {x : Int32} (h0 : ¬ x = nI 0) (h1 : ¬ x = nI 1) (h2 : ¬ x = nI 2) : x.toInt < 0 ∨ 2 < x.toInt := by
  have a0 := sw_ne (by decide) h0
  have a1 := sw_ne (by decide) h1
  have a2 := sw_ne (by decide) h2
  omega
theorem sw_out5 {x : Int32} (h0 : ¬ x = nI 0) (h1 : ¬ x = nI 1) (h2 : ¬ x = nI 2) (h3 : ¬ x = nI 3) (h4 : ¬ x = nI 4) : x.toInt < 0 ∨ 4 < x.toInt := by
  have a0 := sw_ne (by decide) h0
  have a1 := sw_ne (by decide) h1
  have a2 := sw_ne (by decide) h2
  have a3 := sw_ne (by decide) h3
  have a4 := sw_ne (by decide) h4
  omega
theorem sw_out7 {x : Int32} (h0 : ¬ x = nI 0) (h1 : ¬ x = nI 1) (h2 : ¬ x = nI 2) (h3 : ¬ x = nI 3) (h4 : ¬ x = nI 4) (h5 : ¬ x = nI 5) (h6 : ¬ x = nI 6) : x.toInt < 0 ∨ 6 < x.toInt := by
  have a0 := sw_ne (by decide) h0
  have a1 := sw_ne (by decide) h1
  have a2 := sw_ne (by decide) h2
  have a3 := sw_ne (by decide) h3
  have a4 := sw_ne (by decide) h4
  have a5 := sw_ne (by decide) h5
  have a6 := sw_ne (by decide) h6
  omega
theorem sw_out32 {x : Int32} (h : ∀ k, k < 32 → ¬ x = nI k) : x.toInt < 0 ∨ 31 < x.toInt := by
  apply Decidable.byContradiction
  intro q
  have h0 : ¬ x < 0 := by
    rw [Int32.lt_iff_toInt_lt, Int32.toInt_zero]
    omega
  obtain ⟨j, hj, rfl⟩ := nI_of h0
  have hq := nI_toInt hj
  exact h j (by omega) rfl
