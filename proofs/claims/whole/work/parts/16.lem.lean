/-! what the answers' words come to -/
theorem p10 {k : Nat} (h : k ≤ 9) : 0 < 10 ^ k ∧ 10 ^ k ≤ 1000000000 := ⟨Nat.pow_pos (by decide), by
  have : (10 : Nat) ^ k ≤ 10 ^ 9 := Nat.pow_le_pow_right (by decide) h
  have e : (10 : Nat) ^ 9 = 1000000000 := by decide
  omega⟩
theorem p100 {k : Nat} (h : k ≤ 4) : 0 < 100 ^ k ∧ 100 ^ k ≤ 100000000 := ⟨Nat.pow_pos (by decide), by
  have : (100 : Nat) ^ k ≤ 100 ^ 4 := Nat.pow_le_pow_right (by decide) h
  have e : (100 : Nat) ^ 4 = 100000000 := by decide
  omega⟩
theorem odF_le {L : Nat → Nat} {n f : Nat} (hn : n ≤ 9) (hf : f < 7) : odF L n f ≤ 1000000000 := Nat.le_trans (spreadO_le (fun f _ => onF_back L f) n hf) (p10 hn).2
theorem odC_le {L : Nat → Nat} {c n f : Nat} (hn : n ≤ 4) (hf : f < 7) : odC L c n f ≤ 100000000 := Nat.le_trans (spreadO_le (fun f _ => onC_back) n hf) (p100 hn).2
theorem bestF_le (O : Nat → Nat) : ∀ i, bestF O i ≤ i
  | 0 => Nat.le_refl 0
  | i + 1 => by
    have := bestF_le O i
    unfold bestF
    split <;> omega
theorem bestF_y {O : Nat → Nat} {i : Nat} (h : O (bestF O i) < O (i + 1)) : bestF O (i + 1) = i + 1 := if_pos h
theorem bestF_n {O : Nat → Nat} {i : Nat} (h : ¬ O (bestF O i) < O (i + 1)) : bestF O (i + 1) = bestF O i := if_neg h
theorem setF_y {p : Nat → Bool} {i : Nat} (h : p i = true) : setF p (i + 1) = setF p i ||| (nI 1 <<< (nI i &&& 31)) := if_pos h
theorem setF_n {p : Nat → Bool} {i : Nat} (h : ¬ p i = true) : setF p (i + 1) = setF p i := if_neg h
theorem firstF_y {p : Nat → Bool} {v : Nat} (hv : v < 10) (h : p v = true) : firstF p v (10 - v) = nI v := by
  rw [show 10 - v = (10 - (v + 1)) + 1 by omega]
  exact if_pos h
theorem firstF_n {p : Nat → Bool} {v : Nat} (hv : v < 10) (h : ¬ p v = true) : firstF p v (10 - v) = firstF p (v + 1) (10 - (v + 1)) := by
  rw [show 10 - v = (10 - (v + 1)) + 1 by omega]
  exact if_neg h
theorem inR_claim {x : Int32} {n : Nat} (hn : n ≤ 5) (h : inR x (nI 0) (nI n - nI 1)) : ∃ k, k < n ∧ x = nI k := by
  by_cases h0 : n = 0
  · subst h0
    exfalso
    have h1 := Int32.le_trans h.1 h.2
    revert h1
    decide
  · rw [pk_sub (by omega)] at h
    obtain ⟨k, _, h2, h3⟩ := inR_N (by decide) (by omega) h
    exact ⟨k, by omega, h3⟩
theorem inR_claim' {k n : Nat} (hn : n ≤ 5) (h : k < n) : inR (nI k) (nI 0) (nI n - nI 1) := by
  rw [pk_sub (by omega)]
  exact (inR_nn (by omega) (by decide) (by omega)).mpr ⟨Nat.zero_le _, by omega⟩
theorem sumO_le {O : Nat → Nat} {a : Nat} : ∀ {n : Nat}, a + n ≤ 7 → (∀ f, f < 7 → O f ≤ 1000000000) → sumO O a n ≤ n * 1000000000
  | 0, _, _ => Nat.zero_le _
  | n + 1, h, hO => by
    have q1 := sumO_le (O := O) (a := a) (n := n) (by omega) hO
    have q2 := hO (a + n) (by omega)
    show sumO O a n + O (a + n) ≤ _
    omega
theorem red_div {n a b : Nat} (hb : 0 < b) : n * redU a b / redD a b = n * a / b := by
  have hg := gcd_pos' (a := a) hb
  have e1 := redU_mul (a := a) (b := b)
  have e2 := redD_mul (a := a) (b := b)
  generalize redU a b = u at *
  generalize redD a b = v at *
  generalize Nat.gcd a b = z at *
  rw [← e1, ← e2, Nat.mul_left_comm, Nat.mul_div_mul_left _ _ hg]
theorem dayF_ok {L : Nat → Nat} (hok : Okg L) (hs : L 2 < 7) : Okg (dayF L) ∧ (dayF L) 2 < 7 := by
  have hon := onF_z (L := L) (f := L 2)
  have hfd := (hok (L 2) hs).2.1
  constructor
  · intro f hf
    have q := hok f hf
    unfold dayF
    rw [va_up_ne _ _ (by omega), va_up_ne _ _ (by omega), va_up_ne _ _ (by omega)]
    split
    · rw [va_up_ne _ _ (by omega), va_up_ne _ _ (by omega), va_up_ne _ _ (by omega), va_up_ne _ _ (by omega), va_up_ne _ _ (by omega), va_up_ne _ _ (by omega)]
      exact q
    · split
      · rw [va_up_ne _ _ (by omega), va_up_ne _ _ (by omega), va_up_ne _ _ (by omega), va_up_ne _ _ (by omega), va_up_ne _ _ (by omega), va_up_ne _ _ (by omega)]
        exact q
      · rw [va_up_ne _ _ (by omega : 17 + f ≠ 3 + L 2), va_up_ne _ _ (by omega : 10 + f ≠ 3 + L 2), va_up_ne _ _ (by omega : 17 + f ≠ 1), va_up_ne _ _ (by omega : 10 + f ≠ 1)]
        refine ⟨q.1, ?_, q.2.2⟩
        by_cases h : f = L 2
        · rw [h, va_up_self]
          omega
        · rw [va_up_ne _ _ (by omega), va_up_ne _ _ (by omega)]
          exact q.2.1
  · unfold dayF
    rw [va_up_ne _ _ (by omega)]
    split
    · next h =>
      rw [va_up_self]
      have := hon (by omega)
      omega
    · split
      · rw [va_up_self]
        omega
      · rw [va_up_ne _ _ (by omega), va_up_ne _ _ (by omega)]
        exact hs
theorem daysF_ok {L : Nat → Nat} (hok : Okg L) (hs : L 2 < 7) : ∀ n, Okg (daysF L n) ∧ (daysF L n) 2 < 7
  | 0 => ⟨hok, hs⟩
  | n + 1 => dayF_ok (daysF_ok hok hs n).1 (daysF_ok hok hs n).2
theorem Okg_food {L : Nat → Nat} {k v : Nat} (h : Okg L) (hk : k < 7) (hv : v ≤ 9) : Okg (va_up L (3 + k) v) := by
  intro f hf
  have q := h f hf
  rw [va_up_ne _ _ (by omega : 17 + f ≠ 3 + k), va_up_ne _ _ (by omega : 10 + f ≠ 3 + k)]
  refine ⟨q.1, ?_, q.2.2⟩
  by_cases e : f = k
  · rw [e, va_up_self]; exact hv
  · rw [va_up_ne _ _ (by omega)]; exact q.2.1
theorem Okg_hedge {L : Nat → Nat} {k v : Nat} (h : Okg L) (hk : k < 7) (hv : v ≤ 4) : Okg (va_up L (10 + k) v) := by
  intro f hf
  have q := h f hf
  rw [va_up_ne _ _ (by omega : 17 + f ≠ 10 + k), va_up_ne _ _ (by omega : 3 + f ≠ 10 + k)]
  refine ⟨q.1, q.2.1, ?_⟩
  by_cases e : f = k
  · rw [e, va_up_self]; exact hv
  · rw [va_up_ne _ _ (by omega)]; exact q.2.2
theorem Okg_kind {L : Nat → Nat} {k v : Nat} (h : Okg L) (hk : k < 7) (hv : v < 5) : Okg (va_up L (17 + k) v) := by
  intro f hf
  have q := h f hf
  rw [va_up_ne _ _ (by omega : 3 + f ≠ 17 + k), va_up_ne _ _ (by omega : 10 + f ≠ 17 + k)]
  refine ⟨?_, q.2.1, q.2.2⟩
  by_cases e : f = k
  · rw [e, va_up_self]; exact hv
  · rw [va_up_ne _ _ (by omega)]; exact q.1
theorem mU_b {L : Nat → Nat} (hok : Okg L) (a : Nat) {t : Nat} (ht : t ≤ 6) : mU L a t ≤ 6377292 ∧ mD L a t ≤ 531441 ∧ 0 < mD L a t := by
  have hb := mB (on := onF L) (bk := backF L) a (onF_9 hok) (backF_4 hok) ht
  have h1 := redU_le (mS (onF L) (backF L) a t) (mP (onF L) t)
  have h2 := redD_le (mS (onF L) (backF L) a t) (mP (onF L) t)
  exact ⟨Nat.le_trans h1 hb.2.2.2, Nat.le_trans h2 hb.2.1, redD_pos hb.1⟩
theorem dnF_le (L : Nat → Nat) (t : Nat) : ∀ o, o ≤ 7 → dnF L t o < 7
  | 0, _ => Nat.zero_lt_succ 6
  | o + 1, h => by
    have := dnF_le L t o (by omega)
    unfold dnF
    split <;> omega
