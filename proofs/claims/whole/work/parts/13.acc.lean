/-! the reference's way through the odds: from each field to its neighbours, the fields below i done -/
def accO (on bk : Nat → Nat) (wh : Nat) (O : Nat → Nat) (i : Nat) : Nat → Nat := fun f => (if f < i then O f * (wh - on f - bk f) else 0) + (if 0 < f ∧ f ≤ i then O (f - 1) * on (f - 1) else 0) + (if f + 1 < i then O (f + 1) * bk (f + 1) else 0)
theorem accO_0 {on bk O : Nat → Nat} {wh : Nat} : accO on bk wh O 0 = fun _ => 0 := by
  funext f
  unfold accO
  rw [if_neg (by omega), if_neg (by omega), if_neg (by omega)]
theorem accO_7 {on bk O : Nat → Nat} {wh f : Nat} (hf : f < 7) : accO on bk wh O 7 f = stepO on bk wh O f := by
  unfold accO stepO
  rw [if_pos hf]
  congr 1
  · congr 1
    by_cases h : f = 0
    · rw [if_pos h, if_neg (by omega)]
    · rw [if_neg h, if_pos (by omega)]
  · by_cases h : f < 6
    · rw [if_pos h, if_pos (by omega)]
    · rw [if_neg h, if_neg (by omega)]
theorem acc_step {on bk O : Nat → Nat} {wh i f : Nat} : accO on bk wh O (i + 1) f = accO on bk wh O i f + (if f = i then O i * (wh - on i - bk i) else 0) + (if f = i + 1 then O i * on i else 0) + (if f + 1 = i then O i * bk i else 0) := by
  unfold accO
  by_cases h1 : f = i
  · subst h1
    rw [if_pos (by omega : f < f + 1), if_neg (by omega : ¬ f < f), if_neg (by omega : ¬ f + 1 < f + 1), if_neg (by omega : ¬ f + 1 < f), if_pos rfl, if_neg (by omega : ¬ f = f + 1), if_neg (by omega : ¬ f + 1 = f)]
    by_cases h : 0 < f
    · rw [if_pos (by omega : 0 < f ∧ f ≤ f + 1), if_pos (by omega : 0 < f ∧ f ≤ f)]
      all_goals omega
    · rw [if_neg (by omega : ¬ (0 < f ∧ f ≤ f + 1)), if_neg (by omega : ¬ (0 < f ∧ f ≤ f))]
      all_goals omega
  · rw [if_neg h1]
    by_cases h2 : f = i + 1
    · subst h2
      rw [if_neg (by omega : ¬ i + 1 < i + 1), if_neg (by omega : ¬ i + 1 < i), if_pos (by omega : 0 < i + 1 ∧ i + 1 ≤ i + 1), if_neg (by omega : ¬ (0 < i + 1 ∧ i + 1 ≤ i)), if_neg (by omega : ¬ i + 1 + 1 < i + 1), if_neg (by omega : ¬ i + 1 + 1 < i), if_pos rfl, if_neg (by omega : ¬ i + 1 + 1 = i)]
      rw [Nat.add_sub_cancel]
      all_goals omega
    · rw [if_neg h2]
      by_cases h3 : f + 1 = i
      · subst h3
        rw [if_pos rfl, if_pos (by omega : f + 1 < f + 1 + 1), if_neg (by omega : ¬ f + 1 < f + 1), if_pos (by omega : f < f + 1 + 1), if_pos (by omega : f < f + 1)]
        by_cases h : 0 < f
        · rw [if_pos (by omega : 0 < f ∧ f ≤ f + 1 + 1), if_pos (by omega : 0 < f ∧ f ≤ f + 1)]
          all_goals omega
        · rw [if_neg (by omega : ¬ (0 < f ∧ f ≤ f + 1 + 1)), if_neg (by omega : ¬ (0 < f ∧ f ≤ f + 1))]
          all_goals omega
      · rw [if_neg h3]
        by_cases h4 : f < i
        · rw [if_pos h4, if_pos (by omega : f < i + 1), if_pos (by omega : f + 1 < i + 1), if_pos (by omega : f + 1 < i)]
          by_cases h : 0 < f
          · rw [if_pos (by omega : 0 < f ∧ f ≤ i + 1), if_pos (by omega : 0 < f ∧ f ≤ i)]
            all_goals omega
          · rw [if_neg (by omega : ¬ (0 < f ∧ f ≤ i + 1)), if_neg (by omega : ¬ (0 < f ∧ f ≤ i))]
            all_goals omega
        · rw [if_neg h4, if_neg (by omega : ¬ f < i + 1), if_neg (by omega : ¬ f + 1 < i + 1), if_neg (by omega : ¬ f + 1 < i), if_neg (by omega : ¬ (0 < f ∧ f ≤ i + 1)), if_neg (by omega : ¬ (0 < f ∧ f ≤ i))]
          all_goals omega
/-- the stay alone, then on, then back -/
theorem acc_tt {on bk O : Nat → Nat} {wh i : Nat} (ho : on i = 0) (hb : bk i = 0) : va_up (accO on bk wh O i) i (accO on bk wh O i i + O i * (wh - on i - bk i)) = accO on bk wh O (i + 1) := by
  funext f
  rw [acc_step]
  unfold va_up
  rw [ho, hb]
  by_cases h1 : f = i
  · subst h1
    rw [if_pos rfl, if_pos rfl, if_neg (by omega : ¬ f = f + 1), if_neg (by omega : ¬ f + 1 = f)]
    rfl
  · rw [if_neg h1, if_neg h1]
    split <;> split <;> omega
theorem acc_ft {on bk O : Nat → Nat} {wh i : Nat} (hb : bk i = 0) : va_up (va_up (accO on bk wh O i) i (accO on bk wh O i i + O i * (wh - on i - bk i))) (i + 1) (accO on bk wh O i (i + 1) + O i * on i) = accO on bk wh O (i + 1) := by
  funext f
  rw [acc_step]
  unfold va_up
  rw [hb]
  by_cases h1 : f = i + 1
  · subst h1
    rw [if_pos rfl, if_neg (by omega : ¬ i + 1 = i), if_pos rfl, if_neg (by omega : ¬ i + 1 + 1 = i)]
    rfl
  · rw [if_neg h1, if_neg h1]
    by_cases h2 : f = i
    · subst h2
      rw [if_pos rfl, if_pos rfl]
      split <;> omega
    · rw [if_neg h2, if_neg h2]
      split <;> omega
theorem acc_tf {on bk O : Nat → Nat} {wh i : Nat} (hi : i ≠ 0) (ho : on i = 0) : va_up (va_up (accO on bk wh O i) i (accO on bk wh O i i + O i * (wh - on i - bk i))) (i - 1) (va_up (accO on bk wh O i) i (accO on bk wh O i i + O i * (wh - on i - bk i)) (i - 1) + O i * bk i) = accO on bk wh O (i + 1) := by
  funext f
  rw [acc_step]
  unfold va_up
  rw [ho]
  by_cases h1 : f = i - 1
  · subst h1
    rw [if_pos rfl, if_neg (by omega : ¬ i - 1 = i), if_neg (by omega : ¬ i - 1 = i), if_neg (by omega : ¬ i - 1 = i + 1), if_pos (by omega : i - 1 + 1 = i)]
    rfl
  · rw [if_neg h1, if_neg (by omega : ¬ f + 1 = i)]
    by_cases h2 : f = i
    · subst h2
      rw [if_pos rfl, if_pos rfl]
      split <;> omega
    · rw [if_neg h2, if_neg h2]
      split <;> omega
theorem acc_ff {on bk O : Nat → Nat} {wh i : Nat} (hi : i ≠ 0) : va_up (va_up (va_up (accO on bk wh O i) i (accO on bk wh O i i + O i * (wh - on i - bk i))) (i + 1) (accO on bk wh O i (i + 1) + O i * on i)) (i - 1) (va_up (va_up (accO on bk wh O i) i (accO on bk wh O i i + O i * (wh - on i - bk i))) (i + 1) (accO on bk wh O i (i + 1) + O i * on i) (i - 1) + O i * bk i) = accO on bk wh O (i + 1) := by
  funext f
  rw [acc_step]
  unfold va_up
  by_cases h1 : f = i - 1
  · subst h1
    rw [if_pos rfl, if_neg (by omega : ¬ i - 1 = i + 1), if_neg (by omega : ¬ i - 1 = i), if_neg (by omega : ¬ i - 1 = i + 1), if_neg (by omega : ¬ i - 1 = i), if_pos (by omega : i - 1 + 1 = i)]
    rfl
  · rw [if_neg h1, if_neg (by omega : ¬ f + 1 = i)]
    by_cases h2 : f = i + 1
    · subst h2
      rw [if_pos rfl, if_pos rfl, if_neg (by omega : ¬ i + 1 = i)]
      rfl
    · rw [if_neg h2, if_neg h2]
      by_cases h3 : f = i
      · subst h3
        rw [if_pos rfl, if_pos rfl]
        rfl
      · rw [if_neg h3, if_neg h3]
        rfl
def onC (L : Nat → Nat) (c f : Nat) : Nat := onF L f * (10 - c)
def backC (L : Nat → Nat) (c f : Nat) : Nat := backF L f * (10 - c)
theorem onC_back {L : Nat → Nat} {c f : Nat} : onC L c f + backC L c f ≤ 100 := by
  unfold onC backC
  rw [← Nat.add_mul]
  exact Nat.mul_le_mul (onF_back L f) (Nat.sub_le 10 c)
theorem onF_z {L : Nat → Nat} {f : Nat} (h : 0 < onF L f) : f < 6 := by
  apply Decidable.byContradiction
  intro q
  have : onF L f = 0 := if_neg q
  omega
theorem backF_z {L : Nat → Nat} {f : Nat} (h : 0 < backF L f) : f ≠ 0 := by
  intro q
  have : backF L f = 0 := if_pos q
  omega
theorem onC_z {L : Nat → Nat} {c f : Nat} (h : 0 < onC L c f) : f < 6 := onF_z (Nat.pos_of_mul_pos_right h)
theorem backC_z {L : Nat → Nat} {c f : Nat} (h : 0 < backC L c f) : f ≠ 0 := backF_z (Nat.pos_of_mul_pos_right h)
theorem onF_9 {L : Nat → Nat} (hok : Okg L) : ∀ f, f < 6 → 1 ≤ onF L f ∧ onF L f ≤ 9 := fun f hf => ⟨onF_pos hok hf, onF_le L f⟩
theorem backF_4 {L : Nat → Nat} (hok : Okg L) : ∀ f, f < 7 → backF L f ≤ 4 := by
  intro f hf
  have := (hok f hf).2.2
  unfold backF
  split <;> omega
