/-! NUMBERS: fractions in lowest terms, Euclid's turns, the odds, the mean -/
def redU (a b : Nat) : Nat := a / Nat.gcd a b
def redD (a b : Nat) : Nat := b / Nat.gcd a b
theorem gcd_pos' {a b : Nat} (hb : 0 < b) : 0 < Nat.gcd a b := Nat.gcd_pos_of_pos_right _ hb
theorem redU_le (a b : Nat) : redU a b ≤ a := Nat.div_le_self _ _
theorem redD_le (a b : Nat) : redD a b ≤ b := Nat.div_le_self _ _
theorem redD_pos {a b : Nat} (hb : 0 < b) : 0 < redD a b := Nat.div_pos (Nat.le_of_dvd hb (Nat.gcd_dvd_right _ _)) (gcd_pos' hb)
theorem redU_mul {a b : Nat} : Nat.gcd a b * redU a b = a := Nat.mul_div_cancel' (Nat.gcd_dvd_left _ _)
theorem redD_mul {a b : Nat} : Nat.gcd a b * redD a b = b := Nat.mul_div_cancel' (Nat.gcd_dvd_right _ _)
theorem redU_scale {g x y : Nat} (hg : 0 < g) : redU (g * x) (g * y) = redU x y := by
  unfold redU
  rw [Nat.gcd_mul_left, Nat.mul_div_mul_left _ _ hg]
theorem redD_scale {g x y : Nat} (hg : 0 < g) : redD (g * x) (g * y) = redD x y := by
  unfold redD
  rw [Nat.gcd_mul_left, Nat.mul_div_mul_left _ _ hg]
theorem redU_0 {y : Nat} : redU 0 y = 0 := by simp [redU]
theorem redD_0 {y : Nat} (h : 0 < y) : redD 0 y = 1 := by
  unfold redD
  rw [Nat.gcd_zero_left]
  exact Nat.div_self h
theorem red_red {a b : Nat} (hb : 0 < b) : redU (redU a b) (redD a b) = redU a b ∧ redD (redU a b) (redD a b) = redD a b := by
  have hg := gcd_pos' (a := a) hb
  constructor
  · rw [← redU_scale hg, redU_mul, redD_mul]
  · rw [← redD_scale hg, redU_mul, redD_mul]
theorem red_step {A P k o : Nat} (hP : 0 < P) : redU (10 * redD A P + k * redU A P) (o * redD A P) = redU (10 * P + k * A) (o * P) ∧ redD (10 * redD A P + k * redU A P) (o * redD A P) = redD (10 * P + k * A) (o * P) := by
  have hg := gcd_pos' (a := A) hP
  have e1 : Nat.gcd A P * (10 * redD A P + k * redU A P) = 10 * P + k * A := by
    rw [Nat.mul_add, Nat.mul_left_comm, redD_mul, Nat.mul_left_comm, redU_mul]
  have e2 : Nat.gcd A P * (o * redD A P) = o * P := by rw [Nat.mul_left_comm, redD_mul]
  constructor
  · rw [← redU_scale hg, e1, e2]
  · rw [← redD_scale hg, e1, e2]
theorem red_sum {S P A o : Nat} (hP : 0 < P) (ho : 0 < o) : redU (redU S P * redD A (o * P) + redU A (o * P) * redD S P) (redD S P * redD A (o * P)) = redU (S * o + A) (o * P) ∧ redD (redU S P * redD A (o * P) + redU A (o * P) * redD S P) (redD S P * redD A (o * P)) = redD (S * o + A) (o * P) := by
  have hQ : 0 < o * P := Nat.mul_pos ho hP
  have h1 := gcd_pos' (a := S) hP
  have h2 := gcd_pos' (a := A) hQ
  have hh : 0 < Nat.gcd S P * Nat.gcd A (o * P) := Nat.mul_pos h1 h2
  have a1 := redU_mul (a := S) (b := P)
  have a2 := redD_mul (a := S) (b := P)
  have a3 := redU_mul (a := A) (b := o * P)
  have a4 := redD_mul (a := A) (b := o * P)
  generalize redU S P = s1 at *
  generalize redD S P = s2 at *
  generalize redU A (o * P) = t1 at *
  generalize redD A (o * P) = t2 at *
  generalize Nat.gcd S P = g1 at *
  generalize Nat.gcd A (o * P) = g2 at *
  have e1 : g1 * g2 * (s1 * t2 + t1 * s2) = P * (S * o + A) := by
    calc g1 * g2 * (s1 * t2 + t1 * s2) = (g1 * s1) * (g2 * t2) + (g2 * t1) * (g1 * s2) := by
          simp only [Nat.mul_add, Nat.mul_comm, Nat.mul_left_comm, Nat.mul_assoc]
      _ = S * (o * P) + A * P := by rw [a1, a2, a3, a4]
      _ = P * (S * o + A) := by simp only [Nat.mul_add, Nat.mul_comm, Nat.mul_left_comm]
  have e2 : g1 * g2 * (s2 * t2) = P * (o * P) := by
    calc g1 * g2 * (s2 * t2) = (g1 * s2) * (g2 * t2) := by simp only [Nat.mul_comm, Nat.mul_left_comm, Nat.mul_assoc]
      _ = P * (o * P) := by rw [a2, a4]
  constructor
  · rw [← redU_scale hh, e1, e2, redU_scale hP]
  · rw [← redD_scale hh, e1, e2, redD_scale hP]
/-! Euclid: after the first turn each one halves the product -/
def gcdOk (t a b : Nat) : Prop := (t = 0 ∧ a < 2 ^ 63 ∧ b < 2 ^ 63) ∨ (b < a ∧ a < 2 ^ 63 ∧ a * b * 2 ^ t ≤ 2 ^ 127)
theorem gcdOk_b {t a b : Nat} (h : gcdOk t a b) : a < 2 ^ 63 ∧ b < 2 ^ 63 := by
  rcases h with ⟨_, h1, h2⟩ | ⟨h1, h2, _⟩
  · exact ⟨h1, h2⟩
  · exact ⟨h2, by omega⟩
theorem mod_half {a b : Nat} (hb : 0 < b) (h : b ≤ a) : 2 * (a % b) ≤ a := by
  have h1 := Nat.mod_lt a hb
  have h2 : a % b ≤ a - b := by
    rw [Nat.mod_eq_sub_mod h]
    exact Nat.mod_le _ _
  omega
theorem gcdOk_up {t a b : Nat} (h : gcdOk t a b) (hb : ¬ b = 0) : gcdOk (t + 1) b (a % b) := by
  have hb' : 0 < b := by omega
  have hlt := Nat.mod_lt a hb'
  have hx := gcdOk_b h
  refine Or.inr ⟨hlt, hx.2, ?_⟩
  rcases h with ⟨rfl, h1, h2⟩ | ⟨h1, h2, h3⟩
  · have q : b * (a % b) ≤ 2 ^ 63 * 2 ^ 63 := Nat.mul_le_mul (by omega) (by omega)
    have e : (2 : Nat) ^ 63 * 2 ^ 63 = 2 ^ 126 := by decide
    have e2 : (2 : Nat) ^ (0 + 1) = 2 := by decide
    have e3 : (2 : Nat) ^ 127 = 2 ^ 126 * 2 := by decide
    rw [e2, e3]
    rw [e] at q
    exact Nat.mul_le_mul_right _ q
  · have q := mod_half hb' (Nat.le_of_lt h1)
    calc b * (a % b) * 2 ^ (t + 1) = b * (2 * (a % b)) * 2 ^ t := by
          rw [Nat.pow_succ]
          simp only [Nat.mul_comm, Nat.mul_left_comm, Nat.mul_assoc]
      _ ≤ b * a * 2 ^ t := Nat.mul_le_mul_right _ (Nat.mul_le_mul_left _ q)
      _ = a * b * 2 ^ t := by rw [Nat.mul_comm b a]
      _ ≤ 2 ^ 127 := h3
theorem gcdOk_end {a b : Nat} {t : Nat} (h : gcdOk t a b) (ht : 1000 ≤ t) : b = 0 := by
  rcases h with ⟨h0, _⟩ | ⟨h1, _, h3⟩
  · omega
  · apply Decidable.byContradiction
    intro hb
    have q1 : 1 ≤ a * b := Nat.mul_pos (by omega) (by omega)
    have q2 : (2 : Nat) ^ 128 ≤ 2 ^ t := Nat.pow_le_pow_right (by decide) (by omega)
    have q3 : 1 * 2 ^ 128 ≤ a * b * 2 ^ t := Nat.mul_le_mul q1 q2
    have q4 : ¬ (1 * 2 ^ 128 ≤ 2 ^ 127) := by decide
    exact q4 (Nat.le_trans q3 h3)
/-! the odds -/
def stepO (on bk : Nat → Nat) (wh : Nat) (O : Nat → Nat) : Nat → Nat := fun f => O f * (wh - on f - bk f) + (if f = 0 then 0 else O (f - 1) * on (f - 1)) + (if f < 6 then O (f + 1) * bk (f + 1) else 0)
def startO (spot : Nat) : Nat → Nat := fun f => if f = spot then 1 else 0
def spreadO (on bk : Nat → Nat) (wh spot : Nat) : Nat → Nat → Nat
  | 0 => startO spot
  | n + 1 => stepO on bk wh (spreadO on bk wh spot n)
def sum7 (O : Nat → Nat) : Nat := O 0 + O 1 + O 2 + O 3 + O 4 + O 5 + O 6
theorem split_stay {O a b w : Nat} (h : a + b ≤ w) : O * (w - a - b) + O * a + O * b = O * w := by
  rw [← Nat.mul_add, ← Nat.mul_add]
  congr 1
  omega
theorem sum7_step {on bk O : Nat → Nat} {wh : Nat} (h : ∀ f, f < 7 → on f + bk f ≤ wh) : sum7 (stepO on bk wh O) ≤ wh * sum7 O := by
  have s0 := split_stay (O := O 0) (h 0 (by omega))
  have s1 := split_stay (O := O 1) (h 1 (by omega))
  have s2 := split_stay (O := O 2) (h 2 (by omega))
  have s3 := split_stay (O := O 3) (h 3 (by omega))
  have s4 := split_stay (O := O 4) (h 4 (by omega))
  have s5 := split_stay (O := O 5) (h 5 (by omega))
  have s6 := split_stay (O := O 6) (h 6 (by omega))
  have e : wh * sum7 O = O 0 * wh + O 1 * wh + O 2 * wh + O 3 * wh + O 4 * wh + O 5 * wh + O 6 * wh := by
    unfold sum7
    rw [Nat.mul_comm]
    simp only [Nat.add_mul]
  rw [e]
  show stepO on bk wh O 0 + stepO on bk wh O 1 + stepO on bk wh O 2 + stepO on bk wh O 3 + stepO on bk wh O 4 + stepO on bk wh O 5 + stepO on bk wh O 6 ≤ _
  simp only [stepO, show (0 : Nat) < 6 from by decide, show (1 : Nat) < 6 from by decide, show (2 : Nat) < 6 from by decide, show (3 : Nat) < 6 from by decide, show (4 : Nat) < 6 from by decide, show (5 : Nat) < 6 from by decide, show ¬ (6 : Nat) < 6 from by decide, if_true, if_false, show ¬ (1 : Nat) = 0 from by decide, show ¬ (2 : Nat) = 0 from by decide, show ¬ (3 : Nat) = 0 from by decide, show ¬ (4 : Nat) = 0 from by decide, show ¬ (5 : Nat) = 0 from by decide, show ¬ (6 : Nat) = 0 from by decide, Nat.reduceAdd, Nat.reduceSub]
  omega
theorem sum7_start {spot : Nat} : sum7 (startO spot) ≤ 1 := by
  unfold sum7 startO
  by_cases h : spot < 7
  · rcases (show spot = 0 ∨ spot = 1 ∨ spot = 2 ∨ spot = 3 ∨ spot = 4 ∨ spot = 5 ∨ spot = 6 by omega) with rfl | rfl | rfl | rfl | rfl | rfl | rfl <;> decide
  · rw [if_neg (by omega), if_neg (by omega), if_neg (by omega), if_neg (by omega), if_neg (by omega), if_neg (by omega), if_neg (by omega)]
    omega
theorem sum7_spread {on bk : Nat → Nat} {wh spot : Nat} (h : ∀ f, f < 7 → on f + bk f ≤ wh) (n : Nat) : sum7 (spreadO on bk wh spot n) ≤ wh ^ n := by
  induction n with
  | zero => exact sum7_start
  | succ n ih =>
    refine Nat.le_trans (sum7_step h) ?_
    rw [Nat.pow_succ, Nat.mul_comm (wh ^ n)]
    exact Nat.mul_le_mul_left _ ih
theorem le_sum7 {O : Nat → Nat} {f : Nat} (hf : f < 7) : O f ≤ sum7 O := by
  unfold sum7
  rcases (show f = 0 ∨ f = 1 ∨ f = 2 ∨ f = 3 ∨ f = 4 ∨ f = 5 ∨ f = 6 by omega) with rfl | rfl | rfl | rfl | rfl | rfl | rfl <;> omega
theorem spreadO_le {on bk : Nat → Nat} {wh spot : Nat} (h : ∀ f, f < 7 → on f + bk f ≤ wh) (n : Nat) {f : Nat} (hf : f < 7) : spreadO on bk wh spot n f ≤ wh ^ n := Nat.le_trans (le_sum7 hf) (sum7_spread h n)
theorem stepO_congr {on bk on' bk' O O' : Nat → Nat} {wh : Nat} (h1 : ∀ f, f < 7 → on f = on' f) (h2 : ∀ f, f < 7 → bk f = bk' f) (h3 : ∀ f, f < 7 → O f = O' f) : ∀ f, f < 7 → stepO on bk wh O f = stepO on' bk' wh O' f := by
  intro f hf
  unfold stepO
  rw [h3 f hf, h1 f hf, h2 f hf, h3 (f - 1) (by omega), h1 (f - 1) (by omega)]
  by_cases h : f < 6
  · rw [if_pos h, if_pos h, h3 (f + 1) (by omega), h2 (f + 1) (by omega)]
  · rw [if_neg h, if_neg h]
theorem spreadO_congr {on bk on' bk' : Nat → Nat} {wh spot : Nat} (h1 : ∀ f, f < 7 → on f = on' f) (h2 : ∀ f, f < 7 → bk f = bk' f) (n : Nat) : ∀ f, f < 7 → spreadO on bk wh spot n f = spreadO on' bk' wh spot n f := by
  induction n with
  | zero => intro f _; rfl
  | succ n ih => exact stepO_congr h1 h2 ih
theorem spreadO_scale {on bk : Nat → Nat} {wh spot : Nat} (k n : Nat) : ∀ f, f < 7 → spreadO (fun i => on i * k) (fun i => bk i * k) (wh * k) spot n f = k ^ n * spreadO on bk wh spot n f := by
  induction n with
  | zero =>
    intro f _
    show startO spot f = k ^ 0 * startO spot f
    rw [Nat.pow_zero, Nat.one_mul]
  | succ n ih =>
    intro f hf
    show stepO _ _ _ (spreadO _ _ _ spot n) f = k ^ (n + 1) * stepO on bk wh (spreadO on bk wh spot n) f
    unfold stepO
    rw [ih f hf, ih (f - 1) (by omega)]
    have e1 : wh * k - on f * k - bk f * k = (wh - on f - bk f) * k := by rw [Nat.sub_mul, Nat.sub_mul]
    rw [e1, Nat.mul_add, Nat.mul_add, Nat.pow_succ]
    congr 1
    · congr 1
      · simp only [Nat.mul_comm, Nat.mul_left_comm, Nat.mul_assoc]
      · split
        · rfl
        · simp only [Nat.mul_comm, Nat.mul_left_comm, Nat.mul_assoc]
    · by_cases h : f < 6
      · rw [if_pos h, if_pos h, ih (f + 1) (by omega)]
        simp only [Nat.mul_comm, Nat.mul_left_comm, Nat.mul_assoc]
      · rw [if_neg h, if_neg h, Nat.mul_zero]
/-! the mean -/
def mP (on : Nat → Nat) : Nat → Nat
  | 0 => 1
  | f + 1 => on f * mP on f
def mA (on bk : Nat → Nat) : Nat → Nat
  | 0 => 0
  | f + 1 => 10 * mP on f + bk f * mA on bk f
def mS (on bk : Nat → Nat) (a : Nat) : Nat → Nat
  | 0 => 0
  | f + 1 => if a ≤ f then mS on bk a f * on f + mA on bk (f + 1) else 0
theorem mS_0 {on bk : Nat → Nat} {a : Nat} : ∀ {f : Nat}, f ≤ a → mS on bk a f = 0
  | 0, _ => rfl
  | f + 1, h => if_neg (by omega)
theorem mB9 {on bk : Nat → Nat} (a : Nat) (h1 : ∀ f, f < 6 → 1 ≤ on f ∧ on f ≤ 9) (h2 : ∀ f, f < 7 → bk f ≤ 4) : ∀ f, f ≤ 6 → 0 < mP on f ∧ mP on f ≤ 9 ^ f ∧ mA on bk f ≤ 2 * 9 ^ f ∧ mS on bk a f ≤ 2 * f * 9 ^ f
  | 0, _ => ⟨Nat.le_refl 1, Nat.le_refl 1, Nat.zero_le _, Nat.zero_le _⟩
  | f + 1, h => by
    obtain ⟨q1, q2, q3, q4⟩ := mB9 a h1 h2 f (by omega)
    have o := h1 f (by omega)
    have b := h2 f (by omega)
    have e : 9 ^ (f + 1) = 9 * 9 ^ f := by rw [Nat.pow_succ, Nat.mul_comm]
    have p1 : on f * mP on f ≤ 9 * 9 ^ f := Nat.mul_le_mul o.2 q2
    have p2 : bk f * mA on bk f ≤ 4 * (2 * 9 ^ f) := Nat.mul_le_mul b q3
    have pA : mA on bk (f + 1) ≤ 2 * 9 ^ (f + 1) := by
      show 10 * mP on f + bk f * mA on bk f ≤ _
      omega
    refine ⟨Nat.mul_pos (by omega) q1, by show on f * mP on f ≤ _; omega, pA, ?_⟩
    show (if a ≤ f then mS on bk a f * on f + mA on bk (f + 1) else 0) ≤ _
    split
    · have p3 : mS on bk a f * on f ≤ (2 * f * 9 ^ f) * 9 := Nat.mul_le_mul q4 o.2
      have e2 : 2 * (f + 1) * 9 ^ (f + 1) = (2 * f * 9 ^ f) * 9 + 2 * 9 ^ (f + 1) := by
        rw [e, Nat.mul_add, Nat.add_mul]
        simp only [Nat.mul_comm, Nat.mul_left_comm, Nat.mul_one]
      omega
    · exact Nat.zero_le _
theorem mB {on bk : Nat → Nat} (a : Nat) (h1 : ∀ f, f < 6 → 1 ≤ on f ∧ on f ≤ 9) (h2 : ∀ f, f < 7 → bk f ≤ 4) {f : Nat} (hf : f ≤ 6) : 0 < mP on f ∧ mP on f ≤ 531441 ∧ mA on bk f ≤ 1062882 ∧ mS on bk a f ≤ 6377292 := by
  obtain ⟨q1, q2, q3, q4⟩ := mB9 a h1 h2 f hf
  have e : (9 : Nat) ^ f ≤ 9 ^ 6 := Nat.pow_le_pow_right (by decide) hf
  have e6 : (9 : Nat) ^ 6 = 531441 := by decide
  have q5 : 2 * f * 9 ^ f ≤ 12 * 531441 := by
    rw [← e6]
    exact Nat.mul_le_mul (by omega) e
  exact ⟨q1, by omega, by omega, by omega⟩
theorem mP_congr {on on' : Nat → Nat} : ∀ {n : Nat}, n ≤ 6 → (∀ f, f < 6 → on f = on' f) → mP on n = mP on' n
  | 0, _, _ => rfl
  | n + 1, h, e => by
    show on n * mP on n = on' n * mP on' n
    rw [e n (by omega), mP_congr (by omega) e]
theorem mA_congr {on on' bk bk' : Nat → Nat} : ∀ {n : Nat}, n ≤ 6 → (∀ f, f < 6 → on f = on' f) → (∀ f, f < 7 → bk f = bk' f) → mA on bk n = mA on' bk' n
  | 0, _, _, _ => rfl
  | n + 1, h, e, e2 => by
    show 10 * mP on n + bk n * mA on bk n = 10 * mP on' n + bk' n * mA on' bk' n
    rw [e2 n (by omega), mP_congr (by omega) e, mA_congr (by omega) e e2]
theorem mS_congr {on on' bk bk' : Nat → Nat} {a : Nat} : ∀ {n : Nat}, n ≤ 6 → (∀ f, f < 6 → on f = on' f) → (∀ f, f < 7 → bk f = bk' f) → mS on bk a n = mS on' bk' a n
  | 0, _, _, _ => rfl
  | n + 1, h, e, e2 => by
    show (if a ≤ n then mS on bk a n * on n + mA on bk (n + 1) else 0) = (if a ≤ n then mS on' bk' a n * on' n + mA on' bk' (n + 1) else 0)
    rw [e n (by omega), mS_congr (by omega) e e2, mA_congr h e e2]
/-- the weight of a step from a field to one -/
def wtN (on bk : Nat → Nat) (wh f t : Nat) : Nat := if t = f then wh - on f - bk f else if t = f + 1 then on f else if t + 1 = f then bk f else 0
theorem pred_eq {t f : Nat} (ht : t < 2 ^ 30) (hf : f < 2 ^ 30) : nI t = nI f - nI 1 ↔ t + 1 = f := by
  constructor
  · intro h
    have h1 := congrArg Int32.toInt h
    rw [nI_toInt (by omega), pk_sub_toInt hf (by decide)] at h1
    omega
  · intro h
    subst h
    rw [pk_sub (by omega)]
    rfl
theorem cK_mixE {n i : Nat} {A B : Nat → Nat} (h : i = n) : cK n 0 (mixF i A B) = cK n 0 A := by rw [h, cK_mix]
theorem cL_mixE {n i : Nat} {A B : Nat → Nat} (h : i = n) : cL n 0 (mixF i A B) = cL n 0 A := by rw [h, cL_mix]
theorem stepO_a {on bk O : Nat → Nat} {wh i : Nat} (h0 : ¬ 0 < i) (h6 : i < 6) : stepO on bk wh O i = O i * (wh - on i - bk i) + O (i + 1) * bk (i + 1) := by
  unfold stepO
  rw [if_pos (by omega), if_pos h6, Nat.add_zero]
theorem stepO_b {on bk O : Nat → Nat} {wh i : Nat} (h0 : 0 < i) (h6 : i < 6) : stepO on bk wh O i = O i * (wh - on i - bk i) + O (i - 1) * on (i - 1) + O (i + 1) * bk (i + 1) := by
  unfold stepO
  rw [if_neg (by omega), if_pos h6]
theorem stepO_c {on bk O : Nat → Nat} {wh i : Nat} (h0 : 0 < i) (h6 : ¬ i < 6) : stepO on bk wh O i = O i * (wh - on i - bk i) + O (i - 1) * on (i - 1) := by
  unfold stepO
  rw [if_neg (by omega), if_neg h6, Nat.add_zero]
