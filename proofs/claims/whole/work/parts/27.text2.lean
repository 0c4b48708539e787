/-! the claims' text: at place p. dg: a digit there; the worth from its first place s on -/
abbrev dg (T : Nat → Nat) (n q : Nat) : Prop := q < n ∧ 48 ≤ T q ∧ T q ≤ 57
def wW (T : Nat → Nat) (n s : Nat) : Nat := if dg T n (s + 1) then (T s - 48) * 10 + T (s + 1) - 48 else T s - 48
def wE (T : Nat → Nat) (n s : Nat) : Nat := if dg T n (s + 1) then s + 2 else s + 1
abbrev wOk (T : Nat → Nat) (n p : Nat) : Prop := dOk T n p 0 9 ∧ 1 ≤ wW T n (skp T n p)
def wP (T : Nat → Nat) (n p : Nat) : Nat := if wOk T n p then wE T n (skp T n p) else skp T n p
def wX (T : Nat → Nat) (n p : Nat) : Int32 := if wOk T n p then nI (wW T n (skp T n p)) else -1
theorem wE_le {T : Nat → Nat} {n s : Nat} (h : s < n) : wE T n s ≤ n := by
  unfold wE
  split
  · rename_i q
    have := q.1
    omega
  · omega
theorem wP_le {T : Nat → Nat} {n p : Nat} (h : p ≤ n) : wP T n p ≤ n := by
  unfold wP
  split
  · rename_i q
    exact wE_le q.1.1
  · exact (skp_le h).2
theorem wW_le {T : Nat → Nat} {n p : Nat} (h : dOk T n p 0 9) : wW T n (skp T n p) ≤ 99 := by
  have h1 := h.2.2
  unfold wW
  split
  · rename_i q
    have := q.2.2
    omega
  · omega
theorem wX_ok {T : Nat → Nat} {n p : Nat} (h : wOk T n p) : wX T n p = nI (wW T n (skp T n p)) := if_pos h
theorem wX_no {T : Nat → Nat} {n p : Nat} (h : ¬ wOk T n p) : wX T n p = -1 := if_neg h
def c1 (T : Nat → Nat) (n p : Nat) : Nat := dP T n p 0 6
def c2 (T : Nat → Nat) (n p : Nat) : Nat := aP T n (c1 T n p) 45
def c3 (T : Nat → Nat) (n p : Nat) : Nat := dP T n (c2 T n p) (dV T n p) 6
def c4 (T : Nat → Nat) (n p : Nat) : Nat := aP T n (c3 T n p) 61
def cT (T : Nat → Nat) (n p : Nat) : Nat := dV T n (c2 T n p)
def cZ (T : Nat → Nat) (n p : Nat) : Nat := wW T n (skp T n (c4 T n p))
abbrev k1 (T : Nat → Nat) (n p : Nat) : Prop := dOk T n p 0 6
abbrev k2 (T : Nat → Nat) (n p : Nat) : Prop := aOk T n (c1 T n p) 45
abbrev k3 (T : Nat → Nat) (n p : Nat) : Prop := dOk T n (c2 T n p) (dV T n p) 6
abbrev k4 (T : Nat → Nat) (n p : Nat) : Prop := aOk T n (c3 T n p) 61
abbrev k5 (T : Nat → Nat) (n p : Nat) : Prop := wOk T n (c4 T n p)
abbrev cOk (T : Nat → Nat) (n p : Nat) : Prop := k1 T n p ∧ k2 T n p ∧ k3 T n p ∧ k4 T n p ∧ k5 T n p
def cA (T : Nat → Nat) (n p : Nat) : Nat := if k1 T n p then (if k2 T n p then (if k3 T n p then (if k4 T n p then wP T n (c4 T n p) else c4 T n p) else c3 T n p) else c2 T n p) else c1 T n p
theorem c1_le {T : Nat → Nat} {n p : Nat} (h : p ≤ n) : c1 T n p ≤ n := dP_le h
theorem c2_le {T : Nat → Nat} {n p : Nat} (h : p ≤ n) : c2 T n p ≤ n := aP_le (c1_le h)
theorem c3_le {T : Nat → Nat} {n p : Nat} (h : p ≤ n) : c3 T n p ≤ n := dP_le (c2_le h)
theorem c4_le {T : Nat → Nat} {n p : Nat} (h : p ≤ n) : c4 T n p ≤ n := aP_le (c3_le h)
theorem cA_le {T : Nat → Nat} {n p : Nat} (h : p ≤ n) : cA T n p ≤ n := by
  unfold cA
  split
  · split
    · split
      · split
        · exact wP_le (c4_le h)
        · exact c4_le h
      · exact c3_le h
    · exact c2_le h
  · exact c1_le h
/-- the claims from place p on: do they go, the place behind them, how many, their rows -/
def clR (T : Nat → Nat) (n : Nat) : Nat → Nat → Nat → (Nat → Nat) → Bool × Nat × Nat × (Nat → Nat)
  | 0, p, m, K => (true, p, m, K)
  | k + 1, p, m, K =>
    if cOk T n p ∧ ¬ dg T n (cA T n p) then
      (if k = 0 then (true, cA T n p, m + 1, addC m (dV T n p) (cT T n p) (cZ T n p) K)
       else if aOk T n (cA T n p) 44 then clR T n k (aP T n (cA T n p) 44) (m + 1) (addC m (dV T n p) (cT T n p) (cZ T n p) K)
       else (true, aP T n (cA T n p) 44, m + 1, addC m (dV T n p) (cT T n p) (cZ T n p) K))
    else (false, cA T n p, m, K)
/-- the same before the c-th, its comma not yet read -/
def clH (T : Nat → Nat) (n c p : Nat) (K : Nat → Nat) : Bool × Nat × Nat × (Nat → Nat) :=
  if c = 0 then clR T n 5 p 0 K else if c = 5 then (true, p, 5, K) else if aOk T n p 44 then clR T n (5 - c) (aP T n p 44) c K else (true, aP T n p 44, c, K)
theorem clH_end {T : Nat → Nat} {n p : Nat} {K : Nat → Nat} : clH T n 5 p K = (true, p, 5, K) := rfl
theorem clH_no {T : Nat → Nat} {n c p : Nat} {K : Nat → Nat} (h0 : 0 < c) (h5 : c < 5) (h : ¬ aOk T n p 44) : clH T n c p K = (true, aP T n p 44, c, K) := by
  unfold clH
  rw [if_neg (by omega), if_neg (by omega), if_neg h]
theorem clH_go {T : Nat → Nat} {n c p : Nat} {K : Nat → Nat} (h0 : 0 < c) (h5 : c < 5) (h : aOk T n p 44) : clH T n c p K = clR T n (5 - c) (aP T n p 44) c K := by
  unfold clH
  rw [if_neg (by omega), if_neg (by omega), if_pos h]
theorem clR_bad {T : Nat → Nat} {n c p : Nat} {K : Nat → Nat} (h5 : c < 5) (h : ¬ cOk T n p) : clR T n (5 - c) p c K = (false, cA T n p, c, K) := by
  rw [show 5 - c = (4 - c) + 1 by omega]
  exact if_neg (fun z => h z.1)
theorem clR_dg {T : Nat → Nat} {n c p : Nat} {K : Nat → Nat} (h5 : c < 5) (h : dg T n (cA T n p)) : clR T n (5 - c) p c K = (false, cA T n p, c, K) := by
  rw [show 5 - c = (4 - c) + 1 by omega]
  exact if_neg (fun z => z.2 h)
theorem clR_ok {T : Nat → Nat} {n c p : Nat} {K : Nat → Nat} (h5 : c < 5) (h : cOk T n p) (hd : ¬ dg T n (cA T n p)) : clR T n (5 - c) p c K = clH T n (c + 1) (cA T n p) (addC c (dV T n p) (cT T n p) (cZ T n p) K) := by
  rw [show 5 - c = (4 - c) + 1 by omega]
  refine (if_pos ⟨h, hd⟩).trans ?_
  unfold clH
  rw [if_neg (show ¬ c + 1 = 0 by omega)]
  by_cases q : c = 4
  · rw [q, if_pos (by omega), if_pos rfl]
  · rw [if_neg (show ¬ 4 - c = 0 by omega), if_neg (show ¬ c + 1 = 5 by omega), show 5 - (c + 1) = 4 - c by omega]
/-- a digit there is no blank, no comma -/
theorem dg_skp {T : Nat → Nat} {n q : Nat} (h : dg T n q) : skp T n q = q := skp_stop (fun z => by have := h.2.1; omega)
theorem dg_no {T : Nat → Nat} {n q c : Nat} (h : dg T n q) (hc : c < 48) : ¬ aOk T n q c := by
  intro z
  have := z.2
  rw [dg_skp h] at this
  have := h.2.1
  omega
theorem dg_aP {T : Nat → Nat} {n q c : Nat} (h : dg T n q) (hc : c < 48) : aP T n q c = q := by
  unfold aP
  rw [if_neg (dg_no h hc), dg_skp h]
theorem clR_le {T : Nat → Nat} {n : Nat} : ∀ k p m K, p ≤ n → (clR T n k p m K).2.1 ≤ n
  | 0, p, m, K, h => h
  | k + 1, p, m, K, h => by
    unfold clR
    split
    · split
      · exact cA_le h
      · split
        · exact clR_le k _ _ _ (aP_le (cA_le h))
        · exact aP_le (cA_le h)
    · exact cA_le h
/-! the valley's text -/
def v0 (T : Nat → Nat) (n : Nat) : Nat := dP T n 0 0 6
def v1 (T : Nat → Nat) (n : Nat) : Nat := aP T n (v0 T n) 58
abbrev vA (T : Nat → Nat) (n : Nat) : Prop := dOk T n 0 0 6 ∧ aOk T n (v0 T n) 58
/-- k fields from place p on: do they go, the place behind -/
def flR (T : Nat → Nat) (n : Nat) : Nat → Nat → Bool × Nat
  | 0, p => (true, p)
  | k + 1, p => if fOk T n p then flR T n k (fP T n p) else (false, fP T n p)
theorem flR_ok {T : Nat → Nat} {n k p : Nat} (h : fOk T n p) : flR T n (k + 1) p = flR T n k (fP T n p) := if_pos h
theorem flR_no {T : Nat → Nat} {n k p : Nat} (h : ¬ fOk T n p) : flR T n (k + 1) p = (false, fP T n p) := if_neg h
theorem flR_le {T : Nat → Nat} {n : Nat} : ∀ k p, p ≤ n → (flR T n k p).2 ≤ n
  | 0, p, h => h
  | k + 1, p, h => by
    unfold flR
    split
    · exact flR_le k _ (fP_le h)
    · exact fP_le h
theorem flR_all {T : Nat → Nat} {n : Nat} : ∀ k p, (flR T n k p).1 = true → (flR T n k p).2 = pF T n p k ∧ ∀ f, f < k → fOk T n (pF T n p f)
  | 0, p, h => ⟨rfl, fun f hf => by omega⟩
  | k + 1, p, h => by
    have hsh : ∀ f, pF T n (fP T n p) f = pF T n p (f + 1) := by
      intro f
      induction f with
      | zero => rfl
      | succ f ih =>
        show fP T n (pF T n (fP T n p) f) = fP T n (pF T n p (f + 1))
        rw [ih]
    unfold flR at h ⊢
    by_cases q : fOk T n p
    · rw [if_pos q] at h ⊢
      have r := flR_all k _ h
      refine ⟨r.1.trans (hsh k), fun f hf => ?_⟩
      by_cases z : f = 0
      · rw [z]
        exact q
      · have := r.2 (f - 1) (by omega)
        rw [hsh, show f - 1 + 1 = f by omega] at this
        exact this
    · rw [if_neg q] at h
      exact absurd h Bool.false_ne_true
def vL (T : Nat → Nat) (n : Nat) : Bool × Nat := flR T n 7 (v1 T n)
def v9 (T : Nat → Nat) (n : Nat) : Nat := aP T n (vL T n).2 59
def vC (T : Nat → Nat) (n : Nat) (K : Nat → Nat) : Bool × Nat × Nat × (Nat → Nat) := if aOk T n (vL T n).2 59 then clR T n 5 (v9 T n) 0 K else (true, v9 T n, 0, K)
/-- the whole: does it go -/
abbrev vOk (T : Nat → Nat) (n : Nat) (K : Nat → Nat) : Prop := vA T n ∧ (vL T n).1 = true ∧ (vC T n K).1 = true ∧ n ≤ skp T n (vC T n K).2.1
/-- the place at its end -/
def vP (T : Nat → Nat) (n : Nat) (K : Nat → Nat) : Nat := if dOk T n 0 0 6 then (if aOk T n (v0 T n) 58 then (if (vL T n).1 = true then (if (vC T n K).1 = true then skp T n (vC T n K).2.1 else (vC T n K).2.1) else (vL T n).2) else v1 T n) else v0 T n
theorem v0_le {T : Nat → Nat} {n : Nat} : v0 T n ≤ n := dP_le (Nat.zero_le n)
theorem v1_le {T : Nat → Nat} {n : Nat} : v1 T n ≤ n := aP_le v0_le
theorem vL_le {T : Nat → Nat} {n : Nat} : (vL T n).2 ≤ n := flR_le _ _ v1_le
theorem v9_le {T : Nat → Nat} {n : Nat} : v9 T n ≤ n := aP_le vL_le
theorem vC_le {T : Nat → Nat} {n : Nat} {K : Nat → Nat} : (vC T n K).2.1 ≤ n := by
  unfold vC
  split
  · exact clR_le _ _ _ _ v9_le
  · exact v9_le
theorem vP_le {T : Nat → Nat} {n : Nat} {K : Nat → Nat} : vP T n K ≤ n := by
  unfold vP
  split
  · split
    · split
      · split
        · exact (skp_le vC_le).2
        · exact vC_le
      · exact vL_le
    · exact v1_le
  · exact v0_le
/-- the land behind a valley that goes: B is what it is written over -/
def vW (T : Nat → Nat) (n : Nat) (B : Nat → Nat) : Nat → Nat := gW T n (v1 T n) (va_up B 2 (dV T n 0)) 7
theorem clH_0 {T : Nat → Nat} {n c p : Nat} {K : Nat → Nat} (h : c = 0) : clH T n c p K = clR T n (5 - c) p c K := by
  subst h
  rfl
theorem clH_5 {T : Nat → Nat} {n c p : Nat} {K : Nat → Nat} (h : c = 5) : clH T n c p K = (true, p, c, K) := by
  subst h
  rfl
theorem cl_step {T : Nat → Nat} {n c p : Nat} {K : Nat → Nat} {R0 : Bool × Nat × Nat × (Nat → Nat)} (h5 : c < 5) (hR : clR T n (5 - c) p c K = R0) (hk : cOk T n p) : clH T n (c + 1) (cA T n p) (addC c (dV T n p) (cT T n p) (cZ T n p) K) = R0 ∨ (0 < c + 1 ∧ dg T n (cA T n p) ∧ R0.1 = false ∧ R0.2.1 = cA T n p) := by
  by_cases hd : dg T n (cA T n p)
  · refine Or.inr ⟨Nat.succ_pos _, hd, ?_, ?_⟩
    · rw [← hR, clR_dg h5 hd]
    · rw [← hR, clR_dg h5 hd]
  · exact Or.inl ((clR_ok h5 hk hd).symm.trans hR)
theorem fl_step {T : Nat → Nat} {n f p : Nat} {R0 : Bool × Nat} (hf : f < 7) (h : flR T n (7 - f) p = R0) (hk : fOk T n p) : flR T n (7 - (f + 1)) (fP T n p) = R0 := by
  rw [show 7 - f = (7 - (f + 1)) + 1 by omega, flR_ok hk] at h
  exact h
theorem fl_bad {T : Nat → Nat} {n f p : Nat} {R0 : Bool × Nat} (hf : f < 7) (h : flR T n (7 - f) p = R0) (hk : ¬ fOk T n p) : R0 = (false, fP T n p) := by
  rw [show 7 - f = (7 - (f + 1)) + 1 by omega, flR_no hk] at h
  exact h.symm
theorem fl_end {T : Nat → Nat} {n f p : Nat} {R0 : Bool × Nat} (hf : f = 7) (h : flR T n (7 - f) p = R0) : R0 = (true, p) := by
  subst hf
  exact h.symm
theorem chX_end {T : Nat → Nat} {n q : Nat} (hT : OkT T n) : chX T n q = -1 ↔ n ≤ q := by
  unfold chX
  by_cases h : q < n
  · rw [if_pos h]
    have := hT q h
    exact ⟨fun e => absurd e.symm (m1_ne (by omega)), fun e => by omega⟩
  · rw [if_neg h]
    exact ⟨fun _ => by omega, fun _ => rfl⟩
