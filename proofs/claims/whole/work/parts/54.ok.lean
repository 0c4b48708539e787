/-! WHAT EVERY CALL KEEPS: the state's bounds (OkS) -/
def OkM (M : Nat → Nat) : Prop := M 0 ≤ 9999 ∧ M 1 < 2147483648 ∧ M 2 < 7 ∧ ∀ f, f < 7 → M (3 + f) ≤ 9 ∧ M (10 + f) ≤ 4
theorem OkM.congr {M M' : Nat → Nat} (h : OkM M) (e : ∀ i, i < 17 → M' i = M i) : OkM M' := by
  obtain ⟨h0, h1, h2, h3⟩ := h
  refine ⟨by rw [e 0 (by omega)]; exact h0, by rw [e 1 (by omega)]; exact h1, by rw [e 2 (by omega)]; exact h2, fun f hf => ?_⟩
  rw [e (3 + f) (by omega), e (10 + f) (by omega)]
  exact h3 f hf
theorem OkL.m {L : Nat → Nat} (h : OkL L) : OkM L := ⟨h.2.2.1, h.2.2.2.1, h.2.1, fun f hf => ⟨(h.1 f hf).2.1, (h.1 f hf).2.2⟩⟩
theorem OkL.p {L : Nat → Nat} (h : OkL L) : ∀ p, p < L 40 → OkM (fun i => L (41 + 17 * p + i)) := fun p hp => h.2.2.2.2.2.2.2 p hp
theorem OkL.of {L : Nat → Nat} (hg : Okg L) (hm : OkM L) (h24 : L 24 ≤ 5) (h40 : L 40 ≤ 8) (hc : ∀ c, c < L 24 → L (25 + c) ≤ L (30 + c) ∧ L (30 + c) ≤ 6 ∧ 1 ≤ L (35 + c) ∧ L (35 + c) ≤ 99) (hp : ∀ p, p < L 40 → OkM (fun i => L (41 + 17 * p + i))) : OkL L :=
  ⟨hg, hm.2.2.1, hm.1, hm.2.1, h24, h40, hc, fun p h => hp p h⟩
theorem cl_eq {L M : Nat → Nat} (h : ∀ c, c < L 24 → L (25 + c) ≤ L (30 + c) ∧ L (30 + c) ≤ 6 ∧ 1 ≤ L (35 + c) ∧ L (35 + c) ≤ 99) (h5 : L 24 ≤ 5) (e : ∀ i, 24 ≤ i → i < 40 → M i = L i) : ∀ c, c < M 24 → M (25 + c) ≤ M (30 + c) ∧ M (30 + c) ≤ 6 ∧ 1 ≤ M (35 + c) ∧ M (35 + c) ≤ 99 := by
  intro c hc
  rw [e 24 (by omega) (by omega)] at hc
  rw [e (25 + c) (by omega) (by omega), e (30 + c) (by omega) (by omega), e (35 + c) (by omega) (by omega)]
  exact h c hc
/-- below 24 another, the rest as it was -/
theorem OkL.lo {L M : Nat → Nat} (h : OkL L) (hg : Okg M) (hm : OkM M) (e : ∀ i, 24 ≤ i → M i = L i) : OkL M := by
  refine OkL.of hg hm (by rw [e 24 (by omega)]; exact h.2.2.2.2.1) (by rw [e 40 (by omega)]; exact h.2.2.2.2.2.1) (cl_eq h.2.2.2.2.2.2.1 h.2.2.2.2.1 (fun i h1 _ => e i h1)) ?_
  intro p hp
  rw [e 40 (by omega)] at hp
  exact (h.p p hp).congr (fun i hi => e _ (by omega))
theorem OkL.note {L : Nat → Nat} (h : OkL L) : OkL (noteF L) := by
  have h40 := h.2.2.2.2.2.1
  refine OkL.of (Okg_congr h.1 (fun i hi => noteF_lo (by omega))) (h.m.congr (fun i hi => noteF_lo (by omega))) (by rw [noteF_lo (by omega)]; exact h.2.2.2.2.1) (by rw [noteF_40]; split <;> omega) (cl_eq h.2.2.2.2.2.2.1 h.2.2.2.2.1 (fun i h1 h2 => noteF_lo h2)) ?_
  intro p hp
  have hq : OkM (pastUp (L 40) (fun p i => L (41 + 17 * p + i)) L p) := by
    rw [noteF_40] at hp
    unfold pastUp
    by_cases h8 : L 40 < 8
    · rw [if_pos h8]
      rw [if_neg (by omega)] at hp
      by_cases e : p = L 40
      · rw [e, va_up_self]
        exact h.m
      · rw [va_up_ne _ _ e]
        exact h.p p (by omega)
    · rw [if_neg h8]
      rw [if_pos (by omega)] at hp
      by_cases e : p = 7
      · rw [e, va_up_self]
        exact h.m
      · rw [va_up_ne _ _ e]
        unfold rotQ
        rw [if_pos (by omega)]
        exact h.p (p + 1) (by omega)
  exact hq.congr (fun i hi => (noteF_past h40 (P := fun p i => L (41 + 17 * p + i)) (fun _ _ _ _ => rfl) p hp i hi).symm)
theorem OkL.day {L : Nat → Nat} (h : OkL L) (h0 : L 0 + 1 ≤ 9999) : OkL (dayF L) := by
  have q := dayF_ok h.1 h.2.1
  exact h.lo q.1 ⟨by rw [dayF_0]; exact h0, day1_lt, q.2, fun f hf => ⟨(q.1 f hf).2.1, (q.1 f hf).2.2⟩⟩ (fun i hi => dayF_hi h.2.1 (by omega))
theorem OkL.days {L : Nat → Nat} (h : OkL L) : ∀ n, L 0 + n ≤ 9999 → OkL (daysL L n) ∧ daysL L n 0 = L 0 + n
  | 0, _ => ⟨h, rfl⟩
  | n + 1, hn => by
    obtain ⟨q1, q2⟩ := OkL.days h n (by omega)
    have e : noteF (daysL L n) 0 = L 0 + n := by rw [noteF_lo (by omega), q2]
    refine ⟨q1.note.day (by rw [e]; omega), ?_⟩
    show dayF (noteF (daysL L n)) 0 = _
    rw [dayF_0, e, Nat.add_assoc]
theorem OkM.up {M : Nat → Nat} {k v : Nat} (h : OkM M) (hv : (k = 0 → v ≤ 9999) ∧ (k = 1 → v < 2147483648) ∧ (k = 2 → v < 7) ∧ (3 ≤ k → k < 10 → v ≤ 9) ∧ (10 ≤ k → k < 17 → v ≤ 4)) : OkM (va_up M k v) := by
  obtain ⟨h0, h1, h2, h3⟩ := h
  obtain ⟨v0, v1, v2, v3, v4⟩ := hv
  have au : ∀ i : Nat, (i = k ∧ va_up M k v i = v) ∨ (i ≠ k ∧ va_up M k v i = M i) := fun i => by
    by_cases e : i = k
    · exact Or.inl ⟨e, by rw [e, va_up_self]⟩
    · exact Or.inr ⟨e, va_up_ne _ _ e⟩
  refine ⟨?_, ?_, ?_, fun f hf => ⟨?_, ?_⟩⟩
  · rcases au 0 with ⟨e, q⟩ | ⟨e, q⟩ <;> rw [q]
    · exact v0 e.symm
    · exact h0
  · rcases au 1 with ⟨e, q⟩ | ⟨e, q⟩ <;> rw [q]
    · exact v1 e.symm
    · exact h1
  · rcases au 2 with ⟨e, q⟩ | ⟨e, q⟩ <;> rw [q]
    · exact v2 e.symm
    · exact h2
  · rcases au (3 + f) with ⟨e, q⟩ | ⟨e, q⟩ <;> rw [q]
    · exact v3 (by omega) (by omega)
    · exact (h3 f hf).1
  · rcases au (10 + f) with ⟨e, q⟩ | ⟨e, q⟩ <;> rw [q]
    · exact v4 (by omega) (by omega)
    · exact (h3 f hf).2
/-- a number of the moment set -/
theorem OkL.up {L : Nat → Nat} {k v : Nat} (h : OkL L) (hk : k < 17) (hv : (k = 0 → v ≤ 9999) ∧ (k = 1 → v < 2147483648) ∧ (k = 2 → v < 7) ∧ (3 ≤ k → k < 10 → v ≤ 9) ∧ (10 ≤ k → k < 17 → v ≤ 4)) : OkL (va_up L k v) := by
  have hm := h.m.up hv
  refine h.lo (fun f hf => ⟨?_, hm.2.2.2 f hf⟩) hm (fun i hi => va_up_ne _ _ (by omega))
  rw [va_up_ne _ _ (by omega)]
  exact (h.1 f hf).1
theorem OkL.undo {L : Nat → Nat} (h : OkL L) (h0 : ¬ L 40 = 0) : OkL (undoF L) := by
  have hm : OkM (undoF L) := (h.p (L 40 - 1) (by omega)).congr (fun i hi => undoF_lo hi)
  have h40 := h.2.2.2.2.2.1
  refine OkL.of (fun f hf => ⟨?_, hm.2.2.2 f hf⟩) hm (by rw [undoF_hi (by omega) (by omega)]; exact h.2.2.2.2.1) (by rw [undoF_40]; omega) (cl_eq h.2.2.2.2.2.2.1 h.2.2.2.2.1 (fun i h1 h2 => undoF_hi (by omega) (by omega))) ?_
  · rw [undoF_hi (by omega) (by omega)]
    exact (h.1 f hf).1
  · intro p hp
    rw [undoF_40] at hp
    exact (h.p p (by omega)).congr (fun i hi => undoF_hi (by omega) (by omega))
/-- the past forgotten -/
theorem OkL.new {L : Nat → Nat} (hg : Okg L) (hm : OkM L) (h24 : L 24 ≤ 5) (h40 : L 40 = 0) (hc : ∀ c, c < L 24 → L (25 + c) ≤ L (30 + c) ∧ L (30 + c) ≤ 6 ∧ 1 ≤ L (35 + c) ∧ L (35 + c) ≤ 99) : OkL L :=
  OkL.of hg hm h24 (by omega) hc (fun p hp => by rw [h40] at hp; exact absurd hp (Nat.not_lt_zero p))
theorem OkL.field {L : Nat → Nat} {x y : Int32} (h : OkL L) : OkL (fieldL L x y) := by
  unfold fieldL
  by_cases q : okField x y
  · rw [if_pos q]
    obtain ⟨a, _, ha, rfl⟩ := inR_N (by omega) (by omega) q.1
    obtain ⟨b, _, hb, rfl⟩ := inR_N (by omega) (by omega) q.2
    rw [cl_nI (by omega), cl_nI (by omega)]
    have e : ∀ i, i ≠ 40 → va_up (va_up L (17 + a) b) 40 0 i = va_up L (17 + a) b i := fun i hi => va_up_ne _ _ hi
    have e2 : ∀ i, ¬ (17 ≤ i ∧ i < 24) → i ≠ 40 → va_up (va_up L (17 + a) b) 40 0 i = L i := fun i hi h4 => by rw [e i h4, va_up_ne _ _ (by omega)]
    refine OkL.new (Okg_congr (Okg_kind h.1 (by omega) (by omega)) (fun i hi => e i (by omega))) (h.m.congr (fun i hi => e2 i (by omega) (by omega))) (by rw [e2 24 (by omega) (by omega)]; exact h.2.2.2.2.1) (va_up_self _ _ _) (cl_eq h.2.2.2.2.2.2.1 h.2.2.2.2.1 (fun i h1 h2 => e2 i (by omega) (by omega)))
  · rw [if_neg q]
    exact h
theorem addC_at {n f t z c : Nat} {K : Nat → Nat} (hn : n < 5) (hc : c < 5) : addC n f t z K (25 + c) = (if c = n then f else K (25 + c)) ∧ addC n f t z K (30 + c) = (if c = n then t else K (30 + c)) ∧ addC n f t z K (35 + c) = (if c = n then z else K (35 + c)) := by
  rw [← addC_25 hn hc, ← addC_30 hn hc, ← addC_35 hn hc]
  by_cases e : c = n
  · rw [e, if_pos rfl, if_pos rfl, if_pos rfl, va_up_self, va_up_self, va_up_self]
    exact ⟨rfl, rfl, rfl⟩
  · rw [if_neg e, if_neg e, if_neg e, va_up_ne _ _ (by omega), va_up_ne _ _ (by omega), va_up_ne _ _ (by omega)]
    exact ⟨rfl, rfl, rfl⟩
abbrev clOk (m : Nat) (K : Nat → Nat) : Prop := ∀ c, c < m → K (25 + c) ≤ K (30 + c) ∧ K (30 + c) ≤ 6 ∧ 1 ≤ K (35 + c) ∧ K (35 + c) ≤ 99
theorem clOk_add {m f t z : Nat} {K : Nat → Nat} (hm : m < 5) (h : clOk m K) (h1 : f ≤ t) (h2 : t ≤ 6) (h3 : 1 ≤ z) (h4 : z ≤ 99) : clOk (m + 1) (addC m f t z K) := by
  intro c hc
  obtain ⟨e1, e2, e3⟩ := addC_at (n := m) (f := f) (t := t) (z := z) (c := c) (K := K) hm (by omega)
  rw [e1, e2, e3]
  by_cases e : c = m
  · rw [if_pos e, if_pos e, if_pos e]
    exact ⟨h1, h2, h3, h4⟩
  · rw [if_neg e, if_neg e, if_neg e]
    exact h c (by omega)
theorem OkL.claim {L : Nat → Nat} {x y z : Int32} (h : OkL L) : OkL (claimL L x y z) := by
  unfold claimL
  by_cases q : okClaim x y z ∧ L 24 < 5
  · rw [if_pos q]
    obtain ⟨⟨q1, q2, q3⟩, q4⟩ := q
    obtain ⟨a, _, ha, rfl⟩ := inR_N (by omega) (by omega) q1
    obtain ⟨b, hb1, hb, rfl⟩ := inR_N (by omega) (by omega) q2
    obtain ⟨d, hd1, hd, rfl⟩ := inR_N (by omega) (by omega) q3
    rw [cl_nI (by omega), cl_nI (by omega), cl_nI (by omega)]
    refine OkL.new (Okg_congr h.1 (fun i hi => addF_lo hi)) (h.m.congr (fun i hi => addF_lo (by omega))) (by rw [addF_24]; omega) (addF_40 q4) ?_
    rw [addF_24]
    have hk : clOk (L 24 + 1) (addC (L 24) a b d L) := clOk_add q4 h.2.2.2.2.2.2.1 hb1 hb hd1 hd
    intro c hc
    obtain ⟨e1, e2, e3⟩ := addF_cl (L := L) (K := L) (f := a) (t := b) (z := d) q4 (fun c _ => ⟨rfl, rfl, rfl⟩) c hc
    rw [← e1, ← e2, ← e3]
    exact hk c hc
  · rw [if_neg q]
    exact h
/-! a valley read -/
theorem gW_at {T : Nat → Nat} {n p f : Nat} {B : Nat → Nat} (hf : f < 7) : ∀ k, f < k → k ≤ 7 → gW T n p B k (17 + f) = kdp T n (pF T n p f) ∧ gW T n p B k (3 + f) = foV T n (pF T n p f) ∧ gW T n p B k (10 + f) = heV T n (pF T n p f)
  | 0, h, _ => absurd h (Nat.not_lt_zero f)
  | k + 1, h, hk => by
    show fW T n (pF T n p k) k (gW T n p B k) (17 + f) = _ ∧ fW T n (pF T n p k) k (gW T n p B k) (3 + f) = _ ∧ fW T n (pF T n p k) k (gW T n p B k) (10 + f) = _
    unfold fW
    by_cases e : f = k
    · rw [e, va_up_self, va_up_ne (k := 10 + k) (j := 3 + k) _ _ (by omega), va_up_self, va_up_ne (k := 10 + k) (j := 17 + k) _ _ (by omega), va_up_ne (k := 3 + k) (j := 17 + k) _ _ (by omega), va_up_self]
      exact ⟨rfl, rfl, rfl⟩
    · rw [va_up_ne (k := 10 + k) (j := 17 + f) _ _ (by omega), va_up_ne (k := 3 + k) (j := 17 + f) _ _ (by omega), va_up_ne (k := 17 + k) (j := 17 + f) _ _ (by omega), va_up_ne (k := 10 + k) (j := 3 + f) _ _ (by omega), va_up_ne (k := 3 + k) (j := 3 + f) _ _ (by omega), va_up_ne (k := 17 + k) (j := 3 + f) _ _ (by omega), va_up_ne (k := 10 + k) (j := 10 + f) _ _ (by omega), va_up_ne (k := 3 + k) (j := 10 + f) _ _ (by omega), va_up_ne (k := 17 + k) (j := 10 + f) _ _ (by omega)]
      exact gW_at hf k (by omega) (by omega)
theorem clR_clOk {T : Nat → Nat} {n : Nat} : ∀ k p m K, m + k ≤ 5 → clOk m K → clOk (clR T n k p m K).2.2.1 (clR T n k p m K).2.2.2
  | 0, p, m, K, _, h => h
  | k + 1, p, m, K, h5, h => by
    unfold clR
    by_cases q : cOk T n p ∧ ¬ dg T n (cA T n p)
    · rw [if_pos q]
      obtain ⟨⟨q1, q2, q3, q4, q5⟩, _⟩ := q
      have hv : dV T n p ≤ cT T n p ∧ cT T n p ≤ 6 := dV_in q3
      have hz : 1 ≤ cZ T n p := q5.2
      have hz2 : cZ T n p ≤ 99 := wW_le q5.1
      have hk : clOk (m + 1) (addC m (dV T n p) (cT T n p) (cZ T n p) K) := clOk_add (by omega) h hv.1 hv.2 hz hz2
      by_cases q0 : k = 0
      · rw [if_pos q0]
        exact hk
      · rw [if_neg q0]
        by_cases qa : aOk T n (cA T n p) 44
        · rw [if_pos qa]
          exact clR_clOk k _ _ _ (by omega) hk
        · rw [if_neg qa]
          exact hk
    · rw [if_neg q]
      exact h
theorem vC_clOk {T : Nat → Nat} {n : Nat} : clOk (vC T n zF).2.2.1 (vC T n zF).2.2.2 := by
  unfold vC
  split
  · exact clR_clOk 5 _ 0 _ (by omega) (fun c hc => absurd hc (Nat.not_lt_zero c))
  · exact fun c hc => absurd hc (Nat.not_lt_zero c)
theorem OkL.val {T L : Nat → Nat} {n : Nat} (h : OkL L) : OkL (valL T n L) := by
  unfold valL
  by_cases q : vOk T n zF
  · rw [if_pos q]
    obtain ⟨q1, q2, q3, q4⟩ := q
    have hall := (flR_all 7 (v1 T n) q2).2
    have hat : ∀ f, f < 7 → vNew T n L (17 + f) = kdp T n (pF T n (v1 T n) f) ∧ vNew T n L (3 + f) = foV T n (pF T n (v1 T n) f) ∧ vNew T n L (10 + f) = heV T n (pF T n (v1 T n) f) := by
      intro f hf
      rw [vNew_lo (by omega), vNew_lo (by omega), vNew_lo (by omega)]
      exact gW_at hf 7 (by omega) (by omega)
    have hg : Okg (vNew T n L) := by
      intro f hf
      obtain ⟨e1, e2, e3⟩ := hat f hf
      rw [e1, e2, e3]
      exact ⟨(hall f hf).1, foV_le, heV_le (hall f hf)⟩
    have h5 := (vC_K (T := T) (n := n) zF zF).2.2.2.1
    refine OkL.new hg ⟨?_, ?_, ?_, fun f hf => ⟨(hg f hf).2.1, (hg f hf).2.2⟩⟩ (by rw [vNew_24]; exact h5) (vNew_hi (by omega)) ?_
    · rw [vNew_lo (by omega), vW_0]
      omega
    · have e : vNew T n L 1 = L 1 := by
        rw [vNew_lo (by omega)]
        unfold vW
        rw [gW_lo (by omega), va_up_ne _ _ (by omega), zD, va_up_self]
      rw [e]
      exact h.2.2.2.1
    · have e : vNew T n L 2 = dV T n 0 := by
        rw [vNew_lo (by omega)]
        unfold vW
        rw [gW_lo (by omega), va_up_self]
      rw [e]
      have := dV_in q1.1
      omega
    · rw [vNew_24]
      intro c hc
      rw [vNew_cl (by omega) (by omega), vNew_cl (by omega) (by omega), vNew_cl (by omega) (by omega)]
      exact vC_clOk c hc
  · rw [if_neg q]
    exact h
theorem OkL.dm {L : Nat → Nat} {x : Int32} (h : OkL L) : OkL (daysM L x) := by
  unfold daysM
  by_cases q : okDays L x
  · rw [if_pos q]
    exact (h.days _ q.2).1
  · rw [if_neg q]
    exact h
theorem OkL.carry {L : Nat → Nat} {x : Int32} (h : OkL L) : OkL (carryL L x) := by
  unfold carryL
  by_cases q : in6 x ∧ ¬ L 2 = cl x
  · rw [if_pos q]
    obtain ⟨a, _, ha, rfl⟩ := inR_N (by omega) (by omega) q.1
    rw [cl_nI (by omega)]
    exact h.note.up (by omega) (by omega)
  · rw [if_neg q]
    exact h
theorem OkL.lett {L : Nat → Nat} {x y : Int32} (h : OkL L) : OkL (letL L x y) := by
  unfold letL
  by_cases q : okLet x y ∧ ¬ L (3 + cl x) = 9
  · rw [if_pos q]
    obtain ⟨a, _, ha, rfl⟩ := inR_N (by omega) (by omega) q.1.1
    rw [cl_nI (by omega)]
    refine h.note.up (by omega) ⟨fun e => by omega, fun e => by omega, fun e => by omega, fun _ _ => Nat.min_le_left _ _, fun e => by omega⟩
  · rw [if_neg q]
    exact h
theorem OkL.lay {L : Nat → Nat} {x y : Int32} (h : OkL L) : OkL (layL L x y) := by
  unfold layL
  by_cases q : okField x y ∧ ¬ L (10 + cl x) = cl y
  · rw [if_pos q]
    obtain ⟨a, _, ha, rfl⟩ := inR_N (by omega) (by omega) q.1.1
    obtain ⟨b, _, hb, rfl⟩ := inR_N (by omega) (by omega) q.1.2
    rw [cl_nI (by omega), cl_nI (by omega)]
    exact h.note.up (by omega) (by omega)
  · rw [if_neg q]
    exact h
theorem OkL.un {L : Nat → Nat} (h : OkL L) : OkL (undoL L) := by
  unfold undoL
  by_cases q : L 40 = 0
  · rw [if_pos q]
    exact h
  · rw [if_neg q]
    exact h.undo q
theorem OkL.seed {L : Nat → Nat} {x : Int32} (h : OkL L) : OkL (seedL L x) := by
  unfold seedL
  by_cases q : x < 0
  · rw [if_pos q]
    exact h
  · rw [if_neg q]
    obtain ⟨a, ha, rfl⟩ := nI_of q
    rw [cl_nI ha]
    exact h.up (by omega) (by omega)
/-! the state -/
section OKS
variable {L K T ln sz : Nat → Nat} {hk tn : Nat} {Z : Nat → Int64}
theorem ok_L {L' : Nat → Nat} (h : OkS (L, K, hk, tn, T, ln, sz, Z)) (hL : OkL L') : OkS (L', K, hk, tn, T, ln, sz, Z) := ⟨hL, h.2⟩
theorem ok_Z {Z' : Nat → Int64} (h : OkS (L, K, hk, tn, T, ln, sz, Z)) : OkS (L, K, hk, tn, T, ln, sz, Z') := h
theorem ok_image (h : OkS (L, K, hk, tn, T, ln, sz, Z)) : OkS (L, L, 1, tn, T, ln, sz, Z) := ⟨h.1, Or.inr ⟨rfl, h.1⟩, h.2.2⟩
theorem ok_rest (h : OkS (L, K, hk, tn, T, ln, sz, Z)) : OkS (restL hk L K, K, hk, tn, T, ln, sz, Z) := by
  refine ok_L h ?_
  unfold restL
  by_cases q : hk = 0
  · rw [if_pos q]
    exact h.1
  · rw [if_neg q]
    exact h.2.1.elim (fun e => absurd e q) (fun e => e.2)
theorem ok_type {x : Int32} (h : OkS (L, K, hk, tn, T, ln, sz, Z)) : OkS (L, K, hk, typeN tn x, typeT tn T x, ln, sz, Z) := by
  refine ⟨h.1, h.2.1, ?_, ?_, h.2.2.2.2⟩
  · have := h.2.2.1
    show typeN tn x ≤ 80
    unfold typeN
    split
    · rename_i q
      have := q.2
      omega
    · exact h.2.2.1
  · show ∀ i, i < typeN tn x → 32 ≤ typeT tn T x i ∧ typeT tn T x i ≤ 126
    unfold typeN typeT
    by_cases q : okType x ∧ tn < 80
    · rw [if_pos q, if_pos q]
      obtain ⟨a, ha1, ha, rfl⟩ := inR_N (by omega) (by omega) q.1
      rw [cl_nI (by omega)]
      intro i hi
      by_cases e : i = tn
      · rw [e, va_up_self]
        omega
      · rw [va_up_ne _ _ e]
        exact h.2.2.2.1 i (by show i < tn; omega)
    · rw [if_neg q, if_neg q]
      exact h.2.2.2.1
theorem ok_val (h : OkS (L, K, hk, tn, T, ln, sz, Z)) : OkS (valL T tn L, K, hk, 0, T, ln, sz, Z) := ⟨OkL.val h.1, h.2.1, Nat.zero_le _, fun i hi => absurd hi (Nat.not_lt_zero i), h.2.2.2.2⟩
theorem ok_sheet {x y n : Int32} (h : OkS (L, K, hk, tn, T, ln, sz, Z)) : OkS (L, K, hk, tn, T, shN ln x y n, shL sz x y n, shZ Z x y n) := by
  refine ⟨h.1, h.2.1, h.2.2.1, h.2.2.2.1, ?_⟩
  show ∀ s, s < 4 → shN ln x y n s ≤ 4 ∧ shL sz x y n s ≤ 24
  have hq := h.2.2.2.2
  unfold shN shL
  by_cases q : okSh x y n ∧ ¬ n < 0
  · rw [if_pos q, if_pos q]
    obtain ⟨⟨q1, q2, q3⟩, q4⟩ := q
    obtain ⟨b, _, hb, rfl⟩ := inR_N (by omega) (by omega) q2
    obtain ⟨d, hd, rfl⟩ := nI_of q4
    rw [nI_leI hd (by omega)] at q3
    rw [cl_nI (by omega), cl_nI (by omega)]
    intro s hs
    by_cases e : s = cl x
    · rw [e, va_up_self, va_up_self]
      omega
    · rw [va_up_ne _ _ e, va_up_ne _ _ e]
      exact hq s hs
  · rw [if_neg q, if_neg q]
    exact hq
theorem ok_drop {x : Int32} (h : OkS (L, K, hk, tn, T, ln, sz, Z)) : OkS (L, K, hk, tn, T, drN ln x, sz, Z) := by
  refine ⟨h.1, h.2.1, h.2.2.1, h.2.2.2.1, ?_⟩
  show ∀ s, s < 4 → drN ln x s ≤ 4 ∧ sz s ≤ 24
  have hq := h.2.2.2.2
  unfold drN
  split
  · intro s hs
    by_cases e : s = cl x
    · rw [e, va_up_self]
      exact ⟨Nat.zero_le _, (hq _ (by rw [← e]; exact hs)).2⟩
    · rw [va_up_ne _ _ e]
      exact hq s hs
  · exact hq
end OKS
theorem ok_zD : OkL (zD 1) := by
  have hz : ∀ i, i ≠ 1 → zD 1 i = 0 := fun i hi => zD_ne hi
  have hg : Okg (zD 1) := fun f hf => by
    rw [hz _ (by omega), hz _ (by omega), hz _ (by omega)]
    omega
  refine OkL.new hg ⟨by rw [hz 0 (by omega)]; omega, ?_, by rw [hz 2 (by omega)]; omega, fun f hf => ⟨(hg f hf).2.1, (hg f hf).2.2⟩⟩ (by rw [hz 24 (by omega)]; omega) (hz 40 (by omega)) ?_
  · show va_up zF 1 1 1 < _
    rw [va_up_self]
    omega
  · intro c hc
    rw [hz 24 (by omega)] at hc
    exact absurd hc (Nat.not_lt_zero c)
theorem ok_start : OkS (zD 1, zD 1, 0, 0, zF, zF, zF, fun _ => 0) := ⟨ok_zD, Or.inl rfl, Nat.zero_le _, fun i hi => absurd hi (Nat.not_lt_zero i), fun s _ => ⟨Nat.zero_le _, Nat.zero_le _⟩⟩
