/-! ALL: the state that both sides stand for, and what each side's cells hold of it -/
abbrev GS : Type := (Nat → Nat) × (Nat → Nat) × Nat × Nat × (Nat → Nat) × (Nat → Nat) × (Nat → Nat) × (Nat → Int64)
abbrev sL (S : GS) : Nat → Nat := S.1
abbrev sK (S : GS) : Nat → Nat := S.2.1
abbrev sH (S : GS) : Nat := S.2.2.1
abbrev sN (S : GS) : Nat := S.2.2.2.1
abbrev sT (S : GS) : Nat → Nat := S.2.2.2.2.1
abbrev sLn (S : GS) : Nat → Nat := S.2.2.2.2.2.1
abbrev sSz (S : GS) : Nat → Nat := S.2.2.2.2.2.2.1
abbrev sZ (S : GS) : Nat → Int64 := S.2.2.2.2.2.2.2
def laneI (k : Nat) : Int32 := if k = 0 then -1 else nI (k - 1)
def OkL (L : Nat → Nat) : Prop := Okg L ∧ L 2 < 7 ∧ L 0 ≤ 9999 ∧ L 1 < 2147483648 ∧ L 24 ≤ 5 ∧ L 40 ≤ 8 ∧
  (∀ c, c < L 24 → L (25 + c) ≤ L (30 + c) ∧ L (30 + c) ≤ 6 ∧ 1 ≤ L (35 + c) ∧ L (35 + c) ≤ 99) ∧
  (∀ p, p < L 40 → L (41 + 17 * p) ≤ 9999 ∧ L (41 + 17 * p + 1) < 2147483648 ∧ L (41 + 17 * p + 2) < 7 ∧ ∀ f, f < 7 → L (41 + 17 * p + (3 + f)) ≤ 9 ∧ L (41 + 17 * p + (10 + f)) ≤ 4)
def OkS (S : GS) : Prop := OkL (sL S) ∧ (sH S = 0 ∨ (sH S = 1 ∧ OkL (sK S))) ∧ sN S ≤ 80 ∧ (∀ i, i < sN S → 32 ≤ sT S i ∧ sT S i ≤ 126) ∧ ∀ s, s < 4 → sLn S s ≤ 4 ∧ sSz S s ≤ 24
/-- a land of the class: what it holds stands for L; what is behind the claims, the past is anything -/
def XLand (g : GE) (b : Nat) (L : Nat → Nat) (w : Nat → va_E) : Prop := ∃ (π : Nat → Nat) (P : Nat → Nat → Nat) (K : Nat → Nat),
  GAt g b (nI (L 40)) (nI (L 24)) L w ∧ CAt g b K w ∧ (∀ c, c < L 24 → K (25 + c) = L (25 + c) ∧ K (30 + c) = L (30 + c) ∧ K (35 + c) = L (35 + c)) ∧
  PArr g b π w ∧ PMom g b π P w ∧ ∀ p, p < L 40 → ∀ i, i < 17 → P p i = L (41 + 17 * p + i)
theorem XLand.fr {g : GE} {b : Nat} {L : Nat → Nat} {w w' : Nat → va_E} (h : XLand g b L w) (f : ∀ j, b ≤ j → j < b + 33 → w' j = w j) : XLand g b L w' := by
  obtain ⟨π, P, K, h1, h2, h3, h4, h5, h7⟩ := h
  exact ⟨π, P, K, h1.fr (fun j a c => f j (by omega) (by omega)), h2.fr (fun j a c => f j (by omega) (by omega)), h3, h4.fr (fun j a c => f j (by omega) (by omega)), h5.fr (fun j a c => f j (by omega) (by omega)), h7⟩
def XTrial (g : GE) (w : Nat → va_E) : Prop := ∃ (x y : Int32) (L K : Nat → Nat), GAt g 67 x y L w ∧ CAt g 67 K w
def cW0 (g : GE) (wh al : Nat) : va_E := .inr (5, [.ref (gad g 101), .ref (gad g 102), .int (nI wh), .ref (gad g 103), .ref (gad g 104), .long (lN al), .ref (gad g 105)])
def cF0 (a b : Nat) : va_E := .inr (0, [.long (lN a), .long (lN b)])
def cJ7 (g : GE) (O : Nat → Nat) : va_E := .inl (gJ g, 7, .inr (.inl (cL 7 0 O)))
def XWays (g : GE) (w : Nat → va_E) : Prop := ∃ (wh al a b : Nat) (on bk O A : Nat → Nat), w 100 = cW0 g wh al ∧ w 101 = cI7 g 0 on ∧ w 102 = cI7 g 0 bk ∧ w 103 = cJ7 g O ∧ w 104 = cJ7 g A ∧ w 105 = cF0 a b
def XFr (_ : GE) (w : Nat → va_E) : Prop := ∃ (a b c d : Nat), w 106 = cF0 a b ∧ w 107 = cF0 c d
def XRead (g : GE) (n : Nat) (T : Nat → Nat) (w : Nat → va_E) : Prop := ∃ (po : Nat), w 108 = .inr (3, [.ref (gad g 109), .int (nI n), .int (nI po)]) ∧ w 109 = .inl (gI g, 80, .inl (cK 80 0 T))
def XSheet (g : GE) (s : Nat) (ln sz : Nat) (Z : Nat → Int64) (w : Nat → va_E) : Prop := ∃ (hd la le : Nat) (Y : Nat → Int64), w (111 + 2 * s) = .inr (4, [.int (nI hd), .int (nI la), .int (nI le), .ref (gad g (112 + 2 * s))]) ∧ w (112 + 2 * s) = .inl (gJ g, 24, .inr (.inl (kK 0 24 (24 * s) Y))) ∧
  (ln = 0 → hd = 0) ∧ (0 < ln → hd = 1 ∧ la = ln - 1 ∧ le = sz ∧ ∀ i, i < 24 → Y (24 * s + i) = Z (24 * s + i))
def XShs (g : GE) (ln sz : Nat → Nat) (Z : Nat → Int64) (w : Nat → va_E) : Prop := w 110 = .inl (gS g, 4, .inr (.inr (.inr (.inr (kK none 4 0 (fun s => some (gad g (111 + 2 * s)))))))) ∧ ∀ s, s < 4 → XSheet g s (ln s) (sz s) Z w
def cX0 (g : GE) (hk : Nat) : va_E := .inr (6, [.ref (gad g 1), .ref (gad g 34), .ref (gad g 67), .ref (gad g 100), .ref (gad g 106), .ref (gad g 107), .ref (gad g 108), .ref (gad g 110), .int (nI hk)])
def XKept (g : GE) (hk : Nat) (K : Nat → Nat) (w : Nat → va_E) : Prop := ∃ K', XLand g 34 K' w ∧ (hk = 1 → K' = K)
def XAll (g : GE) (S : GS) (w : Nat → va_E) : Prop := w 0 = cX0 g (sH S) ∧ XLand g 1 (sL S) w ∧ XKept g (sH S) (sK S) w ∧ XTrial g w ∧ XWays g w ∧ XFr g w ∧ XRead g (sN S) (sT S) w ∧ XShs g (sLn S) (sSz S) (sZ S) w
theorem XTrial.fr {g : GE} {w w' : Nat → va_E} (h : XTrial g w) (f : ∀ j, 67 ≤ j → j < 100 → w' j = w j) : XTrial g w' := by
  obtain ⟨x, y, L, K, h1, h2⟩ := h
  exact ⟨x, y, L, K, h1.fr (fun j a c => f j (by omega) (by omega)), h2.fr (fun j a c => f j (by omega) (by omega))⟩
theorem XWays.fr {g : GE} {w w' : Nat → va_E} (h : XWays g w) (f : ∀ j, 100 ≤ j → j < 106 → w' j = w j) : XWays g w' := by
  obtain ⟨wh, al, a, b, on, bk, O, A, h1, h2, h3, h4, h5, h6⟩ := h
  exact ⟨wh, al, a, b, on, bk, O, A, (f _ (by omega) (by omega)).trans h1, (f _ (by omega) (by omega)).trans h2, (f _ (by omega) (by omega)).trans h3, (f _ (by omega) (by omega)).trans h4, (f _ (by omega) (by omega)).trans h5, (f _ (by omega) (by omega)).trans h6⟩
theorem XFr.fr {g : GE} {w w' : Nat → va_E} (h : XFr g w) (f : ∀ j, 106 ≤ j → j < 108 → w' j = w j) : XFr g w' := by
  obtain ⟨a, b, c, d, h1, h2⟩ := h
  exact ⟨a, b, c, d, (f _ (by omega) (by omega)).trans h1, (f _ (by omega) (by omega)).trans h2⟩
theorem XRead.fr {g : GE} {n : Nat} {T : Nat → Nat} {w w' : Nat → va_E} (h : XRead g n T w) (f : ∀ j, 108 ≤ j → j < 110 → w' j = w j) : XRead g n T w' := by
  obtain ⟨po, h1, h2⟩ := h
  exact ⟨po, (f _ (by omega) (by omega)).trans h1, (f _ (by omega) (by omega)).trans h2⟩
theorem XSheet.fr {g : GE} {s ln sz : Nat} {Z : Nat → Int64} {w w' : Nat → va_E} (h : XSheet g s ln sz Z w) (f : ∀ j, 111 + 2 * s ≤ j → j < 113 + 2 * s → w' j = w j) : XSheet g s ln sz Z w' := by
  obtain ⟨hd, la, le, Y, h1, h2, h3, h4⟩ := h
  exact ⟨hd, la, le, Y, (f _ (by omega) (by omega)).trans h1, (f _ (by omega) (by omega)).trans h2, h3, h4⟩
theorem XShs.fr {g : GE} {ln sz : Nat → Nat} {Z : Nat → Int64} {w w' : Nat → va_E} (h : XShs g ln sz Z w) (f : ∀ j, 110 ≤ j → j < 119 → w' j = w j) : XShs g ln sz Z w' :=
  ⟨(f _ (by omega) (by omega)).trans h.1, fun s hs => (h.2 s hs).fr (fun j a c => f j (by omega) (by omega))⟩
theorem XKept.fr {g : GE} {hk : Nat} {K : Nat → Nat} {w w' : Nat → va_E} (h : XKept g hk K w) (f : ∀ j, 34 ≤ j → j < 67 → w' j = w j) : XKept g hk K w' := by
  obtain ⟨K', h1, h2⟩ := h
  exact ⟨K', h1.fr (fun j a c => f j a c), h2⟩
theorem XAll.fr {g : GE} {S : GS} {w w' : Nat → va_E} (h : XAll g S w) (f : ∀ j, j < 119 → w' j = w j) : XAll g S w' := by
  obtain ⟨h1, h2, h3, h4, h5, h6, h7, h8⟩ := h
  exact ⟨(f _ (by omega)).trans h1, h2.fr (fun j a c => f j (by omega)), h3.fr (fun j a c => f j (by omega)), h4.fr (fun j a c => f j (by omega)), h5.fr (fun j a c => f j (by omega)), h6.fr (fun j a c => f j (by omega)), h7.fr (fun j a c => f j (by omega)), h8.fr (fun j a c => f j (by omega))⟩
/-! the reference's cells -/
def cM177 (g : GE) (L : Nat → Nat) : va_E := .inl (gI g, 177, .inl (cK 177 0 L))
def cMO (g : GE) (le po ik ao mu md bu bd : Nat) (nu : Int32) : va_E := .inr (7, [.ref (gad g 120), .ref (gad g 121), .ref (gad g 122), .int (nI le), .ref (gad g 123), .int (nI po), .int nu, .ref (gad g 124), .ref (gad g 125), .ref (gad g 126), .ref (gad g 127), .int (nI ik), .ref (gad g 128), .ref (gad g 129), .long (lN ao), .long (lN mu), .long (lN md), .long (lN bu), .long (lN bd)])
def MAll (g : GE) (S : GS) (w : Nat → va_E) : Prop := ∃ (po ao mu md bu bd : Nat) (nu : Int32) (TR RD KP O T : Nat → Nat),
  w 119 = cMO g (sN S) po (sH S) ao mu md bu bd nu ∧ w 120 = .inl (gI g, 4, .inl (kK 0 4 0 (fun s => laneI (sLn S s)))) ∧ w 121 = .inl (gI g, 4, .inl (cK 4 0 (sSz S))) ∧ w 122 = .inl (gJ g, 96, .inr (.inl (kK 0 96 0 (sZ S)))) ∧ w 123 = .inl (gI g, 80, .inl (cK 80 0 (sT S))) ∧
  w 124 = cM177 g (sL S) ∧ w 125 = cM177 g TR ∧ w 126 = cM177 g RD ∧ w 127 = cM177 g KP ∧ (sH S = 1 → KP = sK S) ∧ w 128 = cJ7 g O ∧ w 129 = cJ7 g T
theorem MAll.fr {g : GE} {S : GS} {w w' : Nat → va_E} (h : MAll g S w) (f : ∀ j, 119 ≤ j → w' j = w j) : MAll g S w' := by
  obtain ⟨po, ao, mu, md, bu, bd, nu, TR, RD, KP, O, T, h0, h1, h2, h3, h4, h5, h6, h7, h8, h9, h10, h11⟩ := h
  exact ⟨po, ao, mu, md, bu, bd, nu, TR, RD, KP, O, T, (f _ (by omega)).trans h0, (f _ (by omega)).trans h1, (f _ (by omega)).trans h2, (f _ (by omega)).trans h3, (f _ (by omega)).trans h4, (f _ (by omega)).trans h5, (f _ (by omega)).trans h6, (f _ (by omega)).trans h7, (f _ (by omega)).trans h8, h9, (f _ (by omega)).trans h10, (f _ (by omega)).trans h11⟩
/-! what the calls answer -/
def cl (x : Int32) : Nat := x.toNatClampNeg
theorem cl_nI {k : Nat} (h : k < 2 ^ 31) : cl (nI k) = k := nI_clamp h
abbrev in6 (x : Int32) : Prop := inR x (nI 0) (nI 6)
abbrev in9 (x : Int32) : Prop := inR x (nI 0) (nI 9)
def odF (L : Nat → Nat) (n : Nat) : Nat → Nat := spreadO (onF L) (backF L) 10 (L 2) n
def odC (L : Nat → Nat) (c n : Nat) : Nat → Nat := spreadO (onC L c) (backC L c) 100 (L 2) n
def chanceS (L : Nat → Nat) (x y z : Int32) : Int32 := if in6 x ∧ in9 y ∧ inR z (nI 0) (nI 1) then nI (if cl z = 0 then redU (odF L (cl y) (cl x)) (10 ^ cl y) else redD (odF L (cl y) (cl x)) (10 ^ cl y)) else -1
def bestF (O : Nat → Nat) : Nat → Nat
  | 0 => 0
  | i + 1 => if O (bestF O i) < O (i + 1) then i + 1 else bestF O i
def likelyS (L : Nat → Nat) (y : Int32) : Int32 := if in9 y then nI (bestF (odF L (cl y)) 6) else -1
def mU (L : Nat → Nat) (a t : Nat) : Nat := redU (mS (onF L) (backF L) a t) (mP (onF L) t)
def mD (L : Nat → Nat) (a t : Nat) : Nat := redD (mS (onF L) (backF L) a t) (mP (onF L) t)
def meanS (L : Nat → Nat) (x z : Int32) : Int64 := if inR x (nI (L 2)) (nI 6) ∧ inR z (nI 0) (nI 1) then lN (if cl z = 0 then mU L (L 2) (cl x) else mD L (L 2) (cl x)) else -1
def sumO (O : Nat → Nat) (a : Nat) : Nat → Nat
  | 0 => 0
  | n + 1 => sumO O a n + O (a + n)
def rightN (L : Nat → Nat) (c n : Nat) : Nat := sumO (odF L n) (L (25 + c)) (L (30 + c) + 1 - L (25 + c))
def rightS (L : Nat → Nat) (x y z : Int32) : Int32 := if (inR x (nI 0) (nI (L 24) - nI 1)) ∧ in9 y ∧ inR z (nI 0) (nI 2) then nI (if cl z = 2 then L (35 + cl x) * rightN L (cl x) (cl y) / 10 ^ cl y else if cl z = 0 then redU (rightN L (cl x) (cl y)) (10 ^ cl y) else redD (rightN L (cl x) (cl y)) (10 ^ cl y)) else -1
def setF (p : Nat → Bool) : Nat → Int32
  | 0 => nI 0
  | i + 1 => if p i then setF p i ||| (nI 1 <<< (nI i &&& 31)) else setF p i
def sureS (L : Nat → Nat) (y : Int32) : Int32 := if in9 y then setF (fun f => decide (0 < odF L (cl y) f)) 7 else -1
def dnF (L : Nat → Nat) (t : Nat) : Nat → Nat
  | 0 => 0
  | o + 1 => if o = 0 ∨ mU (va_up L (10 + o) 0) (L 2) t * mD (va_up L (10 + dnF L t o) 0) (L 2) t < mU (va_up L (10 + dnF L t o) 0) (L 2) t * mD (va_up L (10 + o) 0) (L 2) t then o else dnF L t o
def downS (L : Nat → Nat) (x z : Int32) : Int64 := if inR x (nI (L 2)) (nI 6) ∧ inR z (nI 0) (nI 2) then lN (if cl z = 0 then dnF L (cl x) 7 else if cl z = 1 then mU (va_up L (10 + dnF L (cl x) 7) 0) (L 2) (cl x) else mD (va_up L (10 + dnF L (cl x) 7) 0) (L 2) (cl x)) else -1
/-- the first of n from i on that is so; none: -4 -/
def firstF (p : Nat → Bool) (i : Nat) : Nat → Int32
  | 0 => -4
  | n + 1 => if p i then nI i else firstF p (i + 1) n
def keepS (L : Nat → Nat) (y z : Int32) : Int32 := if inR y (nI 1) (nI 9) ∧ inR z (nI 0) (nI 100) then firstF (fun v => decide (10 ^ cl y * cl z ≤ odF (va_up L (3 + L 2) v) (cl y) (L 2) * 100)) 0 10 else -1
def earlyS (L : Nat → Nat) (x z : Int32) : Int32 := if in6 x ∧ inR z (nI 0) (nI 100) then firstF (fun n => decide (10 ^ n * cl z ≤ odF L n (cl x) * 100)) 0 10 else -1
def daysF (L : Nat → Nat) : Nat → (Nat → Nat)
  | 0 => L
  | n + 1 => dayF (daysF L n)
def nextS (L : Nat → Nat) (x : Int32) : Int32 := if inR x (nI 0) (nI 40) then nI (daysF L (cl x) 2) else -1
def winterS (L : Nat → Nat) (x y c z : Int32) : Int32 := if in6 x ∧ inR y (nI 0) (nI 4) ∧ inR c (nI 0) (nI 10) ∧ inR z (nI 0) (nI 1) then nI (if cl z = 0 then redU (odC L (cl c) (cl y) (cl x)) (100 ^ cl y) else redD (odC L (cl c) (cl y) (cl x)) (100 ^ cl y)) else -1
