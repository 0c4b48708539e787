/-! ROWS BY NATURALS: ints nI a, longs lN a, predicates bI P -/
def bI (P : Prop) [Decidable P] : Int32 := if P then 1 else 0
theorem bI_t {P : Prop} [Decidable P] (h : P) : bI P = 1 := if_pos h
theorem bI_f {P : Prop} [Decidable P] (h : ¬ P) : bI P = 0 := if_neg h
theorem bI_nar {P : Prop} [Decidable P] : narrow .boolean (.int (bI P)) = .int (bI P) := by
  by_cases h : P
  · rw [bI_t h]; rfl
  · rw [bI_f h]; rfl
theorem bI_fit {P : Prop} [Decidable P] : fits .boolean (.int (bI P)) = true := by
  by_cases h : P
  · rw [bI_t h]; rfl
  · rw [bI_f h]; rfl
theorem bI_eq0 {P : Prop} [Decidable P] : bI P = 0 ↔ ¬ P := by
  by_cases h : P
  · rw [bI_t h]; simp [h]
  · rw [bI_f h]; simp [h]
theorem bI_congr {P Q : Prop} [Decidable P] [Decidable Q] (h : P ↔ Q) : bI P = bI Q := by
  by_cases hp : P
  · rw [bI_t hp, bI_t (h.mp hp)]
  · rw [bI_f hp, bI_f (fun q => hp (h.mpr q))]
def kK {α : Type} (d : α) (n o : Nat) (F : Nat → α) : Nat → α := fun j => if j < n then F (o + j) else d
theorem kK_at {α : Type} {d : α} {n o k : Nat} {F : Nat → α} (h : k < n) : kK d n o F k = F (o + k) := if_pos h
theorem kK_congr {α : Type} {d : α} {n o o' : Nat} {F G : Nat → α} (h : ∀ j, j < n → F (o + j) = G (o' + j)) : kK d n o F = kK d n o' G := by
  funext j
  simp only [kK]
  split
  · next hj => exact h j hj
  · rfl
theorem kK_eq {α : Type} {d : α} {n o o' : Nat} {F G : Nat → α} (h : kK d n o F = kK d n o' G) {j : Nat} (hj : j < n) : F (o + j) = G (o' + j) := by
  have := congrFun h j
  rwa [kK_at hj, kK_at hj] at this
theorem kK_up {α : Type} {d : α} {n o k : Nat} {F : Nat → α} (v : α) (h : k < n) : va_up (kK d n o F) k v = kK d n o (va_up F (o + k) v) := by
  funext j
  by_cases hj : j = k
  · subst hj
    rw [va_up_self, kK_at h, va_up_self]
  · rw [va_up_ne _ _ hj]
    simp only [kK]
    split
    · rw [va_up_ne _ _ (by omega)]
    · rfl
theorem kK_cpy {α : Type} {d d' : α} {n0 n1 o0 o1 : Nat} {F G : Nat → α} {a b n : Nat} (h0 : a + n ≤ n0) (h1 : b + n ≤ n1) :
    va_cpy (kK d n0 o0 F) (kK d' n1 o1 G) a b n = kK d' n1 o1 (fun i => if o1 + b ≤ i ∧ i < o1 + b + n then F (o0 + a + (i - (o1 + b))) else G i) := by
  funext j
  by_cases hj : b ≤ j ∧ j < b + n
  · rw [pk_cpy_in hj.1 hj.2, kK_at (by omega), kK_at (by omega), if_pos (by omega)]
    congr 1
    omega
  · rw [pk_cpy_out (by omega)]
    simp only [kK]
    split
    · rw [if_neg (by omega)]
    · rfl
theorem kK_cpyF {α : Type} {d : α} {n o0 o1 : Nat} {F G : Nat → α} : va_cpy (kK d n o0 F) (kK d n o1 G) 0 0 n = kK d n o0 F := by
  funext j
  by_cases hj : j < n
  · rw [pk_cpy_in (Nat.zero_le _) (by omega)]
    congr 1
    omega
  · rw [pk_cpy_out (by omega)]
    simp only [kK]
    rw [if_neg hj, if_neg hj]
def cK (n o : Nat) (L : Nat → Nat) : Nat → Int32 := kK 0 n o (fun i => nI (L i))
def cL (n o : Nat) (L : Nat → Nat) : Nat → Int64 := kK 0 n o (fun i => lN (L i))
theorem updI (f : Nat → Int32) (k : Nat) (x : Int32) : upd f k x = va_up f k x := rfl
theorem updL (f : Nat → Int64) (k : Nat) (x : Int64) : vp_updL f k x = va_up f k x := rfl
theorem va_up_f {α β : Type} (h : α → β) (L : Nat → α) (k : Nat) (v : α) : va_up (fun i => h (L i)) k (h v) = fun i => h (va_up L k v i) := by
  funext i
  simp only [va_up]
  split <;> rfl
theorem cK_up {n o k : Nat} {L : Nat → Nat} (v : Nat) (h : k < n) : va_up (cK n o L) k (nI v) = cK n o (va_up L (o + k) v) := by
  rw [cK, kK_up _ h, va_up_f nI]; rfl
theorem cL_up {n o k : Nat} {L : Nat → Nat} (v : Nat) (h : k < n) : va_up (cL n o L) k (lN v) = cL n o (va_up L (o + k) v) := by
  rw [cL, kK_up _ h, va_up_f lN]; rfl
theorem cK_congr {n o o' : Nat} {F G : Nat → Nat} (h : ∀ j, j < n → F (o + j) = G (o' + j)) : cK n o F = cK n o' G := kK_congr (fun j hj => by rw [h j hj])
theorem cL_congr {n o o' : Nat} {F G : Nat → Nat} (h : ∀ j, j < n → F (o + j) = G (o' + j)) : cL n o F = cL n o' G := kK_congr (fun j hj => by rw [h j hj])
theorem cK_cpy {n0 n1 o0 o1 : Nat} {F G : Nat → Nat} {a b n : Nat} (h0 : a + n ≤ n0) (h1 : b + n ≤ n1) :
    va_cpy (cK n0 o0 F) (cK n1 o1 G) a b n = cK n1 o1 (fun i => if o1 + b ≤ i ∧ i < o1 + b + n then F (o0 + a + (i - (o1 + b))) else G i) := by
  rw [cK, cK, kK_cpy h0 h1, cK]
  congr 1
  funext i
  split <;> rfl
theorem cK_cpyF {n o0 o1 : Nat} {F G : Nat → Nat} : va_cpy (cK n o0 F) (cK n o1 G) 0 0 n = cK n o0 F := kK_cpyF
theorem cL_cpyF {n o0 o1 : Nat} {F G : Nat → Nat} : va_cpy (cL n o0 F) (cL n o1 G) 0 0 n = cL n o0 F := kK_cpyF
theorem nI_m1 : (-1 : Int32) = nI 4294967295 := by decide
section XNR
variable {p : Program} {l : Launch} {e : Env} {R : Room} {s : State} {m : MethodId} {args : Array Value} {below : List Frame} {meth : Method} {c : Code} {H : Heap} {locs : List Loc} {cells slots : Nat} {Q : State → Prop}
variable {cc : ByteArray} {nL pc : Nat} {ls : Array Slot} {rest : List Value} {Ts : List Cond} {own : String}
theorem xadd (C : CallFix p m c cc nL s args Ts own) {a b : Nat} (hdg : decode cc pc = .ok (.iadd, 1)) (k : W p l e R s m args below meth c H locs cells slots Q (F0 m (pc + 1) ls (.int (nI (a + b)) :: rest))) : W p l e R s m args below meth c H locs cells slots Q (F0 m pc ls (.int (nI b) :: .int (nI a) :: rest)) :=
  lv_iadd C.1 C.2.1 hdg (by rw [nI_add]; exact k)
theorem xsub (C : CallFix p m c cc nL s args Ts own) {a b : Nat} (h : b ≤ a) (hdg : decode cc pc = .ok (.isub, 1)) (k : W p l e R s m args below meth c H locs cells slots Q (F0 m (pc + 1) ls (.int (nI (a - b)) :: rest))) : W p l e R s m args below meth c H locs cells slots Q (F0 m pc ls (.int (nI b) :: .int (nI a) :: rest)) :=
  lv_isub C.1 C.2.1 hdg (by rw [pk_sub h]; exact k)
theorem xmul (C : CallFix p m c cc nL s args Ts own) {a b : Nat} (hdg : decode cc pc = .ok (.imul, 1)) (k : W p l e R s m args below meth c H locs cells slots Q (F0 m (pc + 1) ls (.int (nI (a * b)) :: rest))) : W p l e R s m args below meth c H locs cells slots Q (F0 m pc ls (.int (nI b) :: .int (nI a) :: rest)) :=
  lv_imul C.1 C.2.1 hdg (by rw [pk_mul]; exact k)
theorem xdiv (C : CallFix p m c cc nL s args Ts own) {a b : Nat} (ha : a < 2 ^ 31) (h0 : 0 < b) (hb : b < 2 ^ 31) (hdg : decode cc pc = .ok (.idiv, 1)) (k : W p l e R s m args below meth c H locs cells slots Q (F0 m (pc + 1) ls (.int (nI (a / b)) :: rest))) : W p l e R s m args below meth c H locs cells slots Q (F0 m pc ls (.int (nI b) :: .int (nI a) :: rest)) :=
  lv_idiv C.1 C.2.1 hdg (nI_ne0 h0 hb) (by rw [pk_div ha h0 hb]; exact k)
theorem xrem (C : CallFix p m c cc nL s args Ts own) {a b : Nat} (ha : a < 2 ^ 31) (h0 : 0 < b) (hb : b < 2 ^ 31) (hdg : decode cc pc = .ok (.irem, 1)) (k : W p l e R s m args below meth c H locs cells slots Q (F0 m (pc + 1) ls (.int (nI (a % b)) :: rest))) : W p l e R s m args below meth c H locs cells slots Q (F0 m pc ls (.int (nI b) :: .int (nI a) :: rest)) :=
  lv_irem C.1 C.2.1 hdg (nI_ne0 h0 hb) (by rw [pk_rem ha h0 hb]; exact k)
theorem xladd (C : CallFix p m c cc nL s args Ts own) {a b : Nat} (hdg : decode cc pc = .ok (.ladd, 1)) (k : W p l e R s m args below meth c H locs cells slots Q (F0 m (pc + 1) ls (.long (lN (a + b)) :: rest))) : W p l e R s m args below meth c H locs cells slots Q (F0 m pc ls (.long (lN b) :: .long (lN a) :: rest)) :=
  lv_ladd C.1 C.2.1 hdg (by rw [lN_add]; exact k)
theorem xlsub (C : CallFix p m c cc nL s args Ts own) {a b : Nat} (h : b ≤ a) (hdg : decode cc pc = .ok (.lsub, 1)) (k : W p l e R s m args below meth c H locs cells slots Q (F0 m (pc + 1) ls (.long (lN (a - b)) :: rest))) : W p l e R s m args below meth c H locs cells slots Q (F0 m pc ls (.long (lN b) :: .long (lN a) :: rest)) :=
  lv_lsub C.1 C.2.1 hdg (by rw [lN_sub h]; exact k)
theorem xlmul (C : CallFix p m c cc nL s args Ts own) {a b : Nat} (hdg : decode cc pc = .ok (.lmul, 1)) (k : W p l e R s m args below meth c H locs cells slots Q (F0 m (pc + 1) ls (.long (lN (a * b)) :: rest))) : W p l e R s m args below meth c H locs cells slots Q (F0 m pc ls (.long (lN b) :: .long (lN a) :: rest)) :=
  lv_lmul C.1 C.2.1 hdg (by rw [lN_mul]; exact k)
theorem lN_ne0 {b : Nat} (h0 : 0 < b) (hb : b < 2 ^ 63) : ¬ lN b = 0 := by
  intro h
  have := (pk_lEQ hb (by decide : (0 : Nat) < 2 ^ 63)).mp h
  omega
theorem xldiv (C : CallFix p m c cc nL s args Ts own) {a b : Nat} (ha : a < 2 ^ 63) (h0 : 0 < b) (hb : b < 2 ^ 63) (hdg : decode cc pc = .ok (.ldiv, 1)) (k : W p l e R s m args below meth c H locs cells slots Q (F0 m (pc + 1) ls (.long (lN (a / b)) :: rest))) : W p l e R s m args below meth c H locs cells slots Q (F0 m pc ls (.long (lN b) :: .long (lN a) :: rest)) :=
  lv_ldiv C.1 C.2.1 hdg (lN_ne0 h0 hb) (by rw [pk_lDiv ha h0 hb]; exact k)
theorem xlrem (C : CallFix p m c cc nL s args Ts own) {a b : Nat} (ha : a < 2 ^ 63) (h0 : 0 < b) (hb : b < 2 ^ 63) (hdg : decode cc pc = .ok (.lrem, 1)) (k : W p l e R s m args below meth c H locs cells slots Q (F0 m (pc + 1) ls (.long (lN (a % b)) :: rest))) : W p l e R s m args below meth c H locs cells slots Q (F0 m pc ls (.long (lN b) :: .long (lN a) :: rest)) :=
  lv_lrem C.1 C.2.1 hdg (lN_ne0 h0 hb) (by rw [pk_lRem ha h0 hb]; exact k)
theorem xi2l (C : CallFix p m c cc nL s args Ts own) {a : Nat} (ha : a < 2 ^ 31) (hdg : decode cc pc = .ok (.i2l, 1)) (k : W p l e R s m args below meth c H locs cells slots Q (F0 m (pc + 1) ls (.long (lN a) :: rest))) : W p l e R s m args below meth c H locs cells slots Q (F0 m pc ls (.int (nI a) :: rest)) :=
  lv_i2l C.1 C.2.1 hdg (nI_l ha) k
theorem xl2i (C : CallFix p m c cc nL s args Ts own) {a : Nat} (hdg : decode cc pc = .ok (.l2i, 1)) (k : W p l e R s m args below meth c H locs cells slots Q (F0 m (pc + 1) ls (.int (nI a) :: rest))) : W p l e R s m args below meth c H locs cells slots Q (F0 m pc ls (.long (lN a) :: rest)) :=
  lv_l2i C.1 C.2.1 hdg (lN_i a) k
theorem xeq (C : CallFix p m c cc nL s args Ts own) {a b : Nat} {off : Int} {tgt : Nat} (ha : a < 2 ^ 31) (hb : b < 2 ^ 31) (hdg : decode cc pc = .ok (.if_icmp .eq off, 3)) (ht : (pc : Int) + off = (tgt : Int)) (kt : a = b → W p l e R s m args below meth c H locs cells slots Q (F0 m tgt ls rest)) (kf : ¬ a = b → W p l e R s m args below meth c H locs cells slots Q (F0 m (pc + 3) ls rest)) : W p l e R s m args below meth c H locs cells slots Q (F0 m pc ls (.int (nI b) :: .int (nI a) :: rest)) :=
  lv_icmp_eq C.1 C.2.1 hdg ht (fun h => kt ((nI_eq ha hb).mp h)) (fun h => kf (fun q => h ((nI_eq ha hb).mpr q)))
theorem xne (C : CallFix p m c cc nL s args Ts own) {a b : Nat} {off : Int} {tgt : Nat} (ha : a < 2 ^ 31) (hb : b < 2 ^ 31) (hdg : decode cc pc = .ok (.if_icmp .ne off, 3)) (ht : (pc : Int) + off = (tgt : Int)) (kt : ¬ a = b → W p l e R s m args below meth c H locs cells slots Q (F0 m tgt ls rest)) (kf : a = b → W p l e R s m args below meth c H locs cells slots Q (F0 m (pc + 3) ls rest)) : W p l e R s m args below meth c H locs cells slots Q (F0 m pc ls (.int (nI b) :: .int (nI a) :: rest)) :=
  lv_icmp_ne C.1 C.2.1 hdg ht (fun h => kt (fun q => h ((nI_eq ha hb).mpr q))) (fun h => kf ((nI_eq ha hb).mp h))
theorem xlt (C : CallFix p m c cc nL s args Ts own) {a b : Nat} {off : Int} {tgt : Nat} (ha : a < 2 ^ 31) (hb : b < 2 ^ 31) (hdg : decode cc pc = .ok (.if_icmp .lt off, 3)) (ht : (pc : Int) + off = (tgt : Int)) (kt : a < b → W p l e R s m args below meth c H locs cells slots Q (F0 m tgt ls rest)) (kf : ¬ a < b → W p l e R s m args below meth c H locs cells slots Q (F0 m (pc + 3) ls rest)) : W p l e R s m args below meth c H locs cells slots Q (F0 m pc ls (.int (nI b) :: .int (nI a) :: rest)) :=
  lv_icmp_lt C.1 C.2.1 hdg ht (fun h => kt ((nI_ltI ha hb).mp h)) (fun h => kf (fun q => h ((nI_ltI ha hb).mpr q)))
theorem xge (C : CallFix p m c cc nL s args Ts own) {a b : Nat} {off : Int} {tgt : Nat} (ha : a < 2 ^ 31) (hb : b < 2 ^ 31) (hdg : decode cc pc = .ok (.if_icmp .ge off, 3)) (ht : (pc : Int) + off = (tgt : Int)) (kt : b ≤ a → W p l e R s m args below meth c H locs cells slots Q (F0 m tgt ls rest)) (kf : ¬ b ≤ a → W p l e R s m args below meth c H locs cells slots Q (F0 m (pc + 3) ls rest)) : W p l e R s m args below meth c H locs cells slots Q (F0 m pc ls (.int (nI b) :: .int (nI a) :: rest)) :=
  lv_icmp_ge C.1 C.2.1 hdg ht (fun h => kt ((nI_leI hb ha).mp h)) (fun h => kf (fun q => h ((nI_leI hb ha).mpr q)))
theorem xgt (C : CallFix p m c cc nL s args Ts own) {a b : Nat} {off : Int} {tgt : Nat} (ha : a < 2 ^ 31) (hb : b < 2 ^ 31) (hdg : decode cc pc = .ok (.if_icmp .gt off, 3)) (ht : (pc : Int) + off = (tgt : Int)) (kt : b < a → W p l e R s m args below meth c H locs cells slots Q (F0 m tgt ls rest)) (kf : ¬ b < a → W p l e R s m args below meth c H locs cells slots Q (F0 m (pc + 3) ls rest)) : W p l e R s m args below meth c H locs cells slots Q (F0 m pc ls (.int (nI b) :: .int (nI a) :: rest)) :=
  lv_icmp_gt C.1 C.2.1 hdg ht (fun h => kt ((nI_ltI hb ha).mp h)) (fun h => kf (fun q => h ((nI_ltI hb ha).mpr q)))
theorem xle (C : CallFix p m c cc nL s args Ts own) {a b : Nat} {off : Int} {tgt : Nat} (ha : a < 2 ^ 31) (hb : b < 2 ^ 31) (hdg : decode cc pc = .ok (.if_icmp .le off, 3)) (ht : (pc : Int) + off = (tgt : Int)) (kt : a ≤ b → W p l e R s m args below meth c H locs cells slots Q (F0 m tgt ls rest)) (kf : ¬ a ≤ b → W p l e R s m args below meth c H locs cells slots Q (F0 m (pc + 3) ls rest)) : W p l e R s m args below meth c H locs cells slots Q (F0 m pc ls (.int (nI b) :: .int (nI a) :: rest)) :=
  lv_icmp_le C.1 C.2.1 hdg ht (fun h => kt ((nI_leI ha hb).mp h)) (fun h => kf (fun q => h ((nI_leI ha hb).mpr q)))
theorem x0eq (C : CallFix p m c cc nL s args Ts own) {a : Nat} {off : Int} {tgt : Nat} (ha : a < 2 ^ 31) (hdg : decode cc pc = .ok (.ifCond .eq off, 3)) (ht : (pc : Int) + off = (tgt : Int)) (kt : a = 0 → W p l e R s m args below meth c H locs cells slots Q (F0 m tgt ls rest)) (kf : ¬ a = 0 → W p l e R s m args below meth c H locs cells slots Q (F0 m (pc + 3) ls rest)) : W p l e R s m args below meth c H locs cells slots Q (F0 m pc ls (.int (nI a) :: rest)) :=
  lv_if_eq C.1 C.2.1 hdg ht (fun h => kt ((nI_eq (b := 0) ha (by decide)).mp h)) (fun h => kf (fun q => h ((nI_eq (b := 0) ha (by decide)).mpr q)))
theorem x0ne (C : CallFix p m c cc nL s args Ts own) {a : Nat} {off : Int} {tgt : Nat} (ha : a < 2 ^ 31) (hdg : decode cc pc = .ok (.ifCond .ne off, 3)) (ht : (pc : Int) + off = (tgt : Int)) (kt : ¬ a = 0 → W p l e R s m args below meth c H locs cells slots Q (F0 m tgt ls rest)) (kf : a = 0 → W p l e R s m args below meth c H locs cells slots Q (F0 m (pc + 3) ls rest)) : W p l e R s m args below meth c H locs cells slots Q (F0 m pc ls (.int (nI a) :: rest)) :=
  lv_if_ne C.1 C.2.1 hdg ht (fun h => kt (fun q => h ((nI_eq (b := 0) ha (by decide)).mpr q))) (fun h => kf ((nI_eq (b := 0) ha (by decide)).mp h))
theorem x0gt (C : CallFix p m c cc nL s args Ts own) {a : Nat} {off : Int} {tgt : Nat} (ha : a < 2 ^ 31) (hdg : decode cc pc = .ok (.ifCond .gt off, 3)) (ht : (pc : Int) + off = (tgt : Int)) (kt : 0 < a → W p l e R s m args below meth c H locs cells slots Q (F0 m tgt ls rest)) (kf : ¬ 0 < a → W p l e R s m args below meth c H locs cells slots Q (F0 m (pc + 3) ls rest)) : W p l e R s m args below meth c H locs cells slots Q (F0 m pc ls (.int (nI a) :: rest)) :=
  lv_if_gt C.1 C.2.1 hdg ht (fun h => kt ((nI_ltI (a := 0) (by decide) ha).mp h)) (fun h => kf (fun q => h ((nI_ltI (a := 0) (by decide) ha).mpr q)))
theorem x0le (C : CallFix p m c cc nL s args Ts own) {a : Nat} {off : Int} {tgt : Nat} (ha : a < 2 ^ 31) (hdg : decode cc pc = .ok (.ifCond .le off, 3)) (ht : (pc : Int) + off = (tgt : Int)) (kt : ¬ 0 < a → W p l e R s m args below meth c H locs cells slots Q (F0 m tgt ls rest)) (kf : 0 < a → W p l e R s m args below meth c H locs cells slots Q (F0 m (pc + 3) ls rest)) : W p l e R s m args below meth c H locs cells slots Q (F0 m pc ls (.int (nI a) :: rest)) :=
  lv_if_le C.1 C.2.1 hdg ht (fun h => kt (by have := (nI_leI (b := 0) ha (by decide)).mp h; omega)) (fun h => kf (by
    have q : ¬ a ≤ 0 := fun q => h ((nI_leI (b := 0) ha (by decide)).mpr q)
    omega))
theorem x0lt (C : CallFix p m c cc nL s args Ts own) {a : Nat} {off : Int} (ha : a < 2 ^ 31) (hdg : decode cc pc = .ok (.ifCond .lt off, 3)) {tgt : Nat} (ht : (pc : Int) + off = (tgt : Int)) (kf : W p l e R s m args below meth c H locs cells slots Q (F0 m (pc + 3) ls rest)) : W p l e R s m args below meth c H locs cells slots Q (F0 m pc ls (.int (nI a) :: rest)) :=
  lv_if_lt C.1 C.2.1 hdg ht (fun h => absurd h (nI_pos ha)) (fun _ => kf)
theorem x0ge (C : CallFix p m c cc nL s args Ts own) {a : Nat} {off : Int} {tgt : Nat} (ha : a < 2 ^ 31) (hdg : decode cc pc = .ok (.ifCond .ge off, 3)) (ht : (pc : Int) + off = (tgt : Int)) (kt : W p l e R s m args below meth c H locs cells slots Q (F0 m tgt ls rest)) : W p l e R s m args below meth c H locs cells slots Q (F0 m pc ls (.int (nI a) :: rest)) :=
  lv_if_ge C.1 C.2.1 hdg ht (fun _ => kt) (fun h => absurd (nI_pos' ha) h)
theorem xBeq (C : CallFix p m c cc nL s args Ts own) {P : Prop} [Decidable P] {off : Int} {tgt : Nat} (hdg : decode cc pc = .ok (.ifCond .eq off, 3)) (ht : (pc : Int) + off = (tgt : Int)) (kt : ¬ P → W p l e R s m args below meth c H locs cells slots Q (F0 m tgt ls rest)) (kf : P → W p l e R s m args below meth c H locs cells slots Q (F0 m (pc + 3) ls rest)) : W p l e R s m args below meth c H locs cells slots Q (F0 m pc ls (.int (bI P) :: rest)) :=
  lv_if_eq C.1 C.2.1 hdg ht (fun h => kt (bI_eq0.mp h)) (fun h => kf (Decidable.byContradiction (fun q => h (bI_eq0.mpr q))))
theorem xBne (C : CallFix p m c cc nL s args Ts own) {P : Prop} [Decidable P] {off : Int} {tgt : Nat} (hdg : decode cc pc = .ok (.ifCond .ne off, 3)) (ht : (pc : Int) + off = (tgt : Int)) (kt : P → W p l e R s m args below meth c H locs cells slots Q (F0 m tgt ls rest)) (kf : ¬ P → W p l e R s m args below meth c H locs cells slots Q (F0 m (pc + 3) ls rest)) : W p l e R s m args below meth c H locs cells slots Q (F0 m pc ls (.int (bI P) :: rest)) :=
  lv_if_ne C.1 C.2.1 hdg ht (fun h => kt (Decidable.byContradiction (fun q => h (bI_eq0.mpr q)))) (fun h => kf (bI_eq0.mp h))
theorem xLgt (C : CallFix p m c cc nL s args Ts own) {a b : Nat} {off : Int} {tgt : Nat} (ha : a < 2 ^ 63) (hb : b < 2 ^ 63) (hd0 : decode cc pc = .ok (.lcmp, 1)) (hdg : decode cc (pc + 1) = .ok (.ifCond .gt off, 3)) (ht : ((pc + 1 : Nat) : Int) + off = (tgt : Int)) (kt : b < a → W p l e R s m args below meth c H locs cells slots Q (F0 m tgt ls rest)) (kf : ¬ b < a → W p l e R s m args below meth c H locs cells slots Q (F0 m (pc + 1 + 3) ls rest)) : W p l e R s m args below meth c H locs cells slots Q (F0 m pc ls (.long (lN b) :: .long (lN a) :: rest)) :=
  W.lcmp C.1 C.2.1 hd0 (lv_if_gt C.1 C.2.1 hdg ht (fun h => kt ((pk_lLT hb ha).mp ((lg_cmp_gt _ _).mp h))) (fun h => kf (fun q => h ((lg_cmp_gt _ _).mpr ((pk_lLT hb ha).mpr q)))))
theorem xLle (C : CallFix p m c cc nL s args Ts own) {a b : Nat} {off : Int} {tgt : Nat} (ha : a < 2 ^ 63) (hb : b < 2 ^ 63) (hd0 : decode cc pc = .ok (.lcmp, 1)) (hdg : decode cc (pc + 1) = .ok (.ifCond .le off, 3)) (ht : ((pc + 1 : Nat) : Int) + off = (tgt : Int)) (kt : a ≤ b → W p l e R s m args below meth c H locs cells slots Q (F0 m tgt ls rest)) (kf : ¬ a ≤ b → W p l e R s m args below meth c H locs cells slots Q (F0 m (pc + 1 + 3) ls rest)) : W p l e R s m args below meth c H locs cells slots Q (F0 m pc ls (.long (lN b) :: .long (lN a) :: rest)) :=
  W.lcmp C.1 C.2.1 hd0 (lv_if_le C.1 C.2.1 hdg ht (fun h => kt ((pk_lLE ha hb).mp ((lg_cmp_le _ _).mp h))) (fun h => kf (fun q => h ((lg_cmp_le _ _).mpr ((pk_lLE ha hb).mpr q)))))
theorem xLge (C : CallFix p m c cc nL s args Ts own) {a b : Nat} {off : Int} {tgt : Nat} (ha : a < 2 ^ 63) (hb : b < 2 ^ 63) (hd0 : decode cc pc = .ok (.lcmp, 1)) (hdg : decode cc (pc + 1) = .ok (.ifCond .ge off, 3)) (ht : ((pc + 1 : Nat) : Int) + off = (tgt : Int)) (kt : b ≤ a → W p l e R s m args below meth c H locs cells slots Q (F0 m tgt ls rest)) (kf : ¬ b ≤ a → W p l e R s m args below meth c H locs cells slots Q (F0 m (pc + 1 + 3) ls rest)) : W p l e R s m args below meth c H locs cells slots Q (F0 m pc ls (.long (lN b) :: .long (lN a) :: rest)) :=
  W.lcmp C.1 C.2.1 hd0 (lv_if_ge C.1 C.2.1 hdg ht (fun h => kt ((pk_lLE hb ha).mp ((lg_cmp_ge _ _).mp h))) (fun h => kf (fun q => h ((lg_cmp_ge _ _).mpr ((pk_lLE hb ha).mpr q)))))
theorem xLlt (C : CallFix p m c cc nL s args Ts own) {a b : Nat} {off : Int} {tgt : Nat} (ha : a < 2 ^ 63) (hb : b < 2 ^ 63) (hd0 : decode cc pc = .ok (.lcmp, 1)) (hdg : decode cc (pc + 1) = .ok (.ifCond .lt off, 3)) (ht : ((pc + 1 : Nat) : Int) + off = (tgt : Int)) (kt : a < b → W p l e R s m args below meth c H locs cells slots Q (F0 m tgt ls rest)) (kf : ¬ a < b → W p l e R s m args below meth c H locs cells slots Q (F0 m (pc + 1 + 3) ls rest)) : W p l e R s m args below meth c H locs cells slots Q (F0 m pc ls (.long (lN b) :: .long (lN a) :: rest)) :=
  W.lcmp C.1 C.2.1 hd0 (lv_if_lt C.1 C.2.1 hdg ht (fun h => kt ((pk_lLT ha hb).mp ((lg_cmp_lt _ _).mp h))) (fun h => kf (fun q => h ((lg_cmp_lt _ _).mpr ((pk_lLT ha hb).mpr q)))))
theorem xLeq (C : CallFix p m c cc nL s args Ts own) {a b : Nat} {off : Int} {tgt : Nat} (ha : a < 2 ^ 63) (hb : b < 2 ^ 63) (hd0 : decode cc pc = .ok (.lcmp, 1)) (hdg : decode cc (pc + 1) = .ok (.ifCond .eq off, 3)) (ht : ((pc + 1 : Nat) : Int) + off = (tgt : Int)) (kt : a = b → W p l e R s m args below meth c H locs cells slots Q (F0 m tgt ls rest)) (kf : ¬ a = b → W p l e R s m args below meth c H locs cells slots Q (F0 m (pc + 1 + 3) ls rest)) : W p l e R s m args below meth c H locs cells slots Q (F0 m pc ls (.long (lN b) :: .long (lN a) :: rest)) :=
  W.lcmp C.1 C.2.1 hd0 (lv_if_eq C.1 C.2.1 hdg ht (fun h => kt ((pk_lEQ ha hb).mp ((lg_cmp_eq _ _).mp h))) (fun h => kf (fun q => h ((lg_cmp_eq _ _).mpr ((pk_lEQ ha hb).mpr q)))))
/-- long compares of any values: lcmp and the branch behind it -/
theorem xRgt (C : CallFix p m c cc nL s args Ts own) {x y : Int64} {off : Int} {tgt : Nat} (hd0 : decode cc pc = .ok (.lcmp, 1)) (hdg : decode cc (pc + 1) = .ok (.ifCond .gt off, 3)) (ht : ((pc + 1 : Nat) : Int) + off = (tgt : Int)) (kt : y < x → W p l e R s m args below meth c H locs cells slots Q (F0 m tgt ls rest)) (kf : ¬ y < x → W p l e R s m args below meth c H locs cells slots Q (F0 m (pc + 1 + 3) ls rest)) : W p l e R s m args below meth c H locs cells slots Q (F0 m pc ls (.long y :: .long x :: rest)) :=
  W.lcmp C.1 C.2.1 hd0 (lv_if_gt C.1 C.2.1 hdg ht (fun h => kt ((lg_cmp_gt _ _).mp h)) (fun h => kf (fun q => h ((lg_cmp_gt _ _).mpr q))))
theorem xRlt (C : CallFix p m c cc nL s args Ts own) {x y : Int64} {off : Int} {tgt : Nat} (hd0 : decode cc pc = .ok (.lcmp, 1)) (hdg : decode cc (pc + 1) = .ok (.ifCond .lt off, 3)) (ht : ((pc + 1 : Nat) : Int) + off = (tgt : Int)) (kt : x < y → W p l e R s m args below meth c H locs cells slots Q (F0 m tgt ls rest)) (kf : ¬ x < y → W p l e R s m args below meth c H locs cells slots Q (F0 m (pc + 1 + 3) ls rest)) : W p l e R s m args below meth c H locs cells slots Q (F0 m pc ls (.long y :: .long x :: rest)) :=
  W.lcmp C.1 C.2.1 hd0 (lv_if_lt C.1 C.2.1 hdg ht (fun h => kt ((lg_cmp_lt _ _).mp h)) (fun h => kf (fun q => h ((lg_cmp_lt _ _).mpr q))))
theorem xRne (C : CallFix p m c cc nL s args Ts own) {x y : Int64} {off : Int} {tgt : Nat} (hd0 : decode cc pc = .ok (.lcmp, 1)) (hdg : decode cc (pc + 1) = .ok (.ifCond .ne off, 3)) (ht : ((pc + 1 : Nat) : Int) + off = (tgt : Int)) (kt : ¬ x = y → W p l e R s m args below meth c H locs cells slots Q (F0 m tgt ls rest)) (kf : x = y → W p l e R s m args below meth c H locs cells slots Q (F0 m (pc + 1 + 3) ls rest)) : W p l e R s m args below meth c H locs cells slots Q (F0 m pc ls (.long y :: .long x :: rest)) :=
  W.lcmp C.1 C.2.1 hd0 (lv_if_ne C.1 C.2.1 hdg ht (fun h => kt (fun q => h ((lg_cmp_eq _ _).mpr q))) (fun h => kf ((lg_cmp_eq _ _).mp h)))
theorem xmaxN (C : CallFix p m c cc nL s args Ts own) {lv : List (Nat × Value)} (hls : lv_has ls nL lv) {index : Nat} {a b : Nat} (ha : a < 2 ^ 31) (hb : b < 2 ^ 31) (hl : Cond.methodLink own index Lib.Math.max.name ∈ Ts) (h2 : Cond.static Lib.Math.max.name ∈ Ts) (h3 : Cond.initialized "java/lang/Math" ∈ Ts) (h4 : Cond.code Lib.Math.max.name Lib.Math.max.code 2 (some .int) ∈ Ts) (hfr : 1 ≤ R.frames) (hlo : (rest.map fun v => v.category).sum + 13 ≤ R.locals) (hcs : cells ≤ R.cells ∧ slots ≤ R.slots) (hdg : decode cc pc = .ok (.invokestatic index, 3)) (k : W p l e R s m args below meth c H locs cells slots Q (F0 m (pc + 3) ls (.int (nI (max a b)) :: rest))) : W p l e R s m args below meth c H locs cells slots Q (F0 m pc ls (.int (nI b) :: .int (nI a) :: rest)) :=
  va_mmax C.1 C.2.1 (C.2.2.1.trans hls.1.symm) C.2.2.2.1 (C.2.2.2.2 _ hl) (C.2.2.2.2 _ h2) (C.2.2.2.2 _ h3) (C.2.2.2.2 _ h4) hfr hlo hcs.1 hcs.2 hdg (by
    have q : (if nI a < nI b then nI b else nI a) = nI (max a b) := by
      by_cases h : a < b
      · rw [if_pos ((nI_ltI ha hb).mpr h), Nat.max_eq_right (by omega)]
      · rw [if_neg (fun z => h ((nI_ltI ha hb).mp z)), Nat.max_eq_left (by omega)]
    rw [q]; exact k)
theorem xminN (C : CallFix p m c cc nL s args Ts own) {lv : List (Nat × Value)} (hls : lv_has ls nL lv) {index : Nat} {a b : Nat} (ha : a < 2 ^ 31) (hb : b < 2 ^ 31) (hl : Cond.methodLink own index Lib.Math.min.name ∈ Ts) (h2 : Cond.static Lib.Math.min.name ∈ Ts) (h3 : Cond.initialized "java/lang/Math" ∈ Ts) (h4 : Cond.code Lib.Math.min.name Lib.Math.min.code 2 (some .int) ∈ Ts) (hfr : 1 ≤ R.frames) (hlo : (rest.map fun v => v.category).sum + 13 ≤ R.locals) (hcs : cells ≤ R.cells ∧ slots ≤ R.slots) (hdg : decode cc pc = .ok (.invokestatic index, 3)) (k : W p l e R s m args below meth c H locs cells slots Q (F0 m (pc + 3) ls (.int (nI (min a b)) :: rest))) : W p l e R s m args below meth c H locs cells slots Q (F0 m pc ls (.int (nI b) :: .int (nI a) :: rest)) :=
  va_mmin C.1 C.2.1 (C.2.2.1.trans hls.1.symm) C.2.2.2.1 (C.2.2.2.2 _ hl) (C.2.2.2.2 _ h2) (C.2.2.2.2 _ h3) (C.2.2.2.2 _ h4) hfr hlo hcs.1 hcs.2 hdg (by
    have q : (if nI b < nI a then nI b else nI a) = nI (min a b) := by
      by_cases h : b < a
      · rw [if_pos ((nI_ltI hb ha).mpr h), Nat.min_eq_right (by omega)]
      · rw [if_neg (fun z => h ((nI_ltI hb ha).mp z)), Nat.min_eq_left (by omega)]
    rw [q]; exact k)
variable {g : GE} {w : Nat → va_E} {A0 : Nat → Prop} {H0 : Heap}
theorem xildK (C : CallFix p m c cc nL s args Ts own) (hK : WK g s) (hW : XW g w A0 H0 H locs) {i n o : Nat} {L : Nat → Nat} (hi : i < gN g) (he : w i = .inl (gI g, n, .inl (cK n o L))) {k : Nat} (hk : k < n) (hn : n < 2 ^ 31) (hdg : decode cc pc = .ok (.iaload, 1))
    (kk : W p l e R s m args below meth c H locs cells slots Q (F0 m (pc + 1) ls (.int (nI (L (o + k))) :: rest))) : W p l e R s m args below meth c H locs cells slots Q (F0 m pc ls (.int (nI k) :: .ref (gad g i) :: rest)) :=
  xild C hK hW hi he (vp_in_nI hk hn) hdg (by rw [nI_clamp (by omega), cK, kK_at hk]; exact kk)
theorem xistK (C : CallFix p m c cc nL s args Ts own) (hK : WK g s) (hW : XW g w A0 H0 H locs) {i n o : Nat} {L : Nat → Nat} (hi : i < gN g) (he : w i = .inl (gI g, n, .inl (cK n o L))) {k v : Nat} (hk : k < n) (hn : n < 2 ^ 31) (hdg : decode cc pc = .ok (.iastore, 1))
    (kk : ∀ (w' : Nat → va_E) (H1 : Heap) (locs1 : List Loc), w' i = .inl (gI g, n, .inl (cK n o (va_up L (o + k) v))) → (∀ j, j ≠ i → w' j = w j) → XW g w' A0 H0 H1 locs1 → W p l e R s m args below meth c H1 locs1 cells slots Q (F0 m (pc + 1) ls rest)) : W p l e R s m args below meth c H locs cells slots Q (F0 m pc ls (.int (nI v) :: .int (nI k) :: .ref (gad g i) :: rest)) :=
  xist C hK hW hi he (vp_in_nI hk hn) hdg (fun w' H1 locs1 h1 h2 h3 => kk w' H1 locs1 (by rw [h1, nI_clamp (by omega), updI, cK_up _ hk]) h2 h3)
theorem xlldK (C : CallFix p m c cc nL s args Ts own) (hK : WK g s) (hW : XW g w A0 H0 H locs) {i n o : Nat} {L : Nat → Nat} (hi : i < gN g) (he : w i = .inl (gJ g, n, .inr (.inl (cL n o L)))) {k : Nat} (hk : k < n) (hn : n < 2 ^ 31) (hdg : decode cc pc = .ok (.laload, 1))
    (kk : W p l e R s m args below meth c H locs cells slots Q (F0 m (pc + 1) ls (.long (lN (L (o + k))) :: rest))) : W p l e R s m args below meth c H locs cells slots Q (F0 m pc ls (.int (nI k) :: .ref (gad g i) :: rest)) :=
  xlld C hK hW hi he (vp_in_nI hk hn) hdg (by rw [nI_clamp (by omega), cL, kK_at hk]; exact kk)
theorem xlstK (C : CallFix p m c cc nL s args Ts own) (hK : WK g s) (hW : XW g w A0 H0 H locs) {i n o : Nat} {L : Nat → Nat} (hi : i < gN g) (he : w i = .inl (gJ g, n, .inr (.inl (cL n o L)))) {k v : Nat} (hk : k < n) (hn : n < 2 ^ 31) (hdg : decode cc pc = .ok (.lastore, 1))
    (kk : ∀ (w' : Nat → va_E) (H1 : Heap) (locs1 : List Loc), w' i = .inl (gJ g, n, .inr (.inl (cL n o (va_up L (o + k) v)))) → (∀ j, j ≠ i → w' j = w j) → XW g w' A0 H0 H1 locs1 → W p l e R s m args below meth c H1 locs1 cells slots Q (F0 m (pc + 1) ls rest)) : W p l e R s m args below meth c H locs cells slots Q (F0 m pc ls (.long (lN v) :: .int (nI k) :: .ref (gad g i) :: rest)) :=
  xlst C hK hW hi he (vp_in_nI hk hn) hdg (fun w' H1 locs1 h1 h2 h3 => kk w' H1 locs1 (by rw [h1, nI_clamp (by omega), updL, cL_up _ hk]) h2 h3)
/-- raw long rows (items): any values -/
theorem xlldR (C : CallFix p m c cc nL s args Ts own) (hK : WK g s) (hW : XW g w A0 H0 H locs) {i n o : Nat} {Z : Nat → Int64} (hi : i < gN g) (he : w i = .inl (gJ g, n, .inr (.inl (kK 0 n o Z)))) {k : Nat} (hk : k < n) (hn : n < 2 ^ 31) (hdg : decode cc pc = .ok (.laload, 1))
    (kk : W p l e R s m args below meth c H locs cells slots Q (F0 m (pc + 1) ls (.long (Z (o + k)) :: rest))) : W p l e R s m args below meth c H locs cells slots Q (F0 m pc ls (.int (nI k) :: .ref (gad g i) :: rest)) :=
  xlld C hK hW hi he (vp_in_nI hk hn) hdg (by rw [nI_clamp (by omega), kK_at hk]; exact kk)
theorem xlstR (C : CallFix p m c cc nL s args Ts own) (hK : WK g s) (hW : XW g w A0 H0 H locs) {i n o : Nat} {Z : Nat → Int64} (hi : i < gN g) (he : w i = .inl (gJ g, n, .inr (.inl (kK 0 n o Z)))) {k : Nat} {v : Int64} (hk : k < n) (hn : n < 2 ^ 31) (hdg : decode cc pc = .ok (.lastore, 1))
    (kk : ∀ (w' : Nat → va_E) (H1 : Heap) (locs1 : List Loc), w' i = .inl (gJ g, n, .inr (.inl (kK 0 n o (va_up Z (o + k) v)))) → (∀ j, j ≠ i → w' j = w j) → XW g w' A0 H0 H1 locs1 → W p l e R s m args below meth c H1 locs1 cells slots Q (F0 m (pc + 1) ls rest)) : W p l e R s m args below meth c H locs cells slots Q (F0 m pc ls (.long v :: .int (nI k) :: .ref (gad g i) :: rest)) :=
  xlst C hK hW hi he (vp_in_nI hk hn) hdg (fun w' H1 locs1 h1 h2 h3 => kk w' H1 locs1 (by rw [h1, nI_clamp (by omega), updL, kK_up _ hk]) h2 h3)
theorem xildR (C : CallFix p m c cc nL s args Ts own) (hK : WK g s) (hW : XW g w A0 H0 H locs) {i n o : Nat} {Z : Nat → Int32} (hi : i < gN g) (he : w i = .inl (gI g, n, .inl (kK 0 n o Z))) {k : Nat} (hk : k < n) (hn : n < 2 ^ 31) (hdg : decode cc pc = .ok (.iaload, 1))
    (kk : W p l e R s m args below meth c H locs cells slots Q (F0 m (pc + 1) ls (.int (Z (o + k)) :: rest))) : W p l e R s m args below meth c H locs cells slots Q (F0 m pc ls (.int (nI k) :: .ref (gad g i) :: rest)) :=
  xild C hK hW hi he (vp_in_nI hk hn) hdg (by rw [nI_clamp (by omega), kK_at hk]; exact kk)
theorem xistR (C : CallFix p m c cc nL s args Ts own) (hK : WK g s) (hW : XW g w A0 H0 H locs) {i n o : Nat} {Z : Nat → Int32} (hi : i < gN g) (he : w i = .inl (gI g, n, .inl (kK 0 n o Z))) {k : Nat} {v : Int32} (hk : k < n) (hn : n < 2 ^ 31) (hdg : decode cc pc = .ok (.iastore, 1))
    (kk : ∀ (w' : Nat → va_E) (H1 : Heap) (locs1 : List Loc), w' i = .inl (gI g, n, .inl (kK 0 n o (va_up Z (o + k) v))) → (∀ j, j ≠ i → w' j = w j) → XW g w' A0 H0 H1 locs1 → W p l e R s m args below meth c H1 locs1 cells slots Q (F0 m (pc + 1) ls rest)) : W p l e R s m args below meth c H locs cells slots Q (F0 m pc ls (.int v :: .int (nI k) :: .ref (gad g i) :: rest)) :=
  xist C hK hW hi he (vp_in_nI hk hn) hdg (fun w' H1 locs1 h1 h2 h3 => kk w' H1 locs1 (by rw [h1, nI_clamp (by omega), updI, kK_up _ hk]) h2 h3)
end XNR
