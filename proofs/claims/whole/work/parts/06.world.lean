/-! THE ONE WORLD: all cells of the class and of the reference by number; g holds what never changes (classes, slots, array classes, addresses, how many), w what each cell holds -/
def wl (N : Nat) (ad : Nat → Nat) (w : Nat → va_E) : va_W := (List.range N).map (fun i => (ad i, w i))
theorem wl_get {N : Nat} {ad : Nat → Nat} {w : Nat → va_E} {i : Nat} (h : i < N) : (wl N ad w)[i]? = some (ad i, w i) := by
  simp [wl, List.getElem?_map, List.getElem?_range h]
theorem wl_at {N : Nat} {ad : Nat → Nat} {w : Nat → va_E} {k : Nat} {q : Nat × va_E} (h : (wl N ad w)[k]? = some q) : k < N ∧ q = (ad k, w k) := by
  by_cases hk : k < N
  · rw [wl_get hk] at h
    exact ⟨hk, (Option.some.inj h).symm⟩
  · have hn : (wl N ad w)[k]? = none := by
      apply List.getElem?_eq_none
      simp [wl]
      omega
    rw [hn] at h
    cases h
theorem wl_set {N : Nat} {ad : Nat → Nat} {w : Nat → va_E} {i : Nat} {e : va_E} : (wl N ad w).set i (ad i, e) = wl N ad (va_up w i e) := by
  apply List.ext_getElem?
  intro k
  by_cases hk : k < N
  · rw [List.getElem?_set]
    by_cases hik : i = k
    · subst hik
      have hl : i < (wl N ad w).length := by simp [wl]; exact hk
      simp only [if_true, if_pos hl]
      rw [wl_get hk, va_up_self]
    · rw [if_neg hik, wl_get hk, wl_get hk, va_up_ne _ _ (fun h => hik h.symm)]
  · have h1 : ((wl N ad w).set i (ad i, e))[k]? = none := by
      apply List.getElem?_eq_none
      simp [wl]
      omega
    have h2 : (wl N ad (va_up w i e))[k]? = none := by
      apply List.getElem?_eq_none
      simp [wl]
      omega
    rw [h1, h2]
abbrev GE : Type := (Nat → ClassId) × (Nat → Nat → Nat) × (ClassId × ClassId × ClassId × ClassId) × (Nat → Nat) × Nat
def gD (g : GE) : va_G := (g.1, g.2.1)
def gI (g : GE) : ClassId := g.2.2.1.1
def gJ (g : GE) : ClassId := g.2.2.1.2.1
def gM (g : GE) : ClassId := g.2.2.1.2.2.1
def gS (g : GE) : ClassId := g.2.2.1.2.2.2
def gad (g : GE) : Nat → Nat := g.2.2.2.1
def gN (g : GE) : Nat := g.2.2.2.2
def tysG (g : GE) : List (ClassId × FieldType) := [(gI g, .int), (gJ g, .long), (gM g, .object RX2), (gS g, .object RX4)]
def nests (U : State) : Prop := va_Nw (.methodLinkNest RX1 42 yX6_isWithin RX6) U ∧ va_Nw (.methodLinkNest RX3 84 yX6_isWithin RX6) U ∧ va_Nw (.methodLinkNest RX1 90 yX6_isField RX6) U ∧ va_Nw (.methodLinkNest RX5 49 yX6_isField RX6) U ∧ va_Nw (.methodLinkNest RX5 56 yX6_power RX6) U
def WK (g : GE) (U : State) : Prop := va_K (gD g) vwCl (tysG g) U ∧ nests U
def gA (g : GE) : Nat → Prop := fun q => ∃ i, i < gN g ∧ gad g i = q
def AdInj (g : GE) : Prop := ∀ i j, i < gN g → j < gN g → gad g i = gad g j → i = j
abbrev wlg (g : GE) (w : Nat → va_E) : va_W := wl (gN g) (gad g) w
theorem wlg_D {g : GE} {w : Nat → va_E} {A : Nat → Prop} (hI : AdInj g) (hA : ∀ i, i < gN g → A (gad g i)) : va_D A (wlg g w) := by
  constructor
  · intro i j p q hp hq hpq
    obtain ⟨h1, rfl⟩ := wl_at hp
    obtain ⟨h2, rfl⟩ := wl_at hq
    exact hI i j h1 h2 hpq
  · intro k q hq
    obtain ⟨h1, rfl⟩ := wl_at hq
    exact hA k h1
theorem nests_warm {s U : State} (hW : s.WarmedH U.vm) (h : nests s) : nests U := ⟨va_Nw.warmM hW h.1, va_Nw.warmM hW h.2.1, va_Nw.warmM hW h.2.2.1, va_Nw.warmM hW h.2.2.2.1, va_Nw.warmM hW h.2.2.2.2⟩
theorem WK_warm {g : GE} {s U : State} (hW : s.WarmedH U.vm) (h : WK g s) : WK g U := ⟨va_K.moved hW.alike h.1, nests_warm hW h.2⟩
theorem nests_calling {a : Array Value} {U : State} {fr : JFrame} {mk : MethodId} (h : nests U) : nests (U.calling fr mk a) :=
  ⟨va_Nw.same rfl rfl h.1, va_Nw.same rfl rfl h.2.1, va_Nw.same rfl rfl h.2.2.1, va_Nw.same rfl rfl h.2.2.2.1, va_Nw.same rfl rfl h.2.2.2.2⟩
def XW (g : GE) (w : Nat → va_E) (A0 : Nat → Prop) (H0 H : Heap) (locs : List Loc) : Prop := va_P (gD g) vwCl (wlg g w) H ∧ va_S A0 H0 H locs ∧ AdInj g ∧ ∀ i, i < gN g → A0 (gad g i)
theorem XW.D {g : GE} {w : Nat → va_E} {A0 : Nat → Prop} {H0 H : Heap} {locs : List Loc} (h : XW g w A0 H0 H locs) : va_D A0 (wlg g w) := wlg_D h.2.2.1 h.2.2.2
theorem XW.free {g : GE} {w : Nat → va_E} {A0 : Nat → Prop} {H0 H : Heap} {locs : List Loc} (h : XW g w A0 H0 H locs) : ∀ q, gA g q → A0 q := fun q ⟨i, hi, e⟩ => e ▸ h.2.2.2 i hi
/-- a contract's start -/
def XPc (g : GE) (w : Nat → va_E) (av : List Value) : Array Value → State → Prop := va_Pc av (fun U => va_P (gD g) vwCl (wlg g w) U.heap ∧ WK g U)
/-- a contract's end: an int, a long, nothing -/
def XQi (g : GE) (post : Int32 → (Nat → va_E) → Prop) : Array Value → State → Outcome → State → Prop := va_Qi post (fun w t => va_P (gD g) vwCl (wlg g w) t.heap) (gA g)
def XQl (g : GE) (post : Int64 → (Nat → va_E) → Prop) : Array Value → State → Outcome → State → Prop := va_Ql post (fun w t => va_P (gD g) vwCl (wlg g w) t.heap) (gA g)
def XQv (g : GE) (post : (Nat → va_E) → Prop) : Array Value → State → Outcome → State → Prop := va_Qv post (fun w t => va_P (gD g) vwCl (wlg g w) t.heap) (gA g)
theorem XPc_blind {g : GE} {w : Nat → va_E} {av : List Value} : FrameBlind (XPc g w av) := by
  intro a U fr mk h
  obtain ⟨h1, h2, h3, h4⟩ := h
  exact ⟨h1, h2, va_K.moved (u := U) (U := U.calling fr mk a) (Vm.Alike.refl U.vm) h3, nests_calling h4⟩
set_option maxHeartbeats 1000000 in
theorem xmet {l : Launch} {y : MethodName} {ws ws' : List Cond} {rm : Room} {cc : ByteArray} {maxL : Nat} {ret : Option FieldType} {g : GE} {w : Nat → va_E} {av : List Value} {Qc : Array Value → State → Outcome → State → Prop}
    (hy : plainName y.cls = true) (hw : ws = Cond.code y cc maxL ret :: ws') (hI : AdInj g) (hlen : (lg_sl av).length ≤ maxL)
    (body : ∀ (p : Program) (e : Env) (s : State) (m : MethodId) (below : List Frame) (meth : Method) (c : Code) (ls : Array Slot), CallFix p m c cc maxL s av.toArray ws y.cls → meth.sig.returnType = ret → meth.locks = false → WK g s → XW g w (gA g) s.heap s.heap [] → lv_has ls maxL (lv_args 0 av) →
      W p l e rm s m av.toArray below meth c s.heap [] 0 0 (MQ below Qc av.toArray s 0 0 (gA g)) (F0 m 0 ls [])) : Met l y ws rm (XPc g w av) Qc 0 0 (gA g) := by
  refine Met.ofW (cc := cc) (maxL := maxL) (ret := ret) hy hw ?_
  intro p e s m args below meth c s₁ B hml hv
  obtain ⟨rfl, hP, hK⟩ := hv
  have hown : s.vm.findClass y.cls = some m.cls := findClass_of_methodNamed B.named
  have hl := lv_entry av (n := maxL) hlen
  rw [lg_entry_eq]
  exact body p e s m below meth c _ ⟨B.exec, B.bytes, hml, hown, atoms_spec (ws := ws) B.pre⟩ B.returns B.notSynchronized hK ⟨hP, va_S.rf, hI, fun i hi => ⟨i, hi, rfl⟩⟩ hl
section XWR
variable {p : Program} {l : Launch} {e : Env} {R : Room} {s : State} {m : MethodId} {args : Array Value} {below : List Frame} {meth : Method} {c : Code} {H : Heap} {locs : List Loc} {cells slots : Nat} {Q : State → Prop}
variable {cc : ByteArray} {nL pc : Nat} {ls : Array Slot} {rest : List Value} {Ts : List Cond} {own : String} {g : GE} {w : Nat → va_E} {A0 : Nat → Prop} {H0 : Heap}
theorem xget (C : CallFix p m c cc nL s args Ts own) (hK : WK g s) (hW : XW g w A0 H0 H locs) {CN : String} {T : u_T} {NF ci index i : Nat} {fs : List Value} (hin : ∀ x ∈ u_ws CN T NF, x ∈ Ts) (hc : vwCl[ci]? = some (CN, T, NF)) (hi : i < gN g) (he : w i = .inr (ci, fs)) (k : Nat) (hk : k < NF) (hl : Cond.fieldLink own index (T k).1 (T k).2.1 (T k).2.2.1 ∈ Ts) {v : Value} (hv : fs[k]? = some v) (hdg : decode cc pc = .ok (.getfield index, 3))
    (kk : W p l e R s m args below meth c H locs cells slots Q (F0 m (pc + 3) ls (v :: rest))) : W p l e R s m args below meth c H locs cells slots Q (F0 m pc ls (.ref (gad g i) :: rest)) :=
  va_get C.1 C.2.1 C.2.2.2.2 hin C.2.2.2.1 hK.1 hW.1 i (by rw [wl_get hi, he]) hc k hk (C.2.2.2.2 _ hl) (fun _ h => h) hv hdg kk
theorem xput (C : CallFix p m c cc nL s args Ts own) (hK : WK g s) (hW : XW g w A0 H0 H locs) {CN : String} {T : u_T} {NF ci index i : Nat} {fs : List Value} (hin : ∀ x ∈ u_ws CN T NF, x ∈ Ts) {ty0 : Nat → FieldType} (hty : ∀ k, k < NF → parseFieldDescriptor (T k).2.2.1 = some (ty0 k)) (hnm : ∀ a, a < NF → ∀ b, b < NF → a ≠ b → (T a).2.1 ≠ (T b).2.1) (hc : vwCl[ci]? = some (CN, T, NF)) (hi : i < gN g) (he : w i = .inr (ci, fs)) (k : Nat) (hk : k < NF) (hl : Cond.fieldLink own index (T k).1 (T k).2.1 (T k).2.2.1 ∈ Ts) (hfin : (T k).2.2.2 = false) {v : Value} (hn : narrow (ty0 k) v = v) (hfit : fits (ty0 k) v = true) (hlen : k < fs.length) (hdg : decode cc pc = .ok (.putfield index, 3))
    (kk : ∀ (w' : Nat → va_E) (H1 : Heap) (locs1 : List Loc), w' i = .inr (ci, fs.set k v) → (∀ j, j ≠ i → w' j = w j) → XW g w' A0 H0 H1 locs1 → W p l e R s m args below meth c H1 locs1 cells slots Q (F0 m (pc + 3) ls rest)) : W p l e R s m args below meth c H locs cells slots Q (F0 m pc ls (v :: .ref (gad g i) :: rest)) := by
  refine va_put C.1 C.2.1 C.2.2.2.2 hin ty0 hty hnm C.2.2.2.1 hK.1 hW.1 hW.D hW.2.1 i (by rw [wl_get hi, he]) hc k hk (C.2.2.2.2 _ hl) (fun _ h => h) hfin (hty k hk) hn hfit hlen hdg (fun H1 locs1 hP hD hS => ?_)
  refine kk (va_up w i (.inr (ci, fs.set k v))) H1 locs1 (va_up_self _ _ _) (fun j hj => va_up_ne _ _ hj) ⟨?_, hS, hW.2.2⟩
  rw [wl_set] at hP
  exact hP
theorem xild (C : CallFix p m c cc nL s args Ts own) (hK : WK g s) (hW : XW g w A0 H0 H locs) {i n : Nat} {f : Nat → Int32} (hi : i < gN g) (he : w i = .inl (gI g, n, .inl f)) {x : Int32} (hx : vp_in x n) (hdg : decode cc pc = .ok (.iaload, 1))
    (kk : W p l e R s m args below meth c H locs cells slots Q (F0 m (pc + 1) ls (.int (f x.toNatClampNeg) :: rest))) : W p l e R s m args below meth c H locs cells slots Q (F0 m pc ls (.int x :: .ref (gad g i) :: rest)) :=
  va_iald C.1 C.2.1 hK.1 hW.1 i 0 (by rw [wl_get hi, he]) rfl hx hdg kk
theorem xist (C : CallFix p m c cc nL s args Ts own) (hK : WK g s) (hW : XW g w A0 H0 H locs) {i n : Nat} {f : Nat → Int32} (hi : i < gN g) (he : w i = .inl (gI g, n, .inl f)) {x v : Int32} (hx : vp_in x n) (hdg : decode cc pc = .ok (.iastore, 1))
    (kk : ∀ (w' : Nat → va_E) (H1 : Heap) (locs1 : List Loc), w' i = .inl (gI g, n, .inl (upd f x.toNatClampNeg v)) → (∀ j, j ≠ i → w' j = w j) → XW g w' A0 H0 H1 locs1 → W p l e R s m args below meth c H1 locs1 cells slots Q (F0 m (pc + 1) ls rest)) : W p l e R s m args below meth c H locs cells slots Q (F0 m pc ls (.int v :: .int x :: .ref (gad g i) :: rest)) := by
  refine va_iast C.1 C.2.1 hK.1 hW.1 hW.D hW.2.1 i 0 (by rw [wl_get hi, he]) rfl hx hdg (fun H1 locs1 hP hD hS => ?_)
  refine kk (va_up w i (.inl (gI g, n, .inl (upd f x.toNatClampNeg v)))) H1 locs1 (va_up_self _ _ _) (fun j hj => va_up_ne _ _ hj) ⟨?_, hS, hW.2.2⟩
  rw [wl_set] at hP
  exact hP
theorem xlld (C : CallFix p m c cc nL s args Ts own) (hK : WK g s) (hW : XW g w A0 H0 H locs) {i n : Nat} {f : Nat → Int64} (hi : i < gN g) (he : w i = .inl (gJ g, n, .inr (.inl f))) {x : Int32} (hx : vp_in x n) (hdg : decode cc pc = .ok (.laload, 1))
    (kk : W p l e R s m args below meth c H locs cells slots Q (F0 m (pc + 1) ls (.long (f x.toNatClampNeg) :: rest))) : W p l e R s m args below meth c H locs cells slots Q (F0 m pc ls (.int x :: .ref (gad g i) :: rest)) :=
  va_lald C.1 C.2.1 hK.1 hW.1 i 1 (by rw [wl_get hi, he]) rfl hx hdg kk
theorem xlst (C : CallFix p m c cc nL s args Ts own) (hK : WK g s) (hW : XW g w A0 H0 H locs) {i n : Nat} {f : Nat → Int64} (hi : i < gN g) (he : w i = .inl (gJ g, n, .inr (.inl f))) {x : Int32} {v : Int64} (hx : vp_in x n) (hdg : decode cc pc = .ok (.lastore, 1))
    (kk : ∀ (w' : Nat → va_E) (H1 : Heap) (locs1 : List Loc), w' i = .inl (gJ g, n, .inr (.inl (vp_updL f x.toNatClampNeg v))) → (∀ j, j ≠ i → w' j = w j) → XW g w' A0 H0 H1 locs1 → W p l e R s m args below meth c H1 locs1 cells slots Q (F0 m (pc + 1) ls rest)) : W p l e R s m args below meth c H locs cells slots Q (F0 m pc ls (.long v :: .int x :: .ref (gad g i) :: rest)) := by
  refine va_last C.1 C.2.1 hK.1 hW.1 hW.D hW.2.1 i 1 (by rw [wl_get hi, he]) rfl hx hdg (fun H1 locs1 hP hD hS => ?_)
  refine kk (va_up w i (.inl (gJ g, n, .inr (.inl (vp_updL f x.toNatClampNeg v))))) H1 locs1 (va_up_self _ _ _) (fun j hj => va_up_ne _ _ hj) ⟨?_, hS, hW.2.2⟩
  rw [wl_set] at hP
  exact hP
theorem xleni (C : CallFix p m c cc nL s args Ts own) (hK : WK g s) (hW : XW g w A0 H0 H locs) {i n : Nat} {f : Nat → Int32} (hi : i < gN g) (he : w i = .inl (gI g, n, .inl f)) (hdg : decode cc pc = .ok (.arraylength, 1))
    (kk : W p l e R s m args below meth c H locs cells slots Q (F0 m (pc + 1) ls (.int (nI n) :: rest))) : W p l e R s m args below meth c H locs cells slots Q (F0 m pc ls (.ref (gad g i) :: rest)) :=
  va_alen C.1 C.2.1 hK.1 hW.1 i 0 (x := (n, .inl f)) (by rw [wl_get hi, he]) (ty := .int) rfl rfl hdg kk
theorem xaldM (C : CallFix p m c cc nL s args Ts own) (hK : WK g s) (hW : XW g w A0 H0 H locs) {i n : Nat} {f : Nat → Option Nat} (hi : i < gN g) (he : w i = .inl (gM g, n, .inr (.inr (.inr (.inr f))))) {x : Int32} (hx : vp_in x n) {q : Nat} (hq : f x.toNatClampNeg = some q) (hdg : decode cc pc = .ok (.aaload, 1))
    (kk : W p l e R s m args below meth c H locs cells slots Q (F0 m (pc + 1) ls (.ref q :: rest))) : W p l e R s m args below meth c H locs cells slots Q (F0 m pc ls (.int x :: .ref (gad g i) :: rest)) := by
  refine va_aldq C.1 C.2.1 hK.1 hW.1 i 2 (by rw [wl_get hi, he]) rfl hx hdg ?_
  rw [hq]
  exact kk
theorem xaldS (C : CallFix p m c cc nL s args Ts own) (hK : WK g s) (hW : XW g w A0 H0 H locs) {i n : Nat} {f : Nat → Option Nat} (hi : i < gN g) (he : w i = .inl (gS g, n, .inr (.inr (.inr (.inr f))))) {x : Int32} (hx : vp_in x n) {q : Nat} (hq : f x.toNatClampNeg = some q) (hdg : decode cc pc = .ok (.aaload, 1))
    (kk : W p l e R s m args below meth c H locs cells slots Q (F0 m (pc + 1) ls (.ref q :: rest))) : W p l e R s m args below meth c H locs cells slots Q (F0 m pc ls (.int x :: .ref (gad g i) :: rest)) := by
  refine va_aldq C.1 C.2.1 hK.1 hW.1 i 3 (by rw [wl_get hi, he]) rfl hx hdg ?_
  rw [hq]
  exact kk
theorem xastM (C : CallFix p m c cc nL s args Ts own) (hK : WK g s) (hW : XW g w A0 H0 H locs) {i n k : Nat} {f : Nat → Option Nat} {fs : List Value} (hi : i < gN g) (he : w i = .inl (gM g, n, .inr (.inr (.inr (.inr f))))) {x : Int32} (hx : vp_in x n) (hk : k < gN g) (hv : w k = .inr (2, fs)) (hdg : decode cc pc = .ok (.aastore, 1))
    (kk : ∀ (w' : Nat → va_E) (H1 : Heap) (locs1 : List Loc), w' i = .inl (gM g, n, .inr (.inr (.inr (.inr (va_up f x.toNatClampNeg (some (gad g k))))))) → (∀ j, j ≠ i → w' j = w j) → XW g w' A0 H0 H1 locs1 → W p l e R s m args below meth c H1 locs1 cells slots Q (F0 m (pc + 1) ls rest)) : W p l e R s m args below meth c H locs cells slots Q (F0 m pc ls (.ref (gad g k) :: .int x :: .ref (gad g i) :: rest)) := by
  refine va_astq C.1 C.2.1 hK.1 hW.1 hW.D hW.2.1 i 2 k 2 (r := (RX2, TX2, 5)) (by rw [wl_get hi, he]) rfl (by rw [wl_get hk, hv]) rfl hx hdg (fun H1 locs1 hP hD hS => ?_)
  refine kk (va_up w i (.inl (gM g, n, .inr (.inr (.inr (.inr (va_up f x.toNatClampNeg (some (gad g k))))))))) H1 locs1 (va_up_self _ _ _) (fun j hj => va_up_ne _ _ hj) ⟨?_, hS, hW.2.2⟩
  rw [wl_set] at hP
  exact hP
/-- int rows copied (System.arraycopy) -/
theorem xcpyi (C : CallFix p m c cc nL s args Ts own) (hK : WK g s) (hW : XW g w A0 H0 H locs) {lv : List (Nat × Value)} (hls : lv_has ls nL lv) {index i j n0 n1 : Nat} {f h : Nat → Int32} (hi : i < gN g) (he : w i = .inl (gI g, n0, .inl f)) (hj : j < gN g) (he1 : w j = .inl (gI g, n1, .inl h)) {a b n : Nat} (h4 : a + n ≤ n0) (h5 : b + n ≤ n1) (hn0 : n0 < 2 ^ 31) (hn1 : n1 < 2 ^ 31)
    (hl : Cond.methodLink own index arraycopyName ∈ Ts) (hnat : Cond.native arraycopyName ∈ Ts) (hst : Cond.static arraycopyName ∈ Ts) (hini : Cond.initialized "java/lang/System" ∈ Ts) (hfr : 1 ≤ R.frames) (hlo : (rest.map fun v => v.category).sum + (nativeFrameWords "java/lang/System" "arraycopy" 5 + 11) ≤ R.locals) (hdg : decode cc pc = .ok (.invokestatic index, 3))
    (kk : ∀ (w' : Nat → va_E) (H1 : Heap) (locs1 : List Loc), w' j = .inl (gI g, n1, .inl (va_cpy f h a b n)) → (∀ k, k ≠ j → w' k = w k) → XW g w' A0 H0 H1 locs1 → W p l e R s m args below meth c H1 locs1 cells slots Q (F0 m (pc + 3) ls rest)) : W p l e R s m args below meth c H locs cells slots Q (F0 m pc ls (.int (nI n) :: .int (nI b) :: .ref (gad g j) :: .int (nI a) :: .ref (gad g i) :: rest)) := by
  have ea : (nI a).toNatClampNeg = a := nI_clamp (by omega)
  have eb : (nI b).toNatClampNeg = b := nI_clamp (by omega)
  have en : (nI n).toNatClampNeg = n := nI_clamp (by omega)
  refine va_copyi C.1 C.2.1 (C.2.2.1.trans hls.1.symm) C.2.2.2.1 (C.2.2.2.2 _ hl) (C.2.2.2.2 _ hnat) (C.2.2.2.2 _ hst) (C.2.2.2.2 _ hini) hK.1 hW.1 hW.D hW.2.1 i j 0 0 (ty := .int) (by rw [wl_get hi, he]) (by rw [wl_get hj, he1]) rfl rfl rfl (nI_pos (by omega)) (nI_pos (by omega)) (nI_pos (by omega)) (by rw [ea, en]; exact h4) (by rw [eb, en]; exact h5) (fun _ _ => rfl) hfr hlo hdg (fun H1 locs1 hP hD hS => ?_)
  rw [ea, eb, en] at hP
  refine kk (va_up w j (.inl (gI g, n1, .inl (va_cpy f h a b n)))) H1 locs1 (va_up_self _ _ _) (fun k hk => va_up_ne _ _ hk) ⟨?_, hS, hW.2.2⟩
  rw [wl_set] at hP
  exact hP
theorem xcpyl (C : CallFix p m c cc nL s args Ts own) (hK : WK g s) (hW : XW g w A0 H0 H locs) {lv : List (Nat × Value)} (hls : lv_has ls nL lv) {index i j n0 n1 : Nat} {f h : Nat → Int64} (hi : i < gN g) (he : w i = .inl (gJ g, n0, .inr (.inl f))) (hj : j < gN g) (he1 : w j = .inl (gJ g, n1, .inr (.inl h))) {a b n : Nat} (h4 : a + n ≤ n0) (h5 : b + n ≤ n1) (hn0 : n0 < 2 ^ 31) (hn1 : n1 < 2 ^ 31)
    (hl : Cond.methodLink own index arraycopyName ∈ Ts) (hnat : Cond.native arraycopyName ∈ Ts) (hst : Cond.static arraycopyName ∈ Ts) (hini : Cond.initialized "java/lang/System" ∈ Ts) (hfr : 1 ≤ R.frames) (hlo : (rest.map fun v => v.category).sum + (nativeFrameWords "java/lang/System" "arraycopy" 5 + 11) ≤ R.locals) (hdg : decode cc pc = .ok (.invokestatic index, 3))
    (kk : ∀ (w' : Nat → va_E) (H1 : Heap) (locs1 : List Loc), w' j = .inl (gJ g, n1, .inr (.inl (va_cpy f h a b n))) → (∀ k, k ≠ j → w' k = w k) → XW g w' A0 H0 H1 locs1 → W p l e R s m args below meth c H1 locs1 cells slots Q (F0 m (pc + 3) ls rest)) : W p l e R s m args below meth c H locs cells slots Q (F0 m pc ls (.int (nI n) :: .int (nI b) :: .ref (gad g j) :: .int (nI a) :: .ref (gad g i) :: rest)) := by
  have ea : (nI a).toNatClampNeg = a := nI_clamp (by omega)
  have eb : (nI b).toNatClampNeg = b := nI_clamp (by omega)
  have en : (nI n).toNatClampNeg = n := nI_clamp (by omega)
  refine va_copyl C.1 C.2.1 (C.2.2.1.trans hls.1.symm) C.2.2.2.1 (C.2.2.2.2 _ hl) (C.2.2.2.2 _ hnat) (C.2.2.2.2 _ hst) (C.2.2.2.2 _ hini) hK.1 hW.1 hW.D hW.2.1 i j 1 1 (ty := .long) (by rw [wl_get hi, he]) (by rw [wl_get hj, he1]) rfl rfl rfl (nI_pos (by omega)) (nI_pos (by omega)) (nI_pos (by omega)) (by rw [ea, en]; exact h4) (by rw [eb, en]; exact h5) (fun _ _ => rfl) hfr hlo hdg (fun H1 locs1 hP hD hS => ?_)
  rw [ea, eb, en] at hP
  refine kk (va_up w j (.inl (gJ g, n1, .inr (.inl (va_cpy f h a b n))))) H1 locs1 (va_up_self _ _ _) (fun k hk => va_up_ne _ _ hk) ⟨?_, hS, hW.2.2⟩
  rw [wl_set] at hP
  exact hP
theorem xret_i {post : Int32 → (Nat → va_E) → Prop} (C : CallFix p m c cc nL s args Ts own) (hr : meth.sig.returnType = some .int) (hlk : meth.locks = false) (hW : XW g w (gA g) s.heap H locs) {v : Int32} (hq : post v w) (hdg : decode cc pc = .ok (.ireturn, 1)) : W p l e R s m args below meth c H locs cells slots (MQ below (XQi g post) args s cells slots (gA g)) (F0 m pc ls [.int v]) :=
  W.iret C.1 C.2.1 hr (fun t ht _ => ⟨⟨v, w, rfl, hq, by show va_P _ _ _ t.heap; rw [ht]; exact hW.1⟩, hW.2.1.F ht⟩) hW.2.1.2.2 hdg hlk
theorem xret_z {post : Int32 → (Nat → va_E) → Prop} (C : CallFix p m c cc nL s args Ts own) (hr : meth.sig.returnType = some .boolean) (hlk : meth.locks = false) (hW : XW g w (gA g) s.heap H locs) {v : Int32} (hn : narrow .boolean (.int v) = .int v) (hq : post v w) (hdg : decode cc pc = .ok (.ireturn, 1)) : W p l e R s m args below meth c H locs cells slots (MQ below (XQi g post) args s cells slots (gA g)) (F0 m pc ls [.int v]) :=
  W.zret C.1 C.2.1 hr hn (fun t ht _ => ⟨⟨v, w, rfl, hq, by show va_P _ _ _ t.heap; rw [ht]; exact hW.1⟩, hW.2.1.F ht⟩) hW.2.1.2.2 hdg hlk
theorem xret_l {post : Int64 → (Nat → va_E) → Prop} (C : CallFix p m c cc nL s args Ts own) (hr : meth.sig.returnType = some .long) (hlk : meth.locks = false) (hW : XW g w (gA g) s.heap H locs) {v : Int64} (hq : post v w) (hdg : decode cc pc = .ok (.lreturn, 1)) : W p l e R s m args below meth c H locs cells slots (MQ below (XQl g post) args s cells slots (gA g)) (F0 m pc ls [.long v]) :=
  W.lret C.1 C.2.1 hr (fun t ht _ => ⟨⟨v, w, rfl, hq, by show va_P _ _ _ t.heap; rw [ht]; exact hW.1⟩, hW.2.1.F ht⟩) hW.2.1.2.2 hdg hlk
theorem xret_v {post : (Nat → va_E) → Prop} (C : CallFix p m c cc nL s args Ts own) (hr : meth.sig.returnType = none) (hlk : meth.locks = false) (hW : XW g w (gA g) s.heap H locs) (hq : post w) (hdg : decode cc pc = .ok (.return_, 1)) : W p l e R s m args below meth c H locs cells slots (MQ below (XQv g post) args s cells slots (gA g)) (F0 m pc ls []) :=
  W.vret C.1 C.2.1 hr (fun t ht _ => ⟨⟨w, rfl, hq, by show va_P _ _ _ t.heap; rw [ht]; exact hW.1⟩, hW.2.1.F ht⟩) hW.2.1.2.2 hdg hlk
end XWR
section XCL
variable {p : Program} {l : Launch} {e : Env} {R : Room} {s : State} {m : MethodId} {args : Array Value} {below : List Frame} {meth : Method} {c : Code} {H : Heap} {locs : List Loc} {cells slots : Nat} {Q : State → Prop}
variable {cc bytes : ByteArray} {nL pc maxL index n : Nat} {ls : Array Slot} {rest st As : List Value} {Ts ws ws' : List Cond} {own : String} {g : GE} {w : Nat → va_E} {A0 : Nat → Prop} {H0 : Heap} {y : MethodName} {ret : Option FieldType} {rm : Room} {lv : List (Nat × Value)}
theorem xpreV (hK : WK g s) (hW : XW g w A0 H0 H locs) {CN : String} {T : u_T} {NF ci i : Nat} {fs : List Value} (hc : vwCl[ci]? = some (CN, T, NF)) (hi : i < gN g) (he : w i = .inr (ci, fs)) : PreV s H CN (gad g i) (XPc g w (.ref (gad g i) :: As)) As :=
  ⟨XPc_blind, va_recv (q := (CN, T, NF)) hK.1 hW.1 hc (q0 := i) (by rw [wl_get hi, he]), fun U hU hw => ⟨rfl, by rw [hU]; exact hW.1, WK_warm hw hK⟩⟩
theorem xpreS (hK : WK g s) (hW : XW g w A0 H0 H locs) : PreS s H (XPc g w As) As :=
  ⟨XPc_blind, fun U hU hw => ⟨rfl, by rw [hU]; exact hW.1, WK_warm hw hK⟩⟩
theorem xkk {w' : Nat → va_E} {t : State} {H1 : Heap} {locs1 : List Loc} (hW : XW g w A0 H0 H locs) (ht : t.heap = H1) (hB : va_P (gD g) vwCl (wlg g w') t.heap) (hS : va_S A0 H0 H1 locs1) : XW g w' A0 H0 H1 locs1 := ⟨by rw [← ht]; exact hB, hS, hW.2.2⟩
theorem xcV_i {post : Int32 → (Nat → va_E) → Prop} (C : CallFix p m c cc nL s args Ts own) (hK : WK g s) (hW : XW g w A0 H0 H locs) {CN : String} {T : u_T} {NF ci i : Nat} {fs : List Value} (hM : Met l y ws rm (XPc g w (.ref (gad g i) :: As)) (XQi g post) 0 0 (gA g)) (hG : GoodIn Ts (wsV own index CN y ws)) (hw : ws = Cond.code y bytes maxL ret :: ws') (hrc : rm.cells = 0 ∧ rm.slots = 0) (hd : y.cls = CN ∧ y.cls ≠ "java/lang/invoke/MethodHandle" ∧ y.cls ≠ "java/lang/invoke/VarHandle" ∧ (parseMethodDescriptor y.desc).map (fun d => d.parameters.length) = some n) (hR : rm.frames + 1 ≤ R.frames ∧ 8 + (maxL + 11) + rm.locals ≤ R.locals) (hcs : cells ≤ R.cells ∧ slots ≤ R.slots) (hc : vwCl[ci]? = some (CN, T, NF)) (hi : i < gN g) (he : w i = .inr (ci, fs)) (hn : As.length = n) (hls : lv_has ls nL lv) (hst : st = As.reverse ++ .ref (gad g i) :: rest) (hcat : (rest.map fun v => v.category).sum ≤ 8) (hdg : decode cc pc = .ok (.invokevirtual index, 3))
    (kk : ∀ (r : Int32) (w' : Nat → va_E) (H1 : Heap) (locs1 : List Loc), post r w' → XW g w' A0 H0 H1 locs1 → W p l e R s m args below meth c H1 locs1 cells slots Q (F0 m (pc + 3) ls (.int r :: rest))) : W p l e R s m args below meth c H locs cells slots Q (F0 m pc ls st) :=
  va_calli (va_runV (As := As) (rest := rest) C hM (cwV n C.2.2.2.2 hG hw hrc.1 hrc.2 hd hR) (xpreV hK hW hc hi he) rfl hn hls.1 hst (lv_room hcat) hdg hcs) hW.2.1 (fun q _ h => hW.free q h) hW.free (fun r u t H1 locs1 ht _ hp hB _ _ hS => kk r u H1 locs1 hp (xkk hW ht hB hS))
theorem xcV_l {post : Int64 → (Nat → va_E) → Prop} (C : CallFix p m c cc nL s args Ts own) (hK : WK g s) (hW : XW g w A0 H0 H locs) {CN : String} {T : u_T} {NF ci i : Nat} {fs : List Value} (hM : Met l y ws rm (XPc g w (.ref (gad g i) :: As)) (XQl g post) 0 0 (gA g)) (hG : GoodIn Ts (wsV own index CN y ws)) (hw : ws = Cond.code y bytes maxL ret :: ws') (hrc : rm.cells = 0 ∧ rm.slots = 0) (hd : y.cls = CN ∧ y.cls ≠ "java/lang/invoke/MethodHandle" ∧ y.cls ≠ "java/lang/invoke/VarHandle" ∧ (parseMethodDescriptor y.desc).map (fun d => d.parameters.length) = some n) (hR : rm.frames + 1 ≤ R.frames ∧ 8 + (maxL + 11) + rm.locals ≤ R.locals) (hcs : cells ≤ R.cells ∧ slots ≤ R.slots) (hc : vwCl[ci]? = some (CN, T, NF)) (hi : i < gN g) (he : w i = .inr (ci, fs)) (hn : As.length = n) (hls : lv_has ls nL lv) (hst : st = As.reverse ++ .ref (gad g i) :: rest) (hcat : (rest.map fun v => v.category).sum ≤ 8) (hdg : decode cc pc = .ok (.invokevirtual index, 3))
    (kk : ∀ (r : Int64) (w' : Nat → va_E) (H1 : Heap) (locs1 : List Loc), post r w' → XW g w' A0 H0 H1 locs1 → W p l e R s m args below meth c H1 locs1 cells slots Q (F0 m (pc + 3) ls (.long r :: rest))) : W p l e R s m args below meth c H locs cells slots Q (F0 m pc ls st) :=
  va_calll (va_runV (As := As) (rest := rest) C hM (cwV n C.2.2.2.2 hG hw hrc.1 hrc.2 hd hR) (xpreV hK hW hc hi he) rfl hn hls.1 hst (lv_room hcat) hdg hcs) hW.2.1 (fun q _ h => hW.free q h) hW.free (fun r u t H1 locs1 ht _ hp hB _ _ hS => kk r u H1 locs1 hp (xkk hW ht hB hS))
theorem xcV_v {post : (Nat → va_E) → Prop} (C : CallFix p m c cc nL s args Ts own) (hK : WK g s) (hW : XW g w A0 H0 H locs) {CN : String} {T : u_T} {NF ci i : Nat} {fs : List Value} (hM : Met l y ws rm (XPc g w (.ref (gad g i) :: As)) (XQv g post) 0 0 (gA g)) (hG : GoodIn Ts (wsV own index CN y ws)) (hw : ws = Cond.code y bytes maxL ret :: ws') (hrc : rm.cells = 0 ∧ rm.slots = 0) (hd : y.cls = CN ∧ y.cls ≠ "java/lang/invoke/MethodHandle" ∧ y.cls ≠ "java/lang/invoke/VarHandle" ∧ (parseMethodDescriptor y.desc).map (fun d => d.parameters.length) = some n) (hR : rm.frames + 1 ≤ R.frames ∧ 8 + (maxL + 11) + rm.locals ≤ R.locals) (hcs : cells ≤ R.cells ∧ slots ≤ R.slots) (hc : vwCl[ci]? = some (CN, T, NF)) (hi : i < gN g) (he : w i = .inr (ci, fs)) (hn : As.length = n) (hls : lv_has ls nL lv) (hst : st = As.reverse ++ .ref (gad g i) :: rest) (hcat : (rest.map fun v => v.category).sum ≤ 8) (hdg : decode cc pc = .ok (.invokevirtual index, 3))
    (kk : ∀ (w' : Nat → va_E) (H1 : Heap) (locs1 : List Loc), post w' → XW g w' A0 H0 H1 locs1 → W p l e R s m args below meth c H1 locs1 cells slots Q (F0 m (pc + 3) ls rest)) : W p l e R s m args below meth c H locs cells slots Q (F0 m pc ls st) :=
  va_callv (va_runV (As := As) (rest := rest) C hM (cwV n C.2.2.2.2 hG hw hrc.1 hrc.2 hd hR) (xpreV hK hW hc hi he) rfl hn hls.1 hst (lv_room hcat) hdg hcs) hW.2.1 (fun q _ h => hW.free q h) hW.free (fun u t H1 locs1 ht _ hp hB _ _ hS => kk u H1 locs1 hp (xkk hW ht hB hS))
theorem xcS_i {post : Int32 → (Nat → va_E) → Prop} (C : CallFix p m c cc nL s args Ts own) (hK : WK g s) (hW : XW g w A0 H0 H locs) (hM : Met l y ws rm (XPc g w As) (XQi g post) 0 0 (gA g)) (hG : GoodIn Ts (va_wsS own index y ws)) (hw : ws = Cond.code y bytes maxL ret :: ws') (hrc : rm.cells = 0 ∧ rm.slots = 0) (hd : y.cls ≠ "java/lang/invoke/MethodHandle" ∧ y.cls ≠ "java/lang/invoke/VarHandle" ∧ (parseMethodDescriptor y.desc).map (fun d => d.parameters.length) = some n) (hR : rm.frames + 1 ≤ R.frames ∧ 8 + (maxL + 11) + rm.locals ≤ R.locals) (hcs : cells ≤ R.cells ∧ slots ≤ R.slots) (hn : As.length = n) (hls : lv_has ls nL lv) (hst : st = As.reverse ++ rest) (hcat : (rest.map fun v => v.category).sum ≤ 8) (hdg : decode cc pc = .ok (.invokestatic index, 3))
    (kk : ∀ (r : Int32) (w' : Nat → va_E) (H1 : Heap) (locs1 : List Loc), post r w' → XW g w' A0 H0 H1 locs1 → W p l e R s m args below meth c H1 locs1 cells slots Q (F0 m (pc + 3) ls (.int r :: rest))) : W p l e R s m args below meth c H locs cells slots Q (F0 m pc ls st) :=
  va_calli (va_runS (As := As) (rest := rest) C hM (va_cwS n C.2.2.2.2 hG hw hrc.1 hrc.2 hd hR) (xpreS hK hW) rfl hn hls.1 hst (lv_room hcat) hdg hcs) hW.2.1 (fun q _ h => hW.free q h) hW.free (fun r u t H1 locs1 ht _ hp hB _ _ hS => kk r u H1 locs1 hp (xkk hW ht hB hS))
theorem xcS_l {post : Int64 → (Nat → va_E) → Prop} (C : CallFix p m c cc nL s args Ts own) (hK : WK g s) (hW : XW g w A0 H0 H locs) (hM : Met l y ws rm (XPc g w As) (XQl g post) 0 0 (gA g)) (hG : GoodIn Ts (va_wsS own index y ws)) (hw : ws = Cond.code y bytes maxL ret :: ws') (hrc : rm.cells = 0 ∧ rm.slots = 0) (hd : y.cls ≠ "java/lang/invoke/MethodHandle" ∧ y.cls ≠ "java/lang/invoke/VarHandle" ∧ (parseMethodDescriptor y.desc).map (fun d => d.parameters.length) = some n) (hR : rm.frames + 1 ≤ R.frames ∧ 8 + (maxL + 11) + rm.locals ≤ R.locals) (hcs : cells ≤ R.cells ∧ slots ≤ R.slots) (hn : As.length = n) (hls : lv_has ls nL lv) (hst : st = As.reverse ++ rest) (hcat : (rest.map fun v => v.category).sum ≤ 8) (hdg : decode cc pc = .ok (.invokestatic index, 3))
    (kk : ∀ (r : Int64) (w' : Nat → va_E) (H1 : Heap) (locs1 : List Loc), post r w' → XW g w' A0 H0 H1 locs1 → W p l e R s m args below meth c H1 locs1 cells slots Q (F0 m (pc + 3) ls (.long r :: rest))) : W p l e R s m args below meth c H locs cells slots Q (F0 m pc ls st) :=
  va_calll (va_runS (As := As) (rest := rest) C hM (va_cwS n C.2.2.2.2 hG hw hrc.1 hrc.2 hd hR) (xpreS hK hW) rfl hn hls.1 hst (lv_room hcat) hdg hcs) hW.2.1 (fun q _ h => hW.free q h) hW.free (fun r u t H1 locs1 ht _ hp hB _ _ hS => kk r u H1 locs1 hp (xkk hW ht hB hS))
theorem xcS_v {post : (Nat → va_E) → Prop} (C : CallFix p m c cc nL s args Ts own) (hK : WK g s) (hW : XW g w A0 H0 H locs) (hM : Met l y ws rm (XPc g w As) (XQv g post) 0 0 (gA g)) (hG : GoodIn Ts (va_wsS own index y ws)) (hw : ws = Cond.code y bytes maxL ret :: ws') (hrc : rm.cells = 0 ∧ rm.slots = 0) (hd : y.cls ≠ "java/lang/invoke/MethodHandle" ∧ y.cls ≠ "java/lang/invoke/VarHandle" ∧ (parseMethodDescriptor y.desc).map (fun d => d.parameters.length) = some n) (hR : rm.frames + 1 ≤ R.frames ∧ 8 + (maxL + 11) + rm.locals ≤ R.locals) (hcs : cells ≤ R.cells ∧ slots ≤ R.slots) (hn : As.length = n) (hls : lv_has ls nL lv) (hst : st = As.reverse ++ rest) (hcat : (rest.map fun v => v.category).sum ≤ 8) (hdg : decode cc pc = .ok (.invokestatic index, 3))
    (kk : ∀ (w' : Nat → va_E) (H1 : Heap) (locs1 : List Loc), post w' → XW g w' A0 H0 H1 locs1 → W p l e R s m args below meth c H1 locs1 cells slots Q (F0 m (pc + 3) ls rest)) : W p l e R s m args below meth c H locs cells slots Q (F0 m pc ls st) :=
  va_callv (va_runS (As := As) (rest := rest) C hM (va_cwS n C.2.2.2.2 hG hw hrc.1 hrc.2 hd hR) (xpreS hK hW) rfl hn hls.1 hst (lv_room hcat) hdg hcs) hW.2.1 (fun q _ h => hW.free q h) hW.free (fun u t H1 locs1 ht _ hp hB _ _ hS => kk u H1 locs1 hp (xkk hW ht hB hS))
theorem xcN_i {post : Int32 → (Nat → va_E) → Prop} {host : String} (C : CallFix p m c cc nL s args Ts own) (hK : WK g s) (hW : XW g w A0 H0 H locs) (hM : Met l y ws rm (XPc g w As) (XQi g post) 0 0 (gA g)) (hG : GoodIn Ts ws) (hw : ws = Cond.code y bytes maxL ret :: ws') (hrc : rm.cells = 0 ∧ rm.slots = 0) (hnl : va_Nw (.methodLinkNest own index y host) s) (hini : Cond.initialized y.cls ∈ Ts) (hst0 : Cond.static y ∈ Ts) (hd : y.cls ≠ "java/lang/invoke/MethodHandle" ∧ y.cls ≠ "java/lang/invoke/VarHandle" ∧ (parseMethodDescriptor y.desc).map (fun d => d.parameters.length) = some n) (hR : rm.frames + 1 ≤ R.frames ∧ 8 + (maxL + 11) + rm.locals ≤ R.locals) (hcs : cells ≤ R.cells ∧ slots ≤ R.slots) (hn : As.length = n) (hls : lv_has ls nL lv) (hst : st = As.reverse ++ rest) (hcat : (rest.map fun v => v.category).sum ≤ 8) (hdg : decode cc pc = .ok (.invokestatic index, 3))
    (kk : ∀ (r : Int32) (w' : Nat → va_E) (H1 : Heap) (locs1 : List Loc), post r w' → XW g w' A0 H0 H1 locs1 → W p l e R s m args below meth c H1 locs1 cells slots Q (F0 m (pc + 3) ls (.int r :: rest))) : W p l e R s m args below meth c H locs cells slots Q (F0 m pc ls st) :=
  va_calli (va_runSN (As := As) (rest := rest) C hM ⟨va_cnB n C.2.2.2.2 hG hw hrc.1 hrc.2 hnl (C.2.2.2.2 _ hini) hd hR, C.2.2.2.2 _ hst0, trivial⟩ (xpreS hK hW) rfl hn hls.1 hst (lv_room hcat) hdg hcs) hW.2.1 (fun q _ h => hW.free q h) hW.free (fun r u t H1 locs1 ht _ hp hB _ _ hS => kk r u H1 locs1 hp (xkk hW ht hB hS))
theorem xcN_l {post : Int64 → (Nat → va_E) → Prop} {host : String} (C : CallFix p m c cc nL s args Ts own) (hK : WK g s) (hW : XW g w A0 H0 H locs) (hM : Met l y ws rm (XPc g w As) (XQl g post) 0 0 (gA g)) (hG : GoodIn Ts ws) (hw : ws = Cond.code y bytes maxL ret :: ws') (hrc : rm.cells = 0 ∧ rm.slots = 0) (hnl : va_Nw (.methodLinkNest own index y host) s) (hini : Cond.initialized y.cls ∈ Ts) (hst0 : Cond.static y ∈ Ts) (hd : y.cls ≠ "java/lang/invoke/MethodHandle" ∧ y.cls ≠ "java/lang/invoke/VarHandle" ∧ (parseMethodDescriptor y.desc).map (fun d => d.parameters.length) = some n) (hR : rm.frames + 1 ≤ R.frames ∧ 8 + (maxL + 11) + rm.locals ≤ R.locals) (hcs : cells ≤ R.cells ∧ slots ≤ R.slots) (hn : As.length = n) (hls : lv_has ls nL lv) (hst : st = As.reverse ++ rest) (hcat : (rest.map fun v => v.category).sum ≤ 8) (hdg : decode cc pc = .ok (.invokestatic index, 3))
    (kk : ∀ (r : Int64) (w' : Nat → va_E) (H1 : Heap) (locs1 : List Loc), post r w' → XW g w' A0 H0 H1 locs1 → W p l e R s m args below meth c H1 locs1 cells slots Q (F0 m (pc + 3) ls (.long r :: rest))) : W p l e R s m args below meth c H locs cells slots Q (F0 m pc ls st) :=
  va_calll (va_runSN (As := As) (rest := rest) C hM ⟨va_cnB n C.2.2.2.2 hG hw hrc.1 hrc.2 hnl (C.2.2.2.2 _ hini) hd hR, C.2.2.2.2 _ hst0, trivial⟩ (xpreS hK hW) rfl hn hls.1 hst (lv_room hcat) hdg hcs) hW.2.1 (fun q _ h => hW.free q h) hW.free (fun r u t H1 locs1 ht _ hp hB _ _ hS => kk r u H1 locs1 hp (xkk hW ht hB hS))
end XCL
