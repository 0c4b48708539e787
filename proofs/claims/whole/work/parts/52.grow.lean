/-! GROWING: the constructors make the world cell by cell; N cells so far, ad their addresses, w what they hold -/
def gx (g : GE) (ad : Nat → Nat) (N : Nat) : GE := (g.1, g.2.1, g.2.2.1, ad, N)
theorem wl_push {N : Nat} {ad ad' : Nat → Nat} {w w' : Nat → va_E} {q : Nat} {e : va_E} (h1 : ad' N = q) (h2 : ∀ i, i < N → ad' i = ad i) (h3 : w' N = e) (h4 : ∀ i, i < N → w' i = w i) : wl (N + 1) ad' w' = wl N ad w ++ [(q, e)] := by
  unfold wl
  rw [List.range_succ, List.map_append]
  congr 1
  · apply List.map_congr_left
    intro i hi
    rw [h2 i (List.mem_range.mp hi), h4 i (List.mem_range.mp hi)]
  · simp [h1, h3]
def inits (U : State) : Prop := va_Nw (.methodLinkNest RX1 17 yX2_init RX6) U ∧ va_Nw (.methodLinkNest RX6 24 yX5_init RX6) U ∧ va_Nw (.methodLinkNest RX5 35 yX0_init RX6) U ∧ va_Nw (.methodLinkNest RX6 31 yX0_init RX6) U ∧ va_Nw (.methodLinkNest RX6 41 yX3_init RX6) U ∧ va_Nw (.methodLinkNest RX6 52 yX4_init RX6) U
def WKn (g : GE) (U : State) : Prop := WK g U ∧ va_AO RX2 U ∧ va_AO RX4 U ∧ inits U
theorem inits_warm {s U : State} (hW : s.WarmedH U.vm) (h : inits s) : inits U := ⟨va_Nw.warmM hW h.1, va_Nw.warmM hW h.2.1, va_Nw.warmM hW h.2.2.1, va_Nw.warmM hW h.2.2.2.1, va_Nw.warmM hW h.2.2.2.2.1, va_Nw.warmM hW h.2.2.2.2.2⟩
theorem WKn_warm {g : GE} {s U : State} (hW : s.WarmedH U.vm) (h : WKn g s) : WKn g U := ⟨WK_warm hW h.1, h.2.1.moved hW.alike, h.2.2.1.moved hW.alike, inits_warm hW h.2.2.2⟩
theorem inits_calling {a : Array Value} {U : State} {fr : JFrame} {mk : MethodId} (h : inits U) : inits (U.calling fr mk a) :=
  ⟨va_Nw.same rfl rfl h.1, va_Nw.same rfl rfl h.2.1, va_Nw.same rfl rfl h.2.2.1, va_Nw.same rfl rfl h.2.2.2.1, va_Nw.same rfl rfl h.2.2.2.2.1, va_Nw.same rfl rfl h.2.2.2.2.2⟩
/-- what a constructor may change: the cells that it is given, and those that it makes -/
def gB (N : Nat) (ad : Nat → Nat) (sz : Nat) : Nat → Prop := fun q => (∃ i, i < N ∧ ad i = q) ∨ sz ≤ q
def XPn (g : GE) (N : Nat) (ad : Nat → Nat) (w : Nat → va_E) (sz : Nat) (av : List Value) : Array Value → State → Prop := va_Pc av (fun U => U.heap.size = sz ∧ va_P (gD g) vwCl (wl N ad w) U.heap ∧ WKn g U)
def XQn (g : GE) (N : Nat) (post : (Nat → Nat) → (Nat → va_E) → Prop) (A : Nat → Prop) : Array Value → State → Outcome → State → Prop := va_Qv (fun u : (Nat → Nat) × (Nat → va_E) => post u.1 u.2) (fun u t => va_P (gD g) vwCl (wl N u.1 u.2) t.heap ∧ va_D A (wl N u.1 u.2)) A
theorem XPn_blind {g : GE} {N sz : Nat} {ad : Nat → Nat} {w : Nat → va_E} {av : List Value} : FrameBlind (XPn g N ad w sz av) := by
  intro a U fr mk h
  obtain ⟨h1, h0, h2, ⟨h3, h4⟩, h5, h6, h7⟩ := h
  exact ⟨h1, h0, h2, ⟨va_K.moved (u := U) (U := U.calling fr mk a) (Vm.Alike.refl U.vm) h3, nests_calling h4⟩, h5.moved (U := U.calling fr mk a) (Vm.Alike.refl U.vm), h6.moved (U := U.calling fr mk a) (Vm.Alike.refl U.vm), inits_calling h7⟩
theorem D_inj {N : Nat} {ad : Nat → Nat} {w : Nat → va_E} {A : Nat → Prop} (h : va_D A (wl N ad w)) : (∀ i j, i < N → j < N → ad i = ad j → i = j) ∧ ∀ i, i < N → A (ad i) :=
  ⟨fun i j hi hj e => h.1 i j _ _ (wl_get hi) (wl_get hj) e, fun i hi => h.2 i _ (wl_get hi)⟩
theorem XW_of {g : GE} {N : Nat} {ad : Nat → Nat} {w : Nat → va_E} {A0 : Nat → Prop} {H0 H : Heap} {locs : List Loc} (hP : va_P (gD g) vwCl (wl N ad w) H) (hD : va_D A0 (wl N ad w)) (hS : va_S A0 H0 H locs) : XW (gx g ad N) w A0 H0 H locs := ⟨hP, hS, (D_inj hD).1, (D_inj hD).2⟩
set_option maxHeartbeats 1000000 in
theorem ymet {l : Launch} {y : MethodName} {ws ws' : List Cond} {rm : Room} {cc : ByteArray} {maxL mc ms N sz : Nat} {g : GE} {ad : Nat → Nat} {w : Nat → va_E} {av : List Value} {Qc : Array Value → State → Outcome → State → Prop}
    (hy : plainName y.cls = true) (hw : ws = Cond.code y cc maxL none :: ws') (hn : y.name = "<init>") (hI : AdInj (gx g ad N)) (hlen : (lg_sl av).length ≤ maxL)
    (body : ∀ (p : Program) (e : Env) (s : State) (m : MethodId) (below : List Frame) (meth : Method) (c : Code) (ls : Array Slot), CallFix p m c cc maxL s av.toArray ws y.cls → meth.sig.returnType = none → meth.locks = false → meth.name = "<init>" → WKn g s → (∀ q, s.heap.size ≤ q → gB N ad sz q) → XW (gx g ad N) w (gB N ad sz) s.heap s.heap [] → lv_has ls maxL (lv_args 0 av) →
      W p l e rm s m av.toArray below meth c s.heap [] 0 0 (MQ below Qc av.toArray s mc ms (gB N ad sz)) (F0 m 0 ls [])) : Met l y ws rm (XPn g N ad w sz av) Qc mc ms (gB N ad sz) := by
  refine Met.ofW (cc := cc) (maxL := maxL) (ret := none) hy hw ?_
  intro p e s m args below meth c s₁ B hml hv
  obtain ⟨rfl, hsz, hP, hK⟩ := hv
  have hown : s.vm.findClass y.cls = some m.cls := findClass_of_methodNamed B.named
  have hin : meth.name = y.name := (name_of_methodNamed B.named B.method).1
  have hl := lv_entry av (n := maxL) hlen
  rw [lg_entry_eq]
  exact body p e s m below meth c _ ⟨B.exec, B.bytes, hml, hown, atoms_spec (ws := ws) B.pre⟩ B.returns B.notSynchronized (hin.trans hn) hK (fun q h => Or.inr (hsz ▸ h)) ⟨hP, va_S.rf, hI, fun i hi => Or.inl ⟨i, hi, rfl⟩⟩ hl
section YWR
variable {p : Program} {l : Launch} {e : Env} {R : Room} {s : State} {m : MethodId} {args : Array Value} {below : List Frame} {meth : Method} {c : Code} {H : Heap} {locs : List Loc} {cells slots : Nat} {Q : State → Prop}
variable {cc : ByteArray} {nL pc : Nat} {ls : Array Slot} {rest : List Value} {Ts : List Cond} {own : String} {g : GE} {ad : Nat → Nat} {N : Nat} {w : Nat → va_E} {A0 : Nat → Prop} {H0 : Heap}
theorem yget (C : CallFix p m c cc nL s args Ts own) (hK : WKn g s) (hW : XW (gx g ad N) w A0 H0 H locs) {CN : String} {T : u_T} {NF ci index i a : Nat} {fs : List Value} (hin : ∀ x ∈ u_ws CN T NF, x ∈ Ts) (hc : vwCl[ci]? = some (CN, T, NF)) (hi : i < N) (ha : ad i = a) (he : w i = .inr (ci, fs)) (k : Nat) (hk : k < NF) (hl : Cond.fieldLink own index (T k).1 (T k).2.1 (T k).2.2.1 ∈ Ts) {v : Value} (hv : fs[k]? = some v) (hdg : decode cc pc = .ok (.getfield index, 3))
    (kk : W p l e R s m args below meth c H locs cells slots Q (F0 m (pc + 3) ls (v :: rest))) : W p l e R s m args below meth c H locs cells slots Q (F0 m pc ls (.ref a :: rest)) :=
  ha ▸ xget (g := gx g ad N) C hK.1 hW hin hc hi he k hk hl hv hdg kk
theorem yput (C : CallFix p m c cc nL s args Ts own) (hK : WKn g s) (hW : XW (gx g ad N) w A0 H0 H locs) {CN : String} {T : u_T} {NF ci index i a : Nat} {fs : List Value} (hin : ∀ x ∈ u_ws CN T NF, x ∈ Ts) {ty0 : Nat → FieldType} (hty : ∀ k, k < NF → parseFieldDescriptor (T k).2.2.1 = some (ty0 k)) (hnm : ∀ a, a < NF → ∀ b, b < NF → a ≠ b → (T a).2.1 ≠ (T b).2.1) (hc : vwCl[ci]? = some (CN, T, NF)) (hi : i < N) (ha : ad i = a) (he : w i = .inr (ci, fs)) (k : Nat) (hk : k < NF) (hl : Cond.fieldLink own index (T k).1 (T k).2.1 (T k).2.2.1 ∈ Ts) (hfin : (T k).2.2.2 = false) {v : Value} (hn : narrow (ty0 k) v = v) (hfit : fits (ty0 k) v = true) (hlen : k < fs.length) (hdg : decode cc pc = .ok (.putfield index, 3))
    (kk : ∀ (w' : Nat → va_E) (H1 : Heap) (locs1 : List Loc), w' i = .inr (ci, fs.set k v) → (∀ j, j ≠ i → w' j = w j) → XW (gx g ad N) w' A0 H0 H1 locs1 → W p l e R s m args below meth c H1 locs1 cells slots Q (F0 m (pc + 3) ls rest)) : W p l e R s m args below meth c H locs cells slots Q (F0 m pc ls (v :: .ref a :: rest)) :=
  ha ▸ xput (g := gx g ad N) C hK.1 hW hin hty hnm hc hi he k hk hl hfin hn hfit hlen hdg kk
/-- a final field, in the constructor -/
theorem yputF (C : CallFix p m c cc nL s args Ts own) (hnm0 : meth.name = "<init>") (hK : WKn g s) (hW : XW (gx g ad N) w A0 H0 H locs) {CN : String} {T : u_T} {NF ci index i a : Nat} {fs : List Value} (hin : ∀ x ∈ u_ws CN T NF, x ∈ Ts) {ty0 : Nat → FieldType} (hty : ∀ k, k < NF → parseFieldDescriptor (T k).2.2.1 = some (ty0 k)) (hnm : ∀ a, a < NF → ∀ b, b < NF → a ≠ b → (T a).2.1 ≠ (T b).2.1) (hc : vwCl[ci]? = some (CN, T, NF)) (hi : i < N) (ha : ad i = a) (he : w i = .inr (ci, fs)) (k : Nat) (hk : k < NF) (hl : Cond.fieldLink own index (T k).1 (T k).2.1 (T k).2.2.1 ∈ Ts) (hfin : (T k).2.2.2 = true) (hdecl : (T k).1 = own) {v : Value} (hn : narrow (ty0 k) v = v) (hfit : fits (ty0 k) v = true) (hlen : k < fs.length) (hdg : decode cc pc = .ok (.putfield index, 3))
    (kk : ∀ (w' : Nat → va_E) (H1 : Heap) (locs1 : List Loc), w' i = .inr (ci, fs.set k v) → (∀ j, j ≠ i → w' j = w j) → XW (gx g ad N) w' A0 H0 H1 locs1 → W p l e R s m args below meth c H1 locs1 cells slots Q (F0 m (pc + 3) ls rest)) : W p l e R s m args below meth c H locs cells slots Q (F0 m pc ls (v :: .ref a :: rest)) := by
  subst ha
  have hq1 : (wlg (gx g ad N) w)[i]? = some (ad i, .inr (ci, fs)) := (wl_get hi).trans (by rw [he]; rfl)
  refine va_putF C.1 C.2.1 C.2.2.2.2 hin ty0 hty hnm C.2.2.2.1 hK.1.1 hW.1 hW.D hW.2.1 i hq1 hc k hk (C.2.2.2.2 _ hl) (fun _ h => h) hfin hnm0 hdecl (hty k hk) hn hfit hlen hdg (fun H1 locs1 hP hD hS => ?_)
  refine kk (va_up w i (.inr (ci, fs.set k v))) H1 locs1 (va_up_self _ _ _) (fun j hj => va_up_ne _ _ hj) ⟨?_, hS, hW.2.2⟩
  have e : (wlg (gx g ad N) w).set i (ad i, .inr (ci, fs.set k v)) = wlg (gx g ad N) (va_up w i (.inr (ci, fs.set k v))) := wl_set
  rw [← e]
  exact hP
theorem ynew (C : CallFix p m c cc nL s args Ts own) (hK : WKn g s) (hW : XW (gx g ad N) w A0 H0 H locs) (hA : ∀ q, H0.size ≤ q → A0 q) {CN : String} {T : u_T} {NF ci index : Nat} {ty : Nat → FieldType} (hin : ∀ x ∈ u_ws CN T NF, x ∈ Ts) (hty : ∀ k, k < NF → parseFieldDescriptor (T k).2.2.1 = some (ty k)) (hc : vwCl[ci]? = some (CN, T, NF)) (hcl : Cond.classLink own index CN ∈ Ts) (hins : Cond.instantiable CN NF ∈ Ts) (hini : Cond.initialized CN ∈ Ts) {fs : List Value} (hfs : ∀ j, j < NF → defaultValue (ty j) = vp_V fs j) (hcells : cells + 1 ≤ R.cells) (hslots : slots + NF ≤ R.slots) (hdg : decode cc pc = .ok (.new index, 3))
    (kk : ∀ (q : Nat) (ad' : Nat → Nat) (w' : Nat → va_E) (H1 : Heap), ad' N = q → (∀ i, i < N → ad' i = ad i) → w' N = .inr (ci, fs) → (∀ i, i < N → w' i = w i) → XW (gx g ad' (N + 1)) w' A0 H0 H1 locs → W p l e R s m args below meth c H1 locs (cells + 1) (slots + NF) Q (F0 m (pc + 3) ls (.ref q :: rest))) : W p l e R s m args below meth c H locs cells slots Q (F0 m pc ls rest) := by
  refine va_new C.1 C.2.1 C.2.2.2.2 hin ty hty C.2.2.2.1 (C.2.2.2.2 _ hcl) (C.2.2.2.2 _ hins) (C.2.2.2.2 _ hini) hK.1.1 hW.1 hW.D hW.2.1 hA hc hfs hcells hslots hdg (fun q H1 hP hD hS => ?_)
  have e : wl (N + 1) (va_up ad N q) (va_up w N (.inr (ci, fs))) = wlg (gx g ad N) w ++ [(q, .inr (ci, fs))] := wl_push (va_up_self _ _ _) (fun i hi => va_up_ne _ _ (Nat.ne_of_lt hi)) (va_up_self _ _ _) (fun i hi => va_up_ne _ _ (Nat.ne_of_lt hi))
  exact kk q (va_up ad N q) (va_up w N (.inr (ci, fs))) H1 (va_up_self _ _ _) (fun i hi => va_up_ne _ _ (Nat.ne_of_lt hi)) (va_up_self _ _ _) (fun i hi => va_up_ne _ _ (Nat.ne_of_lt hi)) (XW_of (e ▸ hP) (e ▸ hD) hS)
theorem ynewI (C : CallFix p m c cc nL s args Ts own) (hK : WKn g s) (hW : XW (gx g ad N) w A0 H0 H locs) (hA : ∀ q, H0.size ≤ q → A0 q) (harr : Cond.arrayClass .int ∈ Ts) {n : Nat} (hn : n < 1000) (hcells : cells + 1 ≤ R.cells) (hslots : slots + n ≤ R.slots) (hdg : decode cc pc = .ok (.newarray .int, 2))
    (kk : ∀ (q : Nat) (ad' : Nat → Nat) (w' : Nat → va_E) (H1 : Heap), ad' N = q → (∀ i, i < N → ad' i = ad i) → w' N = .inl (gI g, n, .inl (fun _ => 0)) → (∀ i, i < N → w' i = w i) → XW (gx g ad' (N + 1)) w' A0 H0 H1 locs → W p l e R s m args below meth c H1 locs (cells + 1) (slots + n) Q (F0 m (pc + 2) ls (.ref q :: rest))) : W p l e R s m args below meth c H locs cells slots Q (F0 m pc ls (.int (nI n) :: rest)) := by
  refine va_newa (atype := .int) (ty := .int) (a0 := (n, .inl (fun _ => 0))) C.1 C.2.1 (C.2.2.2.2 _ harr) rfl hK.1.1 hW.1 hW.D hW.2.1 hA (fun _ => rfl) (nI_pos (by omega)) (nI_clamp (by omega)) (by show n * 4 ≤ _; omega) hcells hslots hdg (fun q cA H1 hK2 hP hD hS => ?_)
  have hcA : cA = gI g := Option.some.inj ((va_nm_int (hK2.2 4 (cA, .int) rfl).2).symm.trans (va_nm_int (hK.1.1.2 0 (gI g, .int) rfl).2))
  subst hcA
  have e : wl (N + 1) (va_up ad N q) (va_up w N (.inl (gI g, n, .inl (fun _ => 0)))) = wlg (gx g ad N) w ++ [(q, .inl (gI g, n, .inl (fun _ => 0)))] := wl_push (va_up_self _ _ _) (fun i hi => va_up_ne _ _ (Nat.ne_of_lt hi)) (va_up_self _ _ _) (fun i hi => va_up_ne _ _ (Nat.ne_of_lt hi))
  exact kk q (va_up ad N q) (va_up w N (.inl (gI g, n, .inl (fun _ => 0)))) H1 (va_up_self _ _ _) (fun i hi => va_up_ne _ _ (Nat.ne_of_lt hi)) (va_up_self _ _ _) (fun i hi => va_up_ne _ _ (Nat.ne_of_lt hi)) (XW_of (e ▸ hP) (e ▸ hD) hS)
theorem ynewJ (C : CallFix p m c cc nL s args Ts own) (hK : WKn g s) (hW : XW (gx g ad N) w A0 H0 H locs) (hA : ∀ q, H0.size ≤ q → A0 q) (harr : Cond.arrayClass .long ∈ Ts) {n : Nat} (hn : n < 1000) (hcells : cells + 1 ≤ R.cells) (hslots : slots + n ≤ R.slots) (hdg : decode cc pc = .ok (.newarray .long, 2))
    (kk : ∀ (q : Nat) (ad' : Nat → Nat) (w' : Nat → va_E) (H1 : Heap), ad' N = q → (∀ i, i < N → ad' i = ad i) → w' N = .inl (gJ g, n, .inr (.inl (fun _ => 0))) → (∀ i, i < N → w' i = w i) → XW (gx g ad' (N + 1)) w' A0 H0 H1 locs → W p l e R s m args below meth c H1 locs (cells + 1) (slots + n) Q (F0 m (pc + 2) ls (.ref q :: rest))) : W p l e R s m args below meth c H locs cells slots Q (F0 m pc ls (.int (nI n) :: rest)) := by
  refine va_newa (atype := .long) (ty := .long) (a0 := (n, .inr (.inl (fun _ => 0)))) C.1 C.2.1 (C.2.2.2.2 _ harr) rfl hK.1.1 hW.1 hW.D hW.2.1 hA (fun _ => rfl) (nI_pos (by omega)) (nI_clamp (by omega)) (by show n * 8 ≤ _; omega) hcells hslots hdg (fun q cA H1 hK2 hP hD hS => ?_)
  have hcA : cA = gJ g := Option.some.inj ((va_nm_long (hK2.2 4 (cA, .long) rfl).2).symm.trans (va_nm_long (hK.1.1.2 1 (gJ g, .long) rfl).2))
  subst hcA
  have e : wl (N + 1) (va_up ad N q) (va_up w N (.inl (gJ g, n, .inr (.inl (fun _ => 0))))) = wlg (gx g ad N) w ++ [(q, .inl (gJ g, n, .inr (.inl (fun _ => 0))))] := wl_push (va_up_self _ _ _) (fun i hi => va_up_ne _ _ (Nat.ne_of_lt hi)) (va_up_self _ _ _) (fun i hi => va_up_ne _ _ (Nat.ne_of_lt hi))
  exact kk q (va_up ad N q) (va_up w N (.inl (gJ g, n, .inr (.inl (fun _ => 0))))) H1 (va_up_self _ _ _) (fun i hi => va_up_ne _ _ (Nat.ne_of_lt hi)) (va_up_self _ _ _) (fun i hi => va_up_ne _ _ (Nat.ne_of_lt hi)) (XW_of (e ▸ hP) (e ▸ hD) hS)
theorem ynewQ (C : CallFix p m c cc nL s args Ts own) (hK : WKn g s) (hW : XW (gx g ad N) w A0 H0 H locs) (hA : ∀ q, H0.size ≤ q → A0 q) {CN : String} {index k : Nat} {cQ : ClassId} (hover : va_AO CN s) (hQ : (tysG g)[k]? = some (cQ, .object CN)) (hcl : Cond.classLink own index CN ∈ Ts) {n : Nat} (hn : n < 1000) (hcells : cells + 1 ≤ R.cells) (hslots : slots + n ≤ R.slots) (hdg : decode cc pc = .ok (.anewarray index, 3))
    (kk : ∀ (q : Nat) (ad' : Nat → Nat) (w' : Nat → va_E) (H1 : Heap), ad' N = q → (∀ i, i < N → ad' i = ad i) → w' N = .inl (cQ, n, .inr (.inr (.inr (.inr (fun _ => none))))) → (∀ i, i < N → w' i = w i) → XW (gx g ad' (N + 1)) w' A0 H0 H1 locs → W p l e R s m args below meth c H1 locs (cells + 1) (slots + n) Q (F0 m (pc + 3) ls (.ref q :: rest))) : W p l e R s m args below meth c H locs cells slots Q (F0 m pc ls (.int (nI n) :: rest)) := by
  refine va_newq C.1 C.2.1 C.2.2.2.1 (C.2.2.2.2 _ hcl) hover hK.1.1 hW.1 hW.D hW.2.1 hA (nI_pos (by omega)) (nI_clamp (by omega)) (by omega) hcells hslots hdg (fun q cA H1 hK2 hP hD hS => ?_)
  obtain ⟨kA, comp, h1, h2, h3, h4⟩ := (hK2.2 4 (cA, .object CN) rfl).2
  obtain ⟨kB, comp2, g1, g2, g3, g4⟩ := (hK.1.1.2 k (cQ, .object CN) hQ).2
  have hcA : cA = cQ := Option.some.inj (h4.symm.trans g4)
  subst hcA
  have e : wl (N + 1) (va_up ad N q) (va_up w N (.inl (cA, n, .inr (.inr (.inr (.inr (fun _ => none))))))) = wlg (gx g ad N) w ++ [(q, .inl (cA, n, .inr (.inr (.inr (.inr (fun _ => none))))))] := wl_push (va_up_self _ _ _) (fun i hi => va_up_ne _ _ (Nat.ne_of_lt hi)) (va_up_self _ _ _) (fun i hi => va_up_ne _ _ (Nat.ne_of_lt hi))
  exact kk q (va_up ad N q) (va_up w N (.inl (cA, n, .inr (.inr (.inr (.inr (fun _ => none))))))) H1 (va_up_self _ _ _) (fun i hi => va_up_ne _ _ (Nat.ne_of_lt hi)) (va_up_self _ _ _) (fun i hi => va_up_ne _ _ (Nat.ne_of_lt hi)) (XW_of (e ▸ hP) (e ▸ hD) hS)
/-- a row of references: one put -/
theorem yastQ (C : CallFix p m c cc nL s args Ts own) (hK : WKn g s) (hW : XW (gx g ad N) w A0 H0 H locs) {i n k j a b t ci : Nat} {cQ : ClassId} {r : vw_C} {f : Nat → Option Nat} {fs : List Value} (hQ : (tysG g)[t]? = some (cQ, .object r.1)) (hc : vwCl[ci]? = some r) (hi : i < N) (ha : ad i = a) (he : w i = .inl (cQ, n, .inr (.inr (.inr (.inr f))))) (hk : k < N) (hb : ad k = b) (hv : w k = .inr (ci, fs)) (hj : j < n) (hn : n < 1000) (hdg : decode cc pc = .ok (.aastore, 1))
    (kk : ∀ (w' : Nat → va_E) (H1 : Heap) (locs1 : List Loc), w' i = .inl (cQ, n, .inr (.inr (.inr (.inr (va_up f j (some b)))))) → (∀ x, x ≠ i → w' x = w x) → XW (gx g ad N) w' A0 H0 H1 locs1 → W p l e R s m args below meth c H1 locs1 cells slots Q (F0 m (pc + 1) ls rest)) : W p l e R s m args below meth c H locs cells slots Q (F0 m pc ls (.ref b :: .int (nI j) :: .ref a :: rest)) := by
  subst ha hb
  have hq1 : (wlg (gx g ad N) w)[i]? = some (ad i, .inl (cQ, n, .inr (.inr (.inr (.inr f))))) := (wl_get hi).trans (by rw [he]; rfl)
  have hq2 : (wlg (gx g ad N) w)[k]? = some (ad k, .inr (ci, fs)) := (wl_get hk).trans (by rw [hv]; rfl)
  refine va_astq C.1 C.2.1 hK.1.1 hW.1 hW.D hW.2.1 i t k ci (r := r) hq1 hQ hq2 hc (vp_in_nI hj (by omega)) hdg (fun H1 locs1 hP hD hS => ?_)
  rw [nI_clamp (by omega)] at hP
  have e : (wlg (gx g ad N) w).set i (ad i, .inl (cQ, n, .inr (.inr (.inr (.inr (va_up f j (some (ad k)))))))) = wlg (gx g ad N) (va_up w i (.inl (cQ, n, .inr (.inr (.inr (.inr (va_up f j (some (ad k))))))))) := wl_set
  refine kk (va_up w i (.inl (cQ, n, .inr (.inr (.inr (.inr (va_up f j (some (ad k))))))))) H1 locs1 (va_up_self _ _ _) (fun x hx => va_up_ne _ _ hx) ⟨?_, hS, hW.2.2⟩
  rw [← e]
  exact hP
theorem yistI (C : CallFix p m c cc nL s args Ts own) (hK : WKn g s) (hW : XW (gx g ad N) w A0 H0 H locs) {i n j a : Nat} {f : Nat → Int32} {v : Int32} (hi : i < N) (ha : ad i = a) (he : w i = .inl (gI g, n, .inl f)) (hj : j < n) (hn : n < 1000) (hdg : decode cc pc = .ok (.iastore, 1))
    (kk : ∀ (w' : Nat → va_E) (H1 : Heap) (locs1 : List Loc), w' i = .inl (gI g, n, .inl (va_up f j v)) → (∀ x, x ≠ i → w' x = w x) → XW (gx g ad N) w' A0 H0 H1 locs1 → W p l e R s m args below meth c H1 locs1 cells slots Q (F0 m (pc + 1) ls rest)) : W p l e R s m args below meth c H locs cells slots Q (F0 m pc ls (.int v :: .int (nI j) :: .ref a :: rest)) := by
  subst ha
  refine xist (g := gx g ad N) C hK.1 hW hi he (vp_in_nI hj (by omega)) hdg (fun w' H1 locs1 h1 h2 h3 => ?_)
  rw [nI_clamp (by omega), updI] at h1
  exact kk w' H1 locs1 h1 h2 h3
theorem yret {N' mc ms sz : Nat} {ad1 : Nat → Nat} {w1 : Nat → va_E} {post : (Nat → Nat) → (Nat → va_E) → Prop} (C : CallFix p m c cc nL s args Ts own) (hr : meth.sig.returnType = none) (hlk : meth.locks = false) (hW : XW (gx g ad1 N') w1 (gB N ad sz) s.heap H locs) (hc : cells ≤ mc) (hs : slots ≤ ms) (hq : post ad1 w1) (hdg : decode cc pc = .ok (.return_, 1)) : W p l e R s m args below meth c H locs cells slots (MQ below (XQn g N' post (gB N ad sz)) args s mc ms (gB N ad sz)) (F0 m pc ls []) :=
  W.widen hc hs (W.vret C.1 C.2.1 hr (fun t ht _ => ⟨⟨(ad1, w1), rfl, hq, by show va_P _ _ _ t.heap; rw [ht]; exact hW.1, hW.D⟩, hW.2.1.F ht⟩) hW.2.1.2.2 hdg hlk)
end YWR
section YCL
variable {p : Program} {l : Launch} {e : Env} {R : Room} {s : State} {m : MethodId} {args : Array Value} {below : List Frame} {meth : Method} {c : Code} {H : Heap} {locs : List Loc} {cells slots : Nat} {Q : State → Prop}
variable {cc bytes : ByteArray} {nL pc maxL index mc ms : Nat} {ls : Array Slot} {rest : List Value} {Ts ws ws' : List Cond} {own : String} {g : GE} {ad : Nat → Nat} {N N2 a : Nat} {w : Nat → va_E} {A0 : Nat → Prop} {H0 : Heap} {y : MethodName} {rm : Room} {lv : List (Nat × Value)} {post : (Nat → Nat) → (Nat → va_E) → Prop}
theorem gB_in (hW : XW (gx g ad N) w A0 H0 H locs) (hA : ∀ q, H0.size ≤ q → A0 q) : ∀ q, gB N ad H.size q → A0 q := by
  intro q h
  rcases h with ⟨i, hi, rfl⟩ | h
  · exact hW.2.2.2 i hi
  · exact hA q (Nat.le_trans hW.2.1.1 h)
theorem ypre (hK : WKn g s) (hW : XW (gx g ad N) w A0 H0 H locs) : PreS s H (XPn g N ad w H.size [.ref a]) [.ref a] :=
  ⟨XPn_blind, fun U hU hw => ⟨rfl, by rw [hU], by rw [hU]; exact hW.1, WKn_warm hw hK⟩⟩
theorem ycN (C : CallFix p m c cc nL s args Ts own) (hK : WKn g s) (hW : XW (gx g ad N) w A0 H0 H locs) (hA : ∀ q, H0.size ≤ q → A0 q) {host : String} (hM : Met l y ws rm (XPn g N ad w H.size [.ref a]) (XQn g N2 post (gB N ad H.size)) mc ms (gB N ad H.size)) (hG : GoodIn Ts ws) (hw : ws = Cond.code y bytes maxL none :: ws') (hrc : rm.cells = mc) (hrs : rm.slots = ms) (hnl : va_Nw (.methodLinkNest own index y host) s) (hini : Cond.initialized y.cls ∈ Ts) (hy1 : y.name = "<init>") (hinm : Cond.instanceMethod y ∈ Ts) (hd : y.cls ≠ "java/lang/invoke/MethodHandle" ∧ y.cls ≠ "java/lang/invoke/VarHandle" ∧ (parseMethodDescriptor y.desc).map (fun d => d.parameters.length) = some 0) (hR : rm.frames + 1 ≤ R.frames ∧ 8 + (maxL + 11) + rm.locals ≤ R.locals) (hls : lv_has ls nL lv) (hcat : (rest.map fun v => v.category).sum ≤ 8) (hdg : decode cc pc = .ok (.invokespecial index, 3)) (hf : cells + mc ≤ R.cells ∧ slots + ms ≤ R.slots)
    (kk : ∀ (ad' : Nat → Nat) (w' : Nat → va_E) (H1 : Heap) (locs1 : List Loc), post ad' w' → XW (gx g ad' N2) w' A0 H0 H1 locs1 → W p l e R s m args below meth c H1 locs1 (cells + mc) (slots + ms) Q (F0 m (pc + 3) ls rest)) : W p l e R s m args below meth c H locs cells slots Q (F0 m pc ls (.ref a :: rest)) :=
  va_callv (va_runIN (As := []) (rest := rest) C hM ⟨va_cnB 0 C.2.2.2.2 hG hw hrc hrs hnl (C.2.2.2.2 _ hini) hd hR, hy1, C.2.2.2.2 _ hinm⟩ (ypre hK hW) rfl rfl hls.1 rfl (lv_room hcat) hdg hf) hW.2.1 (fun q _ h => gB_in hW hA q h) (gB_in hW hA) (fun u t H1 locs1 ht _ hp hB _ _ hS => kk u.1 u.2 H1 locs1 hp (XW_of (ht ▸ hB.1) (hB.2.weaken (fun _ q _ h => gB_in hW hA q.1 h)) hS))
theorem ycI (C : CallFix p m c cc nL s args Ts own) (hK : WKn g s) (hW : XW (gx g ad N) w A0 H0 H locs) (hA : ∀ q, H0.size ≤ q → A0 q) (hM : Met l y ws rm (XPn g N ad w H.size [.ref a]) (XQn g N2 post (gB N ad H.size)) mc ms (gB N ad H.size)) (hG : GoodIn Ts ws) (hw : ws = Cond.code y bytes maxL none :: ws') (hrc : rm.cells = mc) (hrs : rm.slots = ms) (hl : Cond.methodLink own index y ∈ Ts) (hini : Cond.initialized y.cls ∈ Ts) (hy1 : y.name = "<init>") (hinm : Cond.instanceMethod y ∈ Ts) (hd : y.cls ≠ "java/lang/invoke/MethodHandle" ∧ y.cls ≠ "java/lang/invoke/VarHandle" ∧ (parseMethodDescriptor y.desc).map (fun d => d.parameters.length) = some 0) (hR : rm.frames + 1 ≤ R.frames ∧ 8 + (maxL + 11) + rm.locals ≤ R.locals) (hls : lv_has ls nL lv) (hcat : (rest.map fun v => v.category).sum ≤ 8) (hdg : decode cc pc = .ok (.invokespecial index, 3)) (hf : cells + mc ≤ R.cells ∧ slots + ms ≤ R.slots)
    (kk : ∀ (ad' : Nat → Nat) (w' : Nat → va_E) (H1 : Heap) (locs1 : List Loc), post ad' w' → XW (gx g ad' N2) w' A0 H0 H1 locs1 → W p l e R s m args below meth c H1 locs1 (cells + mc) (slots + ms) Q (F0 m (pc + 3) ls rest)) : W p l e R s m args below meth c H locs cells slots Q (F0 m pc ls (.ref a :: rest)) :=
  va_callv (va_runI (As := []) (rest := rest) C hM (cwI 0 C.2.2.2.2 hG hw hrc hrs (C.2.2.2.2 _ hini) (C.2.2.2.2 _ hl) (C.2.2.2.2 _ hinm) hy1 hd hR) (ypre hK hW) rfl rfl hls.1 rfl (lv_room hcat) hdg hf) hW.2.1 (fun q _ h => gB_in hW hA q h) (gB_in hW hA) (fun u t H1 locs1 ht _ hp hB _ _ hS => kk u.1 u.2 H1 locs1 hp (XW_of (ht ▸ hB.1) (hB.2.weaken (fun _ q _ h => gB_in hW hA q.1 h)) hS))
end YCL
/-! what new rows hold; the addresses moved -/
theorem cK_z {n o : Nat} {L : Nat → Nat} (h : ∀ j, j < n → L (o + j) = 0) : (fun _ => 0) = cK n o L := by
  funext j
  unfold cK kK
  split
  · show 0 = nI (L (o + j))
    rw [h j (by assumption)]
    rfl
  · rfl
theorem cL_z {n o : Nat} {L : Nat → Nat} (h : ∀ j, j < n → L (o + j) = 0) : (fun _ => 0) = cL n o L := by
  funext j
  unfold cL kK
  split
  · show 0 = lN (L (o + j))
    rw [h j (by assumption)]
    rfl
  · rfl
theorem kK_z {n o : Nat} : (fun _ => 0) = kK (0 : Int64) n o (fun _ => 0) := by
  funext j
  unfold kK
  split <;> rfl
theorem zI_c {g : GE} {n o : Nat} {L : Nat → Nat} (h : ∀ j, j < n → L (o + j) = 0) : (.inl (gI g, n, .inl (fun _ => 0)) : va_E) = .inl (gI g, n, .inl (cK n o L)) := by
  rw [← cK_z h]
theorem zJ_c {g : GE} {n o : Nat} {L : Nat → Nat} (h : ∀ j, j < n → L (o + j) = 0) : (.inl (gJ g, n, .inr (.inl (fun _ => 0))) : va_E) = .inl (gJ g, n, .inr (.inl (cL n o L))) := by
  rw [← cL_z h]
theorem MomAt.ad {g : GE} {ad ad' : Nat → Nat} {N N' b : Nat} {M : Nat → Nat} {w w' : Nat → va_E} (h : MomAt (gx g ad N) b M w) (ha : ∀ j, b ≤ j → j < b + 3 → ad' j = ad j) (f : ∀ j, b ≤ j → j < b + 3 → w' j = w j) : MomAt (gx g ad' N') b M w' := by
  refine ⟨(f b (by omega) (by omega)).trans (h.1.trans ?_), (f (b + 1) (by omega) (by omega)).trans h.2.1, (f (b + 2) (by omega) (by omega)).trans h.2.2⟩
  show (.inr (2, [.int (nI (M 2)), .int (nI (M 0)), .int (nI (M 1)), .ref (ad (b + 1)), .ref (ad (b + 2))]) : va_E) = .inr (2, [.int (nI (M 2)), .int (nI (M 0)), .int (nI (M 1)), .ref (ad' (b + 1)), .ref (ad' (b + 2))])
  rw [ha (b + 1) (by omega) (by omega), ha (b + 2) (by omega) (by omega)]
theorem GAt.ad {g : GE} {ad ad' : Nat → Nat} {N N' b : Nat} {x y : Int32} {L : Nat → Nat} {w w' : Nat → va_E} (h : GAt (gx g ad N) b x y L w) (ha : ∀ j, b ≤ j → j < b + 9 → ad' j = ad j) (f : ∀ j, b ≤ j → j < b + 9 → w' j = w j) : GAt (gx g ad' N') b x y L w' := by
  refine ⟨(f b (by omega) (by omega)).trans (h.1.trans ?_), (f (b + 1) (by omega) (by omega)).trans h.2.1, (f (b + 2) (by omega) (by omega)).trans (h.2.2.1.trans ?_), (f (b + 3) (by omega) (by omega)).trans h.2.2.2.1, (f (b + 4) (by omega) (by omega)).trans h.2.2.2.2⟩
  · show (.inr (1, [.ref (ad (b + 1)), .ref (ad (b + 2)), .ref (ad (b + 5)), .int x, .ref (ad (b + 6)), .ref (ad (b + 7)), .ref (ad (b + 8)), .int y]) : va_E) = .inr (1, [.ref (ad' (b + 1)), .ref (ad' (b + 2)), .ref (ad' (b + 5)), .int x, .ref (ad' (b + 6)), .ref (ad' (b + 7)), .ref (ad' (b + 8)), .int y])
    rw [ha (b + 1) (by omega) (by omega), ha (b + 2) (by omega) (by omega), ha (b + 5) (by omega) (by omega), ha (b + 6) (by omega) (by omega), ha (b + 7) (by omega) (by omega), ha (b + 8) (by omega) (by omega)]
  · show (.inr (2, [.int (nI (L 2)), .int (nI (L 0)), .int (nI (L 1)), .ref (ad (b + 3)), .ref (ad (b + 4))]) : va_E) = .inr (2, [.int (nI (L 2)), .int (nI (L 0)), .int (nI (L 1)), .ref (ad' (b + 3)), .ref (ad' (b + 4))])
    rw [ha (b + 3) (by omega) (by omega), ha (b + 4) (by omega) (by omega)]
theorem CAt.ad {g : GE} {ad ad' : Nat → Nat} {N N' b : Nat} {L : Nat → Nat} {w w' : Nat → va_E} (h : CAt (gx g ad N) b L w) (f : ∀ j, b ≤ j → j < b + 9 → w' j = w j) : CAt (gx g ad' N') b L w' :=
  ⟨(f (b + 6) (by omega) (by omega)).trans h.1, (f (b + 7) (by omega) (by omega)).trans h.2.1, (f (b + 8) (by omega) (by omega)).trans h.2.2⟩
theorem PArr.ad {g : GE} {ad ad' : Nat → Nat} {N N' b : Nat} {π : Nat → Nat} {w w' : Nat → va_E} (h : PArr (gx g ad N) b π w) (hπ : ∀ j, j < 8 → π j < 8) (ha : ∀ j, b ≤ j → j < b + 33 → ad' j = ad j) (f : ∀ j, b ≤ j → j < b + 33 → w' j = w j) : PArr (gx g ad' N') b π w' := by
  refine (f (b + 5) (by omega) (by omega)).trans (h.trans ?_)
  have e : kK none 8 0 (fun j => some (ad (b + 9 + 3 * π j))) = kK none 8 0 (fun j => some (ad' (b + 9 + 3 * π j))) := kK_congr (fun j hj => by
    have := hπ j hj
    rw [Nat.zero_add, ha _ (by omega) (by omega)])
  show (.inl (gM g, 8, .inr (.inr (.inr (.inr (kK none 8 0 (fun j => some (ad (b + 9 + 3 * π j)))))))) : va_E) = .inl (gM g, 8, .inr (.inr (.inr (.inr (kK none 8 0 (fun j => some (ad' (b + 9 + 3 * π j))))))))
  rw [e]
theorem PMom.ad {g : GE} {ad ad' : Nat → Nat} {N N' b : Nat} {π : Nat → Nat} {P : Nat → Nat → Nat} {w w' : Nat → va_E} (h : PMom (gx g ad N) b π P w) (ha : ∀ j, b ≤ j → j < b + 33 → ad' j = ad j) (f : ∀ j, b ≤ j → j < b + 33 → w' j = w j) : PMom (gx g ad' N') b π P w' :=
  ⟨h.1, fun p hq => (h.2 p hq).ad (fun j h1 h2 => ha j (by omega) (by have := h.1.1 p hq; omega)) (fun j h1 h2 => f j (by omega) (by have := h.1.1 p hq; omega))⟩
/-- a land just made -/
def NLand (g : GE) (b : Nat) (w : Nat → va_E) : Prop := GAt g b (nI 0) (nI 0) (zD 1) w ∧ CAt g b zF w ∧ PArr g b (fun j => j) w ∧ PMom g b (fun j => j) (fun _ => zD 1) w
theorem NLand.ad {g : GE} {ad ad' : Nat → Nat} {N N' b : Nat} {w w' : Nat → va_E} (h : NLand (gx g ad N) b w) (ha : ∀ j, b ≤ j → j < b + 33 → ad' j = ad j) (f : ∀ j, b ≤ j → j < b + 33 → w' j = w j) : NLand (gx g ad' N') b w' :=
  ⟨h.1.ad (fun j h1 h2 => ha j h1 (by omega)) (fun j h1 h2 => f j h1 (by omega)), h.2.1.ad (fun j h1 h2 => f j h1 (by omega)), h.2.2.1.ad (fun j hj => hj) ha f, h.2.2.2.ad ha f⟩
theorem NLand.x {g : GE} {b : Nat} {w : Nat → va_E} (h : NLand g b w) : XLand g b (zD 1) w :=
  ⟨fun j => j, fun _ => zD 1, zF, h.1, h.2.1, fun c hc => absurd hc (Nat.not_lt_zero c), h.2.2.1, h.2.2.2, fun p hp => absurd hp (Nat.not_lt_zero p)⟩
