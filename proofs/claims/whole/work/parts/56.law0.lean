/-! THE LAW: a case each -/
section XLAW
variable {p : Program} {l : Launch} {e : Env} {R : Room} {s : State} {m : MethodId} {args : Array Value} {below : List Frame} {meth : Method} {c : Code} {H : Heap} {locs : List Loc} {cells slots : Nat} {Q : State → Prop}
variable {cc : ByteArray} {nL pc : Nat} {ls : Array Slot} {rest : List Value} {Ts : List Cond} {own : String} {g : GE} {w : Nat → va_E} {A0 : Nat → Prop} {H0 : Heap}
theorem xsld (C : CallFix p m c cc nL s args Ts own) {b n : Nat} {xs : Nat → Int32} (hX : va_X b n xs s H0) (hbl : b < H0.size) (hbA : ¬ A0 b) (hW : XW g w A0 H0 H locs) {k : Nat} (hk : k < n) (hn : n ≤ 448) (hdg : decode cc pc = .ok (.iaload, 1))
    (kk : W p l e R s m args below meth c H locs cells slots Q (F0 m (pc + 1) ls (.int (xs k) :: rest))) : W p l e R s m args below meth c H locs cells slots Q (F0 m pc ls (.int (nI k) :: .ref b :: rest)) :=
  va_sld C.1 C.2.1 hX hbl hbA hW.2.1 (vp_in_nI hk (by omega)) hdg (by rw [nI_clamp (by omega)]; exact kk)
theorem xReq (C : CallFix p m c cc nL s args Ts own) {x y : Int64} {off : Int} {tgt : Nat} (hd0 : decode cc pc = .ok (.lcmp, 1)) (hdg : decode cc (pc + 1) = .ok (.ifCond .eq off, 3)) (ht : ((pc + 1 : Nat) : Int) + off = (tgt : Int)) (kt : x = y → W p l e R s m args below meth c H locs cells slots Q (F0 m tgt ls rest)) (kf : ¬ x = y → W p l e R s m args below meth c H locs cells slots Q (F0 m (pc + 1 + 3) ls rest)) : W p l e R s m args below meth c H locs cells slots Q (F0 m pc ls (.long y :: .long x :: rest)) :=
  W.lcmp C.1 C.2.1 hd0 (lv_if_eq C.1 C.2.1 hdg ht (fun h => kt ((lg_cmp_eq _ _).mp h)) (fun h => kf (fun q => h ((lg_cmp_eq _ _).mpr q))))
end XLAW
/-- the law's own cells: those made since its start -/
abbrev lwA (s : State) : Nat → Prop := fun q => s.heap.size ≤ q
abbrev LW (p : Program) (l : Launch) (e : Env) (s : State) (m : MethodId) (below : List Frame) (meth : Method) (c : Code) (b : Nat) (H : Heap) (locs : List Loc) (f : JFrame) : Prop := W p l e room_1 s m #[Value.ref b] below meth c H locs 600000 7302250 (lw_Z below #[Value.ref b] s) f

section LAWC
variable {p : Program} {l : Launch} {e : Env} {s : State} {m : MethodId} {below : List Frame} {meth : Method} {c : Code} {H : Heap} {locs : List Loc} {ls : Array Slot} {rest : List Value} {g : GE} {w : Nat → va_E} {xs : Nat → Int32} {b n i hk tn : Nat} {L K T ln sz : Nat → Nat} {Z : Nat → Int64}
set_option maxHeartbeats 4000000 in
set_option maxRecDepth 100000 in
theorem law_0 (C : CallFix p m c code 4 s #[Value.ref b] wsL_law RL) (hK : WK g s) (hN : gN g = 130) (hX : va_X b n xs s s.heap) (hbl : b < s.heap.size) (hn : n ≤ 448) (hi : i + 7 ≤ n) (hS : OkS (L, K, hk, tn, T, ln, sz, Z)) (hXA : XAll g (L, K, hk, tn, T, ln, sz, Z) w) (hMA : MAll g (L, K, hk, tn, T, ln, sz, Z) w) (hW : XW g w (lwA s) s.heap H locs) (hl : lv_has ls 4 [(3, .int (nI i)), (2, .ref (gad g 119)), (1, .ref (gad g 0)), (0, .ref b)]) (kk : ∀ (S' : GS) (w' : Nat → va_E) (H1 : Heap) (locs1 : List Loc), OkS S' → XAll g S' w' → MAll g S' w' → XW g w' (lwA s) s.heap H1 locs1 → LW p l e s m below meth c b H1 locs1 (F0 m 1296 ls [])) : LW p l e s m below meth c b H locs (F0 m 176 ls []) := by
  have hbA : ¬ lwA s b := Nat.not_le.mpr hbl
  refine lv_aload_n C.1 C.2.1 dL_law_176 rfl (lv_at hl 2 rfl) ?_
  refine lv_aload_n C.1 C.2.1 dL_law_177 rfl (lv_at hl 3 rfl) ?_
  refine lv_iload_n C.1 C.2.1 dL_law_178 rfl (lv_at hl 0 rfl) ?_
  refine lv_iconst (v := nI 1) C.1 C.2.1 dL_law_179 (by decide) ?_
  refine xadd C dL_law_180 ?_
  refine xsld C hX hbl hbA hW (by omega) hn dL_law_181 ?_
  refine lv_aload_n C.1 C.2.1 dL_law_182 rfl (lv_at hl 3 rfl) ?_
  refine lv_iload_n C.1 C.2.1 dL_law_183 rfl (lv_at hl 0 rfl) ?_
  refine lv_iconst (v := nI 2) C.1 C.2.1 dL_law_184 (by decide) ?_
  refine xadd C dL_law_185 ?_
  refine xsld C hX hbl hbA hW (by omega) hn dL_law_186 ?_
  refine xcV_i (n := 2) (As := [.int (xs (i + 1)), .int (xs (i + 2))]) C hK hW (c_X6_field l g w L K T ln sz hk tn Z (xs (i + 1)) (xs (i + 2)) hW.2.2.1 hN hS hXA) gL_law_X6_field rfl ⟨rfl, rfl⟩ (by decide +kernel) ⟨(Nat.le_of_ble_eq_true rfl), (Nat.le_of_ble_eq_true rfl)⟩ ⟨Nat.le_refl _, Nat.le_refl _⟩ rfl (by omega) hXA.1 rfl hl rfl (Nat.le_of_ble_eq_true rfl) dL_law_187 (fun r1 w1 H locs q1 hW => ?_)
  obtain ⟨hA1, f1, e1⟩ := q1
  have hB1 := hMA.fr (fun j hj => f1 j (by omega))
  refine lv_aload_n C.1 C.2.1 dL_law_190 rfl (lv_at hl 1 rfl) ?_
  refine lv_aload_n C.1 C.2.1 dL_law_191 rfl (lv_at hl 3 rfl) ?_
  refine lv_iload_n C.1 C.2.1 dL_law_192 rfl (lv_at hl 0 rfl) ?_
  refine lv_iconst (v := nI 1) C.1 C.2.1 dL_law_193 (by decide) ?_
  refine xadd C dL_law_194 ?_
  refine xsld C hX hbl hbA hW (by omega) hn dL_law_195 ?_
  refine lv_aload_n C.1 C.2.1 dL_law_196 rfl (lv_at hl 3 rfl) ?_
  refine lv_iload_n C.1 C.2.1 dL_law_197 rfl (lv_at hl 0 rfl) ?_
  refine lv_iconst (v := nI 2) C.1 C.2.1 dL_law_198 (by decide) ?_
  refine xadd C dL_law_199 ?_
  refine xsld C hX hbl hbA hW (by omega) hn dL_law_200 ?_
  obtain ⟨_, _, _, _, _, _, _, _, _, _, _, _, hm0, _⟩ := id hB1
  refine xcV_i (n := 2) (As := [.int (xs (i + 1)), .int (xs (i + 2))]) C hK hW (c_X7_field l g w1 L K T ln sz hk tn Z (xs (i + 1)) (xs (i + 2)) hW.2.2.1 hN hS hB1) gL_law_X7_field rfl ⟨rfl, rfl⟩ (by decide +kernel) ⟨(Nat.le_of_ble_eq_true rfl), (Nat.le_of_ble_eq_true rfl)⟩ ⟨Nat.le_refl _, Nat.le_refl _⟩ rfl (by omega) hm0 rfl hl rfl (Nat.le_of_ble_eq_true rfl) dL_law_201 (fun r2 w2 H locs q2 hW => ?_)
  obtain ⟨hA2, f2, e2⟩ := q2
  have hB2 := hA1.fr (fun j hj => f2 j (by omega))
  exact lv_icmp_eq (tgt := 1296) C.1 C.2.1 dL_law_204 (by decide) (fun _ => kk _ w2 _ _ (ok_L hS (OkL.field hS.1)) hB2 hA2 hW) (fun h => absurd (e1.trans e2.symm) h)

set_option maxHeartbeats 4000000 in
set_option maxRecDepth 100000 in
theorem law_1 (C : CallFix p m c code 4 s #[Value.ref b] wsL_law RL) (hK : WK g s) (hN : gN g = 130) (hX : va_X b n xs s s.heap) (hbl : b < s.heap.size) (hn : n ≤ 448) (hi : i + 7 ≤ n) (hS : OkS (L, K, hk, tn, T, ln, sz, Z)) (hXA : XAll g (L, K, hk, tn, T, ln, sz, Z) w) (hMA : MAll g (L, K, hk, tn, T, ln, sz, Z) w) (hW : XW g w (lwA s) s.heap H locs) (hl : lv_has ls 4 [(3, .int (nI i)), (2, .ref (gad g 119)), (1, .ref (gad g 0)), (0, .ref b)]) (kk : ∀ (S' : GS) (w' : Nat → va_E) (H1 : Heap) (locs1 : List Loc), OkS S' → XAll g S' w' → MAll g S' w' → XW g w' (lwA s) s.heap H1 locs1 → LW p l e s m below meth c b H1 locs1 (F0 m 1296 ls [])) : LW p l e s m below meth c b H locs (F0 m 209 ls []) := by
  have hbA : ¬ lwA s b := Nat.not_le.mpr hbl
  refine lv_aload_n C.1 C.2.1 dL_law_209 rfl (lv_at hl 2 rfl) ?_
  refine lv_aload_n C.1 C.2.1 dL_law_210 rfl (lv_at hl 3 rfl) ?_
  refine lv_iload_n C.1 C.2.1 dL_law_211 rfl (lv_at hl 0 rfl) ?_
  refine lv_iconst (v := nI 1) C.1 C.2.1 dL_law_212 (by decide) ?_
  refine xadd C dL_law_213 ?_
  refine xsld C hX hbl hbA hW (by omega) hn dL_law_214 ?_
  refine lv_aload_n C.1 C.2.1 dL_law_215 rfl (lv_at hl 3 rfl) ?_
  refine lv_iload_n C.1 C.2.1 dL_law_216 rfl (lv_at hl 0 rfl) ?_
  refine lv_iconst (v := nI 2) C.1 C.2.1 dL_law_217 (by decide) ?_
  refine xadd C dL_law_218 ?_
  refine xsld C hX hbl hbA hW (by omega) hn dL_law_219 ?_
  refine lv_aload_n C.1 C.2.1 dL_law_220 rfl (lv_at hl 3 rfl) ?_
  refine lv_iload_n C.1 C.2.1 dL_law_221 rfl (lv_at hl 0 rfl) ?_
  refine lv_iconst (v := nI 3) C.1 C.2.1 dL_law_222 (by decide) ?_
  refine xadd C dL_law_223 ?_
  refine xsld C hX hbl hbA hW (by omega) hn dL_law_224 ?_
  refine xcV_i (n := 3) (As := [.int (xs (i + 1)), .int (xs (i + 2)), .int (xs (i + 3))]) C hK hW (c_X6_claim l g w L K T ln sz hk tn Z (xs (i + 1)) (xs (i + 2)) (xs (i + 3)) hW.2.2.1 hN hS hXA) gL_law_X6_claim rfl ⟨rfl, rfl⟩ (by decide +kernel) ⟨(Nat.le_of_ble_eq_true rfl), (Nat.le_of_ble_eq_true rfl)⟩ ⟨Nat.le_refl _, Nat.le_refl _⟩ rfl (by omega) hXA.1 rfl hl rfl (Nat.le_of_ble_eq_true rfl) dL_law_225 (fun r1 w1 H locs q1 hW => ?_)
  obtain ⟨hA1, f1, e1⟩ := q1
  have hB1 := hMA.fr (fun j hj => f1 j (by omega))
  refine lv_aload_n C.1 C.2.1 dL_law_228 rfl (lv_at hl 1 rfl) ?_
  refine lv_aload_n C.1 C.2.1 dL_law_229 rfl (lv_at hl 3 rfl) ?_
  refine lv_iload_n C.1 C.2.1 dL_law_230 rfl (lv_at hl 0 rfl) ?_
  refine lv_iconst (v := nI 1) C.1 C.2.1 dL_law_231 (by decide) ?_
  refine xadd C dL_law_232 ?_
  refine xsld C hX hbl hbA hW (by omega) hn dL_law_233 ?_
  refine lv_aload_n C.1 C.2.1 dL_law_234 rfl (lv_at hl 3 rfl) ?_
  refine lv_iload_n C.1 C.2.1 dL_law_235 rfl (lv_at hl 0 rfl) ?_
  refine lv_iconst (v := nI 2) C.1 C.2.1 dL_law_236 (by decide) ?_
  refine xadd C dL_law_237 ?_
  refine xsld C hX hbl hbA hW (by omega) hn dL_law_238 ?_
  refine lv_aload_n C.1 C.2.1 dL_law_239 rfl (lv_at hl 3 rfl) ?_
  refine lv_iload_n C.1 C.2.1 dL_law_240 rfl (lv_at hl 0 rfl) ?_
  refine lv_iconst (v := nI 3) C.1 C.2.1 dL_law_241 (by decide) ?_
  refine xadd C dL_law_242 ?_
  refine xsld C hX hbl hbA hW (by omega) hn dL_law_243 ?_
  obtain ⟨_, _, _, _, _, _, _, _, _, _, _, _, hm0, _⟩ := id hB1
  refine xcV_i (n := 3) (As := [.int (xs (i + 1)), .int (xs (i + 2)), .int (xs (i + 3))]) C hK hW (c_X7_claim l g w1 L K T ln sz hk tn Z (xs (i + 1)) (xs (i + 2)) (xs (i + 3)) hW.2.2.1 hN hS hB1) gL_law_X7_claim rfl ⟨rfl, rfl⟩ (by decide +kernel) ⟨(Nat.le_of_ble_eq_true rfl), (Nat.le_of_ble_eq_true rfl)⟩ ⟨Nat.le_refl _, Nat.le_refl _⟩ rfl (by omega) hm0 rfl hl rfl (Nat.le_of_ble_eq_true rfl) dL_law_244 (fun r2 w2 H locs q2 hW => ?_)
  obtain ⟨hA2, f2, e2⟩ := q2
  have hB2 := hA1.fr (fun j hj => f2 j (by omega))
  exact lv_icmp_eq (tgt := 1296) C.1 C.2.1 dL_law_247 (by decide) (fun _ => kk _ w2 _ _ (ok_L hS (OkL.claim hS.1)) hB2 hA2 hW) (fun h => absurd (e1.trans e2.symm) h)

set_option maxHeartbeats 4000000 in
set_option maxRecDepth 100000 in
theorem law_2 (C : CallFix p m c code 4 s #[Value.ref b] wsL_law RL) (hK : WK g s) (hN : gN g = 130) (hX : va_X b n xs s s.heap) (hbl : b < s.heap.size) (hn : n ≤ 448) (hi : i + 7 ≤ n) (hS : OkS (L, K, hk, tn, T, ln, sz, Z)) (hXA : XAll g (L, K, hk, tn, T, ln, sz, Z) w) (hMA : MAll g (L, K, hk, tn, T, ln, sz, Z) w) (hW : XW g w (lwA s) s.heap H locs) (hl : lv_has ls 4 [(3, .int (nI i)), (2, .ref (gad g 119)), (1, .ref (gad g 0)), (0, .ref b)]) (kk : ∀ (S' : GS) (w' : Nat → va_E) (H1 : Heap) (locs1 : List Loc), OkS S' → XAll g S' w' → MAll g S' w' → XW g w' (lwA s) s.heap H1 locs1 → LW p l e s m below meth c b H1 locs1 (F0 m 1296 ls [])) : LW p l e s m below meth c b H locs (F0 m 252 ls []) := by
  have hbA : ¬ lwA s b := Nat.not_le.mpr hbl
  refine lv_aload_n C.1 C.2.1 dL_law_252 rfl (lv_at hl 2 rfl) ?_
  refine lv_aload_n C.1 C.2.1 dL_law_253 rfl (lv_at hl 3 rfl) ?_
  refine lv_iload_n C.1 C.2.1 dL_law_254 rfl (lv_at hl 0 rfl) ?_
  refine lv_iconst (v := nI 1) C.1 C.2.1 dL_law_255 (by decide) ?_
  refine xadd C dL_law_256 ?_
  refine xsld C hX hbl hbA hW (by omega) hn dL_law_257 ?_
  refine lv_aload_n C.1 C.2.1 dL_law_258 rfl (lv_at hl 3 rfl) ?_
  refine lv_iload_n C.1 C.2.1 dL_law_259 rfl (lv_at hl 0 rfl) ?_
  refine lv_iconst (v := nI 2) C.1 C.2.1 dL_law_260 (by decide) ?_
  refine xadd C dL_law_261 ?_
  refine xsld C hX hbl hbA hW (by omega) hn dL_law_262 ?_
  refine xcV_i (n := 2) (As := [.int (xs (i + 1)), .int (xs (i + 2))]) C hK hW (c_X6_of l g w L K T ln sz hk tn Z (xs (i + 1)) (xs (i + 2)) hW.2.2.1 hN hS hXA) gL_law_X6_of rfl ⟨rfl, rfl⟩ (by decide +kernel) ⟨(Nat.le_of_ble_eq_true rfl), (Nat.le_of_ble_eq_true rfl)⟩ ⟨Nat.le_refl _, Nat.le_refl _⟩ rfl (by omega) hXA.1 rfl hl rfl (Nat.le_of_ble_eq_true rfl) dL_law_263 (fun r1 w1 H locs q1 hW => ?_)
  obtain ⟨hA1, f1, e1⟩ := q1
  have hB1 := hMA.fr (fun j hj => f1 j (by omega))
  refine lv_aload_n C.1 C.2.1 dL_law_266 rfl (lv_at hl 1 rfl) ?_
  refine lv_aload_n C.1 C.2.1 dL_law_267 rfl (lv_at hl 3 rfl) ?_
  refine lv_iload_n C.1 C.2.1 dL_law_268 rfl (lv_at hl 0 rfl) ?_
  refine lv_iconst (v := nI 1) C.1 C.2.1 dL_law_269 (by decide) ?_
  refine xadd C dL_law_270 ?_
  refine xsld C hX hbl hbA hW (by omega) hn dL_law_271 ?_
  refine lv_aload_n C.1 C.2.1 dL_law_272 rfl (lv_at hl 3 rfl) ?_
  refine lv_iload_n C.1 C.2.1 dL_law_273 rfl (lv_at hl 0 rfl) ?_
  refine lv_iconst (v := nI 2) C.1 C.2.1 dL_law_274 (by decide) ?_
  refine xadd C dL_law_275 ?_
  refine xsld C hX hbl hbA hW (by omega) hn dL_law_276 ?_
  obtain ⟨_, _, _, _, _, _, _, _, _, _, _, _, hm0, _⟩ := id hB1
  refine xcV_i (n := 2) (As := [.int (xs (i + 1)), .int (xs (i + 2))]) C hK hW (c_X7_of l g w1 L K T ln sz hk tn Z (xs (i + 1)) (xs (i + 2)) hW.2.2.1 hN hS hB1) gL_law_X7_of rfl ⟨rfl, rfl⟩ (by decide +kernel) ⟨(Nat.le_of_ble_eq_true rfl), (Nat.le_of_ble_eq_true rfl)⟩ ⟨Nat.le_refl _, Nat.le_refl _⟩ rfl (by omega) hm0 rfl hl rfl (Nat.le_of_ble_eq_true rfl) dL_law_277 (fun r2 w2 H locs q2 hW => ?_)
  obtain ⟨hA2, f2, e2⟩ := q2
  have hB2 := hA1.fr (fun j hj => f2 j (by omega))
  exact lv_icmp_eq (tgt := 1296) C.1 C.2.1 dL_law_280 (by decide) (fun _ => kk _ w2 _ _ (hS) hB2 hA2 hW) (fun h => absurd (e1.trans e2.symm) h)

set_option maxHeartbeats 4000000 in
set_option maxRecDepth 100000 in
theorem law_3 (C : CallFix p m c code 4 s #[Value.ref b] wsL_law RL) (hK : WK g s) (hN : gN g = 130) (hX : va_X b n xs s s.heap) (hbl : b < s.heap.size) (hn : n ≤ 448) (hi : i + 7 ≤ n) (hS : OkS (L, K, hk, tn, T, ln, sz, Z)) (hXA : XAll g (L, K, hk, tn, T, ln, sz, Z) w) (hMA : MAll g (L, K, hk, tn, T, ln, sz, Z) w) (hW : XW g w (lwA s) s.heap H locs) (hl : lv_has ls 4 [(3, .int (nI i)), (2, .ref (gad g 119)), (1, .ref (gad g 0)), (0, .ref b)]) (kk : ∀ (S' : GS) (w' : Nat → va_E) (H1 : Heap) (locs1 : List Loc), OkS S' → XAll g S' w' → MAll g S' w' → XW g w' (lwA s) s.heap H1 locs1 → LW p l e s m below meth c b H1 locs1 (F0 m 1296 ls [])) : LW p l e s m below meth c b H locs (F0 m 285 ls []) := by
  have hbA : ¬ lwA s b := Nat.not_le.mpr hbl
  refine lv_aload_n C.1 C.2.1 dL_law_285 rfl (lv_at hl 2 rfl) ?_
  refine lv_aload_n C.1 C.2.1 dL_law_286 rfl (lv_at hl 3 rfl) ?_
  refine lv_iload_n C.1 C.2.1 dL_law_287 rfl (lv_at hl 0 rfl) ?_
  refine lv_iconst (v := nI 1) C.1 C.2.1 dL_law_288 (by decide) ?_
  refine xadd C dL_law_289 ?_
  refine xsld C hX hbl hbA hW (by omega) hn dL_law_290 ?_
  refine lv_aload_n C.1 C.2.1 dL_law_291 rfl (lv_at hl 3 rfl) ?_
  refine lv_iload_n C.1 C.2.1 dL_law_292 rfl (lv_at hl 0 rfl) ?_
  refine lv_iconst (v := nI 2) C.1 C.2.1 dL_law_293 (by decide) ?_
  refine xadd C dL_law_294 ?_
  refine xsld C hX hbl hbA hW (by omega) hn dL_law_295 ?_
  refine xcV_i (n := 2) (As := [.int (xs (i + 1)), .int (xs (i + 2))]) C hK hW (c_X6_at l g w L K T ln sz hk tn Z (xs (i + 1)) (xs (i + 2)) hW.2.2.1 hN hS hXA) gL_law_X6_at rfl ⟨rfl, rfl⟩ (by decide +kernel) ⟨(Nat.le_of_ble_eq_true rfl), (Nat.le_of_ble_eq_true rfl)⟩ ⟨Nat.le_refl _, Nat.le_refl _⟩ rfl (by omega) hXA.1 rfl hl rfl (Nat.le_of_ble_eq_true rfl) dL_law_296 (fun r1 w1 H locs q1 hW => ?_)
  obtain ⟨hA1, f1, e1⟩ := q1
  have hB1 := hMA.fr (fun j hj => f1 j (by omega))
  refine lv_aload_n C.1 C.2.1 dL_law_299 rfl (lv_at hl 1 rfl) ?_
  refine lv_aload_n C.1 C.2.1 dL_law_300 rfl (lv_at hl 3 rfl) ?_
  refine lv_iload_n C.1 C.2.1 dL_law_301 rfl (lv_at hl 0 rfl) ?_
  refine lv_iconst (v := nI 1) C.1 C.2.1 dL_law_302 (by decide) ?_
  refine xadd C dL_law_303 ?_
  refine xsld C hX hbl hbA hW (by omega) hn dL_law_304 ?_
  refine lv_aload_n C.1 C.2.1 dL_law_305 rfl (lv_at hl 3 rfl) ?_
  refine lv_iload_n C.1 C.2.1 dL_law_306 rfl (lv_at hl 0 rfl) ?_
  refine lv_iconst (v := nI 2) C.1 C.2.1 dL_law_307 (by decide) ?_
  refine xadd C dL_law_308 ?_
  refine xsld C hX hbl hbA hW (by omega) hn dL_law_309 ?_
  obtain ⟨_, _, _, _, _, _, _, _, _, _, _, _, hm0, _⟩ := id hB1
  refine xcV_i (n := 2) (As := [.int (xs (i + 1)), .int (xs (i + 2))]) C hK hW (c_X7_at l g w1 L K T ln sz hk tn Z (xs (i + 1)) (xs (i + 2)) hW.2.2.1 hN hS hB1) gL_law_X7_at rfl ⟨rfl, rfl⟩ (by decide +kernel) ⟨(Nat.le_of_ble_eq_true rfl), (Nat.le_of_ble_eq_true rfl)⟩ ⟨Nat.le_refl _, Nat.le_refl _⟩ rfl (by omega) hm0 rfl hl rfl (Nat.le_of_ble_eq_true rfl) dL_law_310 (fun r2 w2 H locs q2 hW => ?_)
  obtain ⟨hA2, f2, e2⟩ := q2
  have hB2 := hA1.fr (fun j hj => f2 j (by omega))
  exact lv_icmp_eq (tgt := 1296) C.1 C.2.1 dL_law_313 (by decide) (fun _ => kk _ w2 _ _ (hS) hB2 hA2 hW) (fun h => absurd (e1.trans e2.symm) h)

set_option maxHeartbeats 4000000 in
set_option maxRecDepth 100000 in
theorem law_4 (C : CallFix p m c code 4 s #[Value.ref b] wsL_law RL) (hK : WK g s) (hN : gN g = 130) (hX : va_X b n xs s s.heap) (hbl : b < s.heap.size) (hn : n ≤ 448) (hi : i + 7 ≤ n) (hS : OkS (L, K, hk, tn, T, ln, sz, Z)) (hXA : XAll g (L, K, hk, tn, T, ln, sz, Z) w) (hMA : MAll g (L, K, hk, tn, T, ln, sz, Z) w) (hW : XW g w (lwA s) s.heap H locs) (hl : lv_has ls 4 [(3, .int (nI i)), (2, .ref (gad g 119)), (1, .ref (gad g 0)), (0, .ref b)]) (kk : ∀ (S' : GS) (w' : Nat → va_E) (H1 : Heap) (locs1 : List Loc), OkS S' → XAll g S' w' → MAll g S' w' → XW g w' (lwA s) s.heap H1 locs1 → LW p l e s m below meth c b H1 locs1 (F0 m 1296 ls [])) : LW p l e s m below meth c b H locs (F0 m 318 ls []) := by
  have hbA : ¬ lwA s b := Nat.not_le.mpr hbl
  refine lv_aload_n C.1 C.2.1 dL_law_318 rfl (lv_at hl 2 rfl) ?_
  refine lv_aload_n C.1 C.2.1 dL_law_319 rfl (lv_at hl 3 rfl) ?_
  refine lv_iload_n C.1 C.2.1 dL_law_320 rfl (lv_at hl 0 rfl) ?_
  refine lv_iconst (v := nI 1) C.1 C.2.1 dL_law_321 (by decide) ?_
  refine xadd C dL_law_322 ?_
  refine xsld C hX hbl hbA hW (by omega) hn dL_law_323 ?_
  refine xcV_i (n := 1) (As := [.int (xs (i + 1))]) C hK hW (c_X6_type l g w L K T ln sz hk tn Z (xs (i + 1)) hW.2.2.1 hN hS hXA) gL_law_X6_type rfl ⟨rfl, rfl⟩ (by decide +kernel) ⟨(Nat.le_of_ble_eq_true rfl), (Nat.le_of_ble_eq_true rfl)⟩ ⟨Nat.le_refl _, Nat.le_refl _⟩ rfl (by omega) hXA.1 rfl hl rfl (Nat.le_of_ble_eq_true rfl) dL_law_324 (fun r1 w1 H locs q1 hW => ?_)
  obtain ⟨hA1, f1, e1⟩ := q1
  have hB1 := hMA.fr (fun j hj => f1 j (by omega))
  refine lv_aload_n C.1 C.2.1 dL_law_327 rfl (lv_at hl 1 rfl) ?_
  refine lv_aload_n C.1 C.2.1 dL_law_328 rfl (lv_at hl 3 rfl) ?_
  refine lv_iload_n C.1 C.2.1 dL_law_329 rfl (lv_at hl 0 rfl) ?_
  refine lv_iconst (v := nI 1) C.1 C.2.1 dL_law_330 (by decide) ?_
  refine xadd C dL_law_331 ?_
  refine xsld C hX hbl hbA hW (by omega) hn dL_law_332 ?_
  obtain ⟨_, _, _, _, _, _, _, _, _, _, _, _, hm0, _⟩ := id hB1
  refine xcV_i (n := 1) (As := [.int (xs (i + 1))]) C hK hW (c_X7_type l g w1 L K T ln sz hk tn Z (xs (i + 1)) hW.2.2.1 hN hS hB1) gL_law_X7_type rfl ⟨rfl, rfl⟩ (by decide +kernel) ⟨(Nat.le_of_ble_eq_true rfl), (Nat.le_of_ble_eq_true rfl)⟩ ⟨Nat.le_refl _, Nat.le_refl _⟩ rfl (by omega) hm0 rfl hl rfl (Nat.le_of_ble_eq_true rfl) dL_law_333 (fun r2 w2 H locs q2 hW => ?_)
  obtain ⟨hA2, f2, e2⟩ := q2
  have hB2 := hA1.fr (fun j hj => f2 j (by omega))
  exact lv_icmp_eq (tgt := 1296) C.1 C.2.1 dL_law_336 (by decide) (fun _ => kk _ w2 _ _ (ok_type hS) hB2 hA2 hW) (fun h => absurd (e1.trans e2.symm) h)

set_option maxHeartbeats 4000000 in
set_option maxRecDepth 100000 in
theorem law_5 (C : CallFix p m c code 4 s #[Value.ref b] wsL_law RL) (hK : WK g s) (hN : gN g = 130) (hX : va_X b n xs s s.heap) (hbl : b < s.heap.size) (hn : n ≤ 448) (hi : i + 7 ≤ n) (hS : OkS (L, K, hk, tn, T, ln, sz, Z)) (hXA : XAll g (L, K, hk, tn, T, ln, sz, Z) w) (hMA : MAll g (L, K, hk, tn, T, ln, sz, Z) w) (hW : XW g w (lwA s) s.heap H locs) (hl : lv_has ls 4 [(3, .int (nI i)), (2, .ref (gad g 119)), (1, .ref (gad g 0)), (0, .ref b)]) (kk : ∀ (S' : GS) (w' : Nat → va_E) (H1 : Heap) (locs1 : List Loc), OkS S' → XAll g S' w' → MAll g S' w' → XW g w' (lwA s) s.heap H1 locs1 → LW p l e s m below meth c b H1 locs1 (F0 m 1296 ls [])) : LW p l e s m below meth c b H locs (F0 m 341 ls []) := by
  have hbA : ¬ lwA s b := Nat.not_le.mpr hbl
  refine lv_aload_n C.1 C.2.1 dL_law_341 rfl (lv_at hl 2 rfl) ?_
  refine xcV_i (n := 0) (As := []) C hK hW (c_X6_valley l g w L K T ln sz hk tn Z  hW.2.2.1 hN hS hXA) gL_law_X6_valley rfl ⟨rfl, rfl⟩ (by decide +kernel) ⟨(Nat.le_of_ble_eq_true rfl), (Nat.le_of_ble_eq_true rfl)⟩ ⟨Nat.le_refl _, Nat.le_refl _⟩ rfl (by omega) hXA.1 rfl hl rfl (Nat.le_of_ble_eq_true rfl) dL_law_342 (fun r1 w1 H locs q1 hW => ?_)
  obtain ⟨hA1, f1, e1⟩ := q1
  have hB1 := hMA.fr (fun j hj => f1 j (by omega))
  refine lv_aload_n C.1 C.2.1 dL_law_345 rfl (lv_at hl 1 rfl) ?_
  obtain ⟨_, _, _, _, _, _, _, _, _, _, _, _, hm0, _⟩ := id hB1
  refine xcV_i (n := 0) (As := []) C hK hW (c_X7_valley l g w1 L K T ln sz hk tn Z  hW.2.2.1 hN hS hB1) gL_law_X7_valley rfl ⟨rfl, rfl⟩ (by decide +kernel) ⟨(Nat.le_of_ble_eq_true rfl), (Nat.le_of_ble_eq_true rfl)⟩ ⟨Nat.le_refl _, Nat.le_refl _⟩ rfl (by omega) hm0 rfl hl rfl (Nat.le_of_ble_eq_true rfl) dL_law_346 (fun r2 w2 H locs q2 hW => ?_)
  obtain ⟨hA2, f2, e2⟩ := q2
  have hB2 := hA1.fr (fun j hj => f2 j (by omega))
  exact lv_icmp_eq (tgt := 1296) C.1 C.2.1 dL_law_349 (by decide) (fun _ => kk _ w2 _ _ (ok_val hS) hB2 hA2 hW) (fun h => absurd (e1.trans e2.symm) h)

set_option maxHeartbeats 4000000 in
set_option maxRecDepth 100000 in
theorem law_6 (C : CallFix p m c code 4 s #[Value.ref b] wsL_law RL) (hK : WK g s) (hN : gN g = 130) (hX : va_X b n xs s s.heap) (hbl : b < s.heap.size) (hn : n ≤ 448) (hi : i + 7 ≤ n) (hS : OkS (L, K, hk, tn, T, ln, sz, Z)) (hXA : XAll g (L, K, hk, tn, T, ln, sz, Z) w) (hMA : MAll g (L, K, hk, tn, T, ln, sz, Z) w) (hW : XW g w (lwA s) s.heap H locs) (hl : lv_has ls 4 [(3, .int (nI i)), (2, .ref (gad g 119)), (1, .ref (gad g 0)), (0, .ref b)]) (kk : ∀ (S' : GS) (w' : Nat → va_E) (H1 : Heap) (locs1 : List Loc), OkS S' → XAll g S' w' → MAll g S' w' → XW g w' (lwA s) s.heap H1 locs1 → LW p l e s m below meth c b H1 locs1 (F0 m 1296 ls [])) : LW p l e s m below meth c b H locs (F0 m 354 ls []) := by
  have hbA : ¬ lwA s b := Nat.not_le.mpr hbl
  refine lv_aload_n C.1 C.2.1 dL_law_354 rfl (lv_at hl 2 rfl) ?_
  refine lv_aload_n C.1 C.2.1 dL_law_355 rfl (lv_at hl 3 rfl) ?_
  refine lv_iload_n C.1 C.2.1 dL_law_356 rfl (lv_at hl 0 rfl) ?_
  refine lv_iconst (v := nI 1) C.1 C.2.1 dL_law_357 (by decide) ?_
  refine xadd C dL_law_358 ?_
  refine xsld C hX hbl hbA hW (by omega) hn dL_law_359 ?_
  refine xcV_i (n := 1) (As := [.int (xs (i + 1))]) C hK hW (c_X6_count l g w L K T ln sz hk tn Z (xs (i + 1)) hW.2.2.1 hN hS hXA) gL_law_X6_count rfl ⟨rfl, rfl⟩ (by decide +kernel) ⟨(Nat.le_of_ble_eq_true rfl), (Nat.le_of_ble_eq_true rfl)⟩ ⟨Nat.le_refl _, Nat.le_refl _⟩ rfl (by omega) hXA.1 rfl hl rfl (Nat.le_of_ble_eq_true rfl) dL_law_360 (fun r1 w1 H locs q1 hW => ?_)
  obtain ⟨hA1, f1, e1⟩ := q1
  have hB1 := hMA.fr (fun j hj => f1 j (by omega))
  refine lv_aload_n C.1 C.2.1 dL_law_363 rfl (lv_at hl 1 rfl) ?_
  refine lv_aload_n C.1 C.2.1 dL_law_364 rfl (lv_at hl 3 rfl) ?_
  refine lv_iload_n C.1 C.2.1 dL_law_365 rfl (lv_at hl 0 rfl) ?_
  refine lv_iconst (v := nI 1) C.1 C.2.1 dL_law_366 (by decide) ?_
  refine xadd C dL_law_367 ?_
  refine xsld C hX hbl hbA hW (by omega) hn dL_law_368 ?_
  obtain ⟨_, _, _, _, _, _, _, _, _, _, _, _, hm0, _⟩ := id hB1
  refine xcV_i (n := 1) (As := [.int (xs (i + 1))]) C hK hW (c_X7_count l g w1 L K T ln sz hk tn Z (xs (i + 1)) hW.2.2.1 hN hS hB1) gL_law_X7_count rfl ⟨rfl, rfl⟩ (by decide +kernel) ⟨(Nat.le_of_ble_eq_true rfl), (Nat.le_of_ble_eq_true rfl)⟩ ⟨Nat.le_refl _, Nat.le_refl _⟩ rfl (by omega) hm0 rfl hl rfl (Nat.le_of_ble_eq_true rfl) dL_law_369 (fun r2 w2 H locs q2 hW => ?_)
  obtain ⟨hA2, f2, e2⟩ := q2
  have hB2 := hA1.fr (fun j hj => f2 j (by omega))
  exact lv_icmp_eq (tgt := 1296) C.1 C.2.1 dL_law_372 (by decide) (fun _ => kk _ w2 _ _ (hS) hB2 hA2 hW) (fun h => absurd (e1.trans e2.symm) h)

set_option maxHeartbeats 4000000 in
set_option maxRecDepth 100000 in
theorem law_7 (C : CallFix p m c code 4 s #[Value.ref b] wsL_law RL) (hK : WK g s) (hN : gN g = 130) (hX : va_X b n xs s s.heap) (hbl : b < s.heap.size) (hn : n ≤ 448) (hi : i + 7 ≤ n) (hS : OkS (L, K, hk, tn, T, ln, sz, Z)) (hXA : XAll g (L, K, hk, tn, T, ln, sz, Z) w) (hMA : MAll g (L, K, hk, tn, T, ln, sz, Z) w) (hW : XW g w (lwA s) s.heap H locs) (hl : lv_has ls 4 [(3, .int (nI i)), (2, .ref (gad g 119)), (1, .ref (gad g 0)), (0, .ref b)]) (kk : ∀ (S' : GS) (w' : Nat → va_E) (H1 : Heap) (locs1 : List Loc), OkS S' → XAll g S' w' → MAll g S' w' → XW g w' (lwA s) s.heap H1 locs1 → LW p l e s m below meth c b H1 locs1 (F0 m 1296 ls [])) : LW p l e s m below meth c b H locs (F0 m 377 ls []) := by
  have hbA : ¬ lwA s b := Nat.not_le.mpr hbl
  refine lv_aload_n C.1 C.2.1 dL_law_377 rfl (lv_at hl 2 rfl) ?_
  refine lv_aload_n C.1 C.2.1 dL_law_378 rfl (lv_at hl 3 rfl) ?_
  refine lv_iload_n C.1 C.2.1 dL_law_379 rfl (lv_at hl 0 rfl) ?_
  refine lv_iconst (v := nI 1) C.1 C.2.1 dL_law_380 (by decide) ?_
  refine xadd C dL_law_381 ?_
  refine xsld C hX hbl hbA hW (by omega) hn dL_law_382 ?_
  refine xcV_i (n := 1) (As := [.int (xs (i + 1))]) C hK hW (c_X6_days l g w L K T ln sz hk tn Z (xs (i + 1)) hW.2.2.1 hN hS hXA) gL_law_X6_days rfl ⟨rfl, rfl⟩ (by decide +kernel) ⟨(Nat.le_of_ble_eq_true rfl), (Nat.le_of_ble_eq_true rfl)⟩ ⟨Nat.le_refl _, Nat.le_refl _⟩ rfl (by omega) hXA.1 rfl hl rfl (Nat.le_of_ble_eq_true rfl) dL_law_383 (fun r1 w1 H locs q1 hW => ?_)
  obtain ⟨hA1, f1, e1⟩ := q1
  have hB1 := hMA.fr (fun j hj => f1 j (by omega))
  refine lv_aload_n C.1 C.2.1 dL_law_386 rfl (lv_at hl 1 rfl) ?_
  refine lv_aload_n C.1 C.2.1 dL_law_387 rfl (lv_at hl 3 rfl) ?_
  refine lv_iload_n C.1 C.2.1 dL_law_388 rfl (lv_at hl 0 rfl) ?_
  refine lv_iconst (v := nI 1) C.1 C.2.1 dL_law_389 (by decide) ?_
  refine xadd C dL_law_390 ?_
  refine xsld C hX hbl hbA hW (by omega) hn dL_law_391 ?_
  obtain ⟨_, _, _, _, _, _, _, _, _, _, _, _, hm0, _⟩ := id hB1
  refine xcV_i (n := 1) (As := [.int (xs (i + 1))]) C hK hW (c_X7_days l g w1 L K T ln sz hk tn Z (xs (i + 1)) hW.2.2.1 hN hS hB1) gL_law_X7_days rfl ⟨rfl, rfl⟩ (by decide +kernel) ⟨(Nat.le_of_ble_eq_true rfl), (Nat.le_of_ble_eq_true rfl)⟩ ⟨Nat.le_refl _, Nat.le_refl _⟩ rfl (by omega) hm0 rfl hl rfl (Nat.le_of_ble_eq_true rfl) dL_law_392 (fun r2 w2 H locs q2 hW => ?_)
  obtain ⟨hA2, f2, e2⟩ := q2
  have hB2 := hA1.fr (fun j hj => f2 j (by omega))
  exact lv_icmp_eq (tgt := 1296) C.1 C.2.1 dL_law_395 (by decide) (fun _ => kk _ w2 _ _ (ok_L hS (OkL.dm hS.1)) hB2 hA2 hW) (fun h => absurd (e1.trans e2.symm) h)

end LAWC
