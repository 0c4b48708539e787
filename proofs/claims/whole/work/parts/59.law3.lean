/-! the law's cases, further -/
section LAWC
variable {p : Program} {l : Launch} {e : Env} {s : State} {m : MethodId} {below : List Frame} {meth : Method} {c : Code} {H : Heap} {locs : List Loc} {ls : Array Slot} {rest : List Value} {g : GE} {w : Nat → va_E} {xs : Nat → Int32} {b n i hk tn : Nat} {L K T ln sz : Nat → Nat} {Z : Nat → Int64}
set_option maxHeartbeats 4000000 in
set_option maxRecDepth 100000 in
theorem law_24 (C : CallFix p m c code 4 s #[Value.ref b] wsL_law RL) (hK : WK g s) (hN : gN g = 130) (hX : va_X b n xs s s.heap) (hbl : b < s.heap.size) (hn : n ≤ 448) (hi : i + 7 ≤ n) (hS : OkS (L, K, hk, tn, T, ln, sz, Z)) (hXA : XAll g (L, K, hk, tn, T, ln, sz, Z) w) (hMA : MAll g (L, K, hk, tn, T, ln, sz, Z) w) (hW : XW g w (lwA s) s.heap H locs) (hl : lv_has ls 4 [(3, .int (nI i)), (2, .ref (gad g 119)), (1, .ref (gad g 0)), (0, .ref b)]) (kk : ∀ (S' : GS) (w' : Nat → va_E) (H1 : Heap) (locs1 : List Loc), OkS S' → XAll g S' w' → MAll g S' w' → XW g w' (lwA s) s.heap H1 locs1 → LW p l e s m below meth c b H1 locs1 (F0 m 1296 ls [])) : LW p l e s m below meth c b H locs (F0 m 880 ls []) := by
  have hbA : ¬ lwA s b := Nat.not_le.mpr hbl
  refine lv_aload_n C.1 C.2.1 dL_law_880 rfl (lv_at hl 2 rfl) ?_
  refine xcV_i (n := 0) (As := []) C hK hW (c_X6_restore l g w L K T ln sz hk tn Z  hW.2.2.1 hN hS hXA) gL_law_X6_restore rfl ⟨rfl, rfl⟩ (by decide +kernel) ⟨(Nat.le_of_ble_eq_true rfl), (Nat.le_of_ble_eq_true rfl)⟩ ⟨Nat.le_refl _, Nat.le_refl _⟩ rfl (by omega) hXA.1 rfl hl rfl (Nat.le_of_ble_eq_true rfl) dL_law_881 (fun r1 w1 H locs q1 hW => ?_)
  obtain ⟨hA1, f1, e1⟩ := q1
  have hB1 := hMA.fr (fun j hj => f1 j (by omega))
  refine lv_aload_n C.1 C.2.1 dL_law_884 rfl (lv_at hl 1 rfl) ?_
  obtain ⟨_, _, _, _, _, _, _, _, _, _, _, _, hm0, _⟩ := id hB1
  refine xcV_i (n := 0) (As := []) C hK hW (c_X7_restore l g w1 L K T ln sz hk tn Z  hW.2.2.1 hN hS hB1) gL_law_X7_restore rfl ⟨rfl, rfl⟩ (by decide +kernel) ⟨(Nat.le_of_ble_eq_true rfl), (Nat.le_of_ble_eq_true rfl)⟩ ⟨Nat.le_refl _, Nat.le_refl _⟩ rfl (by omega) hm0 rfl hl rfl (Nat.le_of_ble_eq_true rfl) dL_law_885 (fun r2 w2 H locs q2 hW => ?_)
  obtain ⟨hA2, f2, e2⟩ := q2
  have hB2 := hA1.fr (fun j hj => f2 j (by omega))
  exact lv_icmp_eq (tgt := 1296) C.1 C.2.1 dL_law_888 (by decide) (fun _ => kk _ w2 _ _ (ok_rest hS) hB2 hA2 hW) (fun h => absurd (e1.trans e2.symm) h)

set_option maxHeartbeats 4000000 in
set_option maxRecDepth 100000 in
theorem law_25 (C : CallFix p m c code 4 s #[Value.ref b] wsL_law RL) (hK : WK g s) (hN : gN g = 130) (hX : va_X b n xs s s.heap) (hbl : b < s.heap.size) (hn : n ≤ 448) (hi : i + 7 ≤ n) (hS : OkS (L, K, hk, tn, T, ln, sz, Z)) (hXA : XAll g (L, K, hk, tn, T, ln, sz, Z) w) (hMA : MAll g (L, K, hk, tn, T, ln, sz, Z) w) (hW : XW g w (lwA s) s.heap H locs) (hl : lv_has ls 4 [(3, .int (nI i)), (2, .ref (gad g 119)), (1, .ref (gad g 0)), (0, .ref b)]) (kk : ∀ (S' : GS) (w' : Nat → va_E) (H1 : Heap) (locs1 : List Loc), OkS S' → XAll g S' w' → MAll g S' w' → XW g w' (lwA s) s.heap H1 locs1 → LW p l e s m below meth c b H1 locs1 (F0 m 1296 ls [])) : LW p l e s m below meth c b H locs (F0 m 893 ls []) := by
  have hbA : ¬ lwA s b := Nat.not_le.mpr hbl
  refine lv_aload_n C.1 C.2.1 dL_law_893 rfl (lv_at hl 2 rfl) ?_
  refine lv_aload_n C.1 C.2.1 dL_law_894 rfl (lv_at hl 3 rfl) ?_
  refine lv_iload_n C.1 C.2.1 dL_law_895 rfl (lv_at hl 0 rfl) ?_
  refine lv_iconst (v := nI 1) C.1 C.2.1 dL_law_896 (by decide) ?_
  refine xadd C dL_law_897 ?_
  refine xsld C hX hbl hbA hW (by omega) hn dL_law_898 ?_
  refine lv_aload_n C.1 C.2.1 dL_law_899 rfl (lv_at hl 3 rfl) ?_
  refine lv_iload_n C.1 C.2.1 dL_law_900 rfl (lv_at hl 0 rfl) ?_
  refine lv_iconst (v := nI 2) C.1 C.2.1 dL_law_901 (by decide) ?_
  refine xadd C dL_law_902 ?_
  refine xsld C hX hbl hbA hW (by omega) hn dL_law_903 ?_
  refine lv_aload_n C.1 C.2.1 dL_law_904 rfl (lv_at hl 3 rfl) ?_
  refine lv_iload_n C.1 C.2.1 dL_law_905 rfl (lv_at hl 0 rfl) ?_
  refine lv_iconst (v := nI 3) C.1 C.2.1 dL_law_906 (by decide) ?_
  refine xadd C dL_law_907 ?_
  refine xsld C hX hbl hbA hW (by omega) hn dL_law_908 ?_
  refine lv_aload_n C.1 C.2.1 dL_law_909 rfl (lv_at hl 3 rfl) ?_
  refine lv_iload_n C.1 C.2.1 dL_law_910 rfl (lv_at hl 0 rfl) ?_
  refine lv_iconst (v := nI 4) C.1 C.2.1 dL_law_911 (by decide) ?_
  refine xadd C dL_law_912 ?_
  refine xsld C hX hbl hbA hW (by omega) hn dL_law_913 ?_
  refine lv_aload_n C.1 C.2.1 dL_law_914 rfl (lv_at hl 3 rfl) ?_
  refine lv_iload_n C.1 C.2.1 dL_law_915 rfl (lv_at hl 0 rfl) ?_
  refine lv_iconst (v := nI 5) C.1 C.2.1 dL_law_916 (by decide) ?_
  refine xadd C dL_law_917 ?_
  refine xsld C hX hbl hbA hW (by omega) hn dL_law_918 ?_
  refine xcV_i (n := 5) (As := [.int (xs (i + 1)), .int (xs (i + 2)), .int (xs (i + 3)), .int (xs (i + 4)), .int (xs (i + 5))]) C hK hW (c_X6_seen l g w L K T ln sz hk tn Z (xs (i + 1)) (xs (i + 2)) (xs (i + 3)) (xs (i + 4)) (xs (i + 5)) hW.2.2.1 hN hS hXA) gL_law_X6_seen rfl ⟨rfl, rfl⟩ (by decide +kernel) ⟨(Nat.le_of_ble_eq_true rfl), (Nat.le_of_ble_eq_true rfl)⟩ ⟨Nat.le_refl _, Nat.le_refl _⟩ rfl (by omega) hXA.1 rfl hl rfl (Nat.le_of_ble_eq_true rfl) dL_law_919 (fun r1 w1 H locs q1 hW => ?_)
  obtain ⟨hA1, f1, e1⟩ := q1
  have hB1 := hMA.fr (fun j hj => f1 j (by omega))
  refine lv_aload_n C.1 C.2.1 dL_law_922 rfl (lv_at hl 1 rfl) ?_
  refine lv_aload_n C.1 C.2.1 dL_law_923 rfl (lv_at hl 3 rfl) ?_
  refine lv_iload_n C.1 C.2.1 dL_law_924 rfl (lv_at hl 0 rfl) ?_
  refine lv_iconst (v := nI 1) C.1 C.2.1 dL_law_925 (by decide) ?_
  refine xadd C dL_law_926 ?_
  refine xsld C hX hbl hbA hW (by omega) hn dL_law_927 ?_
  refine lv_aload_n C.1 C.2.1 dL_law_928 rfl (lv_at hl 3 rfl) ?_
  refine lv_iload_n C.1 C.2.1 dL_law_929 rfl (lv_at hl 0 rfl) ?_
  refine lv_iconst (v := nI 2) C.1 C.2.1 dL_law_930 (by decide) ?_
  refine xadd C dL_law_931 ?_
  refine xsld C hX hbl hbA hW (by omega) hn dL_law_932 ?_
  refine lv_aload_n C.1 C.2.1 dL_law_933 rfl (lv_at hl 3 rfl) ?_
  refine lv_iload_n C.1 C.2.1 dL_law_934 rfl (lv_at hl 0 rfl) ?_
  refine lv_iconst (v := nI 3) C.1 C.2.1 dL_law_935 (by decide) ?_
  refine xadd C dL_law_936 ?_
  refine xsld C hX hbl hbA hW (by omega) hn dL_law_937 ?_
  refine lv_aload_n C.1 C.2.1 dL_law_938 rfl (lv_at hl 3 rfl) ?_
  refine lv_iload_n C.1 C.2.1 dL_law_939 rfl (lv_at hl 0 rfl) ?_
  refine lv_iconst (v := nI 4) C.1 C.2.1 dL_law_940 (by decide) ?_
  refine xadd C dL_law_941 ?_
  refine xsld C hX hbl hbA hW (by omega) hn dL_law_942 ?_
  refine lv_aload_n C.1 C.2.1 dL_law_943 rfl (lv_at hl 3 rfl) ?_
  refine lv_iload_n C.1 C.2.1 dL_law_944 rfl (lv_at hl 0 rfl) ?_
  refine lv_iconst (v := nI 5) C.1 C.2.1 dL_law_945 (by decide) ?_
  refine xadd C dL_law_946 ?_
  refine xsld C hX hbl hbA hW (by omega) hn dL_law_947 ?_
  obtain ⟨_, _, _, _, _, _, _, _, _, _, _, _, hm0, _⟩ := id hB1
  refine xcV_i (n := 5) (As := [.int (xs (i + 1)), .int (xs (i + 2)), .int (xs (i + 3)), .int (xs (i + 4)), .int (xs (i + 5))]) C hK hW (c_X7_seen l g w1 L K T ln sz hk tn Z (xs (i + 1)) (xs (i + 2)) (xs (i + 3)) (xs (i + 4)) (xs (i + 5)) hW.2.2.1 hN hS hB1) gL_law_X7_seen rfl ⟨rfl, rfl⟩ (by decide +kernel) ⟨(Nat.le_of_ble_eq_true rfl), (Nat.le_of_ble_eq_true rfl)⟩ ⟨Nat.le_refl _, Nat.le_refl _⟩ rfl (by omega) hm0 rfl hl rfl (Nat.le_of_ble_eq_true rfl) dL_law_948 (fun r2 w2 H locs q2 hW => ?_)
  obtain ⟨hA2, f2, e2⟩ := q2
  have hB2 := hA1.fr (fun j hj => f2 j (by omega))
  exact lv_icmp_eq (tgt := 1296) C.1 C.2.1 dL_law_951 (by decide) (fun _ => kk _ w2 _ _ (hS) hB2 hA2 hW) (fun h => absurd (e1.trans e2.symm) h)

set_option maxHeartbeats 4000000 in
set_option maxRecDepth 100000 in
theorem law_26 (C : CallFix p m c code 4 s #[Value.ref b] wsL_law RL) (hK : WK g s) (hN : gN g = 130) (hX : va_X b n xs s s.heap) (hbl : b < s.heap.size) (hn : n ≤ 448) (hi : i + 7 ≤ n) (hS : OkS (L, K, hk, tn, T, ln, sz, Z)) (hXA : XAll g (L, K, hk, tn, T, ln, sz, Z) w) (hMA : MAll g (L, K, hk, tn, T, ln, sz, Z) w) (hW : XW g w (lwA s) s.heap H locs) (hl : lv_has ls 4 [(3, .int (nI i)), (2, .ref (gad g 119)), (1, .ref (gad g 0)), (0, .ref b)]) (kk : ∀ (S' : GS) (w' : Nat → va_E) (H1 : Heap) (locs1 : List Loc), OkS S' → XAll g S' w' → MAll g S' w' → XW g w' (lwA s) s.heap H1 locs1 → LW p l e s m below meth c b H1 locs1 (F0 m 1296 ls [])) : LW p l e s m below meth c b H locs (F0 m 956 ls []) := by
  have hbA : ¬ lwA s b := Nat.not_le.mpr hbl
  refine lv_aload_n C.1 C.2.1 dL_law_956 rfl (lv_at hl 2 rfl) ?_
  refine lv_aload_n C.1 C.2.1 dL_law_957 rfl (lv_at hl 3 rfl) ?_
  refine lv_iload_n C.1 C.2.1 dL_law_958 rfl (lv_at hl 0 rfl) ?_
  refine lv_iconst (v := nI 1) C.1 C.2.1 dL_law_959 (by decide) ?_
  refine xadd C dL_law_960 ?_
  refine xsld C hX hbl hbA hW (by omega) hn dL_law_961 ?_
  refine lv_aload_n C.1 C.2.1 dL_law_962 rfl (lv_at hl 3 rfl) ?_
  refine lv_iload_n C.1 C.2.1 dL_law_963 rfl (lv_at hl 0 rfl) ?_
  refine lv_iconst (v := nI 2) C.1 C.2.1 dL_law_964 (by decide) ?_
  refine xadd C dL_law_965 ?_
  refine xsld C hX hbl hbA hW (by omega) hn dL_law_966 ?_
  refine lv_aload_n C.1 C.2.1 dL_law_967 rfl (lv_at hl 3 rfl) ?_
  refine lv_iload_n C.1 C.2.1 dL_law_968 rfl (lv_at hl 0 rfl) ?_
  refine lv_iconst (v := nI 3) C.1 C.2.1 dL_law_969 (by decide) ?_
  refine xadd C dL_law_970 ?_
  refine xsld C hX hbl hbA hW (by omega) hn dL_law_971 ?_
  refine lv_aload_n C.1 C.2.1 dL_law_972 rfl (lv_at hl 3 rfl) ?_
  refine lv_iload_n C.1 C.2.1 dL_law_973 rfl (lv_at hl 0 rfl) ?_
  refine lv_iconst (v := nI 4) C.1 C.2.1 dL_law_974 (by decide) ?_
  refine xadd C dL_law_975 ?_
  refine xsld C hX hbl hbA hW (by omega) hn dL_law_976 ?_
  refine lv_aload_n C.1 C.2.1 dL_law_977 rfl (lv_at hl 3 rfl) ?_
  refine lv_iload_n C.1 C.2.1 dL_law_978 rfl (lv_at hl 0 rfl) ?_
  refine lv_iconst (v := nI 5) C.1 C.2.1 dL_law_979 (by decide) ?_
  refine xadd C dL_law_980 ?_
  refine xsld C hX hbl hbA hW (by omega) hn dL_law_981 ?_
  refine lv_aload_n C.1 C.2.1 dL_law_982 rfl (lv_at hl 3 rfl) ?_
  refine lv_iload_n C.1 C.2.1 dL_law_983 rfl (lv_at hl 0 rfl) ?_
  refine lv_bipush (v := nI 6) C.1 C.2.1 dL_law_984 (by decide) ?_
  refine xadd C dL_law_986 ?_
  refine xsld C hX hbl hbA hW (by omega) hn dL_law_987 ?_
  refine xcV_i (n := 6) (As := [.int (xs (i + 1)), .int (xs (i + 2)), .int (xs (i + 3)), .int (xs (i + 4)), .int (xs (i + 5)), .int (xs (i + 6))]) C hK hW (c_X6_bore l g w L K T ln sz hk tn Z (xs (i + 1)) (xs (i + 2)) (xs (i + 3)) (xs (i + 4)) (xs (i + 5)) (xs (i + 6)) hW.2.2.1 hN hS hXA) gL_law_X6_bore rfl ⟨rfl, rfl⟩ (by decide +kernel) ⟨(Nat.le_of_ble_eq_true rfl), (Nat.le_of_ble_eq_true rfl)⟩ ⟨Nat.le_refl _, Nat.le_refl _⟩ rfl (by omega) hXA.1 rfl hl rfl (Nat.le_of_ble_eq_true rfl) dL_law_988 (fun r1 w1 H locs q1 hW => ?_)
  obtain ⟨hA1, f1, e1⟩ := q1
  have hB1 := hMA.fr (fun j hj => f1 j (by omega))
  refine lv_aload_n C.1 C.2.1 dL_law_991 rfl (lv_at hl 1 rfl) ?_
  refine lv_aload_n C.1 C.2.1 dL_law_992 rfl (lv_at hl 3 rfl) ?_
  refine lv_iload_n C.1 C.2.1 dL_law_993 rfl (lv_at hl 0 rfl) ?_
  refine lv_iconst (v := nI 1) C.1 C.2.1 dL_law_994 (by decide) ?_
  refine xadd C dL_law_995 ?_
  refine xsld C hX hbl hbA hW (by omega) hn dL_law_996 ?_
  refine lv_aload_n C.1 C.2.1 dL_law_997 rfl (lv_at hl 3 rfl) ?_
  refine lv_iload_n C.1 C.2.1 dL_law_998 rfl (lv_at hl 0 rfl) ?_
  refine lv_iconst (v := nI 2) C.1 C.2.1 dL_law_999 (by decide) ?_
  refine xadd C dL_law_1000 ?_
  refine xsld C hX hbl hbA hW (by omega) hn dL_law_1001 ?_
  refine lv_aload_n C.1 C.2.1 dL_law_1002 rfl (lv_at hl 3 rfl) ?_
  refine lv_iload_n C.1 C.2.1 dL_law_1003 rfl (lv_at hl 0 rfl) ?_
  refine lv_iconst (v := nI 3) C.1 C.2.1 dL_law_1004 (by decide) ?_
  refine xadd C dL_law_1005 ?_
  refine xsld C hX hbl hbA hW (by omega) hn dL_law_1006 ?_
  refine lv_aload_n C.1 C.2.1 dL_law_1007 rfl (lv_at hl 3 rfl) ?_
  refine lv_iload_n C.1 C.2.1 dL_law_1008 rfl (lv_at hl 0 rfl) ?_
  refine lv_iconst (v := nI 4) C.1 C.2.1 dL_law_1009 (by decide) ?_
  refine xadd C dL_law_1010 ?_
  refine xsld C hX hbl hbA hW (by omega) hn dL_law_1011 ?_
  refine lv_aload_n C.1 C.2.1 dL_law_1012 rfl (lv_at hl 3 rfl) ?_
  refine lv_iload_n C.1 C.2.1 dL_law_1013 rfl (lv_at hl 0 rfl) ?_
  refine lv_iconst (v := nI 5) C.1 C.2.1 dL_law_1014 (by decide) ?_
  refine xadd C dL_law_1015 ?_
  refine xsld C hX hbl hbA hW (by omega) hn dL_law_1016 ?_
  refine lv_aload_n C.1 C.2.1 dL_law_1017 rfl (lv_at hl 3 rfl) ?_
  refine lv_iload_n C.1 C.2.1 dL_law_1018 rfl (lv_at hl 0 rfl) ?_
  refine lv_bipush (v := nI 6) C.1 C.2.1 dL_law_1019 (by decide) ?_
  refine xadd C dL_law_1021 ?_
  refine xsld C hX hbl hbA hW (by omega) hn dL_law_1022 ?_
  obtain ⟨_, _, _, _, _, _, _, _, _, _, _, _, hm0, _⟩ := id hB1
  refine xcV_i (n := 6) (As := [.int (xs (i + 1)), .int (xs (i + 2)), .int (xs (i + 3)), .int (xs (i + 4)), .int (xs (i + 5)), .int (xs (i + 6))]) C hK hW (c_X7_bore l g w1 L K T ln sz hk tn Z (xs (i + 1)) (xs (i + 2)) (xs (i + 3)) (xs (i + 4)) (xs (i + 5)) (xs (i + 6)) hW.2.2.1 hN hS hB1) gL_law_X7_bore rfl ⟨rfl, rfl⟩ (by decide +kernel) ⟨(Nat.le_of_ble_eq_true rfl), (Nat.le_of_ble_eq_true rfl)⟩ ⟨Nat.le_refl _, Nat.le_refl _⟩ rfl (by omega) hm0 rfl hl rfl (Nat.le_of_ble_eq_true rfl) dL_law_1023 (fun r2 w2 H locs q2 hW => ?_)
  obtain ⟨hA2, f2, e2⟩ := q2
  have hB2 := hA1.fr (fun j hj => f2 j (by omega))
  exact lv_icmp_eq (tgt := 1296) C.1 C.2.1 dL_law_1026 (by decide) (fun _ => kk _ w2 _ _ (hS) hB2 hA2 hW) (fun h => absurd (e1.trans e2.symm) h)

set_option maxHeartbeats 4000000 in
set_option maxRecDepth 100000 in
theorem law_27 (C : CallFix p m c code 4 s #[Value.ref b] wsL_law RL) (hK : WK g s) (hN : gN g = 130) (hX : va_X b n xs s s.heap) (hbl : b < s.heap.size) (hn : n ≤ 448) (hi : i + 7 ≤ n) (hS : OkS (L, K, hk, tn, T, ln, sz, Z)) (hXA : XAll g (L, K, hk, tn, T, ln, sz, Z) w) (hMA : MAll g (L, K, hk, tn, T, ln, sz, Z) w) (hW : XW g w (lwA s) s.heap H locs) (hl : lv_has ls 4 [(3, .int (nI i)), (2, .ref (gad g 119)), (1, .ref (gad g 0)), (0, .ref b)]) (kk : ∀ (S' : GS) (w' : Nat → va_E) (H1 : Heap) (locs1 : List Loc), OkS S' → XAll g S' w' → MAll g S' w' → XW g w' (lwA s) s.heap H1 locs1 → LW p l e s m below meth c b H1 locs1 (F0 m 1296 ls [])) : LW p l e s m below meth c b H locs (F0 m 1031 ls []) := by
  have hbA : ¬ lwA s b := Nat.not_le.mpr hbl
  refine lv_aload_n C.1 C.2.1 dL_law_1031 rfl (lv_at hl 2 rfl) ?_
  refine lv_aload_n C.1 C.2.1 dL_law_1032 rfl (lv_at hl 3 rfl) ?_
  refine lv_iload_n C.1 C.2.1 dL_law_1033 rfl (lv_at hl 0 rfl) ?_
  refine lv_iconst (v := nI 1) C.1 C.2.1 dL_law_1034 (by decide) ?_
  refine xadd C dL_law_1035 ?_
  refine xsld C hX hbl hbA hW (by omega) hn dL_law_1036 ?_
  refine lv_aload_n C.1 C.2.1 dL_law_1037 rfl (lv_at hl 3 rfl) ?_
  refine lv_iload_n C.1 C.2.1 dL_law_1038 rfl (lv_at hl 0 rfl) ?_
  refine lv_iconst (v := nI 2) C.1 C.2.1 dL_law_1039 (by decide) ?_
  refine xadd C dL_law_1040 ?_
  refine xsld C hX hbl hbA hW (by omega) hn dL_law_1041 ?_
  refine lv_aload_n C.1 C.2.1 dL_law_1042 rfl (lv_at hl 3 rfl) ?_
  refine lv_iload_n C.1 C.2.1 dL_law_1043 rfl (lv_at hl 0 rfl) ?_
  refine lv_iconst (v := nI 3) C.1 C.2.1 dL_law_1044 (by decide) ?_
  refine xadd C dL_law_1045 ?_
  refine xsld C hX hbl hbA hW (by omega) hn dL_law_1046 ?_
  refine lv_aload_n C.1 C.2.1 dL_law_1047 rfl (lv_at hl 3 rfl) ?_
  refine lv_iload_n C.1 C.2.1 dL_law_1048 rfl (lv_at hl 0 rfl) ?_
  refine lv_iconst (v := nI 4) C.1 C.2.1 dL_law_1049 (by decide) ?_
  refine xadd C dL_law_1050 ?_
  refine xsld C hX hbl hbA hW (by omega) hn dL_law_1051 ?_
  refine xcV_i (n := 4) (As := [.int (xs (i + 1)), .int (xs (i + 2)), .int (xs (i + 3)), .int (xs (i + 4))]) C hK hW (c_X6_film l g w L K T ln sz hk tn Z (xs (i + 1)) (xs (i + 2)) (xs (i + 3)) (xs (i + 4)) hW.2.2.1 hN hS hXA) gL_law_X6_film rfl ⟨rfl, rfl⟩ (by decide +kernel) ⟨(Nat.le_of_ble_eq_true rfl), (Nat.le_of_ble_eq_true rfl)⟩ ⟨Nat.le_refl _, Nat.le_refl _⟩ rfl (by omega) hXA.1 rfl hl rfl (Nat.le_of_ble_eq_true rfl) dL_law_1052 (fun r1 w1 H locs q1 hW => ?_)
  obtain ⟨hA1, f1, e1⟩ := q1
  have hB1 := hMA.fr (fun j hj => f1 j (by omega))
  refine lv_aload_n C.1 C.2.1 dL_law_1055 rfl (lv_at hl 1 rfl) ?_
  refine lv_aload_n C.1 C.2.1 dL_law_1056 rfl (lv_at hl 3 rfl) ?_
  refine lv_iload_n C.1 C.2.1 dL_law_1057 rfl (lv_at hl 0 rfl) ?_
  refine lv_iconst (v := nI 1) C.1 C.2.1 dL_law_1058 (by decide) ?_
  refine xadd C dL_law_1059 ?_
  refine xsld C hX hbl hbA hW (by omega) hn dL_law_1060 ?_
  refine lv_aload_n C.1 C.2.1 dL_law_1061 rfl (lv_at hl 3 rfl) ?_
  refine lv_iload_n C.1 C.2.1 dL_law_1062 rfl (lv_at hl 0 rfl) ?_
  refine lv_iconst (v := nI 2) C.1 C.2.1 dL_law_1063 (by decide) ?_
  refine xadd C dL_law_1064 ?_
  refine xsld C hX hbl hbA hW (by omega) hn dL_law_1065 ?_
  refine lv_aload_n C.1 C.2.1 dL_law_1066 rfl (lv_at hl 3 rfl) ?_
  refine lv_iload_n C.1 C.2.1 dL_law_1067 rfl (lv_at hl 0 rfl) ?_
  refine lv_iconst (v := nI 3) C.1 C.2.1 dL_law_1068 (by decide) ?_
  refine xadd C dL_law_1069 ?_
  refine xsld C hX hbl hbA hW (by omega) hn dL_law_1070 ?_
  refine lv_aload_n C.1 C.2.1 dL_law_1071 rfl (lv_at hl 3 rfl) ?_
  refine lv_iload_n C.1 C.2.1 dL_law_1072 rfl (lv_at hl 0 rfl) ?_
  refine lv_iconst (v := nI 4) C.1 C.2.1 dL_law_1073 (by decide) ?_
  refine xadd C dL_law_1074 ?_
  refine xsld C hX hbl hbA hW (by omega) hn dL_law_1075 ?_
  obtain ⟨_, _, _, _, _, _, _, _, _, _, _, _, hm0, _⟩ := id hB1
  refine xcV_i (n := 4) (As := [.int (xs (i + 1)), .int (xs (i + 2)), .int (xs (i + 3)), .int (xs (i + 4))]) C hK hW (c_X7_film l g w1 L K T ln sz hk tn Z (xs (i + 1)) (xs (i + 2)) (xs (i + 3)) (xs (i + 4)) hW.2.2.1 hN hS hB1) gL_law_X7_film rfl ⟨rfl, rfl⟩ (by decide +kernel) ⟨(Nat.le_of_ble_eq_true rfl), (Nat.le_of_ble_eq_true rfl)⟩ ⟨Nat.le_refl _, Nat.le_refl _⟩ rfl (by omega) hm0 rfl hl rfl (Nat.le_of_ble_eq_true rfl) dL_law_1076 (fun r2 w2 H locs q2 hW => ?_)
  obtain ⟨hA2, f2, e2⟩ := q2
  have hB2 := hA1.fr (fun j hj => f2 j (by omega))
  exact lv_icmp_eq (tgt := 1296) C.1 C.2.1 dL_law_1079 (by decide) (fun _ => kk _ w2 _ _ (ok_Z hS) hB2 hA2 hW) (fun h => absurd (e1.trans e2.symm) h)

set_option maxHeartbeats 4000000 in
set_option maxRecDepth 100000 in
theorem law_28 (C : CallFix p m c code 4 s #[Value.ref b] wsL_law RL) (hK : WK g s) (hN : gN g = 130) (hX : va_X b n xs s s.heap) (hbl : b < s.heap.size) (hn : n ≤ 448) (hi : i + 7 ≤ n) (hS : OkS (L, K, hk, tn, T, ln, sz, Z)) (hXA : XAll g (L, K, hk, tn, T, ln, sz, Z) w) (hMA : MAll g (L, K, hk, tn, T, ln, sz, Z) w) (hW : XW g w (lwA s) s.heap H locs) (hl : lv_has ls 4 [(3, .int (nI i)), (2, .ref (gad g 119)), (1, .ref (gad g 0)), (0, .ref b)]) (kk : ∀ (S' : GS) (w' : Nat → va_E) (H1 : Heap) (locs1 : List Loc), OkS S' → XAll g S' w' → MAll g S' w' → XW g w' (lwA s) s.heap H1 locs1 → LW p l e s m below meth c b H1 locs1 (F0 m 1296 ls [])) : LW p l e s m below meth c b H locs (F0 m 1084 ls []) := by
  have hbA : ¬ lwA s b := Nat.not_le.mpr hbl
  refine lv_aload_n C.1 C.2.1 dL_law_1084 rfl (lv_at hl 2 rfl) ?_
  refine lv_aload_n C.1 C.2.1 dL_law_1085 rfl (lv_at hl 3 rfl) ?_
  refine lv_iload_n C.1 C.2.1 dL_law_1086 rfl (lv_at hl 0 rfl) ?_
  refine lv_iconst (v := nI 1) C.1 C.2.1 dL_law_1087 (by decide) ?_
  refine xadd C dL_law_1088 ?_
  refine xsld C hX hbl hbA hW (by omega) hn dL_law_1089 ?_
  refine lv_aload_n C.1 C.2.1 dL_law_1090 rfl (lv_at hl 3 rfl) ?_
  refine lv_iload_n C.1 C.2.1 dL_law_1091 rfl (lv_at hl 0 rfl) ?_
  refine lv_iconst (v := nI 2) C.1 C.2.1 dL_law_1092 (by decide) ?_
  refine xadd C dL_law_1093 ?_
  refine xsld C hX hbl hbA hW (by omega) hn dL_law_1094 ?_
  refine lv_aload_n C.1 C.2.1 dL_law_1095 rfl (lv_at hl 3 rfl) ?_
  refine lv_iload_n C.1 C.2.1 dL_law_1096 rfl (lv_at hl 0 rfl) ?_
  refine lv_iconst (v := nI 3) C.1 C.2.1 dL_law_1097 (by decide) ?_
  refine xadd C dL_law_1098 ?_
  refine xsld C hX hbl hbA hW (by omega) hn dL_law_1099 ?_
  refine xcV_i (n := 3) (As := [.int (xs (i + 1)), .int (xs (i + 2)), .int (xs (i + 3))]) C hK hW (c_X6_sheet l g w L K T ln sz hk tn Z (xs (i + 1)) (xs (i + 2)) (xs (i + 3)) hW.2.2.1 hN hS hXA) gL_law_X6_sheet rfl ⟨rfl, rfl⟩ (by decide +kernel) ⟨(Nat.le_of_ble_eq_true rfl), (Nat.le_of_ble_eq_true rfl)⟩ ⟨Nat.le_refl _, Nat.le_refl _⟩ rfl (by omega) hXA.1 rfl hl rfl (Nat.le_of_ble_eq_true rfl) dL_law_1100 (fun r1 w1 H locs q1 hW => ?_)
  obtain ⟨hA1, f1, e1⟩ := q1
  have hB1 := hMA.fr (fun j hj => f1 j (by omega))
  refine lv_aload_n C.1 C.2.1 dL_law_1103 rfl (lv_at hl 1 rfl) ?_
  refine lv_aload_n C.1 C.2.1 dL_law_1104 rfl (lv_at hl 3 rfl) ?_
  refine lv_iload_n C.1 C.2.1 dL_law_1105 rfl (lv_at hl 0 rfl) ?_
  refine lv_iconst (v := nI 1) C.1 C.2.1 dL_law_1106 (by decide) ?_
  refine xadd C dL_law_1107 ?_
  refine xsld C hX hbl hbA hW (by omega) hn dL_law_1108 ?_
  refine lv_aload_n C.1 C.2.1 dL_law_1109 rfl (lv_at hl 3 rfl) ?_
  refine lv_iload_n C.1 C.2.1 dL_law_1110 rfl (lv_at hl 0 rfl) ?_
  refine lv_iconst (v := nI 2) C.1 C.2.1 dL_law_1111 (by decide) ?_
  refine xadd C dL_law_1112 ?_
  refine xsld C hX hbl hbA hW (by omega) hn dL_law_1113 ?_
  refine lv_aload_n C.1 C.2.1 dL_law_1114 rfl (lv_at hl 3 rfl) ?_
  refine lv_iload_n C.1 C.2.1 dL_law_1115 rfl (lv_at hl 0 rfl) ?_
  refine lv_iconst (v := nI 3) C.1 C.2.1 dL_law_1116 (by decide) ?_
  refine xadd C dL_law_1117 ?_
  refine xsld C hX hbl hbA hW (by omega) hn dL_law_1118 ?_
  obtain ⟨_, _, _, _, _, _, _, _, _, _, _, _, hm0, _⟩ := id hB1
  refine xcV_i (n := 3) (As := [.int (xs (i + 1)), .int (xs (i + 2)), .int (xs (i + 3))]) C hK hW (c_X7_sheet l g w1 L K T ln sz hk tn Z (xs (i + 1)) (xs (i + 2)) (xs (i + 3)) hW.2.2.1 hN hS hB1) gL_law_X7_sheet rfl ⟨rfl, rfl⟩ (by decide +kernel) ⟨(Nat.le_of_ble_eq_true rfl), (Nat.le_of_ble_eq_true rfl)⟩ ⟨Nat.le_refl _, Nat.le_refl _⟩ rfl (by omega) hm0 rfl hl rfl (Nat.le_of_ble_eq_true rfl) dL_law_1119 (fun r2 w2 H locs q2 hW => ?_)
  obtain ⟨hA2, f2, e2⟩ := q2
  have hB2 := hA1.fr (fun j hj => f2 j (by omega))
  exact lv_icmp_eq (tgt := 1296) C.1 C.2.1 dL_law_1122 (by decide) (fun _ => kk _ w2 _ _ (ok_sheet hS) hB2 hA2 hW) (fun h => absurd (e1.trans e2.symm) h)

set_option maxHeartbeats 4000000 in
set_option maxRecDepth 100000 in
theorem law_29 (C : CallFix p m c code 4 s #[Value.ref b] wsL_law RL) (hK : WK g s) (hN : gN g = 130) (hX : va_X b n xs s s.heap) (hbl : b < s.heap.size) (hn : n ≤ 448) (hi : i + 7 ≤ n) (hS : OkS (L, K, hk, tn, T, ln, sz, Z)) (hXA : XAll g (L, K, hk, tn, T, ln, sz, Z) w) (hMA : MAll g (L, K, hk, tn, T, ln, sz, Z) w) (hW : XW g w (lwA s) s.heap H locs) (hl : lv_has ls 4 [(3, .int (nI i)), (2, .ref (gad g 119)), (1, .ref (gad g 0)), (0, .ref b)]) (kk : ∀ (S' : GS) (w' : Nat → va_E) (H1 : Heap) (locs1 : List Loc), OkS S' → XAll g S' w' → MAll g S' w' → XW g w' (lwA s) s.heap H1 locs1 → LW p l e s m below meth c b H1 locs1 (F0 m 1296 ls [])) : LW p l e s m below meth c b H locs (F0 m 1127 ls []) := by
  have hbA : ¬ lwA s b := Nat.not_le.mpr hbl
  refine lv_aload_n C.1 C.2.1 dL_law_1127 rfl (lv_at hl 2 rfl) ?_
  refine lv_aload_n C.1 C.2.1 dL_law_1128 rfl (lv_at hl 3 rfl) ?_
  refine lv_iload_n C.1 C.2.1 dL_law_1129 rfl (lv_at hl 0 rfl) ?_
  refine lv_iconst (v := nI 1) C.1 C.2.1 dL_law_1130 (by decide) ?_
  refine xadd C dL_law_1131 ?_
  refine xsld C hX hbl hbA hW (by omega) hn dL_law_1132 ?_
  refine xcV_i (n := 1) (As := [.int (xs (i + 1))]) C hK hW (c_X6_drop l g w L K T ln sz hk tn Z (xs (i + 1)) hW.2.2.1 hN hS hXA) gL_law_X6_drop rfl ⟨rfl, rfl⟩ (by decide +kernel) ⟨(Nat.le_of_ble_eq_true rfl), (Nat.le_of_ble_eq_true rfl)⟩ ⟨Nat.le_refl _, Nat.le_refl _⟩ rfl (by omega) hXA.1 rfl hl rfl (Nat.le_of_ble_eq_true rfl) dL_law_1133 (fun r1 w1 H locs q1 hW => ?_)
  obtain ⟨hA1, f1, e1⟩ := q1
  have hB1 := hMA.fr (fun j hj => f1 j (by omega))
  refine lv_aload_n C.1 C.2.1 dL_law_1136 rfl (lv_at hl 1 rfl) ?_
  refine lv_aload_n C.1 C.2.1 dL_law_1137 rfl (lv_at hl 3 rfl) ?_
  refine lv_iload_n C.1 C.2.1 dL_law_1138 rfl (lv_at hl 0 rfl) ?_
  refine lv_iconst (v := nI 1) C.1 C.2.1 dL_law_1139 (by decide) ?_
  refine xadd C dL_law_1140 ?_
  refine xsld C hX hbl hbA hW (by omega) hn dL_law_1141 ?_
  obtain ⟨_, _, _, _, _, _, _, _, _, _, _, _, hm0, _⟩ := id hB1
  refine xcV_i (n := 1) (As := [.int (xs (i + 1))]) C hK hW (c_X7_drop l g w1 L K T ln sz hk tn Z (xs (i + 1)) hW.2.2.1 hN hS hB1) gL_law_X7_drop rfl ⟨rfl, rfl⟩ (by decide +kernel) ⟨(Nat.le_of_ble_eq_true rfl), (Nat.le_of_ble_eq_true rfl)⟩ ⟨Nat.le_refl _, Nat.le_refl _⟩ rfl (by omega) hm0 rfl hl rfl (Nat.le_of_ble_eq_true rfl) dL_law_1142 (fun r2 w2 H locs q2 hW => ?_)
  obtain ⟨hA2, f2, e2⟩ := q2
  have hB2 := hA1.fr (fun j hj => f2 j (by omega))
  exact lv_icmp_eq (tgt := 1296) C.1 C.2.1 dL_law_1145 (by decide) (fun _ => kk _ w2 _ _ (ok_drop hS) hB2 hA2 hW) (fun h => absurd (e1.trans e2.symm) h)

set_option maxHeartbeats 4000000 in
set_option maxRecDepth 100000 in
theorem law_30 (C : CallFix p m c code 4 s #[Value.ref b] wsL_law RL) (hK : WK g s) (hN : gN g = 130) (hX : va_X b n xs s s.heap) (hbl : b < s.heap.size) (hn : n ≤ 448) (hi : i + 7 ≤ n) (hS : OkS (L, K, hk, tn, T, ln, sz, Z)) (hXA : XAll g (L, K, hk, tn, T, ln, sz, Z) w) (hMA : MAll g (L, K, hk, tn, T, ln, sz, Z) w) (hW : XW g w (lwA s) s.heap H locs) (hl : lv_has ls 4 [(3, .int (nI i)), (2, .ref (gad g 119)), (1, .ref (gad g 0)), (0, .ref b)]) (kk : ∀ (S' : GS) (w' : Nat → va_E) (H1 : Heap) (locs1 : List Loc), OkS S' → XAll g S' w' → MAll g S' w' → XW g w' (lwA s) s.heap H1 locs1 → LW p l e s m below meth c b H1 locs1 (F0 m 1296 ls [])) : LW p l e s m below meth c b H locs (F0 m 1150 ls []) := by
  have hbA : ¬ lwA s b := Nat.not_le.mpr hbl
  have hcl : Cond.constantLong RL 141 4294967295 ∈ wsL_law := List.mem_of_getElem? (i := 6) rfl
  refine lv_aload_n C.1 C.2.1 dL_law_1150 rfl (lv_at hl 2 rfl) ?_
  refine lv_aload_n C.1 C.2.1 dL_law_1151 rfl (lv_at hl 3 rfl) ?_
  refine lv_iload_n C.1 C.2.1 dL_law_1152 rfl (lv_at hl 0 rfl) ?_
  refine lv_iconst (v := nI 1) C.1 C.2.1 dL_law_1153 (by decide) ?_
  refine xadd C dL_law_1154 ?_
  refine xsld C hX hbl hbA hW (by omega) hn dL_law_1155 ?_
  refine lv_aload_n C.1 C.2.1 dL_law_1156 rfl (lv_at hl 3 rfl) ?_
  refine lv_iload_n C.1 C.2.1 dL_law_1157 rfl (lv_at hl 0 rfl) ?_
  refine lv_iconst (v := nI 2) C.1 C.2.1 dL_law_1158 (by decide) ?_
  refine xadd C dL_law_1159 ?_
  refine xsld C hX hbl hbA hW (by omega) hn dL_law_1160 ?_
  refine lv_aload_n C.1 C.2.1 dL_law_1161 rfl (lv_at hl 3 rfl) ?_
  refine lv_iload_n C.1 C.2.1 dL_law_1162 rfl (lv_at hl 0 rfl) ?_
  refine lv_iconst (v := nI 3) C.1 C.2.1 dL_law_1163 (by decide) ?_
  refine xadd C dL_law_1164 ?_
  refine xsld C hX hbl hbA hW (by omega) hn dL_law_1165 ?_
  refine lv_aload_n C.1 C.2.1 dL_law_1166 rfl (lv_at hl 3 rfl) ?_
  refine lv_iload_n C.1 C.2.1 dL_law_1167 rfl (lv_at hl 0 rfl) ?_
  refine lv_iconst (v := nI 4) C.1 C.2.1 dL_law_1168 (by decide) ?_
  refine xadd C dL_law_1169 ?_
  refine xsld C hX hbl hbA hW (by omega) hn dL_law_1170 ?_
  refine lv_i2l (v := (xs (i + 4)).toInt64) C.1 C.2.1 dL_law_1171 rfl ?_
  refine lv_bipush (v := nI 32) C.1 C.2.1 dL_law_1172 (by decide) ?_
  refine lv_lshl (v := ((xs (i + 4)).toInt64) <<< ((nI 32).toInt64 &&& 63)) C.1 C.2.1 dL_law_1174 rfl ?_
  refine lv_aload_n C.1 C.2.1 dL_law_1175 rfl (lv_at hl 3 rfl) ?_
  refine lv_iload_n C.1 C.2.1 dL_law_1176 rfl (lv_at hl 0 rfl) ?_
  refine lv_iconst (v := nI 5) C.1 C.2.1 dL_law_1177 (by decide) ?_
  refine xadd C dL_law_1178 ?_
  refine xsld C hX hbl hbA hW (by omega) hn dL_law_1179 ?_
  refine lv_i2l (v := (xs (i + 5)).toInt64) C.1 C.2.1 dL_law_1180 rfl ?_
  refine lv_ldc2 (v := (4294967295 : Int64)) C.1 C.2.1 C.2.2.2.1 (C.2.2.2.2 _ hcl) dL_law_1181 ?_
  refine lv_land C.1 C.2.1 dL_law_1184 ?_
  refine lv_lor C.1 C.2.1 dL_law_1185 ?_
  refine xcV_i (n := 4) (As := [.int (xs (i + 1)), .int (xs (i + 2)), .int (xs (i + 3)), .long ((((xs (i + 4)).toInt64) <<< ((nI 32).toInt64 &&& 63)) ||| (((xs (i + 5)).toInt64) &&& ((4294967295 : Int64))))]) C hK hW (c_X6_item l g w L K T ln sz hk tn Z (xs (i + 1)) (xs (i + 2)) (xs (i + 3)) ((((xs (i + 4)).toInt64) <<< ((nI 32).toInt64 &&& 63)) ||| (((xs (i + 5)).toInt64) &&& ((4294967295 : Int64)))) hW.2.2.1 hN hS hXA) gL_law_X6_item rfl ⟨rfl, rfl⟩ (by decide +kernel) ⟨(Nat.le_of_ble_eq_true rfl), (Nat.le_of_ble_eq_true rfl)⟩ ⟨Nat.le_refl _, Nat.le_refl _⟩ rfl (by omega) hXA.1 rfl hl rfl (Nat.le_of_ble_eq_true rfl) dL_law_1186 (fun r1 w1 H locs q1 hW => ?_)
  obtain ⟨hA1, f1, e1⟩ := q1
  have hB1 := hMA.fr (fun j hj => f1 j (by omega))
  refine lv_aload_n C.1 C.2.1 dL_law_1189 rfl (lv_at hl 1 rfl) ?_
  refine lv_aload_n C.1 C.2.1 dL_law_1190 rfl (lv_at hl 3 rfl) ?_
  refine lv_iload_n C.1 C.2.1 dL_law_1191 rfl (lv_at hl 0 rfl) ?_
  refine lv_iconst (v := nI 1) C.1 C.2.1 dL_law_1192 (by decide) ?_
  refine xadd C dL_law_1193 ?_
  refine xsld C hX hbl hbA hW (by omega) hn dL_law_1194 ?_
  refine lv_aload_n C.1 C.2.1 dL_law_1195 rfl (lv_at hl 3 rfl) ?_
  refine lv_iload_n C.1 C.2.1 dL_law_1196 rfl (lv_at hl 0 rfl) ?_
  refine lv_iconst (v := nI 2) C.1 C.2.1 dL_law_1197 (by decide) ?_
  refine xadd C dL_law_1198 ?_
  refine xsld C hX hbl hbA hW (by omega) hn dL_law_1199 ?_
  refine lv_aload_n C.1 C.2.1 dL_law_1200 rfl (lv_at hl 3 rfl) ?_
  refine lv_iload_n C.1 C.2.1 dL_law_1201 rfl (lv_at hl 0 rfl) ?_
  refine lv_iconst (v := nI 3) C.1 C.2.1 dL_law_1202 (by decide) ?_
  refine xadd C dL_law_1203 ?_
  refine xsld C hX hbl hbA hW (by omega) hn dL_law_1204 ?_
  refine lv_aload_n C.1 C.2.1 dL_law_1205 rfl (lv_at hl 3 rfl) ?_
  refine lv_iload_n C.1 C.2.1 dL_law_1206 rfl (lv_at hl 0 rfl) ?_
  refine lv_iconst (v := nI 4) C.1 C.2.1 dL_law_1207 (by decide) ?_
  refine xadd C dL_law_1208 ?_
  refine xsld C hX hbl hbA hW (by omega) hn dL_law_1209 ?_
  refine lv_i2l (v := (xs (i + 4)).toInt64) C.1 C.2.1 dL_law_1210 rfl ?_
  refine lv_bipush (v := nI 32) C.1 C.2.1 dL_law_1211 (by decide) ?_
  refine lv_lshl (v := ((xs (i + 4)).toInt64) <<< ((nI 32).toInt64 &&& 63)) C.1 C.2.1 dL_law_1213 rfl ?_
  refine lv_aload_n C.1 C.2.1 dL_law_1214 rfl (lv_at hl 3 rfl) ?_
  refine lv_iload_n C.1 C.2.1 dL_law_1215 rfl (lv_at hl 0 rfl) ?_
  refine lv_iconst (v := nI 5) C.1 C.2.1 dL_law_1216 (by decide) ?_
  refine xadd C dL_law_1217 ?_
  refine xsld C hX hbl hbA hW (by omega) hn dL_law_1218 ?_
  refine lv_i2l (v := (xs (i + 5)).toInt64) C.1 C.2.1 dL_law_1219 rfl ?_
  refine lv_ldc2 (v := (4294967295 : Int64)) C.1 C.2.1 C.2.2.2.1 (C.2.2.2.2 _ hcl) dL_law_1220 ?_
  refine lv_land C.1 C.2.1 dL_law_1223 ?_
  refine lv_lor C.1 C.2.1 dL_law_1224 ?_
  obtain ⟨_, _, _, _, _, _, _, _, _, _, _, _, hm0, _⟩ := id hB1
  refine xcV_i (n := 4) (As := [.int (xs (i + 1)), .int (xs (i + 2)), .int (xs (i + 3)), .long ((((xs (i + 4)).toInt64) <<< ((nI 32).toInt64 &&& 63)) ||| (((xs (i + 5)).toInt64) &&& ((4294967295 : Int64))))]) C hK hW (c_X7_item l g w1 L K T ln sz hk tn Z (xs (i + 1)) (xs (i + 2)) (xs (i + 3)) ((((xs (i + 4)).toInt64) <<< ((nI 32).toInt64 &&& 63)) ||| (((xs (i + 5)).toInt64) &&& ((4294967295 : Int64)))) hW.2.2.1 hN hS hB1) gL_law_X7_item rfl ⟨rfl, rfl⟩ (by decide +kernel) ⟨(Nat.le_of_ble_eq_true rfl), (Nat.le_of_ble_eq_true rfl)⟩ ⟨Nat.le_refl _, Nat.le_refl _⟩ rfl (by omega) hm0 rfl hl rfl (Nat.le_of_ble_eq_true rfl) dL_law_1225 (fun r2 w2 H locs q2 hW => ?_)
  obtain ⟨hA2, f2, e2⟩ := q2
  have hB2 := hA1.fr (fun j hj => f2 j (by omega))
  exact lv_icmp_eq (tgt := 1296) C.1 C.2.1 dL_law_1228 (by decide) (fun _ => kk _ w2 _ _ (ok_Z hS) hB2 hA2 hW) (fun h => absurd (e1.trans e2.symm) h)

set_option maxHeartbeats 4000000 in
set_option maxRecDepth 100000 in
theorem law_31 (C : CallFix p m c code 4 s #[Value.ref b] wsL_law RL) (hK : WK g s) (hN : gN g = 130) (hX : va_X b n xs s s.heap) (hbl : b < s.heap.size) (hn : n ≤ 448) (hi : i + 7 ≤ n) (hS : OkS (L, K, hk, tn, T, ln, sz, Z)) (hXA : XAll g (L, K, hk, tn, T, ln, sz, Z) w) (hMA : MAll g (L, K, hk, tn, T, ln, sz, Z) w) (hW : XW g w (lwA s) s.heap H locs) (hl : lv_has ls 4 [(3, .int (nI i)), (2, .ref (gad g 119)), (1, .ref (gad g 0)), (0, .ref b)]) (kk : ∀ (S' : GS) (w' : Nat → va_E) (H1 : Heap) (locs1 : List Loc), OkS S' → XAll g S' w' → MAll g S' w' → XW g w' (lwA s) s.heap H1 locs1 → LW p l e s m below meth c b H1 locs1 (F0 m 1296 ls [])) : LW p l e s m below meth c b H locs (F0 m 1233 ls []) := by
  have hbA : ¬ lwA s b := Nat.not_le.mpr hbl
  refine lv_aload_n C.1 C.2.1 dL_law_1233 rfl (lv_at hl 2 rfl) ?_
  refine lv_aload_n C.1 C.2.1 dL_law_1234 rfl (lv_at hl 3 rfl) ?_
  refine lv_iload_n C.1 C.2.1 dL_law_1235 rfl (lv_at hl 0 rfl) ?_
  refine lv_iconst (v := nI 1) C.1 C.2.1 dL_law_1236 (by decide) ?_
  refine xadd C dL_law_1237 ?_
  refine xsld C hX hbl hbA hW (by omega) hn dL_law_1238 ?_
  refine lv_aload_n C.1 C.2.1 dL_law_1239 rfl (lv_at hl 3 rfl) ?_
  refine lv_iload_n C.1 C.2.1 dL_law_1240 rfl (lv_at hl 0 rfl) ?_
  refine lv_iconst (v := nI 2) C.1 C.2.1 dL_law_1241 (by decide) ?_
  refine xadd C dL_law_1242 ?_
  refine xsld C hX hbl hbA hW (by omega) hn dL_law_1243 ?_
  refine lv_aload_n C.1 C.2.1 dL_law_1244 rfl (lv_at hl 3 rfl) ?_
  refine lv_iload_n C.1 C.2.1 dL_law_1245 rfl (lv_at hl 0 rfl) ?_
  refine lv_iconst (v := nI 3) C.1 C.2.1 dL_law_1246 (by decide) ?_
  refine xadd C dL_law_1247 ?_
  refine xsld C hX hbl hbA hW (by omega) hn dL_law_1248 ?_
  refine lv_aload_n C.1 C.2.1 dL_law_1249 rfl (lv_at hl 3 rfl) ?_
  refine lv_iload_n C.1 C.2.1 dL_law_1250 rfl (lv_at hl 0 rfl) ?_
  refine lv_iconst (v := nI 4) C.1 C.2.1 dL_law_1251 (by decide) ?_
  refine xadd C dL_law_1252 ?_
  refine xsld C hX hbl hbA hW (by omega) hn dL_law_1253 ?_
  refine lv_aload_n C.1 C.2.1 dL_law_1254 rfl (lv_at hl 3 rfl) ?_
  refine lv_iload_n C.1 C.2.1 dL_law_1255 rfl (lv_at hl 0 rfl) ?_
  refine lv_iconst (v := nI 5) C.1 C.2.1 dL_law_1256 (by decide) ?_
  refine xadd C dL_law_1257 ?_
  refine xsld C hX hbl hbA hW (by omega) hn dL_law_1258 ?_
  refine xcV_i (n := 5) (As := [.int (xs (i + 1)), .int (xs (i + 2)), .int (xs (i + 3)), .int (xs (i + 4)), .int (xs (i + 5))]) C hK hW (c_X6_copy l g w L K T ln sz hk tn Z (xs (i + 1)) (xs (i + 2)) (xs (i + 3)) (xs (i + 4)) (xs (i + 5)) hW.2.2.1 hN hS hXA) gL_law_X6_copy rfl ⟨rfl, rfl⟩ (by decide +kernel) ⟨(Nat.le_of_ble_eq_true rfl), (Nat.le_of_ble_eq_true rfl)⟩ ⟨Nat.le_refl _, Nat.le_refl _⟩ rfl (by omega) hXA.1 rfl hl rfl (Nat.le_of_ble_eq_true rfl) dL_law_1259 (fun r1 w1 H locs q1 hW => ?_)
  obtain ⟨hA1, f1, e1⟩ := q1
  have hB1 := hMA.fr (fun j hj => f1 j (by omega))
  refine lv_aload_n C.1 C.2.1 dL_law_1262 rfl (lv_at hl 1 rfl) ?_
  refine lv_aload_n C.1 C.2.1 dL_law_1263 rfl (lv_at hl 3 rfl) ?_
  refine lv_iload_n C.1 C.2.1 dL_law_1264 rfl (lv_at hl 0 rfl) ?_
  refine lv_iconst (v := nI 1) C.1 C.2.1 dL_law_1265 (by decide) ?_
  refine xadd C dL_law_1266 ?_
  refine xsld C hX hbl hbA hW (by omega) hn dL_law_1267 ?_
  refine lv_aload_n C.1 C.2.1 dL_law_1268 rfl (lv_at hl 3 rfl) ?_
  refine lv_iload_n C.1 C.2.1 dL_law_1269 rfl (lv_at hl 0 rfl) ?_
  refine lv_iconst (v := nI 2) C.1 C.2.1 dL_law_1270 (by decide) ?_
  refine xadd C dL_law_1271 ?_
  refine xsld C hX hbl hbA hW (by omega) hn dL_law_1272 ?_
  refine lv_aload_n C.1 C.2.1 dL_law_1273 rfl (lv_at hl 3 rfl) ?_
  refine lv_iload_n C.1 C.2.1 dL_law_1274 rfl (lv_at hl 0 rfl) ?_
  refine lv_iconst (v := nI 3) C.1 C.2.1 dL_law_1275 (by decide) ?_
  refine xadd C dL_law_1276 ?_
  refine xsld C hX hbl hbA hW (by omega) hn dL_law_1277 ?_
  refine lv_aload_n C.1 C.2.1 dL_law_1278 rfl (lv_at hl 3 rfl) ?_
  refine lv_iload_n C.1 C.2.1 dL_law_1279 rfl (lv_at hl 0 rfl) ?_
  refine lv_iconst (v := nI 4) C.1 C.2.1 dL_law_1280 (by decide) ?_
  refine xadd C dL_law_1281 ?_
  refine xsld C hX hbl hbA hW (by omega) hn dL_law_1282 ?_
  refine lv_aload_n C.1 C.2.1 dL_law_1283 rfl (lv_at hl 3 rfl) ?_
  refine lv_iload_n C.1 C.2.1 dL_law_1284 rfl (lv_at hl 0 rfl) ?_
  refine lv_iconst (v := nI 5) C.1 C.2.1 dL_law_1285 (by decide) ?_
  refine xadd C dL_law_1286 ?_
  refine xsld C hX hbl hbA hW (by omega) hn dL_law_1287 ?_
  obtain ⟨_, _, _, _, _, _, _, _, _, _, _, _, hm0, _⟩ := id hB1
  refine xcV_i (n := 5) (As := [.int (xs (i + 1)), .int (xs (i + 2)), .int (xs (i + 3)), .int (xs (i + 4)), .int (xs (i + 5))]) C hK hW (c_X7_copy l g w1 L K T ln sz hk tn Z (xs (i + 1)) (xs (i + 2)) (xs (i + 3)) (xs (i + 4)) (xs (i + 5)) hW.2.2.1 hN hS hB1) gL_law_X7_copy rfl ⟨rfl, rfl⟩ (by decide +kernel) ⟨(Nat.le_of_ble_eq_true rfl), (Nat.le_of_ble_eq_true rfl)⟩ ⟨Nat.le_refl _, Nat.le_refl _⟩ rfl (by omega) hm0 rfl hl rfl (Nat.le_of_ble_eq_true rfl) dL_law_1288 (fun r2 w2 H locs q2 hW => ?_)
  obtain ⟨hA2, f2, e2⟩ := q2
  have hB2 := hA1.fr (fun j hj => f2 j (by omega))
  exact lv_icmp_eq (tgt := 1296) C.1 C.2.1 dL_law_1291 (by decide) (fun _ => kk _ w2 _ _ (ok_Z hS) hB2 hA2 hW) (fun h => absurd (e1.trans e2.symm) h)

end LAWC
