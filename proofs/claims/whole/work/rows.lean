section
-- ===== PART A: goes FIRST, ahead of the names: the tables' words, and 'selects' of the private methods out of them =====
/-- a private method of a class that the tables say can be made, by its rows of tables_1 -/
def lw_okq (q : MethodName × Nat) : Prop := (q.1.cls ≠ "java/lang/invoke/MethodHandle" ∧ q.1.cls ≠ "java/lang/invoke/VarHandle") ∧ Cond.instantiable q.1.cls q.2 ∈ tables_1 ∧ Cond.privateMethod q.1 ∈ tables_1 ∧ Cond.instanceMethod q.1 ∈ tables_1
theorem lw_p0 : lw_okq (⟨"DeedTortoise", "isClaim", "(I)Z"⟩, 9) := ⟨⟨by decide +kernel, by decide +kernel⟩, List.mem_of_getElem? (i := 12) (by decide +kernel), List.mem_of_getElem? (i := 269) (by decide +kernel), List.mem_of_getElem? (i := 270) (by decide +kernel)⟩
theorem lw_p1 : lw_okq (⟨"DeedTortoise$Reader", "readDigit", "(II)I"⟩, 3) := ⟨⟨by decide +kernel, by decide +kernel⟩, List.mem_of_getElem? (i := 148) (by decide +kernel), List.mem_of_getElem? (i := 301) (by decide +kernel), List.mem_of_getElem? (i := 302) (by decide +kernel)⟩
theorem lw_p2 : lw_okq (⟨"DeedTortoise$Reader", "look", "()I"⟩, 3) := ⟨⟨by decide +kernel, by decide +kernel⟩, List.mem_of_getElem? (i := 148) (by decide +kernel), List.mem_of_getElem? (i := 305) (by decide +kernel), List.mem_of_getElem? (i := 306) (by decide +kernel)⟩
theorem lw_p3 : lw_okq (⟨"DeedTortoise$Reader", "accepts", "(I)Z"⟩, 3) := ⟨⟨by decide +kernel, by decide +kernel⟩, List.mem_of_getElem? (i := 148) (by decide +kernel), List.mem_of_getElem? (i := 310) (by decide +kernel), List.mem_of_getElem? (i := 311) (by decide +kernel)⟩
theorem lw_p4 : lw_okq (⟨"DeedTortoise$Reader", "readField", "(LDeedTortoise$Land;I)Z"⟩, 3) := ⟨⟨by decide +kernel, by decide +kernel⟩, List.mem_of_getElem? (i := 148) (by decide +kernel), List.mem_of_getElem? (i := 314) (by decide +kernel), List.mem_of_getElem? (i := 315) (by decide +kernel)⟩
theorem lw_p5 : lw_okq (⟨"DeedTortoise$Reader", "readClaims", "(LDeedTortoise$Land;)Z"⟩, 3) := ⟨⟨by decide +kernel, by decide +kernel⟩, List.mem_of_getElem? (i := 148) (by decide +kernel), List.mem_of_getElem? (i := 322) (by decide +kernel), List.mem_of_getElem? (i := 323) (by decide +kernel)⟩
theorem lw_p6 : lw_okq (⟨"DeedTortoise$Reader", "readClaim", "(LDeedTortoise$Land;)Z"⟩, 3) := ⟨⟨by decide +kernel, by decide +kernel⟩, List.mem_of_getElem? (i := 148) (by decide +kernel), List.mem_of_getElem? (i := 326) (by decide +kernel), List.mem_of_getElem? (i := 327) (by decide +kernel)⟩
theorem lw_p7 : lw_okq (⟨"DeedTortoise$Reader", "readWorth", "()I"⟩, 3) := ⟨⟨by decide +kernel, by decide +kernel⟩, List.mem_of_getElem? (i := 148) (by decide +kernel), List.mem_of_getElem? (i := 330) (by decide +kernel), List.mem_of_getElem? (i := 331) (by decide +kernel)⟩
theorem lw_p8 : lw_okq (⟨"DeedTortoise$Land", "loseOldest", "()V"⟩, 8) := ⟨⟨by decide +kernel, by decide +kernel⟩, List.mem_of_getElem? (i := 20) (by decide +kernel), List.mem_of_getElem? (i := 363) (by decide +kernel), List.mem_of_getElem? (i := 364) (by decide +kernel)⟩
theorem lw_p9 : lw_okq (⟨"DeedTortoise", "foretell", "(LDeedTortoise$Land;I)V"⟩, 9) := ⟨⟨by decide +kernel, by decide +kernel⟩, List.mem_of_getElem? (i := 12) (by decide +kernel), List.mem_of_getElem? (i := 407) (by decide +kernel), List.mem_of_getElem? (i := 408) (by decide +kernel)⟩
theorem lw_p10 : lw_okq (⟨"DeedTortoise$Ways", "spreadOneDay", "()V"⟩, 7) := ⟨⟨by decide +kernel, by decide +kernel⟩, List.mem_of_getElem? (i := 98) (by decide +kernel), List.mem_of_getElem? (i := 421) (by decide +kernel), List.mem_of_getElem? (i := 422) (by decide +kernel)⟩
theorem lw_p11 : lw_okq (⟨"DeedTortoise", "isAhead", "(I)Z"⟩, 9) := ⟨⟨by decide +kernel, by decide +kernel⟩, List.mem_of_getElem? (i := 12) (by decide +kernel), List.mem_of_getElem? (i := 453) (by decide +kernel), List.mem_of_getElem? (i := 454) (by decide +kernel)⟩
theorem lw_p12 : lw_okq (⟨"DeedTortoise", "hedgeToOpen", "(I)I"⟩, 9) := ⟨⟨by decide +kernel, by decide +kernel⟩, List.mem_of_getElem? (i := 12) (by decide +kernel), List.mem_of_getElem? (i := 484) (by decide +kernel), List.mem_of_getElem? (i := 485) (by decide +kernel)⟩
theorem lw_p13 : lw_okq (⟨"DeedTortoise", "fieldsBefore", "(LDeedTortoise$Sheet;II)I"⟩, 9) := ⟨⟨by decide +kernel, by decide +kernel⟩, List.mem_of_getElem? (i := 12) (by decide +kernel), List.mem_of_getElem? (i := 549) (by decide +kernel), List.mem_of_getElem? (i := 550) (by decide +kernel)⟩
theorem lw_p14 : lw_okq (⟨"DeedTortoise", "weightOf", "(ILDeedTortoise$Sheet;II)J"⟩, 9) := ⟨⟨by decide +kernel, by decide +kernel⟩, List.mem_of_getElem? (i := 12) (by decide +kernel), List.mem_of_getElem? (i := 553) (by decide +kernel), List.mem_of_getElem? (i := 554) (by decide +kernel)⟩
theorem lw_p15 : lw_okq (⟨"DeedTortoise", "kindsFor", "(ILDeedTortoise$Sheet;II)I"⟩, 9) := ⟨⟨by decide +kernel, by decide +kernel⟩, List.mem_of_getElem? (i := 12) (by decide +kernel), List.mem_of_getElem? (i := 569) (by decide +kernel), List.mem_of_getElem? (i := 570) (by decide +kernel)⟩
def lw_privs_1 : List (MethodName × Nat) := [(⟨"DeedTortoise", "isClaim", "(I)Z"⟩, 9), (⟨"DeedTortoise$Reader", "readDigit", "(II)I"⟩, 3), (⟨"DeedTortoise$Reader", "look", "()I"⟩, 3), (⟨"DeedTortoise$Reader", "accepts", "(I)Z"⟩, 3), (⟨"DeedTortoise$Reader", "readField", "(LDeedTortoise$Land;I)Z"⟩, 3), (⟨"DeedTortoise$Reader", "readClaims", "(LDeedTortoise$Land;)Z"⟩, 3), (⟨"DeedTortoise$Reader", "readClaim", "(LDeedTortoise$Land;)Z"⟩, 3), (⟨"DeedTortoise$Reader", "readWorth", "()I"⟩, 3), (⟨"DeedTortoise$Land", "loseOldest", "()V"⟩, 8), (⟨"DeedTortoise", "foretell", "(LDeedTortoise$Land;I)V"⟩, 9), (⟨"DeedTortoise$Ways", "spreadOneDay", "()V"⟩, 7), (⟨"DeedTortoise", "isAhead", "(I)Z"⟩, 9), (⟨"DeedTortoise", "hedgeToOpen", "(I)I"⟩, 9), (⟨"DeedTortoise", "fieldsBefore", "(LDeedTortoise$Sheet;II)I"⟩, 9), (⟨"DeedTortoise", "weightOf", "(ILDeedTortoise$Sheet;II)J"⟩, 9), (⟨"DeedTortoise", "kindsFor", "(ILDeedTortoise$Sheet;II)I"⟩, 9)]
theorem lw_r1 : ∀ q ∈ lw_privs_1, lw_okq q := List.forall_mem_cons.mpr ⟨lw_p0, List.forall_mem_cons.mpr ⟨lw_p1, List.forall_mem_cons.mpr ⟨lw_p2, List.forall_mem_cons.mpr ⟨lw_p3, List.forall_mem_cons.mpr ⟨lw_p4, List.forall_mem_cons.mpr ⟨lw_p5, List.forall_mem_cons.mpr ⟨lw_p6, List.forall_mem_cons.mpr ⟨lw_p7, List.forall_mem_cons.mpr ⟨lw_p8, List.forall_mem_cons.mpr ⟨lw_p9, List.forall_mem_cons.mpr ⟨lw_p10, List.forall_mem_cons.mpr ⟨lw_p11, List.forall_mem_cons.mpr ⟨lw_p12, List.forall_mem_cons.mpr ⟨lw_p13, List.forall_mem_cons.mpr ⟨lw_p14, List.forall_mem_cons.mpr ⟨lw_p15, fun _ h => absurd h List.not_mem_nil⟩⟩⟩⟩⟩⟩⟩⟩⟩⟩⟩⟩⟩⟩⟩⟩
theorem lw_p16 : lw_okq (⟨"DeedTortoise", "goesAsTold", "(LDeedTortoise$Sheet;II)Z"⟩, 9) := ⟨⟨by decide +kernel, by decide +kernel⟩, List.mem_of_getElem? (i := 12) (by decide +kernel), List.mem_of_getElem? (i := 573) (by decide +kernel), List.mem_of_getElem? (i := 574) (by decide +kernel)⟩
theorem lw_p17 : lw_okq (⟨"DeedTortoise", "foodsFor", "(ILDeedTortoise$Sheet;II)I"⟩, 9) := ⟨⟨by decide +kernel, by decide +kernel⟩, List.mem_of_getElem? (i := 12) (by decide +kernel), List.mem_of_getElem? (i := 577) (by decide +kernel), List.mem_of_getElem? (i := 578) (by decide +kernel)⟩
theorem lw_p18 : lw_okq (⟨"DeedTortoiseModel", "isClaim", "(I)Z"⟩, 19) := ⟨⟨by decide +kernel, by decide +kernel⟩, List.mem_of_getElem? (i := 611) (by decide +kernel), List.mem_of_getElem? (i := 706) (by decide +kernel), List.mem_of_getElem? (i := 707) (by decide +kernel)⟩
theorem lw_p19 : lw_okq (⟨"DeedTortoiseModel", "isValley", "()Z"⟩, 19) := ⟨⟨by decide +kernel, by decide +kernel⟩, List.mem_of_getElem? (i := 611) (by decide +kernel), List.mem_of_getElem? (i := 718) (by decide +kernel), List.mem_of_getElem? (i := 719) (by decide +kernel)⟩
theorem lw_p20 : lw_okq (⟨"DeedTortoiseModel", "isDigit", "(II)Z"⟩, 19) := ⟨⟨by decide +kernel, by decide +kernel⟩, List.mem_of_getElem? (i := 611) (by decide +kernel), List.mem_of_getElem? (i := 722) (by decide +kernel), List.mem_of_getElem? (i := 723) (by decide +kernel)⟩
theorem lw_p21 : lw_okq (⟨"DeedTortoiseModel", "peek", "()I"⟩, 19) := ⟨⟨by decide +kernel, by decide +kernel⟩, List.mem_of_getElem? (i := 611) (by decide +kernel), List.mem_of_getElem? (i := 726) (by decide +kernel), List.mem_of_getElem? (i := 727) (by decide +kernel)⟩
theorem lw_p22 : lw_okq (⟨"DeedTortoiseModel", "isSign", "(I)Z"⟩, 19) := ⟨⟨by decide +kernel, by decide +kernel⟩, List.mem_of_getElem? (i := 611) (by decide +kernel), List.mem_of_getElem? (i := 730) (by decide +kernel), List.mem_of_getElem? (i := 731) (by decide +kernel)⟩
theorem lw_p23 : lw_okq (⟨"DeedTortoiseModel", "isFieldItem", "(I)Z"⟩, 19) := ⟨⟨by decide +kernel, by decide +kernel⟩, List.mem_of_getElem? (i := 611) (by decide +kernel), List.mem_of_getElem? (i := 734) (by decide +kernel), List.mem_of_getElem? (i := 735) (by decide +kernel)⟩
theorem lw_p24 : lw_okq (⟨"DeedTortoiseModel", "isClaimItem", "()Z"⟩, 19) := ⟨⟨by decide +kernel, by decide +kernel⟩, List.mem_of_getElem? (i := 611) (by decide +kernel), List.mem_of_getElem? (i := 741) (by decide +kernel), List.mem_of_getElem? (i := 742) (by decide +kernel)⟩
theorem lw_p25 : lw_okq (⟨"DeedTortoiseModel", "isNumber", "(II)Z"⟩, 19) := ⟨⟨by decide +kernel, by decide +kernel⟩, List.mem_of_getElem? (i := 611) (by decide +kernel), List.mem_of_getElem? (i := 745) (by decide +kernel), List.mem_of_getElem? (i := 746) (by decide +kernel)⟩
theorem lw_p26 : lw_okq (⟨"DeedTortoiseModel", "claimsHere", "()I"⟩, 19) := ⟨⟨by decide +kernel, by decide +kernel⟩, List.mem_of_getElem? (i := 611) (by decide +kernel), List.mem_of_getElem? (i := 759) (by decide +kernel), List.mem_of_getElem? (i := 760) (by decide +kernel)⟩
theorem lw_p27 : lw_okq (⟨"DeedTortoiseModel", "note", "()V"⟩, 19) := ⟨⟨by decide +kernel, by decide +kernel⟩, List.mem_of_getElem? (i := 611) (by decide +kernel), List.mem_of_getElem? (i := 767) (by decide +kernel), List.mem_of_getElem? (i := 768) (by decide +kernel)⟩
theorem lw_p28 : lw_okq (⟨"DeedTortoiseModel", "layOdds", "([IIII)V"⟩, 19) := ⟨⟨by decide +kernel, by decide +kernel⟩, List.mem_of_getElem? (i := 611) (by decide +kernel), List.mem_of_getElem? (i := 802) (by decide +kernel), List.mem_of_getElem? (i := 803) (by decide +kernel)⟩
theorem lw_p29 : lw_okq (⟨"DeedTortoiseModel", "layMean", "([II)V"⟩, 19) := ⟨⟨by decide +kernel, by decide +kernel⟩, List.mem_of_getElem? (i := 611) (by decide +kernel), List.mem_of_getElem? (i := 820) (by decide +kernel), List.mem_of_getElem? (i := 821) (by decide +kernel)⟩
theorem lw_p30 : lw_okq (⟨"DeedTortoiseModel", "oddsOf", "(I)J"⟩, 19) := ⟨⟨by decide +kernel, by decide +kernel⟩, List.mem_of_getElem? (i := 611) (by decide +kernel), List.mem_of_getElem? (i := 828) (by decide +kernel), List.mem_of_getElem? (i := 829) (by decide +kernel)⟩
theorem lw_p31 : lw_okq (⟨"DeedTortoiseModel", "begin", "()V"⟩, 19) := ⟨⟨by decide +kernel, by decide +kernel⟩, List.mem_of_getElem? (i := 611) (by decide +kernel), List.mem_of_getElem? (i := 840) (by decide +kernel), List.mem_of_getElem? (i := 841) (by decide +kernel)⟩
def lw_privs_2 : List (MethodName × Nat) := [(⟨"DeedTortoise", "goesAsTold", "(LDeedTortoise$Sheet;II)Z"⟩, 9), (⟨"DeedTortoise", "foodsFor", "(ILDeedTortoise$Sheet;II)I"⟩, 9), (⟨"DeedTortoiseModel", "isClaim", "(I)Z"⟩, 19), (⟨"DeedTortoiseModel", "isValley", "()Z"⟩, 19), (⟨"DeedTortoiseModel", "isDigit", "(II)Z"⟩, 19), (⟨"DeedTortoiseModel", "peek", "()I"⟩, 19), (⟨"DeedTortoiseModel", "isSign", "(I)Z"⟩, 19), (⟨"DeedTortoiseModel", "isFieldItem", "(I)Z"⟩, 19), (⟨"DeedTortoiseModel", "isClaimItem", "()Z"⟩, 19), (⟨"DeedTortoiseModel", "isNumber", "(II)Z"⟩, 19), (⟨"DeedTortoiseModel", "claimsHere", "()I"⟩, 19), (⟨"DeedTortoiseModel", "note", "()V"⟩, 19), (⟨"DeedTortoiseModel", "layOdds", "([IIII)V"⟩, 19), (⟨"DeedTortoiseModel", "layMean", "([II)V"⟩, 19), (⟨"DeedTortoiseModel", "oddsOf", "(I)J"⟩, 19), (⟨"DeedTortoiseModel", "begin", "()V"⟩, 19)]
theorem lw_r2 : ∀ q ∈ lw_privs_2, lw_okq q := List.forall_mem_cons.mpr ⟨lw_p16, List.forall_mem_cons.mpr ⟨lw_p17, List.forall_mem_cons.mpr ⟨lw_p18, List.forall_mem_cons.mpr ⟨lw_p19, List.forall_mem_cons.mpr ⟨lw_p20, List.forall_mem_cons.mpr ⟨lw_p21, List.forall_mem_cons.mpr ⟨lw_p22, List.forall_mem_cons.mpr ⟨lw_p23, List.forall_mem_cons.mpr ⟨lw_p24, List.forall_mem_cons.mpr ⟨lw_p25, List.forall_mem_cons.mpr ⟨lw_p26, List.forall_mem_cons.mpr ⟨lw_p27, List.forall_mem_cons.mpr ⟨lw_p28, List.forall_mem_cons.mpr ⟨lw_p29, List.forall_mem_cons.mpr ⟨lw_p30, List.forall_mem_cons.mpr ⟨lw_p31, fun _ h => absurd h List.not_mem_nil⟩⟩⟩⟩⟩⟩⟩⟩⟩⟩⟩⟩⟩⟩⟩⟩
theorem lw_p32 : lw_okq (⟨"DeedTortoiseModel", "wrong", "(IIII)I"⟩, 19) := ⟨⟨by decide +kernel, by decide +kernel⟩, List.mem_of_getElem? (i := 611) (by decide +kernel), List.mem_of_getElem? (i := 875) (by decide +kernel), List.mem_of_getElem? (i := 876) (by decide +kernel)⟩
theorem lw_p33 : lw_okq (⟨"DeedTortoiseModel", "wayOdds", "(IIII)J"⟩, 19) := ⟨⟨by decide +kernel, by decide +kernel⟩, List.mem_of_getElem? (i := 611) (by decide +kernel), List.mem_of_getElem? (i := 882) (by decide +kernel), List.mem_of_getElem? (i := 883) (by decide +kernel)⟩
theorem lw_p34 : lw_okq (⟨"DeedTortoiseModel", "isBorne", "(III)Z"⟩, 19) := ⟨⟨by decide +kernel, by decide +kernel⟩, List.mem_of_getElem? (i := 611) (by decide +kernel), List.mem_of_getElem? (i := 891) (by decide +kernel), List.mem_of_getElem? (i := 892) (by decide +kernel)⟩
def lw_privs_3 : List (MethodName × Nat) := [(⟨"DeedTortoiseModel", "wrong", "(IIII)I"⟩, 19), (⟨"DeedTortoiseModel", "wayOdds", "(IIII)J"⟩, 19), (⟨"DeedTortoiseModel", "isBorne", "(III)Z"⟩, 19)]
theorem lw_r3 : ∀ q ∈ lw_privs_3, lw_okq q := List.forall_mem_cons.mpr ⟨lw_p32, List.forall_mem_cons.mpr ⟨lw_p33, List.forall_mem_cons.mpr ⟨lw_p34, fun _ h => absurd h List.not_mem_nil⟩⟩⟩
def lw_privs : List (MethodName × Nat) := lw_privs_1 ++ (lw_privs_2 ++ (lw_privs_3))
def lw_tbl : List Cond := k2_sels lw_privs ++ tables_1
theorem lw_privs_ok : ∀ q ∈ lw_privs, lw_okq q := by
  show ∀ q ∈ lw_privs_1 ++ (lw_privs_2 ++ (lw_privs_3)), lw_okq q
  exact List.forall_mem_append.mpr ⟨lw_r1, List.forall_mem_append.mpr ⟨lw_r2, lw_r3⟩⟩
/-! ===== BEGIN words of one list among another's, by their places ===== -/
theorem goodIn_r {big : List Cond} (ws : List Cond) (ps : List Nat) (hp : ws = ps.filterMap (fun i => big[i]?)) (h : ws.all goodWord = true) : GoodIn big ws := by
  intro w hw
  have h1 := List.all_eq_true.mp h w hw
  rw [hp] at hw
  obtain ⟨i, -, hi⟩ := List.mem_filterMap.mp hw
  have hm : w ∈ big := by first | exact List.mem_of_getElem? hi | exact List.getElem?_mem hi
  exact ⟨hm, good_of_word h1⟩
theorem goodIn_app {big a b : List Cond} (ha : GoodIn big a) (hb : GoodIn big b) : GoodIn big (a ++ b) := fun w h => (List.mem_append.mp h).elim (ha w) (hb w)
theorem goodIn_ca {big a b : List Cond} {c : Cond} (ha : GoodIn big (c :: a)) (hb : GoodIn big b) : GoodIn big (c :: (a ++ b)) := fun w h => (List.mem_cons.mp h).elim (fun e => ha w (List.mem_cons.mpr (Or.inl e))) (fun h => (List.mem_append.mp h).elim (fun h => ha w (List.mem_cons.mpr (Or.inr h))) (hb w))
theorem goodIn_sub {big ws : List Cond} (hm : ∀ w ∈ ws, w ∈ big) (h : ws.all goodWord = true) : GoodIn big ws := fun w hw => ⟨hm w hw, good_of_word (List.all_eq_true.mp h w hw)⟩
/-! ===== END ===== -/

/-! ===== BEGIN printed: names, fields, word lists, decode rows ===== -/
def RX0 : String := "DeedTortoise$Fraction"
def TX0 : u_T := fun k => match k with
  | 0 => ("DeedTortoise$Fraction", "above", "J", false)
  | _ => ("DeedTortoise$Fraction", "below", "J", false)
def tyX0 : Nat → FieldType := fun k => match k with
  | 0 => .long
  | _ => .long
abbrev wsX00 : List Cond := u_ws RX0 TX0 2
theorem nmX0 : ∀ a, a < 2 → ∀ b, b < 2 → a ≠ b → (TX0 a).2.1 ≠ (TX0 b).2.1 := by decide +kernel
theorem tyX0_ok : ∀ k, k < 2 → parseFieldDescriptor (TX0 k).2.2.1 = some (tyX0 k) := by decide +kernel
abbrev cX0_init : ByteArray := prog_2_method_1_code
def yX0_init : MethodName := ⟨RX0, "<init>", "()V"⟩
abbrev cX0_become : ByteArray := prog_2_method_2_code
def yX0_become : MethodName := ⟨RX0, "become", "(JJ)V"⟩
abbrev cX0_commonDivisor : ByteArray := prog_2_method_3_code
def yX0_commonDivisor : MethodName := ⟨RX0, "commonDivisor", "(JJ)J"⟩
abbrev cX0_add : ByteArray := prog_2_method_4_code
def yX0_add : MethodName := ⟨RX0, "add", "(LDeedTortoise$Fraction;)V"⟩
abbrev cX0_isBelow : ByteArray := prog_2_method_5_code
def yX0_isBelow : MethodName := ⟨RX0, "isBelow", "(LDeedTortoise$Fraction;)Z"⟩
abbrev cX0_told : ByteArray := prog_2_method_6_code
def yX0_told : MethodName := ⟨RX0, "told", "(I)J"⟩
abbrev cX0_partOf : ByteArray := prog_2_method_7_code
def yX0_partOf : MethodName := ⟨RX0, "partOf", "(J)J"⟩
def RX1 : String := "DeedTortoise$Land"
def TX1 : u_T := fun k => match k with
  | 0 => ("DeedTortoise$Land", "kind", "[I", true)
  | 1 => ("DeedTortoise$Land", "now", "LDeedTortoise$Moment;", true)
  | 2 => ("DeedTortoise$Land", "past", "[LDeedTortoise$Moment;", true)
  | 3 => ("DeedTortoise$Land", "known", "I", false)
  | 4 => ("DeedTortoise$Land", "first", "[I", true)
  | 5 => ("DeedTortoise$Land", "last", "[I", true)
  | 6 => ("DeedTortoise$Land", "worth", "[I", true)
  | _ => ("DeedTortoise$Land", "claims", "I", false)
def tyX1 : Nat → FieldType := fun k => match k with
  | 0 => .array .int
  | 1 => .object "DeedTortoise$Moment"
  | 2 => .array (.object "DeedTortoise$Moment")
  | 3 => .int
  | 4 => .array .int
  | 5 => .array .int
  | 6 => .array .int
  | _ => .int
abbrev wsX10 : List Cond := u_ws RX1 TX1 8
theorem nmX1 : ∀ a, a < 8 → ∀ b, b < 8 → a ≠ b → (TX1 a).2.1 ≠ (TX1 b).2.1 := by decide +kernel
theorem tyX1_ok : ∀ k, k < 8 → parseFieldDescriptor (TX1 k).2.2.1 = some (tyX1 k) := by decide +kernel
abbrev cX1_init : ByteArray := prog_3_method_1_code
def yX1_init : MethodName := ⟨RX1, "<init>", "()V"⟩
abbrev cX1_onFrom : ByteArray := prog_3_method_2_code
def yX1_onFrom : MethodName := ⟨RX1, "onFrom", "(I)I"⟩
abbrev cX1_onFromClover : ByteArray := prog_3_method_3_code
def yX1_onFromClover : MethodName := ⟨RX1, "onFromClover", "(I)I"⟩
abbrev cX1_onFromStubble : ByteArray := prog_3_method_4_code
def yX1_onFromStubble : MethodName := ⟨RX1, "onFromStubble", "(I)I"⟩
abbrev cX1_backFrom : ByteArray := prog_3_method_5_code
def yX1_backFrom : MethodName := ⟨RX1, "backFrom", "(I)I"⟩
abbrev cX1_passDay : ByteArray := prog_3_method_6_code
def yX1_passDay : MethodName := ⟨RX1, "passDay", "()V"⟩
abbrev cX1_remember : ByteArray := prog_3_method_7_code
def yX1_remember : MethodName := ⟨RX1, "remember", "()V"⟩
abbrev cX1_loseOldest : ByteArray := prog_3_method_8_code
def yX1_loseOldest : MethodName := ⟨RX1, "loseOldest", "()V"⟩
abbrev cX1_recall : ByteArray := prog_3_method_9_code
def yX1_recall : MethodName := ⟨RX1, "recall", "()V"⟩
abbrev cX1_forget : ByteArray := prog_3_method_10_code
def yX1_forget : MethodName := ⟨RX1, "forget", "()V"⟩
abbrev cX1_addClaim : ByteArray := prog_3_method_11_code
def yX1_addClaim : MethodName := ⟨RX1, "addClaim", "(III)V"⟩
abbrev cX1_claimsOn : ByteArray := prog_3_method_12_code
def yX1_claimsOn : MethodName := ⟨RX1, "claimsOn", "(I)I"⟩
abbrev cX1_takeGround : ByteArray := prog_3_method_13_code
def yX1_takeGround : MethodName := ⟨RX1, "takeGround", "(LDeedTortoise$Land;)V"⟩
abbrev cX1_takeClaims : ByteArray := prog_3_method_14_code
def yX1_takeClaims : MethodName := ⟨RX1, "takeClaims", "(LDeedTortoise$Land;)V"⟩
abbrev cX1_takeAll : ByteArray := prog_3_method_15_code
def yX1_takeAll : MethodName := ⟨RX1, "takeAll", "(LDeedTortoise$Land;)V"⟩
def RX2 : String := "DeedTortoise$Moment"
def TX2 : u_T := fun k => match k with
  | 0 => ("DeedTortoise$Moment", "spot", "I", false)
  | 1 => ("DeedTortoise$Moment", "day", "I", false)
  | 2 => ("DeedTortoise$Moment", "draw", "I", false)
  | 3 => ("DeedTortoise$Moment", "food", "[I", true)
  | _ => ("DeedTortoise$Moment", "hedge", "[I", true)
def tyX2 : Nat → FieldType := fun k => match k with
  | 0 => .int
  | 1 => .int
  | 2 => .int
  | 3 => .array .int
  | _ => .array .int
abbrev wsX20 : List Cond := u_ws RX2 TX2 5
theorem nmX2 : ∀ a, a < 5 → ∀ b, b < 5 → a ≠ b → (TX2 a).2.1 ≠ (TX2 b).2.1 := by decide +kernel
theorem tyX2_ok : ∀ k, k < 5 → parseFieldDescriptor (TX2 k).2.2.1 = some (tyX2 k) := by decide +kernel
abbrev cX2_init : ByteArray := prog_4_method_1_code
def yX2_init : MethodName := ⟨RX2, "<init>", "()V"⟩
abbrev cX2_take : ByteArray := prog_4_method_2_code
def yX2_take : MethodName := ⟨RX2, "take", "(LDeedTortoise$Moment;)V"⟩
def RX3 : String := "DeedTortoise$Reader"
def TX3 : u_T := fun k => match k with
  | 0 => ("DeedTortoise$Reader", "letters", "[I", true)
  | 1 => ("DeedTortoise$Reader", "length", "I", false)
  | _ => ("DeedTortoise$Reader", "place", "I", false)
def tyX3 : Nat → FieldType := fun k => match k with
  | 0 => .array .int
  | 1 => .int
  | _ => .int
abbrev wsX30 : List Cond := u_ws RX3 TX3 3
theorem nmX3 : ∀ a, a < 3 → ∀ b, b < 3 → a ≠ b → (TX3 a).2.1 ≠ (TX3 b).2.1 := by decide +kernel
theorem tyX3_ok : ∀ k, k < 3 → parseFieldDescriptor (TX3 k).2.2.1 = some (tyX3 k) := by decide +kernel
abbrev cX3_init : ByteArray := prog_5_method_1_code
def yX3_init : MethodName := ⟨RX3, "<init>", "()V"⟩
abbrev cX3_add : ByteArray := prog_5_method_2_code
def yX3_add : MethodName := ⟨RX3, "add", "(I)Z"⟩
abbrev cX3_clear : ByteArray := prog_5_method_3_code
def yX3_clear : MethodName := ⟨RX3, "clear", "()V"⟩
abbrev cX3_readValley : ByteArray := prog_5_method_4_code
def yX3_readValley : MethodName := ⟨RX3, "readValley", "(LDeedTortoise$Land;)Z"⟩
abbrev cX3_readField : ByteArray := prog_5_method_5_code
def yX3_readField : MethodName := ⟨RX3, "readField", "(LDeedTortoise$Land;I)Z"⟩
abbrev cX3_kindOf : ByteArray := prog_5_method_6_code
def yX3_kindOf : MethodName := ⟨RX3, "kindOf", "(I)I"⟩
abbrev cX3_readClaims : ByteArray := prog_5_method_7_code
def yX3_readClaims : MethodName := ⟨RX3, "readClaims", "(LDeedTortoise$Land;)Z"⟩
abbrev cX3_readClaim : ByteArray := prog_5_method_8_code
def yX3_readClaim : MethodName := ⟨RX3, "readClaim", "(LDeedTortoise$Land;)Z"⟩
abbrev cX3_readWorth : ByteArray := prog_5_method_9_code
def yX3_readWorth : MethodName := ⟨RX3, "readWorth", "()I"⟩
abbrev cX3_look : ByteArray := prog_5_method_10_code
def yX3_look : MethodName := ⟨RX3, "look", "()I"⟩
abbrev cX3_accepts : ByteArray := prog_5_method_11_code
def yX3_accepts : MethodName := ⟨RX3, "accepts", "(I)Z"⟩
abbrev cX3_readDigit : ByteArray := prog_5_method_12_code
def yX3_readDigit : MethodName := ⟨RX3, "readDigit", "(II)I"⟩
def RX4 : String := "DeedTortoise$Sheet"
def TX4 : u_T := fun k => match k with
  | 0 => ("DeedTortoise$Sheet", "isHeld", "Z", false)
  | 1 => ("DeedTortoise$Sheet", "lane", "I", false)
  | 2 => ("DeedTortoise$Sheet", "length", "I", false)
  | _ => ("DeedTortoise$Sheet", "items", "[J", true)
def tyX4 : Nat → FieldType := fun k => match k with
  | 0 => .boolean
  | 1 => .int
  | 2 => .int
  | _ => .array .long
abbrev wsX40 : List Cond := u_ws RX4 TX4 4
theorem nmX4 : ∀ a, a < 4 → ∀ b, b < 4 → a ≠ b → (TX4 a).2.1 ≠ (TX4 b).2.1 := by decide +kernel
theorem tyX4_ok : ∀ k, k < 4 → parseFieldDescriptor (TX4 k).2.2.1 = some (tyX4 k) := by decide +kernel
abbrev cX4_init : ByteArray := prog_6_method_1_code
def yX4_init : MethodName := ⟨RX4, "<init>", "()V"⟩
abbrev cX4_begin : ByteArray := prog_6_method_2_code
def yX4_begin : MethodName := ⟨RX4, "begin", "(II)V"⟩
abbrev cX4_hasItems : ByteArray := prog_6_method_3_code
def yX4_hasItems : MethodName := ⟨RX4, "hasItems", "(II)Z"⟩
abbrev cX4_refusal : ByteArray := prog_6_method_4_code
def yX4_refusal : MethodName := ⟨RX4, "refusal", "(III)I"⟩
abbrev cX4_put : ByteArray := prog_6_method_5_code
def yX4_put : MethodName := ⟨RX4, "put", "(IJ)V"⟩
abbrev cX4_fieldAt : ByteArray := prog_6_method_6_code
def yX4_fieldAt : MethodName := ⟨RX4, "fieldAt", "(I)I"⟩
def RX5 : String := "DeedTortoise$Ways"
def TX5 : u_T := fun k => match k with
  | 0 => ("DeedTortoise$Ways", "on", "[I", true)
  | 1 => ("DeedTortoise$Ways", "back", "[I", true)
  | 2 => ("DeedTortoise$Ways", "whole", "I", false)
  | 3 => ("DeedTortoise$Ways", "odds", "[J", true)
  | 4 => ("DeedTortoise$Ways", "after", "[J", true)
  | 5 => ("DeedTortoise$Ways", "all", "J", false)
  | _ => ("DeedTortoise$Ways", "step", "LDeedTortoise$Fraction;", true)
def tyX5 : Nat → FieldType := fun k => match k with
  | 0 => .array .int
  | 1 => .array .int
  | 2 => .int
  | 3 => .array .long
  | 4 => .array .long
  | 5 => .long
  | _ => .object "DeedTortoise$Fraction"
abbrev wsX50 : List Cond := u_ws RX5 TX5 7
theorem nmX5 : ∀ a, a < 7 → ∀ b, b < 7 → a ≠ b → (TX5 a).2.1 ≠ (TX5 b).2.1 := by decide +kernel
theorem tyX5_ok : ∀ k, k < 7 → parseFieldDescriptor (TX5 k).2.2.1 = some (tyX5 k) := by decide +kernel
abbrev cX5_init : ByteArray := prog_7_method_1_code
def yX5_init : MethodName := ⟨RX5, "<init>", "()V"⟩
abbrev cX5_learn : ByteArray := prog_7_method_2_code
def yX5_learn : MethodName := ⟨RX5, "learn", "(LDeedTortoise$Land;)V"⟩
abbrev cX5_fallAsleep : ByteArray := prog_7_method_3_code
def yX5_fallAsleep : MethodName := ⟨RX5, "fallAsleep", "(I)V"⟩
abbrev cX5_weight : ByteArray := prog_7_method_4_code
def yX5_weight : MethodName := ⟨RX5, "weight", "(II)I"⟩
abbrev cX5_spread : ByteArray := prog_7_method_5_code
def yX5_spread : MethodName := ⟨RX5, "spread", "(II)V"⟩
abbrev cX5_spreadOneDay : ByteArray := prog_7_method_6_code
def yX5_spreadOneDay : MethodName := ⟨RX5, "spreadOneDay", "()V"⟩
abbrev cX5_isLikelyBy : ByteArray := prog_7_method_7_code
def yX5_isLikelyBy : MethodName := ⟨RX5, "isLikelyBy", "(II)Z"⟩
abbrev cX5_average : ByteArray := prog_7_method_8_code
def yX5_average : MethodName := ⟨RX5, "average", "(IILDeedTortoise$Fraction;)V"⟩
def RX6 : String := "DeedTortoise"
def TX6 : u_T := fun k => match k with
  | 0 => ("DeedTortoise", "land", "LDeedTortoise$Land;", true)
  | 1 => ("DeedTortoise", "kept", "LDeedTortoise$Land;", true)
  | 2 => ("DeedTortoise", "trial", "LDeedTortoise$Land;", true)
  | 3 => ("DeedTortoise", "ways", "LDeedTortoise$Ways;", true)
  | 4 => ("DeedTortoise", "fraction", "LDeedTortoise$Fraction;", true)
  | 5 => ("DeedTortoise", "tried", "LDeedTortoise$Fraction;", true)
  | 6 => ("DeedTortoise", "reader", "LDeedTortoise$Reader;", true)
  | 7 => ("DeedTortoise", "sheets", "[LDeedTortoise$Sheet;", true)
  | _ => ("DeedTortoise", "hasKept", "Z", false)
def tyX6 : Nat → FieldType := fun k => match k with
  | 0 => .object "DeedTortoise$Land"
  | 1 => .object "DeedTortoise$Land"
  | 2 => .object "DeedTortoise$Land"
  | 3 => .object "DeedTortoise$Ways"
  | 4 => .object "DeedTortoise$Fraction"
  | 5 => .object "DeedTortoise$Fraction"
  | 6 => .object "DeedTortoise$Reader"
  | 7 => .array (.object "DeedTortoise$Sheet")
  | _ => .boolean
abbrev wsX60 : List Cond := u_ws RX6 TX6 9
theorem nmX6 : ∀ a, a < 9 → ∀ b, b < 9 → a ≠ b → (TX6 a).2.1 ≠ (TX6 b).2.1 := by decide +kernel
theorem tyX6_ok : ∀ k, k < 9 → parseFieldDescriptor (TX6 k).2.2.1 = some (tyX6 k) := by decide +kernel
abbrev cX6_init : ByteArray := prog_1_method_1_code
def yX6_init : MethodName := ⟨RX6, "<init>", "()V"⟩
abbrev cX6_field : ByteArray := prog_1_method_2_code
def yX6_field : MethodName := ⟨RX6, "field", "(II)I"⟩
abbrev cX6_claim : ByteArray := prog_1_method_3_code
def yX6_claim : MethodName := ⟨RX6, "claim", "(III)I"⟩
abbrev cX6_of : ByteArray := prog_1_method_4_code
def yX6_of : MethodName := ⟨RX6, "of", "(II)I"⟩
abbrev cX6_at : ByteArray := prog_1_method_5_code
def yX6_at : MethodName := ⟨RX6, "at", "(II)I"⟩
abbrev cX6_type : ByteArray := prog_1_method_6_code
def yX6_type : MethodName := ⟨RX6, "type", "(I)I"⟩
abbrev cX6_valley : ByteArray := prog_1_method_7_code
def yX6_valley : MethodName := ⟨RX6, "valley", "()I"⟩
abbrev cX6_count : ByteArray := prog_1_method_8_code
def yX6_count : MethodName := ⟨RX6, "count", "(I)I"⟩
abbrev cX6_days : ByteArray := prog_1_method_9_code
def yX6_days : MethodName := ⟨RX6, "days", "(I)I"⟩
abbrev cX6_carry : ByteArray := prog_1_method_10_code
def yX6_carry : MethodName := ⟨RX6, "carry", "(I)I"⟩
abbrev cX6_lettuce : ByteArray := prog_1_method_11_code
def yX6_lettuce : MethodName := ⟨RX6, "lettuce", "(II)I"⟩
abbrev cX6_lay : ByteArray := prog_1_method_12_code
def yX6_lay : MethodName := ⟨RX6, "lay", "(II)I"⟩
abbrev cX6_undo : ByteArray := prog_1_method_13_code
def yX6_undo : MethodName := ⟨RX6, "undo", "()I"⟩
abbrev cX6_seed : ByteArray := prog_1_method_14_code
def yX6_seed : MethodName := ⟨RX6, "seed", "(I)I"⟩
abbrev cX6_chance : ByteArray := prog_1_method_15_code
def yX6_chance : MethodName := ⟨RX6, "chance", "(III)I"⟩
abbrev cX6_likely : ByteArray := prog_1_method_16_code
def yX6_likely : MethodName := ⟨RX6, "likely", "(I)I"⟩
abbrev cX6_mean : ByteArray := prog_1_method_17_code
def yX6_mean : MethodName := ⟨RX6, "mean", "(II)J"⟩
abbrev cX6_right : ByteArray := prog_1_method_18_code
def yX6_right : MethodName := ⟨RX6, "right", "(III)I"⟩
abbrev cX6_sure : ByteArray := prog_1_method_19_code
def yX6_sure : MethodName := ⟨RX6, "sure", "(I)I"⟩
abbrev cX6_down : ByteArray := prog_1_method_20_code
def yX6_down : MethodName := ⟨RX6, "down", "(II)J"⟩
abbrev cX6_keep : ByteArray := prog_1_method_21_code
def yX6_keep : MethodName := ⟨RX6, "keep", "(II)I"⟩
abbrev cX6_early : ByteArray := prog_1_method_22_code
def yX6_early : MethodName := ⟨RX6, "early", "(II)I"⟩
abbrev cX6_next : ByteArray := prog_1_method_23_code
def yX6_next : MethodName := ⟨RX6, "next", "(I)I"⟩
abbrev cX6_winter : ByteArray := prog_1_method_24_code
def yX6_winter : MethodName := ⟨RX6, "winter", "(IIII)I"⟩
abbrev cX6_image : ByteArray := prog_1_method_25_code
def yX6_image : MethodName := ⟨RX6, "image", "()I"⟩
abbrev cX6_restore : ByteArray := prog_1_method_26_code
def yX6_restore : MethodName := ⟨RX6, "restore", "()I"⟩
abbrev cX6_seen : ByteArray := prog_1_method_27_code
def yX6_seen : MethodName := ⟨RX6, "seen", "(IIIII)I"⟩
abbrev cX6_bore : ByteArray := prog_1_method_28_code
def yX6_bore : MethodName := ⟨RX6, "bore", "(IIIIII)I"⟩
abbrev cX6_film : ByteArray := prog_1_method_29_code
def yX6_film : MethodName := ⟨RX6, "film", "(IIII)I"⟩
abbrev cX6_sheet : ByteArray := prog_1_method_30_code
def yX6_sheet : MethodName := ⟨RX6, "sheet", "(III)I"⟩
abbrev cX6_drop : ByteArray := prog_1_method_31_code
def yX6_drop : MethodName := ⟨RX6, "drop", "(I)I"⟩
abbrev cX6_item : ByteArray := prog_1_method_32_code
def yX6_item : MethodName := ⟨RX6, "item", "(IIIJ)I"⟩
abbrev cX6_copy : ByteArray := prog_1_method_33_code
def yX6_copy : MethodName := ⟨RX6, "copy", "(IIIII)I"⟩
abbrev cX6_isWithin : ByteArray := prog_1_method_34_code
def yX6_isWithin : MethodName := ⟨RX6, "isWithin", "(III)Z"⟩
abbrev cX6_isField : ByteArray := prog_1_method_35_code
def yX6_isField : MethodName := ⟨RX6, "isField", "(I)Z"⟩
abbrev cX6_isForetold : ByteArray := prog_1_method_36_code
def yX6_isForetold : MethodName := ⟨RX6, "isForetold", "(I)Z"⟩
abbrev cX6_isSheet : ByteArray := prog_1_method_37_code
def yX6_isSheet : MethodName := ⟨RX6, "isSheet", "(I)Z"⟩
abbrev cX6_isLane : ByteArray := prog_1_method_38_code
def yX6_isLane : MethodName := ⟨RX6, "isLane", "(I)Z"⟩
abbrev cX6_isClaim : ByteArray := prog_1_method_39_code
def yX6_isClaim : MethodName := ⟨RX6, "isClaim", "(I)Z"⟩
abbrev cX6_isAhead : ByteArray := prog_1_method_40_code
def yX6_isAhead : MethodName := ⟨RX6, "isAhead", "(I)Z"⟩
abbrev cX6_sum : ByteArray := prog_1_method_41_code
def yX6_sum : MethodName := ⟨RX6, "sum", "([I)I"⟩
abbrev cX6_power : ByteArray := prog_1_method_42_code
def yX6_power : MethodName := ⟨RX6, "power", "(JI)J"⟩
abbrev cX6_foretell : ByteArray := prog_1_method_43_code
def yX6_foretell : MethodName := ⟨RX6, "foretell", "(LDeedTortoise$Land;I)V"⟩
abbrev cX6_hedgeToOpen : ByteArray := prog_1_method_44_code
def yX6_hedgeToOpen : MethodName := ⟨RX6, "hedgeToOpen", "(I)I"⟩
abbrev cX6_weightOf : ByteArray := prog_1_method_45_code
def yX6_weightOf : MethodName := ⟨RX6, "weightOf", "(ILDeedTortoise$Sheet;II)J"⟩
abbrev cX6_fieldsBefore : ByteArray := prog_1_method_46_code
def yX6_fieldsBefore : MethodName := ⟨RX6, "fieldsBefore", "(LDeedTortoise$Sheet;II)I"⟩
abbrev cX6_kindsFor : ByteArray := prog_1_method_47_code
def yX6_kindsFor : MethodName := ⟨RX6, "kindsFor", "(ILDeedTortoise$Sheet;II)I"⟩
abbrev cX6_foodsFor : ByteArray := prog_1_method_48_code
def yX6_foodsFor : MethodName := ⟨RX6, "foodsFor", "(ILDeedTortoise$Sheet;II)I"⟩
abbrev cX6_goesAsTold : ByteArray := prog_1_method_49_code
def yX6_goesAsTold : MethodName := ⟨RX6, "goesAsTold", "(LDeedTortoise$Sheet;II)Z"⟩
def RX7 : String := "DeedTortoiseModel"
def TX7 : u_T := fun k => match k with
  | 0 => ("DeedTortoiseModel", "lane", "[I", true)
  | 1 => ("DeedTortoiseModel", "size", "[I", true)
  | 2 => ("DeedTortoiseModel", "item", "[J", true)
  | 3 => ("DeedTortoiseModel", "letters", "I", false)
  | 4 => ("DeedTortoiseModel", "tape", "[I", true)
  | 5 => ("DeedTortoiseModel", "position", "I", false)
  | 6 => ("DeedTortoiseModel", "number", "I", false)
  | 7 => ("DeedTortoiseModel", "now", "[I", true)
  | 8 => ("DeedTortoiseModel", "tried", "[I", true)
  | 9 => ("DeedTortoiseModel", "read", "[I", true)
  | 10 => ("DeedTortoiseModel", "kept", "[I", true)
  | 11 => ("DeedTortoiseModel", "isKept", "Z", false)
  | 12 => ("DeedTortoiseModel", "odds", "[J", true)
  | 13 => ("DeedTortoiseModel", "then", "[J", true)
  | 14 => ("DeedTortoiseModel", "allOdds", "J", false)
  | 15 => ("DeedTortoiseModel", "meanUp", "J", false)
  | 16 => ("DeedTortoiseModel", "meanDown", "J", false)
  | 17 => ("DeedTortoiseModel", "bestUp", "J", false)
  | _ => ("DeedTortoiseModel", "bestDown", "J", false)
def tyX7 : Nat → FieldType := fun k => match k with
  | 0 => .array .int
  | 1 => .array .int
  | 2 => .array .long
  | 3 => .int
  | 4 => .array .int
  | 5 => .int
  | 6 => .int
  | 7 => .array .int
  | 8 => .array .int
  | 9 => .array .int
  | 10 => .array .int
  | 11 => .boolean
  | 12 => .array .long
  | 13 => .array .long
  | 14 => .long
  | 15 => .long
  | 16 => .long
  | 17 => .long
  | _ => .long
abbrev wsX70 : List Cond := u_ws RX7 TX7 19
theorem nmX7 : ∀ a, a < 19 → ∀ b, b < 19 → a ≠ b → (TX7 a).2.1 ≠ (TX7 b).2.1 := by decide +kernel
theorem tyX7_ok : ∀ k, k < 19 → parseFieldDescriptor (TX7 k).2.2.1 = some (tyX7 k) := by decide +kernel
abbrev cX7_init : ByteArray := prog_9_method_1_code
def yX7_init : MethodName := ⟨RX7, "<init>", "()V"⟩
abbrev cX7_in : ByteArray := prog_9_method_2_code
def yX7_in : MethodName := ⟨RX7, "in", "(III)Z"⟩
abbrev cX7_bring : ByteArray := prog_9_method_3_code
def yX7_bring : MethodName := ⟨RX7, "bring", "([II[III)V"⟩
abbrev cX7_isField : ByteArray := prog_9_method_4_code
def yX7_isField : MethodName := ⟨RX7, "isField", "(I)Z"⟩
abbrev cX7_isClaim : ByteArray := prog_9_method_5_code
def yX7_isClaim : MethodName := ⟨RX7, "isClaim", "(I)Z"⟩
abbrev cX7_field : ByteArray := prog_9_method_6_code
def yX7_field : MethodName := ⟨RX7, "field", "(II)I"⟩
abbrev cX7_addClaim : ByteArray := prog_9_method_7_code
def yX7_addClaim : MethodName := ⟨RX7, "addClaim", "([IIII)I"⟩
abbrev cX7_claim : ByteArray := prog_9_method_8_code
def yX7_claim : MethodName := ⟨RX7, "claim", "(III)I"⟩
abbrev cX7_onOf : ByteArray := prog_9_method_9_code
def yX7_onOf : MethodName := ⟨RX7, "onOf", "([II)I"⟩
abbrev cX7_backOf : ByteArray := prog_9_method_10_code
def yX7_backOf : MethodName := ⟨RX7, "backOf", "([II)I"⟩
abbrev cX7_of : ByteArray := prog_9_method_11_code
def yX7_of : MethodName := ⟨RX7, "of", "(II)I"⟩
abbrev cX7_at : ByteArray := prog_9_method_12_code
def yX7_at : MethodName := ⟨RX7, "at", "(II)I"⟩
abbrev cX7_type : ByteArray := prog_9_method_13_code
def yX7_type : MethodName := ⟨RX7, "type", "(I)I"⟩
abbrev cX7_peek : ByteArray := prog_9_method_14_code
def yX7_peek : MethodName := ⟨RX7, "peek", "()I"⟩
abbrev cX7_isSign : ByteArray := prog_9_method_15_code
def yX7_isSign : MethodName := ⟨RX7, "isSign", "(I)Z"⟩
abbrev cX7_isDigit : ByteArray := prog_9_method_16_code
def yX7_isDigit : MethodName := ⟨RX7, "isDigit", "(II)Z"⟩
abbrev cX7_isNumber : ByteArray := prog_9_method_17_code
def yX7_isNumber : MethodName := ⟨RX7, "isNumber", "(II)Z"⟩
abbrev cX7_kindBy : ByteArray := prog_9_method_18_code
def yX7_kindBy : MethodName := ⟨RX7, "kindBy", "(I)I"⟩
abbrev cX7_isFieldItem : ByteArray := prog_9_method_19_code
def yX7_isFieldItem : MethodName := ⟨RX7, "isFieldItem", "(I)Z"⟩
abbrev cX7_isClaimItem : ByteArray := prog_9_method_20_code
def yX7_isClaimItem : MethodName := ⟨RX7, "isClaimItem", "()Z"⟩
abbrev cX7_isValley : ByteArray := prog_9_method_21_code
def yX7_isValley : MethodName := ⟨RX7, "isValley", "()Z"⟩
abbrev cX7_valley : ByteArray := prog_9_method_22_code
def yX7_valley : MethodName := ⟨RX7, "valley", "()I"⟩
abbrev cX7_sumOf : ByteArray := prog_9_method_23_code
def yX7_sumOf : MethodName := ⟨RX7, "sumOf", "([II)I"⟩
abbrev cX7_claimsHere : ByteArray := prog_9_method_24_code
def yX7_claimsHere : MethodName := ⟨RX7, "claimsHere", "()I"⟩
abbrev cX7_count : ByteArray := prog_9_method_25_code
def yX7_count : MethodName := ⟨RX7, "count", "(I)I"⟩
abbrev cX7_note : ByteArray := prog_9_method_26_code
def yX7_note : MethodName := ⟨RX7, "note", "()V"⟩
abbrev cX7_dayIn : ByteArray := prog_9_method_27_code
def yX7_dayIn : MethodName := ⟨RX7, "dayIn", "([I)V"⟩
abbrev cX7_days : ByteArray := prog_9_method_28_code
def yX7_days : MethodName := ⟨RX7, "days", "(I)I"⟩
abbrev cX7_carry : ByteArray := prog_9_method_29_code
def yX7_carry : MethodName := ⟨RX7, "carry", "(I)I"⟩
abbrev cX7_lettuce : ByteArray := prog_9_method_30_code
def yX7_lettuce : MethodName := ⟨RX7, "lettuce", "(II)I"⟩
abbrev cX7_lay : ByteArray := prog_9_method_31_code
def yX7_lay : MethodName := ⟨RX7, "lay", "(II)I"⟩
abbrev cX7_undo : ByteArray := prog_9_method_32_code
def yX7_undo : MethodName := ⟨RX7, "undo", "()I"⟩
abbrev cX7_seed : ByteArray := prog_9_method_33_code
def yX7_seed : MethodName := ⟨RX7, "seed", "(I)I"⟩
abbrev cX7_begin : ByteArray := prog_9_method_34_code
def yX7_begin : MethodName := ⟨RX7, "begin", "()V"⟩
abbrev cX7_part : ByteArray := prog_9_method_35_code
def yX7_part : MethodName := ⟨RX7, "part", "(JJI)J"⟩
abbrev cX7_layOdds : ByteArray := prog_9_method_36_code
def yX7_layOdds : MethodName := ⟨RX7, "layOdds", "([IIII)V"⟩
abbrev cX7_chance : ByteArray := prog_9_method_37_code
def yX7_chance : MethodName := ⟨RX7, "chance", "(III)I"⟩
abbrev cX7_likely : ByteArray := prog_9_method_38_code
def yX7_likely : MethodName := ⟨RX7, "likely", "(I)I"⟩
abbrev cX7_layMean : ByteArray := prog_9_method_39_code
def yX7_layMean : MethodName := ⟨RX7, "layMean", "([II)V"⟩
abbrev cX7_mean : ByteArray := prog_9_method_40_code
def yX7_mean : MethodName := ⟨RX7, "mean", "(II)J"⟩
abbrev cX7_oddsOf : ByteArray := prog_9_method_41_code
def yX7_oddsOf : MethodName := ⟨RX7, "oddsOf", "(I)J"⟩
abbrev cX7_right : ByteArray := prog_9_method_42_code
def yX7_right : MethodName := ⟨RX7, "right", "(III)I"⟩
abbrev cX7_sure : ByteArray := prog_9_method_43_code
def yX7_sure : MethodName := ⟨RX7, "sure", "(I)I"⟩
abbrev cX7_down : ByteArray := prog_9_method_44_code
def yX7_down : MethodName := ⟨RX7, "down", "(II)J"⟩
abbrev cX7_keep : ByteArray := prog_9_method_45_code
def yX7_keep : MethodName := ⟨RX7, "keep", "(II)I"⟩
abbrev cX7_early : ByteArray := prog_9_method_46_code
def yX7_early : MethodName := ⟨RX7, "early", "(II)I"⟩
abbrev cX7_next : ByteArray := prog_9_method_47_code
def yX7_next : MethodName := ⟨RX7, "next", "(I)I"⟩
abbrev cX7_winter : ByteArray := prog_9_method_48_code
def yX7_winter : MethodName := ⟨RX7, "winter", "(IIII)I"⟩
abbrev cX7_image : ByteArray := prog_9_method_49_code
def yX7_image : MethodName := ⟨RX7, "image", "()I"⟩
abbrev cX7_restore : ByteArray := prog_9_method_50_code
def yX7_restore : MethodName := ⟨RX7, "restore", "()I"⟩
abbrev cX7_isSheet : ByteArray := prog_9_method_51_code
def yX7_isSheet : MethodName := ⟨RX7, "isSheet", "(I)Z"⟩
abbrev cX7_isPart : ByteArray := prog_9_method_52_code
def yX7_isPart : MethodName := ⟨RX7, "isPart", "(III)Z"⟩
abbrev cX7_wrong : ByteArray := prog_9_method_53_code
def yX7_wrong : MethodName := ⟨RX7, "wrong", "(IIII)I"⟩
abbrev cX7_wayOdds : ByteArray := prog_9_method_54_code
def yX7_wayOdds : MethodName := ⟨RX7, "wayOdds", "(IIII)J"⟩
abbrev cX7_seen : ByteArray := prog_9_method_55_code
def yX7_seen : MethodName := ⟨RX7, "seen", "(IIIII)I"⟩
abbrev cX7_isBorne : ByteArray := prog_9_method_56_code
def yX7_isBorne : MethodName := ⟨RX7, "isBorne", "(III)Z"⟩
abbrev cX7_bore : ByteArray := prog_9_method_57_code
def yX7_bore : MethodName := ⟨RX7, "bore", "(IIIIII)I"⟩
abbrev cX7_cutTo : ByteArray := prog_9_method_58_code
def yX7_cutTo : MethodName := ⟨RX7, "cutTo", "(IJ)J"⟩
abbrev cX7_film : ByteArray := prog_9_method_59_code
def yX7_film : MethodName := ⟨RX7, "film", "(IIII)I"⟩
abbrev cX7_sheet : ByteArray := prog_9_method_60_code
def yX7_sheet : MethodName := ⟨RX7, "sheet", "(III)I"⟩
abbrev cX7_drop : ByteArray := prog_9_method_61_code
def yX7_drop : MethodName := ⟨RX7, "drop", "(I)I"⟩
abbrev cX7_item : ByteArray := prog_9_method_62_code
def yX7_item : MethodName := ⟨RX7, "item", "(IIIJ)I"⟩
abbrev cX7_copy : ByteArray := prog_9_method_63_code
def yX7_copy : MethodName := ⟨RX7, "copy", "(IIIII)I"⟩
def RJ9 : String := "java/lang/Math"
def TJ9 : u_T := fun k => match k with
  | _ => ("", "", "", false)
def tyJ9 : Nat → FieldType := fun k => match k with
  | _ => .int
abbrev wsJ90 : List Cond := u_ws RJ9 TJ9 0
theorem nmJ9 : ∀ a, a < 0 → ∀ b, b < 0 → a ≠ b → (TJ9 a).2.1 ≠ (TJ9 b).2.1 := by decide +kernel
theorem tyJ9_ok : ∀ k, k < 0 → parseFieldDescriptor (TJ9 k).2.2.1 = some (tyJ9 k) := by decide +kernel
abbrev cJ9_max_7cf53 : ByteArray := prog_10_method_65_code
def yJ9_max_7cf53 : MethodName := ⟨RJ9, "max", "(II)I"⟩
abbrev cJ9_min_7cf53 : ByteArray := prog_10_method_69_code
def yJ9_min_7cf53 : MethodName := ⟨RJ9, "min", "(II)I"⟩
def RJ10 : String := "java/lang/System"
def TJ10 : u_T := fun k => match k with
  | _ => ("", "", "", false)
def tyJ10 : Nat → FieldType := fun k => match k with
  | _ => .int
abbrev wsJ100 : List Cond := u_ws RJ10 TJ10 0
theorem nmJ10 : ∀ a, a < 0 → ∀ b, b < 0 → a ≠ b → (TJ10 a).2.1 ≠ (TJ10 b).2.1 := by decide +kernel
theorem tyJ10_ok : ∀ k, k < 0 → parseFieldDescriptor (TJ10 k).2.2.1 = some (tyJ10 k) := by decide +kernel
def RL : String := "DeedTortoiseLaw"
abbrev cL_law : ByteArray := code
def yL_law : MethodName := ⟨RL, "law", "([I)Z"⟩
def wsX0_init : List Cond := .code yX0_init cX0_init 1 none :: ([.methodLink RX0 1 objectInit, .instanceMethod objectInit, .code objectInit ⟨#[0xb1]⟩ 1 none, .fieldLink RX0 7 "DeedTortoise$Fraction" "above" "J", .fieldLink RX0 13 "DeedTortoise$Fraction" "below" "J"] ++ wsX00)
def wsX0_commonDivisor : List Cond := .code yX0_commonDivisor cX0_commonDivisor 7 (some .long) :: ([])
def wsX0_become : List Cond := .code yX0_become cX0_become 7 none :: ([.fieldLink RX0 7 "DeedTortoise$Fraction" "above" "J", .fieldLink RX0 13 "DeedTortoise$Fraction" "below" "J", .methodLink RX0 16 yX0_commonDivisor, .static yX0_commonDivisor, .initialized RX0, .code yX0_commonDivisor cX0_commonDivisor 7 (some .long)] ++ wsX00)
def wsX0_add : List Cond := .code yX0_add cX0_add 2 none :: ([.fieldLink RX0 7 "DeedTortoise$Fraction" "above" "J", .fieldLink RX0 13 "DeedTortoise$Fraction" "below" "J", .methodLink RX0 20 yX0_become, .instanceMethod yX0_become, .selects RX0 yX0_become yX0_become, .initialized RX0, .code yX0_become cX0_become 7 none, .methodLink RX0 16 yX0_commonDivisor, .static yX0_commonDivisor, .code yX0_commonDivisor cX0_commonDivisor 7 (some .long)] ++ wsX00)
def wsX0_isBelow : List Cond := .code yX0_isBelow cX0_isBelow 2 (some .boolean) :: ([.fieldLink RX0 7 "DeedTortoise$Fraction" "above" "J", .fieldLink RX0 13 "DeedTortoise$Fraction" "below" "J"] ++ wsX00)
def wsX0_told : List Cond := .code yX0_told cX0_told 2 (some .long) :: ([.fieldLink RX0 7 "DeedTortoise$Fraction" "above" "J", .fieldLink RX0 13 "DeedTortoise$Fraction" "below" "J"] ++ wsX00)
def wsX0_partOf : List Cond := .code yX0_partOf cX0_partOf 3 (some .long) :: ([.fieldLink RX0 13 "DeedTortoise$Fraction" "below" "J", .fieldLink RX0 7 "DeedTortoise$Fraction" "above" "J"] ++ wsX00)
def wsX2_init : List Cond := .code yX2_init cX2_init 1 none :: ([.methodLink RX2 3 objectInit, .instanceMethod objectInit, .code objectInit ⟨#[0xb1]⟩ 1 none, .fieldLink RX2 9 "DeedTortoise$Moment" "spot" "I", .fieldLink RX2 15 "DeedTortoise$Moment" "day" "I", .fieldLink RX2 18 "DeedTortoise$Moment" "draw" "I", .arrayClass .int, .fieldLink RX2 21 "DeedTortoise$Moment" "food" "[I", .fieldLink RX2 25 "DeedTortoise$Moment" "hedge" "[I"] ++ wsX20)
def wsX1_init : List Cond := .code yX1_init cX1_init 2 none :: ([.methodLink RX1 3 objectInit, .instanceMethod objectInit, .code objectInit ⟨#[0xb1]⟩ 1 none, .arrayClass .int, .fieldLink RX1 9 "DeedTortoise$Land" "kind" "[I", .classLink RX1 15 RX2, .instantiable RX2 5, .initialized RX2, .fieldLink RX1 18 "DeedTortoise$Land" "now" "LDeedTortoise$Moment;", .fieldLink RX1 22 "DeedTortoise$Land" "past" "[LDeedTortoise$Moment;", .fieldLink RX1 26 "DeedTortoise$Land" "known" "I", .fieldLink RX1 30 "DeedTortoise$Land" "first" "[I", .fieldLink RX1 33 "DeedTortoise$Land" "last" "[I", .fieldLink RX1 36 "DeedTortoise$Land" "worth" "[I", .fieldLink RX1 39 "DeedTortoise$Land" "claims" "I", .instanceMethod yX2_init, .code yX2_init cX2_init 1 none, .methodLink RX2 3 objectInit, .fieldLink RX2 9 "DeedTortoise$Moment" "spot" "I", .fieldLink RX2 15 "DeedTortoise$Moment" "day" "I", .fieldLink RX2 18 "DeedTortoise$Moment" "draw" "I", .fieldLink RX2 21 "DeedTortoise$Moment" "food" "[I", .fieldLink RX2 25 "DeedTortoise$Moment" "hedge" "[I"] ++ wsX10 ++ wsX20)
def wsX1_onFromClover : List Cond := .code yX1_onFromClover cX1_onFromClover 1 (some .int) :: ([])
def wsX1_onFromStubble : List Cond := .code yX1_onFromStubble cX1_onFromStubble 1 (some .int) :: ([])
def wsX1_onFrom : List Cond := .code yX1_onFrom cX1_onFrom 3 (some .int) :: ([.fieldLink RX1 18 "DeedTortoise$Land" "now" "LDeedTortoise$Moment;", .fieldLink RX1 42 "DeedTortoise$Moment" "food" "[I", .fieldLink RX1 9 "DeedTortoise$Land" "kind" "[I", .methodLink RX1 52 Lib.Math.max.name, .static Lib.Math.max.name, .initialized "java/lang/Math", .code Lib.Math.max.name Lib.Math.max.code 2 (some .int), .methodLink RX1 45 yX1_onFromClover, .static yX1_onFromClover, .initialized RX1, .code yX1_onFromClover cX1_onFromClover 1 (some .int), .methodLink RX1 49 yX1_onFromStubble, .static yX1_onFromStubble, .code yX1_onFromStubble cX1_onFromStubble 1 (some .int)] ++ wsX10 ++ wsX20)
def wsX1_backFrom : List Cond := .code yX1_backFrom cX1_backFrom 2 (some .int) :: ([.fieldLink RX1 18 "DeedTortoise$Land" "now" "LDeedTortoise$Moment;", .fieldLink RX1 58 "DeedTortoise$Moment" "hedge" "[I", .methodLink RX1 64 Lib.Math.min.name, .static Lib.Math.min.name, .initialized "java/lang/Math", .code Lib.Math.min.name Lib.Math.min.code 2 (some .int), .methodLink RX1 61 yX1_onFrom, .instanceMethod yX1_onFrom, .selects RX1 yX1_onFrom yX1_onFrom, .initialized RX1, .code yX1_onFrom cX1_onFrom 3 (some .int), .fieldLink RX1 42 "DeedTortoise$Moment" "food" "[I", .fieldLink RX1 9 "DeedTortoise$Land" "kind" "[I", .methodLink RX1 52 Lib.Math.max.name, .static Lib.Math.max.name, .code Lib.Math.max.name Lib.Math.max.code 2 (some .int), .methodLink RX1 45 yX1_onFromClover, .static yX1_onFromClover, .code yX1_onFromClover cX1_onFromClover 1 (some .int), .methodLink RX1 49 yX1_onFromStubble, .static yX1_onFromStubble, .code yX1_onFromStubble cX1_onFromStubble 1 (some .int)] ++ wsX10 ++ wsX20)
def wsX1_passDay_r1 : List Cond := [Cond.fieldLink RX1 18 "DeedTortoise$Land" "now" "LDeedTortoise$Moment;", Cond.fieldLink RX1 67 "DeedTortoise$Moment" "spot" "I", Cond.fieldLink RX1 73 "DeedTortoise$Moment" "draw" "I", Cond.constant RX1 76 (1103515245), Cond.constant RX1 79 (2147483647), Cond.constant RX1 80 (65536), Cond.fieldLink RX1 42 "DeedTortoise$Moment" "food" "[I", Cond.methodLink RX1 52 Lib.Math.max.name, Cond.static Lib.Math.max.name, Cond.initialized "java/lang/Math", Cond.code Lib.Math.max.name Lib.Math.max.code 2 (some .int), Cond.fieldLink RX1 81 "DeedTortoise$Moment" "day" "I", Cond.methodLink RX1 61 yX1_onFrom, Cond.instanceMethod yX1_onFrom, Cond.selects RX1 yX1_onFrom yX1_onFrom, Cond.initialized RX1, Cond.code yX1_onFrom cX1_onFrom 3 (some .int), Cond.fieldLink RX1 9 "DeedTortoise$Land" "kind" "[I", Cond.methodLink RX1 45 yX1_onFromClover, Cond.static yX1_onFromClover, Cond.code yX1_onFromClover cX1_onFromClover 1 (some .int), Cond.methodLink RX1 49 yX1_onFromStubble, Cond.static yX1_onFromStubble, Cond.code yX1_onFromStubble cX1_onFromStubble 1 (some .int)]
def wsX1_passDay_r2 : List Cond := [Cond.methodLink RX1 70 yX1_backFrom, Cond.instanceMethod yX1_backFrom, Cond.selects RX1 yX1_backFrom yX1_backFrom, Cond.code yX1_backFrom cX1_backFrom 2 (some .int), Cond.fieldLink RX1 58 "DeedTortoise$Moment" "hedge" "[I", Cond.methodLink RX1 64 Lib.Math.min.name, Cond.static Lib.Math.min.name, Cond.code Lib.Math.min.name Lib.Math.min.code 2 (some .int)]
def wsX1_passDay : List Cond := .code yX1_passDay cX1_passDay 5 none :: ((wsX1_passDay_r1 ++ wsX1_passDay_r2) ++ wsX10 ++ wsX20)
def wsX1_loseOldest : List Cond := .code yX1_loseOldest cX1_loseOldest 3 none :: ([.fieldLink RX1 22 "DeedTortoise$Land" "past" "[LDeedTortoise$Moment;", .fieldLink RX1 26 "DeedTortoise$Land" "known" "I"] ++ wsX10)
def wsX2_take : List Cond := .code yX2_take cX2_take 2 none :: ([.fieldLink RX2 9 "DeedTortoise$Moment" "spot" "I", .fieldLink RX2 15 "DeedTortoise$Moment" "day" "I", .fieldLink RX2 18 "DeedTortoise$Moment" "draw" "I", .fieldLink RX2 21 "DeedTortoise$Moment" "food" "[I", .methodLink RX2 28 arraycopyName, .native arraycopyName, .static arraycopyName, .initialized "java/lang/System", .fieldLink RX2 25 "DeedTortoise$Moment" "hedge" "[I"] ++ wsX20)
def wsX1_remember : List Cond := .code yX1_remember cX1_remember 1 none :: ([.fieldLink RX1 26 "DeedTortoise$Land" "known" "I", .fieldLink RX1 22 "DeedTortoise$Land" "past" "[LDeedTortoise$Moment;", .fieldLink RX1 18 "DeedTortoise$Land" "now" "LDeedTortoise$Moment;", .methodLink RX1 84 yX1_loseOldest, .instanceMethod yX1_loseOldest, .selects RX1 yX1_loseOldest yX1_loseOldest, .initialized RX1, .code yX1_loseOldest cX1_loseOldest 3 none, .methodLink RX1 87 yX2_take, .instanceMethod yX2_take, .selects RX2 yX2_take yX2_take, .initialized RX2, .code yX2_take cX2_take 2 none, .fieldLink RX2 9 "DeedTortoise$Moment" "spot" "I", .fieldLink RX2 15 "DeedTortoise$Moment" "day" "I", .fieldLink RX2 18 "DeedTortoise$Moment" "draw" "I", .fieldLink RX2 21 "DeedTortoise$Moment" "food" "[I", .methodLink RX2 28 arraycopyName, .native arraycopyName, .static arraycopyName, .initialized "java/lang/System", .fieldLink RX2 25 "DeedTortoise$Moment" "hedge" "[I"] ++ wsX10 ++ wsX20)
def wsX1_recall : List Cond := .code yX1_recall cX1_recall 1 none :: ([.fieldLink RX1 26 "DeedTortoise$Land" "known" "I", .fieldLink RX1 18 "DeedTortoise$Land" "now" "LDeedTortoise$Moment;", .fieldLink RX1 22 "DeedTortoise$Land" "past" "[LDeedTortoise$Moment;", .methodLink RX1 87 yX2_take, .instanceMethod yX2_take, .selects RX2 yX2_take yX2_take, .initialized RX2, .code yX2_take cX2_take 2 none, .fieldLink RX2 9 "DeedTortoise$Moment" "spot" "I", .fieldLink RX2 15 "DeedTortoise$Moment" "day" "I", .fieldLink RX2 18 "DeedTortoise$Moment" "draw" "I", .fieldLink RX2 21 "DeedTortoise$Moment" "food" "[I", .methodLink RX2 28 arraycopyName, .native arraycopyName, .static arraycopyName, .initialized "java/lang/System", .fieldLink RX2 25 "DeedTortoise$Moment" "hedge" "[I"] ++ wsX10 ++ wsX20)
def wsX1_forget : List Cond := .code yX1_forget cX1_forget 1 none :: ([.fieldLink RX1 26 "DeedTortoise$Land" "known" "I"] ++ wsX10)
def wsX1_addClaim : List Cond := .code yX1_addClaim cX1_addClaim 4 none :: ([.fieldLink RX1 30 "DeedTortoise$Land" "first" "[I", .fieldLink RX1 39 "DeedTortoise$Land" "claims" "I", .fieldLink RX1 33 "DeedTortoise$Land" "last" "[I", .fieldLink RX1 36 "DeedTortoise$Land" "worth" "[I"] ++ wsX10)
def wsX6_isWithin : List Cond := .code yX6_isWithin cX6_isWithin 3 (some .boolean) :: ([])
def wsX1_claimsOn : List Cond := .code yX1_claimsOn cX1_claimsOn 4 (some .int) :: ([.fieldLink RX1 39 "DeedTortoise$Land" "claims" "I", .fieldLink RX1 30 "DeedTortoise$Land" "first" "[I", .fieldLink RX1 33 "DeedTortoise$Land" "last" "[I", .static yX6_isWithin, .initialized RX6, .code yX6_isWithin cX6_isWithin 3 (some .boolean)] ++ wsX10)
def wsX1_takeGround : List Cond := .code yX1_takeGround cX1_takeGround 2 none :: ([.fieldLink RX1 9 "DeedTortoise$Land" "kind" "[I", .methodLink RX1 95 arraycopyName, .native arraycopyName, .static arraycopyName, .initialized "java/lang/System", .fieldLink RX1 18 "DeedTortoise$Land" "now" "LDeedTortoise$Moment;", .methodLink RX1 87 yX2_take, .instanceMethod yX2_take, .selects RX2 yX2_take yX2_take, .initialized RX2, .code yX2_take cX2_take 2 none, .fieldLink RX2 9 "DeedTortoise$Moment" "spot" "I", .fieldLink RX2 15 "DeedTortoise$Moment" "day" "I", .fieldLink RX2 18 "DeedTortoise$Moment" "draw" "I", .fieldLink RX2 21 "DeedTortoise$Moment" "food" "[I", .methodLink RX2 28 arraycopyName, .fieldLink RX2 25 "DeedTortoise$Moment" "hedge" "[I"] ++ wsX10 ++ wsX20)
def wsX1_takeClaims : List Cond := .code yX1_takeClaims cX1_takeClaims 2 none :: ([.fieldLink RX1 30 "DeedTortoise$Land" "first" "[I", .methodLink RX1 95 arraycopyName, .native arraycopyName, .static arraycopyName, .initialized "java/lang/System", .fieldLink RX1 33 "DeedTortoise$Land" "last" "[I", .fieldLink RX1 36 "DeedTortoise$Land" "worth" "[I", .fieldLink RX1 39 "DeedTortoise$Land" "claims" "I"] ++ wsX10)
def wsX1_takeAll_r1 : List Cond := [Cond.fieldLink RX1 26 "DeedTortoise$Land" "known" "I", Cond.fieldLink RX1 22 "DeedTortoise$Land" "past" "[LDeedTortoise$Moment;", Cond.methodLink RX1 101 yX1_takeGround, Cond.instanceMethod yX1_takeGround, Cond.selects RX1 yX1_takeGround yX1_takeGround, Cond.initialized RX1, Cond.code yX1_takeGround cX1_takeGround 2 none, Cond.fieldLink RX1 9 "DeedTortoise$Land" "kind" "[I", Cond.methodLink RX1 95 arraycopyName, Cond.native arraycopyName, Cond.static arraycopyName, Cond.initialized "java/lang/System", Cond.fieldLink RX1 18 "DeedTortoise$Land" "now" "LDeedTortoise$Moment;", Cond.methodLink RX1 87 yX2_take, Cond.instanceMethod yX2_take, Cond.selects RX2 yX2_take yX2_take, Cond.initialized RX2, Cond.code yX2_take cX2_take 2 none, Cond.fieldLink RX2 9 "DeedTortoise$Moment" "spot" "I", Cond.fieldLink RX2 15 "DeedTortoise$Moment" "day" "I", Cond.fieldLink RX2 18 "DeedTortoise$Moment" "draw" "I", Cond.fieldLink RX2 21 "DeedTortoise$Moment" "food" "[I", Cond.methodLink RX2 28 arraycopyName, Cond.fieldLink RX2 25 "DeedTortoise$Moment" "hedge" "[I"]
def wsX1_takeAll_r2 : List Cond := [Cond.methodLink RX1 105 yX1_takeClaims, Cond.instanceMethod yX1_takeClaims, Cond.selects RX1 yX1_takeClaims yX1_takeClaims, Cond.code yX1_takeClaims cX1_takeClaims 2 none, Cond.fieldLink RX1 30 "DeedTortoise$Land" "first" "[I", Cond.fieldLink RX1 33 "DeedTortoise$Land" "last" "[I", Cond.fieldLink RX1 36 "DeedTortoise$Land" "worth" "[I", Cond.fieldLink RX1 39 "DeedTortoise$Land" "claims" "I"]
def wsX1_takeAll : List Cond := .code yX1_takeAll cX1_takeAll 3 none :: ((wsX1_takeAll_r1 ++ wsX1_takeAll_r2) ++ wsX10 ++ wsX20)
def wsX3_init : List Cond := .code yX3_init cX3_init 1 none :: ([.methodLink RX3 3 objectInit, .instanceMethod objectInit, .code objectInit ⟨#[0xb1]⟩ 1 none, .arrayClass .int, .fieldLink RX3 9 "DeedTortoise$Reader" "letters" "[I", .fieldLink RX3 15 "DeedTortoise$Reader" "length" "I", .fieldLink RX3 19 "DeedTortoise$Reader" "place" "I"] ++ wsX30)
def wsX3_add : List Cond := .code yX3_add cX3_add 2 (some .boolean) :: ([.fieldLink RX3 15 "DeedTortoise$Reader" "length" "I", .fieldLink RX3 9 "DeedTortoise$Reader" "letters" "[I"] ++ wsX30)
def wsX3_clear : List Cond := .code yX3_clear cX3_clear 1 none :: ([.fieldLink RX3 15 "DeedTortoise$Reader" "length" "I"] ++ wsX30)
def wsX3_look : List Cond := .code yX3_look cX3_look 1 (some .int) :: ([.fieldLink RX3 19 "DeedTortoise$Reader" "place" "I", .fieldLink RX3 15 "DeedTortoise$Reader" "length" "I", .fieldLink RX3 9 "DeedTortoise$Reader" "letters" "[I"] ++ wsX30)
def wsX3_readDigit : List Cond := .code yX3_readDigit cX3_readDigit 4 (some .int) :: ([.fieldLink RX3 19 "DeedTortoise$Reader" "place" "I", .methodLink RX3 52 yX3_look, .instanceMethod yX3_look, .selects RX3 yX3_look yX3_look, .initialized RX3, .code yX3_look cX3_look 1 (some .int), .fieldLink RX3 15 "DeedTortoise$Reader" "length" "I", .fieldLink RX3 9 "DeedTortoise$Reader" "letters" "[I", .static yX6_isWithin, .initialized RX6, .code yX6_isWithin cX6_isWithin 3 (some .boolean)] ++ wsX30)
def wsX3_accepts : List Cond := .code yX3_accepts cX3_accepts 2 (some .boolean) :: ([.fieldLink RX3 19 "DeedTortoise$Reader" "place" "I", .methodLink RX3 52 yX3_look, .instanceMethod yX3_look, .selects RX3 yX3_look yX3_look, .initialized RX3, .code yX3_look cX3_look 1 (some .int), .fieldLink RX3 15 "DeedTortoise$Reader" "length" "I", .fieldLink RX3 9 "DeedTortoise$Reader" "letters" "[I"] ++ wsX30)
def wsX3_kindOf : List Cond := .code yX3_kindOf cX3_kindOf 1 (some .int) :: ([])
def wsX3_readField_r1 : List Cond := [Cond.fieldLink RX3 19 "DeedTortoise$Reader" "place" "I", Cond.fieldLink RX3 60 "DeedTortoise$Land" "kind" "[I", Cond.fieldLink RX3 35 "DeedTortoise$Land" "now" "LDeedTortoise$Moment;", Cond.fieldLink RX3 63 "DeedTortoise$Moment" "food" "[I", Cond.methodLink RX3 66 Lib.Math.max.name, Cond.static Lib.Math.max.name, Cond.initialized "java/lang/Math", Cond.code Lib.Math.max.name Lib.Math.max.code 2 (some .int), Cond.fieldLink RX3 71 "DeedTortoise$Moment" "hedge" "[I", Cond.methodLink RX3 52 yX3_look, Cond.instanceMethod yX3_look, Cond.selects RX3 yX3_look yX3_look, Cond.initialized RX3, Cond.code yX3_look cX3_look 1 (some .int), Cond.fieldLink RX3 15 "DeedTortoise$Reader" "length" "I", Cond.fieldLink RX3 9 "DeedTortoise$Reader" "letters" "[I", Cond.methodLink RX3 56 yX3_kindOf, Cond.static yX3_kindOf, Cond.code yX3_kindOf cX3_kindOf 1 (some .int), Cond.methodLink RX3 27 yX3_readDigit, Cond.instanceMethod yX3_readDigit, Cond.selects RX3 yX3_readDigit yX3_readDigit, Cond.code yX3_readDigit cX3_readDigit 4 (some .int), Cond.static yX6_isWithin]
def wsX3_readField_r2 : List Cond := [Cond.initialized RX6, Cond.code yX6_isWithin cX6_isWithin 3 (some .boolean), Cond.methodLink RX3 31 yX3_accepts, Cond.instanceMethod yX3_accepts, Cond.selects RX3 yX3_accepts yX3_accepts, Cond.code yX3_accepts cX3_accepts 2 (some .boolean)]
def wsX3_readField : List Cond := .code yX3_readField cX3_readField 5 (some .boolean) :: ((wsX3_readField_r1 ++ wsX3_readField_r2) ++ wsX30 ++ wsX10 ++ wsX20)
def wsX3_readWorth : List Cond := .code yX3_readWorth cX3_readWorth 3 (some .int) :: ([.fieldLink RX3 19 "DeedTortoise$Reader" "place" "I", .fieldLink RX3 15 "DeedTortoise$Reader" "length" "I", .fieldLink RX3 9 "DeedTortoise$Reader" "letters" "[I", .methodLink RX3 27 yX3_readDigit, .instanceMethod yX3_readDigit, .selects RX3 yX3_readDigit yX3_readDigit, .initialized RX3, .code yX3_readDigit cX3_readDigit 4 (some .int), .methodLink RX3 52 yX3_look, .instanceMethod yX3_look, .selects RX3 yX3_look yX3_look, .code yX3_look cX3_look 1 (some .int), .static yX6_isWithin, .initialized RX6, .code yX6_isWithin cX6_isWithin 3 (some .boolean)] ++ wsX30)
def wsX3_readClaim_r1 : List Cond := [Cond.methodLink RX3 27 yX3_readDigit, Cond.instanceMethod yX3_readDigit, Cond.selects RX3 yX3_readDigit yX3_readDigit, Cond.initialized RX3, Cond.code yX3_readDigit cX3_readDigit 4 (some .int), Cond.fieldLink RX3 19 "DeedTortoise$Reader" "place" "I", Cond.methodLink RX3 52 yX3_look, Cond.instanceMethod yX3_look, Cond.selects RX3 yX3_look yX3_look, Cond.code yX3_look cX3_look 1 (some .int), Cond.fieldLink RX3 15 "DeedTortoise$Reader" "length" "I", Cond.fieldLink RX3 9 "DeedTortoise$Reader" "letters" "[I", Cond.static yX6_isWithin, Cond.initialized RX6, Cond.code yX6_isWithin cX6_isWithin 3 (some .boolean), Cond.methodLink RX3 31 yX3_accepts, Cond.instanceMethod yX3_accepts, Cond.selects RX3 yX3_accepts yX3_accepts, Cond.code yX3_accepts cX3_accepts 2 (some .boolean), Cond.methodLink RX3 77 yX3_readWorth, Cond.instanceMethod yX3_readWorth, Cond.selects RX3 yX3_readWorth yX3_readWorth, Cond.code yX3_readWorth cX3_readWorth 3 (some .int), Cond.methodLink RX3 80 yX1_addClaim]
def wsX3_readClaim_r2 : List Cond := [Cond.instanceMethod yX1_addClaim, Cond.selects RX1 yX1_addClaim yX1_addClaim, Cond.initialized RX1, Cond.code yX1_addClaim cX1_addClaim 4 none, Cond.fieldLink RX1 30 "DeedTortoise$Land" "first" "[I", Cond.fieldLink RX1 39 "DeedTortoise$Land" "claims" "I", Cond.fieldLink RX1 33 "DeedTortoise$Land" "last" "[I", Cond.fieldLink RX1 36 "DeedTortoise$Land" "worth" "[I"]
def wsX3_readClaim : List Cond := .code yX3_readClaim cX3_readClaim 5 (some .boolean) :: ((wsX3_readClaim_r1 ++ wsX3_readClaim_r2) ++ wsX30 ++ wsX10)
def wsX3_readClaims_r1 : List Cond := [Cond.methodLink RX3 31 yX3_accepts, Cond.instanceMethod yX3_accepts, Cond.selects RX3 yX3_accepts yX3_accepts, Cond.initialized RX3, Cond.code yX3_accepts cX3_accepts 2 (some .boolean), Cond.fieldLink RX3 19 "DeedTortoise$Reader" "place" "I", Cond.methodLink RX3 52 yX3_look, Cond.instanceMethod yX3_look, Cond.selects RX3 yX3_look yX3_look, Cond.code yX3_look cX3_look 1 (some .int), Cond.fieldLink RX3 15 "DeedTortoise$Reader" "length" "I", Cond.fieldLink RX3 9 "DeedTortoise$Reader" "letters" "[I", Cond.methodLink RX3 74 yX3_readClaim, Cond.instanceMethod yX3_readClaim, Cond.selects RX3 yX3_readClaim yX3_readClaim, Cond.code yX3_readClaim cX3_readClaim 5 (some .boolean), Cond.methodLink RX3 27 yX3_readDigit, Cond.instanceMethod yX3_readDigit, Cond.selects RX3 yX3_readDigit yX3_readDigit, Cond.code yX3_readDigit cX3_readDigit 4 (some .int), Cond.static yX6_isWithin, Cond.initialized RX6, Cond.code yX6_isWithin cX6_isWithin 3 (some .boolean), Cond.methodLink RX3 77 yX3_readWorth]
def wsX3_readClaims_r2 : List Cond := [Cond.instanceMethod yX3_readWorth, Cond.selects RX3 yX3_readWorth yX3_readWorth, Cond.code yX3_readWorth cX3_readWorth 3 (some .int), Cond.methodLink RX3 80 yX1_addClaim, Cond.instanceMethod yX1_addClaim, Cond.selects RX1 yX1_addClaim yX1_addClaim, Cond.initialized RX1, Cond.code yX1_addClaim cX1_addClaim 4 none, Cond.fieldLink RX1 30 "DeedTortoise$Land" "first" "[I", Cond.fieldLink RX1 39 "DeedTortoise$Land" "claims" "I", Cond.fieldLink RX1 33 "DeedTortoise$Land" "last" "[I", Cond.fieldLink RX1 36 "DeedTortoise$Land" "worth" "[I"]
def wsX3_readClaims : List Cond := .code yX3_readClaims cX3_readClaims 3 (some .boolean) :: ((wsX3_readClaims_r1 ++ wsX3_readClaims_r2) ++ wsX30 ++ wsX10)
def wsX3_readValley_r1 : List Cond := [Cond.fieldLink RX3 19 "DeedTortoise$Reader" "place" "I", Cond.fieldLink RX3 22 "DeedTortoise$Land" "claims" "I", Cond.fieldLink RX3 35 "DeedTortoise$Land" "now" "LDeedTortoise$Moment;", Cond.fieldLink RX3 39 "DeedTortoise$Moment" "spot" "I", Cond.methodLink RX3 27 yX3_readDigit, Cond.instanceMethod yX3_readDigit, Cond.selects RX3 yX3_readDigit yX3_readDigit, Cond.initialized RX3, Cond.code yX3_readDigit cX3_readDigit 4 (some .int), Cond.methodLink RX3 52 yX3_look, Cond.instanceMethod yX3_look, Cond.selects RX3 yX3_look yX3_look, Cond.code yX3_look cX3_look 1 (some .int), Cond.fieldLink RX3 15 "DeedTortoise$Reader" "length" "I", Cond.fieldLink RX3 9 "DeedTortoise$Reader" "letters" "[I", Cond.static yX6_isWithin, Cond.initialized RX6, Cond.code yX6_isWithin cX6_isWithin 3 (some .boolean), Cond.methodLink RX3 31 yX3_accepts, Cond.instanceMethod yX3_accepts, Cond.selects RX3 yX3_accepts yX3_accepts, Cond.code yX3_accepts cX3_accepts 2 (some .boolean), Cond.methodLink RX3 44 yX3_readField, Cond.instanceMethod yX3_readField]
def wsX3_readValley_r2 : List Cond := [Cond.selects RX3 yX3_readField yX3_readField, Cond.code yX3_readField cX3_readField 5 (some .boolean), Cond.fieldLink RX3 60 "DeedTortoise$Land" "kind" "[I", Cond.fieldLink RX3 63 "DeedTortoise$Moment" "food" "[I", Cond.methodLink RX3 66 Lib.Math.max.name, Cond.static Lib.Math.max.name, Cond.initialized "java/lang/Math", Cond.code Lib.Math.max.name Lib.Math.max.code 2 (some .int), Cond.fieldLink RX3 71 "DeedTortoise$Moment" "hedge" "[I", Cond.methodLink RX3 56 yX3_kindOf, Cond.static yX3_kindOf, Cond.code yX3_kindOf cX3_kindOf 1 (some .int), Cond.methodLink RX3 48 yX3_readClaims, Cond.instanceMethod yX3_readClaims, Cond.selects RX3 yX3_readClaims yX3_readClaims, Cond.code yX3_readClaims cX3_readClaims 3 (some .boolean), Cond.methodLink RX3 74 yX3_readClaim, Cond.instanceMethod yX3_readClaim, Cond.selects RX3 yX3_readClaim yX3_readClaim, Cond.code yX3_readClaim cX3_readClaim 5 (some .boolean), Cond.methodLink RX3 77 yX3_readWorth, Cond.instanceMethod yX3_readWorth, Cond.selects RX3 yX3_readWorth yX3_readWorth, Cond.code yX3_readWorth cX3_readWorth 3 (some .int)]
def wsX3_readValley_r3 : List Cond := [Cond.methodLink RX3 80 yX1_addClaim, Cond.instanceMethod yX1_addClaim, Cond.selects RX1 yX1_addClaim yX1_addClaim, Cond.initialized RX1, Cond.code yX1_addClaim cX1_addClaim 4 none, Cond.fieldLink RX1 30 "DeedTortoise$Land" "first" "[I", Cond.fieldLink RX1 39 "DeedTortoise$Land" "claims" "I", Cond.fieldLink RX1 33 "DeedTortoise$Land" "last" "[I", Cond.fieldLink RX1 36 "DeedTortoise$Land" "worth" "[I"]
def wsX3_readValley : List Cond := .code yX3_readValley cX3_readValley 4 (some .boolean) :: ((wsX3_readValley_r1 ++ (wsX3_readValley_r2 ++ wsX3_readValley_r3)) ++ wsX30 ++ wsX10 ++ wsX20)
def wsX4_init : List Cond := .code yX4_init cX4_init 1 none :: ([.methodLink RX4 3 objectInit, .instanceMethod objectInit, .code objectInit ⟨#[0xb1]⟩ 1 none, .fieldLink RX4 9 "DeedTortoise$Sheet" "isHeld" "Z", .fieldLink RX4 15 "DeedTortoise$Sheet" "lane" "I", .fieldLink RX4 19 "DeedTortoise$Sheet" "length" "I", .arrayClass .long, .fieldLink RX4 22 "DeedTortoise$Sheet" "items" "[J"] ++ wsX40)
def wsX4_begin : List Cond := .code yX4_begin cX4_begin 4 none :: ([.fieldLink RX4 9 "DeedTortoise$Sheet" "isHeld" "Z", .fieldLink RX4 15 "DeedTortoise$Sheet" "lane" "I", .fieldLink RX4 19 "DeedTortoise$Sheet" "length" "I", .fieldLink RX4 22 "DeedTortoise$Sheet" "items" "[J"] ++ wsX40)
def wsX4_hasItems : List Cond := .code yX4_hasItems cX4_hasItems 3 (some .boolean) :: ([.fieldLink RX4 19 "DeedTortoise$Sheet" "length" "I"] ++ wsX40)
def wsX4_refusal : List Cond := .code yX4_refusal cX4_refusal 4 (some .int) :: ([.fieldLink RX4 9 "DeedTortoise$Sheet" "isHeld" "Z", .fieldLink RX4 15 "DeedTortoise$Sheet" "lane" "I", .methodLink RX4 26 yX4_hasItems, .instanceMethod yX4_hasItems, .selects RX4 yX4_hasItems yX4_hasItems, .initialized RX4, .code yX4_hasItems cX4_hasItems 3 (some .boolean), .fieldLink RX4 19 "DeedTortoise$Sheet" "length" "I"] ++ wsX40)
def wsX4_put : List Cond := .code yX4_put cX4_put 4 none :: ([.fieldLink RX4 15 "DeedTortoise$Sheet" "lane" "I", .fieldLink RX4 22 "DeedTortoise$Sheet" "items" "[J"] ++ wsX40)
def wsX4_fieldAt : List Cond := .code yX4_fieldAt cX4_fieldAt 4 (some .int) :: ([.fieldLink RX4 22 "DeedTortoise$Sheet" "items" "[J", .constantLong RX4 30 (6)] ++ wsX40)
def wsX5_init : List Cond := .code yX5_init cX5_init 1 none :: ([.methodLink RX5 3 objectInit, .instanceMethod objectInit, .code objectInit ⟨#[0xb1]⟩ 1 none, .arrayClass .int, .fieldLink RX5 9 "DeedTortoise$Ways" "on" "[I", .fieldLink RX5 15 "DeedTortoise$Ways" "back" "[I", .fieldLink RX5 18 "DeedTortoise$Ways" "whole" "I", .arrayClass .long, .fieldLink RX5 22 "DeedTortoise$Ways" "odds" "[J", .fieldLink RX5 26 "DeedTortoise$Ways" "after" "[J", .fieldLink RX5 29 "DeedTortoise$Ways" "all" "J", .classLink RX5 33 RX0, .instantiable RX0 2, .initialized RX0, .fieldLink RX5 36 "DeedTortoise$Ways" "step" "LDeedTortoise$Fraction;", .instanceMethod yX0_init, .code yX0_init cX0_init 1 none, .methodLink RX0 1 objectInit, .fieldLink RX0 7 "DeedTortoise$Fraction" "above" "J", .fieldLink RX0 13 "DeedTortoise$Fraction" "below" "J"] ++ wsX50 ++ wsX00)
def wsX5_learn_r1 : List Cond := [Cond.fieldLink RX5 18 "DeedTortoise$Ways" "whole" "I", Cond.fieldLink RX5 9 "DeedTortoise$Ways" "on" "[I", Cond.fieldLink RX5 15 "DeedTortoise$Ways" "back" "[I", Cond.methodLink RX5 40 yX1_onFrom, Cond.instanceMethod yX1_onFrom, Cond.selects RX1 yX1_onFrom yX1_onFrom, Cond.initialized RX1, Cond.code yX1_onFrom cX1_onFrom 3 (some .int), Cond.fieldLink RX1 18 "DeedTortoise$Land" "now" "LDeedTortoise$Moment;", Cond.fieldLink RX1 42 "DeedTortoise$Moment" "food" "[I", Cond.fieldLink RX1 9 "DeedTortoise$Land" "kind" "[I", Cond.methodLink RX1 52 Lib.Math.max.name, Cond.static Lib.Math.max.name, Cond.initialized "java/lang/Math", Cond.code Lib.Math.max.name Lib.Math.max.code 2 (some .int), Cond.methodLink RX1 45 yX1_onFromClover, Cond.static yX1_onFromClover, Cond.code yX1_onFromClover cX1_onFromClover 1 (some .int), Cond.methodLink RX1 49 yX1_onFromStubble, Cond.static yX1_onFromStubble, Cond.code yX1_onFromStubble cX1_onFromStubble 1 (some .int), Cond.methodLink RX5 46 yX1_backFrom, Cond.instanceMethod yX1_backFrom, Cond.selects RX1 yX1_backFrom yX1_backFrom]
def wsX5_learn_r2 : List Cond := [Cond.code yX1_backFrom cX1_backFrom 2 (some .int), Cond.fieldLink RX1 58 "DeedTortoise$Moment" "hedge" "[I", Cond.methodLink RX1 64 Lib.Math.min.name, Cond.static Lib.Math.min.name, Cond.code Lib.Math.min.name Lib.Math.min.code 2 (some .int), Cond.methodLink RX1 61 yX1_onFrom]
def wsX5_learn : List Cond := .code yX5_learn cX5_learn 3 none :: ((wsX5_learn_r1 ++ wsX5_learn_r2) ++ wsX50 ++ wsX10 ++ wsX20)
def wsX5_fallAsleep : List Cond := .code yX5_fallAsleep cX5_fallAsleep 3 none :: ([.fieldLink RX5 18 "DeedTortoise$Ways" "whole" "I", .fieldLink RX5 9 "DeedTortoise$Ways" "on" "[I", .fieldLink RX5 15 "DeedTortoise$Ways" "back" "[I"] ++ wsX50)
def wsX6_isField : List Cond := .code yX6_isField cX6_isField 1 (some .boolean) :: ([.methodLink RX6 61 yX6_isWithin, .static yX6_isWithin, .initialized RX6, .code yX6_isWithin cX6_isWithin 3 (some .boolean)])
def wsX5_weight : List Cond := .code yX5_weight cX5_weight 3 (some .int) :: ([.fieldLink RX5 18 "DeedTortoise$Ways" "whole" "I", .fieldLink RX5 9 "DeedTortoise$Ways" "on" "[I", .fieldLink RX5 15 "DeedTortoise$Ways" "back" "[I", .static yX6_isField, .initialized RX6, .code yX6_isField cX6_isField 1 (some .boolean), .methodLink RX6 61 yX6_isWithin, .static yX6_isWithin, .code yX6_isWithin cX6_isWithin 3 (some .boolean)] ++ wsX50)
def wsX5_spreadOneDay : List Cond := .code yX5_spreadOneDay cX5_spreadOneDay 2 none :: ([.fieldLink RX5 26 "DeedTortoise$Ways" "after" "[J", .fieldLink RX5 22 "DeedTortoise$Ways" "odds" "[J", .fieldLink RX5 9 "DeedTortoise$Ways" "on" "[I", .fieldLink RX5 15 "DeedTortoise$Ways" "back" "[I", .methodLink RX5 64 arraycopyName, .native arraycopyName, .static arraycopyName, .initialized "java/lang/System", .methodLink RX5 60 yX5_weight, .instanceMethod yX5_weight, .selects RX5 yX5_weight yX5_weight, .initialized RX5, .code yX5_weight cX5_weight 3 (some .int), .fieldLink RX5 18 "DeedTortoise$Ways" "whole" "I", .static yX6_isField, .initialized RX6, .code yX6_isField cX6_isField 1 (some .boolean), .methodLink RX6 61 yX6_isWithin, .static yX6_isWithin, .code yX6_isWithin cX6_isWithin 3 (some .boolean)] ++ wsX50)
def wsX6_power : List Cond := .code yX6_power cX6_power 6 (some .long) :: ([])
def wsX5_spread_r1 : List Cond := [Cond.fieldLink RX5 22 "DeedTortoise$Ways" "odds" "[J", Cond.fieldLink RX5 18 "DeedTortoise$Ways" "whole" "I", Cond.fieldLink RX5 29 "DeedTortoise$Ways" "all" "J", Cond.methodLink RX5 53 yX5_spreadOneDay, Cond.instanceMethod yX5_spreadOneDay, Cond.selects RX5 yX5_spreadOneDay yX5_spreadOneDay, Cond.initialized RX5, Cond.code yX5_spreadOneDay cX5_spreadOneDay 2 none, Cond.fieldLink RX5 26 "DeedTortoise$Ways" "after" "[J", Cond.fieldLink RX5 9 "DeedTortoise$Ways" "on" "[I", Cond.fieldLink RX5 15 "DeedTortoise$Ways" "back" "[I", Cond.methodLink RX5 64 arraycopyName, Cond.native arraycopyName, Cond.static arraycopyName, Cond.initialized "java/lang/System", Cond.methodLink RX5 60 yX5_weight, Cond.instanceMethod yX5_weight, Cond.selects RX5 yX5_weight yX5_weight, Cond.code yX5_weight cX5_weight 3 (some .int), Cond.static yX6_isField, Cond.initialized RX6, Cond.code yX6_isField cX6_isField 1 (some .boolean), Cond.methodLink RX6 61 yX6_isWithin, Cond.static yX6_isWithin]
def wsX5_spread_r2 : List Cond := [Cond.code yX6_isWithin cX6_isWithin 3 (some .boolean), Cond.static yX6_power, Cond.code yX6_power cX6_power 6 (some .long)]
def wsX5_spread : List Cond := .code yX5_spread cX5_spread 4 none :: ((wsX5_spread_r1 ++ wsX5_spread_r2) ++ wsX50)
def wsX5_isLikelyBy : List Cond := .code yX5_isLikelyBy cX5_isLikelyBy 3 (some .boolean) :: ([.fieldLink RX5 22 "DeedTortoise$Ways" "odds" "[J", .constantLong RX5 70 (100), .fieldLink RX5 29 "DeedTortoise$Ways" "all" "J"] ++ wsX50)
def wsX5_average : List Cond := .code yX5_average cX5_average 5 none :: ([.fieldLink RX5 36 "DeedTortoise$Ways" "step" "LDeedTortoise$Fraction;", .fieldLink RX5 18 "DeedTortoise$Ways" "whole" "I", .fieldLink RX5 76 "DeedTortoise$Fraction" "below" "J", .fieldLink RX5 15 "DeedTortoise$Ways" "back" "[I", .fieldLink RX5 79 "DeedTortoise$Fraction" "above" "J", .fieldLink RX5 9 "DeedTortoise$Ways" "on" "[I", .methodLink RX5 72 yX0_become, .instanceMethod yX0_become, .selects RX0 yX0_become yX0_become, .initialized RX0, .code yX0_become cX0_become 7 none, .fieldLink RX0 7 "DeedTortoise$Fraction" "above" "J", .fieldLink RX0 13 "DeedTortoise$Fraction" "below" "J", .methodLink RX0 16 yX0_commonDivisor, .static yX0_commonDivisor, .code yX0_commonDivisor cX0_commonDivisor 7 (some .long), .methodLink RX5 82 yX0_add, .instanceMethod yX0_add, .selects RX0 yX0_add yX0_add, .code yX0_add cX0_add 2 none, .methodLink RX0 20 yX0_become] ++ wsX50 ++ wsX00)
def wsX6_init_r1 : List Cond := [Cond.methodLink RX6 1 objectInit, Cond.instanceMethod objectInit, Cond.code objectInit ⟨#[0xb1]⟩ 1 none, Cond.classLink RX6 7 RX1, Cond.instantiable RX1 8, Cond.initialized RX1, Cond.fieldLink RX6 10 "DeedTortoise" "land" "LDeedTortoise$Land;", Cond.fieldLink RX6 16 "DeedTortoise" "kept" "LDeedTortoise$Land;", Cond.fieldLink RX6 19 "DeedTortoise" "trial" "LDeedTortoise$Land;", Cond.classLink RX6 22 RX5, Cond.instantiable RX5 7, Cond.initialized RX5, Cond.fieldLink RX6 25 "DeedTortoise" "ways" "LDeedTortoise$Ways;", Cond.classLink RX6 29 RX0, Cond.instantiable RX0 2, Cond.initialized RX0, Cond.fieldLink RX6 32 "DeedTortoise" "fraction" "LDeedTortoise$Fraction;", Cond.fieldLink RX6 36 "DeedTortoise" "tried" "LDeedTortoise$Fraction;", Cond.classLink RX6 39 RX3, Cond.instantiable RX3 3, Cond.initialized RX3, Cond.fieldLink RX6 42 "DeedTortoise" "reader" "LDeedTortoise$Reader;", Cond.classLink RX6 46 RX4, Cond.fieldLink RX6 48 "DeedTortoise" "sheets" "[LDeedTortoise$Sheet;"]
def wsX6_init_r2 : List Cond := [Cond.instantiable RX4 4, Cond.initialized RX4, Cond.fieldLink RX6 53 "DeedTortoise" "hasKept" "Z", Cond.methodLink RX6 9 yX1_init, Cond.instanceMethod yX1_init, Cond.code yX1_init cX1_init 2 none, Cond.methodLink RX1 3 objectInit, Cond.arrayClass .int, Cond.fieldLink RX1 9 "DeedTortoise$Land" "kind" "[I", Cond.classLink RX1 15 RX2, Cond.instantiable RX2 5, Cond.initialized RX2, Cond.fieldLink RX1 18 "DeedTortoise$Land" "now" "LDeedTortoise$Moment;", Cond.fieldLink RX1 22 "DeedTortoise$Land" "past" "[LDeedTortoise$Moment;", Cond.fieldLink RX1 26 "DeedTortoise$Land" "known" "I", Cond.fieldLink RX1 30 "DeedTortoise$Land" "first" "[I", Cond.fieldLink RX1 33 "DeedTortoise$Land" "last" "[I", Cond.fieldLink RX1 36 "DeedTortoise$Land" "worth" "[I", Cond.fieldLink RX1 39 "DeedTortoise$Land" "claims" "I", Cond.instanceMethod yX2_init, Cond.code yX2_init cX2_init 1 none, Cond.methodLink RX2 3 objectInit, Cond.fieldLink RX2 9 "DeedTortoise$Moment" "spot" "I", Cond.fieldLink RX2 15 "DeedTortoise$Moment" "day" "I"]
def wsX6_init_r3 : List Cond := [Cond.fieldLink RX2 18 "DeedTortoise$Moment" "draw" "I", Cond.fieldLink RX2 21 "DeedTortoise$Moment" "food" "[I", Cond.fieldLink RX2 25 "DeedTortoise$Moment" "hedge" "[I", Cond.instanceMethod yX5_init, Cond.code yX5_init cX5_init 1 none, Cond.methodLink RX5 3 objectInit, Cond.fieldLink RX5 9 "DeedTortoise$Ways" "on" "[I", Cond.fieldLink RX5 15 "DeedTortoise$Ways" "back" "[I", Cond.fieldLink RX5 18 "DeedTortoise$Ways" "whole" "I", Cond.arrayClass .long, Cond.fieldLink RX5 22 "DeedTortoise$Ways" "odds" "[J", Cond.fieldLink RX5 26 "DeedTortoise$Ways" "after" "[J", Cond.fieldLink RX5 29 "DeedTortoise$Ways" "all" "J", Cond.classLink RX5 33 RX0, Cond.fieldLink RX5 36 "DeedTortoise$Ways" "step" "LDeedTortoise$Fraction;", Cond.instanceMethod yX0_init, Cond.code yX0_init cX0_init 1 none, Cond.methodLink RX0 1 objectInit, Cond.fieldLink RX0 7 "DeedTortoise$Fraction" "above" "J", Cond.fieldLink RX0 13 "DeedTortoise$Fraction" "below" "J", Cond.instanceMethod yX3_init, Cond.code yX3_init cX3_init 1 none, Cond.methodLink RX3 3 objectInit, Cond.fieldLink RX3 9 "DeedTortoise$Reader" "letters" "[I"]
def wsX6_init_r4 : List Cond := [Cond.fieldLink RX3 15 "DeedTortoise$Reader" "length" "I", Cond.fieldLink RX3 19 "DeedTortoise$Reader" "place" "I", Cond.instanceMethod yX4_init, Cond.code yX4_init cX4_init 1 none, Cond.methodLink RX4 3 objectInit, Cond.fieldLink RX4 9 "DeedTortoise$Sheet" "isHeld" "Z", Cond.fieldLink RX4 15 "DeedTortoise$Sheet" "lane" "I", Cond.fieldLink RX4 19 "DeedTortoise$Sheet" "length" "I", Cond.fieldLink RX4 22 "DeedTortoise$Sheet" "items" "[J"]
def wsX6_init : List Cond := .code yX6_init cX6_init 2 none :: ((wsX6_init_r1 ++ (wsX6_init_r2 ++ (wsX6_init_r3 ++ wsX6_init_r4))) ++ wsX10 ++ wsX60 ++ wsX50 ++ wsX00 ++ wsX30 ++ wsX40 ++ wsX20)
def wsX6_field : List Cond := .code yX6_field cX6_field 4 (some .int) :: ([.fieldLink RX6 10 "DeedTortoise" "land" "LDeedTortoise$Land;", .fieldLink RX6 65 "DeedTortoise$Land" "kind" "[I", .methodLink RX6 57 yX6_isField, .static yX6_isField, .initialized RX6, .code yX6_isField cX6_isField 1 (some .boolean), .methodLink RX6 61 yX6_isWithin, .static yX6_isWithin, .code yX6_isWithin cX6_isWithin 3 (some .boolean), .methodLink RX6 69 yX1_forget, .instanceMethod yX1_forget, .selects RX1 yX1_forget yX1_forget, .initialized RX1, .code yX1_forget cX1_forget 1 none, .fieldLink RX1 26 "DeedTortoise$Land" "known" "I"] ++ wsX60 ++ wsX10)
def wsX6_claim : List Cond := .code yX6_claim cX6_claim 4 (some .int) :: ([.fieldLink RX6 10 "DeedTortoise" "land" "LDeedTortoise$Land;", .fieldLink RX6 72 "DeedTortoise$Land" "claims" "I", .methodLink RX6 57 yX6_isField, .static yX6_isField, .initialized RX6, .code yX6_isField cX6_isField 1 (some .boolean), .methodLink RX6 61 yX6_isWithin, .static yX6_isWithin, .code yX6_isWithin cX6_isWithin 3 (some .boolean), .methodLink RX6 76 yX1_addClaim, .instanceMethod yX1_addClaim, .selects RX1 yX1_addClaim yX1_addClaim, .initialized RX1, .code yX1_addClaim cX1_addClaim 4 none, .fieldLink RX1 30 "DeedTortoise$Land" "first" "[I", .fieldLink RX1 39 "DeedTortoise$Land" "claims" "I", .fieldLink RX1 33 "DeedTortoise$Land" "last" "[I", .fieldLink RX1 36 "DeedTortoise$Land" "worth" "[I", .methodLink RX6 69 yX1_forget, .instanceMethod yX1_forget, .selects RX1 yX1_forget yX1_forget, .code yX1_forget cX1_forget 1 none, .fieldLink RX1 26 "DeedTortoise$Land" "known" "I"] ++ wsX60 ++ wsX10)
def wsX6_of_r1 : List Cond := [Cond.fieldLink RX6 10 "DeedTortoise" "land" "LDeedTortoise$Land;", Cond.fieldLink RX6 65 "DeedTortoise$Land" "kind" "[I", Cond.fieldLink RX6 80 "DeedTortoise$Land" "now" "LDeedTortoise$Moment;", Cond.fieldLink RX6 84 "DeedTortoise$Moment" "food" "[I", Cond.fieldLink RX6 89 "DeedTortoise$Moment" "hedge" "[I", Cond.methodLink RX6 57 yX6_isField, Cond.static yX6_isField, Cond.initialized RX6, Cond.code yX6_isField cX6_isField 1 (some .boolean), Cond.methodLink RX6 61 yX6_isWithin, Cond.static yX6_isWithin, Cond.code yX6_isWithin cX6_isWithin 3 (some .boolean), Cond.methodLink RX6 92 yX1_onFrom, Cond.instanceMethod yX1_onFrom, Cond.selects RX1 yX1_onFrom yX1_onFrom, Cond.initialized RX1, Cond.code yX1_onFrom cX1_onFrom 3 (some .int), Cond.fieldLink RX1 18 "DeedTortoise$Land" "now" "LDeedTortoise$Moment;", Cond.fieldLink RX1 42 "DeedTortoise$Moment" "food" "[I", Cond.fieldLink RX1 9 "DeedTortoise$Land" "kind" "[I", Cond.methodLink RX1 52 Lib.Math.max.name, Cond.static Lib.Math.max.name, Cond.initialized "java/lang/Math", Cond.code Lib.Math.max.name Lib.Math.max.code 2 (some .int)]
def wsX6_of_r2 : List Cond := [Cond.methodLink RX1 45 yX1_onFromClover, Cond.static yX1_onFromClover, Cond.code yX1_onFromClover cX1_onFromClover 1 (some .int), Cond.methodLink RX1 49 yX1_onFromStubble, Cond.static yX1_onFromStubble, Cond.code yX1_onFromStubble cX1_onFromStubble 1 (some .int), Cond.methodLink RX6 96 yX1_backFrom, Cond.instanceMethod yX1_backFrom, Cond.selects RX1 yX1_backFrom yX1_backFrom, Cond.code yX1_backFrom cX1_backFrom 2 (some .int), Cond.fieldLink RX1 58 "DeedTortoise$Moment" "hedge" "[I", Cond.methodLink RX1 64 Lib.Math.min.name, Cond.static Lib.Math.min.name, Cond.code Lib.Math.min.name Lib.Math.min.code 2 (some .int), Cond.methodLink RX1 61 yX1_onFrom]
def wsX6_of : List Cond := .code yX6_of cX6_of 3 (some .int) :: ((wsX6_of_r1 ++ wsX6_of_r2) ++ wsX60 ++ wsX10 ++ wsX20)
def wsX6_isClaim : List Cond := .code yX6_isClaim cX6_isClaim 2 (some .boolean) :: ([.fieldLink RX6 10 "DeedTortoise" "land" "LDeedTortoise$Land;", .fieldLink RX6 72 "DeedTortoise$Land" "claims" "I", .methodLink RX6 61 yX6_isWithin, .static yX6_isWithin, .initialized RX6, .code yX6_isWithin cX6_isWithin 3 (some .boolean)] ++ wsX60 ++ wsX10)
def wsX6_at : List Cond := .code yX6_at cX6_at 3 (some .int) :: ([.fieldLink RX6 10 "DeedTortoise" "land" "LDeedTortoise$Land;", .fieldLink RX6 102 "DeedTortoise$Land" "first" "[I", .fieldLink RX6 105 "DeedTortoise$Land" "last" "[I", .fieldLink RX6 108 "DeedTortoise$Land" "worth" "[I", .methodLink RX6 99 yX6_isClaim, .instanceMethod yX6_isClaim, .selects RX6 yX6_isClaim yX6_isClaim, .initialized RX6, .code yX6_isClaim cX6_isClaim 2 (some .boolean), .fieldLink RX6 72 "DeedTortoise$Land" "claims" "I", .methodLink RX6 61 yX6_isWithin, .static yX6_isWithin, .code yX6_isWithin cX6_isWithin 3 (some .boolean)] ++ wsX60 ++ wsX10)
def wsX6_type : List Cond := .code yX6_type cX6_type 2 (some .int) :: ([.fieldLink RX6 42 "DeedTortoise" "reader" "LDeedTortoise$Reader;", .fieldLink RX6 114 "DeedTortoise$Reader" "length" "I", .methodLink RX6 61 yX6_isWithin, .static yX6_isWithin, .initialized RX6, .code yX6_isWithin cX6_isWithin 3 (some .boolean), .methodLink RX6 111 yX3_add, .instanceMethod yX3_add, .selects RX3 yX3_add yX3_add, .initialized RX3, .code yX3_add cX3_add 2 (some .boolean), .fieldLink RX3 15 "DeedTortoise$Reader" "length" "I", .fieldLink RX3 9 "DeedTortoise$Reader" "letters" "[I"] ++ wsX60 ++ wsX30)
def wsX6_valley_r1 : List Cond := [Cond.fieldLink RX6 19 "DeedTortoise" "trial" "LDeedTortoise$Land;", Cond.fieldLink RX6 10 "DeedTortoise" "land" "LDeedTortoise$Land;", Cond.fieldLink RX6 42 "DeedTortoise" "reader" "LDeedTortoise$Reader;", Cond.fieldLink RX6 125 "DeedTortoise$Reader" "place" "I", Cond.fieldLink RX6 80 "DeedTortoise$Land" "now" "LDeedTortoise$Moment;", Cond.fieldLink RX6 134 "DeedTortoise$Moment" "day" "I", Cond.fieldLink RX6 72 "DeedTortoise$Land" "claims" "I", Cond.methodLink RX6 117 yX1_takeGround, Cond.instanceMethod yX1_takeGround, Cond.selects RX1 yX1_takeGround yX1_takeGround, Cond.initialized RX1, Cond.code yX1_takeGround cX1_takeGround 2 none, Cond.fieldLink RX1 9 "DeedTortoise$Land" "kind" "[I", Cond.methodLink RX1 95 arraycopyName, Cond.native arraycopyName, Cond.static arraycopyName, Cond.initialized "java/lang/System", Cond.fieldLink RX1 18 "DeedTortoise$Land" "now" "LDeedTortoise$Moment;", Cond.methodLink RX1 87 yX2_take, Cond.instanceMethod yX2_take, Cond.selects RX2 yX2_take yX2_take, Cond.initialized RX2, Cond.code yX2_take cX2_take 2 none, Cond.fieldLink RX2 9 "DeedTortoise$Moment" "spot" "I"]
def wsX6_valley_r2 : List Cond := [Cond.fieldLink RX2 15 "DeedTortoise$Moment" "day" "I", Cond.fieldLink RX2 18 "DeedTortoise$Moment" "draw" "I", Cond.fieldLink RX2 21 "DeedTortoise$Moment" "food" "[I", Cond.methodLink RX2 28 arraycopyName, Cond.fieldLink RX2 25 "DeedTortoise$Moment" "hedge" "[I", Cond.methodLink RX6 121 yX3_readValley, Cond.instanceMethod yX3_readValley, Cond.selects RX3 yX3_readValley yX3_readValley, Cond.initialized RX3, Cond.code yX3_readValley cX3_readValley 4 (some .boolean), Cond.fieldLink RX3 19 "DeedTortoise$Reader" "place" "I", Cond.fieldLink RX3 22 "DeedTortoise$Land" "claims" "I", Cond.fieldLink RX3 35 "DeedTortoise$Land" "now" "LDeedTortoise$Moment;", Cond.fieldLink RX3 39 "DeedTortoise$Moment" "spot" "I", Cond.methodLink RX3 27 yX3_readDigit, Cond.instanceMethod yX3_readDigit, Cond.selects RX3 yX3_readDigit yX3_readDigit, Cond.code yX3_readDigit cX3_readDigit 4 (some .int), Cond.methodLink RX3 52 yX3_look, Cond.instanceMethod yX3_look, Cond.selects RX3 yX3_look yX3_look, Cond.code yX3_look cX3_look 1 (some .int), Cond.fieldLink RX3 15 "DeedTortoise$Reader" "length" "I", Cond.fieldLink RX3 9 "DeedTortoise$Reader" "letters" "[I"]
def wsX6_valley_r3 : List Cond := [Cond.static yX6_isWithin, Cond.initialized RX6, Cond.code yX6_isWithin cX6_isWithin 3 (some .boolean), Cond.methodLink RX3 31 yX3_accepts, Cond.instanceMethod yX3_accepts, Cond.selects RX3 yX3_accepts yX3_accepts, Cond.code yX3_accepts cX3_accepts 2 (some .boolean), Cond.methodLink RX3 44 yX3_readField, Cond.instanceMethod yX3_readField, Cond.selects RX3 yX3_readField yX3_readField, Cond.code yX3_readField cX3_readField 5 (some .boolean), Cond.fieldLink RX3 60 "DeedTortoise$Land" "kind" "[I", Cond.fieldLink RX3 63 "DeedTortoise$Moment" "food" "[I", Cond.methodLink RX3 66 Lib.Math.max.name, Cond.static Lib.Math.max.name, Cond.initialized "java/lang/Math", Cond.code Lib.Math.max.name Lib.Math.max.code 2 (some .int), Cond.fieldLink RX3 71 "DeedTortoise$Moment" "hedge" "[I", Cond.methodLink RX3 56 yX3_kindOf, Cond.static yX3_kindOf, Cond.code yX3_kindOf cX3_kindOf 1 (some .int), Cond.methodLink RX3 48 yX3_readClaims, Cond.instanceMethod yX3_readClaims, Cond.selects RX3 yX3_readClaims yX3_readClaims]
def wsX6_valley_r4 : List Cond := [Cond.code yX3_readClaims cX3_readClaims 3 (some .boolean), Cond.methodLink RX3 74 yX3_readClaim, Cond.instanceMethod yX3_readClaim, Cond.selects RX3 yX3_readClaim yX3_readClaim, Cond.code yX3_readClaim cX3_readClaim 5 (some .boolean), Cond.methodLink RX3 77 yX3_readWorth, Cond.instanceMethod yX3_readWorth, Cond.selects RX3 yX3_readWorth yX3_readWorth, Cond.code yX3_readWorth cX3_readWorth 3 (some .int), Cond.methodLink RX3 80 yX1_addClaim, Cond.instanceMethod yX1_addClaim, Cond.selects RX1 yX1_addClaim yX1_addClaim, Cond.code yX1_addClaim cX1_addClaim 4 none, Cond.fieldLink RX1 30 "DeedTortoise$Land" "first" "[I", Cond.fieldLink RX1 39 "DeedTortoise$Land" "claims" "I", Cond.fieldLink RX1 33 "DeedTortoise$Land" "last" "[I", Cond.fieldLink RX1 36 "DeedTortoise$Land" "worth" "[I", Cond.methodLink RX6 128 yX3_clear, Cond.instanceMethod yX3_clear, Cond.selects RX3 yX3_clear yX3_clear, Cond.code yX3_clear cX3_clear 1 none, Cond.methodLink RX6 131 yX1_takeClaims, Cond.instanceMethod yX1_takeClaims, Cond.selects RX1 yX1_takeClaims yX1_takeClaims]
def wsX6_valley_r5 : List Cond := [Cond.code yX1_takeClaims cX1_takeClaims 2 none, Cond.methodLink RX6 69 yX1_forget, Cond.instanceMethod yX1_forget, Cond.selects RX1 yX1_forget yX1_forget, Cond.code yX1_forget cX1_forget 1 none, Cond.fieldLink RX1 26 "DeedTortoise$Land" "known" "I"]
def wsX6_valley : List Cond := .code yX6_valley cX6_valley 3 (some .int) :: ((wsX6_valley_r1 ++ (wsX6_valley_r2 ++ (wsX6_valley_r3 ++ (wsX6_valley_r4 ++ wsX6_valley_r5)))) ++ wsX60 ++ wsX30 ++ wsX10 ++ wsX20)
def wsX6_sum : List Cond := .code yX6_sum cX6_sum 6 (some .int) :: ([])
def wsX6_count : List Cond := .code yX6_count cX6_count 2 (some .int) :: ([.fieldLink RX6 10 "DeedTortoise" "land" "LDeedTortoise$Land;", .fieldLink RX6 72 "DeedTortoise$Land" "claims" "I", .fieldLink RX6 80 "DeedTortoise$Land" "now" "LDeedTortoise$Moment;", .fieldLink RX6 137 "DeedTortoise$Moment" "spot" "I", .fieldLink RX6 134 "DeedTortoise$Moment" "day" "I", .fieldLink RX6 84 "DeedTortoise$Moment" "food" "[I", .fieldLink RX6 89 "DeedTortoise$Moment" "hedge" "[I", .fieldLink RX6 147 "DeedTortoise$Land" "known" "I", .methodLink RX6 140 yX6_sum, .static yX6_sum, .initialized RX6, .code yX6_sum cX6_sum 6 (some .int), .methodLink RX6 144 yX1_claimsOn, .instanceMethod yX1_claimsOn, .selects RX1 yX1_claimsOn yX1_claimsOn, .initialized RX1, .code yX1_claimsOn cX1_claimsOn 4 (some .int), .fieldLink RX1 39 "DeedTortoise$Land" "claims" "I", .fieldLink RX1 30 "DeedTortoise$Land" "first" "[I", .fieldLink RX1 33 "DeedTortoise$Land" "last" "[I", .static yX6_isWithin, .code yX6_isWithin cX6_isWithin 3 (some .boolean)] ++ wsX60 ++ wsX10 ++ wsX20)
def wsX6_days_r1 : List Cond := [Cond.fieldLink RX6 10 "DeedTortoise" "land" "LDeedTortoise$Land;", Cond.fieldLink RX6 80 "DeedTortoise$Land" "now" "LDeedTortoise$Moment;", Cond.fieldLink RX6 134 "DeedTortoise$Moment" "day" "I", Cond.fieldLink RX6 137 "DeedTortoise$Moment" "spot" "I", Cond.methodLink RX6 61 yX6_isWithin, Cond.static yX6_isWithin, Cond.initialized RX6, Cond.code yX6_isWithin cX6_isWithin 3 (some .boolean), Cond.methodLink RX6 150 yX1_remember, Cond.instanceMethod yX1_remember, Cond.selects RX1 yX1_remember yX1_remember, Cond.initialized RX1, Cond.code yX1_remember cX1_remember 1 none, Cond.fieldLink RX1 26 "DeedTortoise$Land" "known" "I", Cond.fieldLink RX1 22 "DeedTortoise$Land" "past" "[LDeedTortoise$Moment;", Cond.fieldLink RX1 18 "DeedTortoise$Land" "now" "LDeedTortoise$Moment;", Cond.methodLink RX1 84 yX1_loseOldest, Cond.instanceMethod yX1_loseOldest, Cond.selects RX1 yX1_loseOldest yX1_loseOldest, Cond.code yX1_loseOldest cX1_loseOldest 3 none, Cond.methodLink RX1 87 yX2_take, Cond.instanceMethod yX2_take, Cond.selects RX2 yX2_take yX2_take, Cond.initialized RX2]
def wsX6_days_r2 : List Cond := [Cond.code yX2_take cX2_take 2 none, Cond.fieldLink RX2 9 "DeedTortoise$Moment" "spot" "I", Cond.fieldLink RX2 15 "DeedTortoise$Moment" "day" "I", Cond.fieldLink RX2 18 "DeedTortoise$Moment" "draw" "I", Cond.fieldLink RX2 21 "DeedTortoise$Moment" "food" "[I", Cond.methodLink RX2 28 arraycopyName, Cond.native arraycopyName, Cond.static arraycopyName, Cond.initialized "java/lang/System", Cond.fieldLink RX2 25 "DeedTortoise$Moment" "hedge" "[I", Cond.methodLink RX6 153 yX1_passDay, Cond.instanceMethod yX1_passDay, Cond.selects RX1 yX1_passDay yX1_passDay, Cond.code yX1_passDay cX1_passDay 5 none, Cond.fieldLink RX1 67 "DeedTortoise$Moment" "spot" "I", Cond.fieldLink RX1 73 "DeedTortoise$Moment" "draw" "I", Cond.constant RX1 76 (1103515245), Cond.constant RX1 79 (2147483647), Cond.constant RX1 80 (65536), Cond.fieldLink RX1 42 "DeedTortoise$Moment" "food" "[I", Cond.methodLink RX1 52 Lib.Math.max.name, Cond.static Lib.Math.max.name, Cond.initialized "java/lang/Math", Cond.code Lib.Math.max.name Lib.Math.max.code 2 (some .int)]
def wsX6_days_r3 : List Cond := [Cond.fieldLink RX1 81 "DeedTortoise$Moment" "day" "I", Cond.methodLink RX1 61 yX1_onFrom, Cond.instanceMethod yX1_onFrom, Cond.selects RX1 yX1_onFrom yX1_onFrom, Cond.code yX1_onFrom cX1_onFrom 3 (some .int), Cond.fieldLink RX1 9 "DeedTortoise$Land" "kind" "[I", Cond.methodLink RX1 45 yX1_onFromClover, Cond.static yX1_onFromClover, Cond.code yX1_onFromClover cX1_onFromClover 1 (some .int), Cond.methodLink RX1 49 yX1_onFromStubble, Cond.static yX1_onFromStubble, Cond.code yX1_onFromStubble cX1_onFromStubble 1 (some .int), Cond.methodLink RX1 70 yX1_backFrom, Cond.instanceMethod yX1_backFrom, Cond.selects RX1 yX1_backFrom yX1_backFrom, Cond.code yX1_backFrom cX1_backFrom 2 (some .int), Cond.fieldLink RX1 58 "DeedTortoise$Moment" "hedge" "[I", Cond.methodLink RX1 64 Lib.Math.min.name, Cond.static Lib.Math.min.name, Cond.code Lib.Math.min.name Lib.Math.min.code 2 (some .int)]
def wsX6_days : List Cond := .code yX6_days cX6_days 3 (some .int) :: ((wsX6_days_r1 ++ (wsX6_days_r2 ++ wsX6_days_r3)) ++ wsX60 ++ wsX10 ++ wsX20)
def wsX6_carry_r1 : List Cond := [Cond.fieldLink RX6 10 "DeedTortoise" "land" "LDeedTortoise$Land;", Cond.fieldLink RX6 80 "DeedTortoise$Land" "now" "LDeedTortoise$Moment;", Cond.fieldLink RX6 137 "DeedTortoise$Moment" "spot" "I", Cond.methodLink RX6 57 yX6_isField, Cond.static yX6_isField, Cond.initialized RX6, Cond.code yX6_isField cX6_isField 1 (some .boolean), Cond.methodLink RX6 61 yX6_isWithin, Cond.static yX6_isWithin, Cond.code yX6_isWithin cX6_isWithin 3 (some .boolean), Cond.methodLink RX6 150 yX1_remember, Cond.instanceMethod yX1_remember, Cond.selects RX1 yX1_remember yX1_remember, Cond.initialized RX1, Cond.code yX1_remember cX1_remember 1 none, Cond.fieldLink RX1 26 "DeedTortoise$Land" "known" "I", Cond.fieldLink RX1 22 "DeedTortoise$Land" "past" "[LDeedTortoise$Moment;", Cond.fieldLink RX1 18 "DeedTortoise$Land" "now" "LDeedTortoise$Moment;", Cond.methodLink RX1 84 yX1_loseOldest, Cond.instanceMethod yX1_loseOldest, Cond.selects RX1 yX1_loseOldest yX1_loseOldest, Cond.code yX1_loseOldest cX1_loseOldest 3 none, Cond.methodLink RX1 87 yX2_take, Cond.instanceMethod yX2_take]
def wsX6_carry_r2 : List Cond := [Cond.selects RX2 yX2_take yX2_take, Cond.initialized RX2, Cond.code yX2_take cX2_take 2 none, Cond.fieldLink RX2 9 "DeedTortoise$Moment" "spot" "I", Cond.fieldLink RX2 15 "DeedTortoise$Moment" "day" "I", Cond.fieldLink RX2 18 "DeedTortoise$Moment" "draw" "I", Cond.fieldLink RX2 21 "DeedTortoise$Moment" "food" "[I", Cond.methodLink RX2 28 arraycopyName, Cond.native arraycopyName, Cond.static arraycopyName, Cond.initialized "java/lang/System", Cond.fieldLink RX2 25 "DeedTortoise$Moment" "hedge" "[I"]
def wsX6_carry : List Cond := .code yX6_carry cX6_carry 3 (some .int) :: ((wsX6_carry_r1 ++ wsX6_carry_r2) ++ wsX60 ++ wsX10 ++ wsX20)
def wsX6_lettuce_r1 : List Cond := [Cond.fieldLink RX6 10 "DeedTortoise" "land" "LDeedTortoise$Land;", Cond.fieldLink RX6 80 "DeedTortoise$Land" "now" "LDeedTortoise$Moment;", Cond.fieldLink RX6 84 "DeedTortoise$Moment" "food" "[I", Cond.methodLink RX6 156 Lib.Math.min.name, Cond.static Lib.Math.min.name, Cond.initialized "java/lang/Math", Cond.code Lib.Math.min.name Lib.Math.min.code 2 (some .int), Cond.methodLink RX6 57 yX6_isField, Cond.static yX6_isField, Cond.initialized RX6, Cond.code yX6_isField cX6_isField 1 (some .boolean), Cond.methodLink RX6 61 yX6_isWithin, Cond.static yX6_isWithin, Cond.code yX6_isWithin cX6_isWithin 3 (some .boolean), Cond.methodLink RX6 150 yX1_remember, Cond.instanceMethod yX1_remember, Cond.selects RX1 yX1_remember yX1_remember, Cond.initialized RX1, Cond.code yX1_remember cX1_remember 1 none, Cond.fieldLink RX1 26 "DeedTortoise$Land" "known" "I", Cond.fieldLink RX1 22 "DeedTortoise$Land" "past" "[LDeedTortoise$Moment;", Cond.fieldLink RX1 18 "DeedTortoise$Land" "now" "LDeedTortoise$Moment;", Cond.methodLink RX1 84 yX1_loseOldest, Cond.instanceMethod yX1_loseOldest]
def wsX6_lettuce_r2 : List Cond := [Cond.selects RX1 yX1_loseOldest yX1_loseOldest, Cond.code yX1_loseOldest cX1_loseOldest 3 none, Cond.methodLink RX1 87 yX2_take, Cond.instanceMethod yX2_take, Cond.selects RX2 yX2_take yX2_take, Cond.initialized RX2, Cond.code yX2_take cX2_take 2 none, Cond.fieldLink RX2 9 "DeedTortoise$Moment" "spot" "I", Cond.fieldLink RX2 15 "DeedTortoise$Moment" "day" "I", Cond.fieldLink RX2 18 "DeedTortoise$Moment" "draw" "I", Cond.fieldLink RX2 21 "DeedTortoise$Moment" "food" "[I", Cond.methodLink RX2 28 arraycopyName, Cond.native arraycopyName, Cond.static arraycopyName, Cond.initialized "java/lang/System", Cond.fieldLink RX2 25 "DeedTortoise$Moment" "hedge" "[I"]
def wsX6_lettuce : List Cond := .code yX6_lettuce cX6_lettuce 3 (some .int) :: ((wsX6_lettuce_r1 ++ wsX6_lettuce_r2) ++ wsX60 ++ wsX10 ++ wsX20)
def wsX6_lay_r1 : List Cond := [Cond.fieldLink RX6 10 "DeedTortoise" "land" "LDeedTortoise$Land;", Cond.fieldLink RX6 80 "DeedTortoise$Land" "now" "LDeedTortoise$Moment;", Cond.fieldLink RX6 89 "DeedTortoise$Moment" "hedge" "[I", Cond.methodLink RX6 57 yX6_isField, Cond.static yX6_isField, Cond.initialized RX6, Cond.code yX6_isField cX6_isField 1 (some .boolean), Cond.methodLink RX6 61 yX6_isWithin, Cond.static yX6_isWithin, Cond.code yX6_isWithin cX6_isWithin 3 (some .boolean), Cond.methodLink RX6 150 yX1_remember, Cond.instanceMethod yX1_remember, Cond.selects RX1 yX1_remember yX1_remember, Cond.initialized RX1, Cond.code yX1_remember cX1_remember 1 none, Cond.fieldLink RX1 26 "DeedTortoise$Land" "known" "I", Cond.fieldLink RX1 22 "DeedTortoise$Land" "past" "[LDeedTortoise$Moment;", Cond.fieldLink RX1 18 "DeedTortoise$Land" "now" "LDeedTortoise$Moment;", Cond.methodLink RX1 84 yX1_loseOldest, Cond.instanceMethod yX1_loseOldest, Cond.selects RX1 yX1_loseOldest yX1_loseOldest, Cond.code yX1_loseOldest cX1_loseOldest 3 none, Cond.methodLink RX1 87 yX2_take, Cond.instanceMethod yX2_take]
def wsX6_lay_r2 : List Cond := [Cond.selects RX2 yX2_take yX2_take, Cond.initialized RX2, Cond.code yX2_take cX2_take 2 none, Cond.fieldLink RX2 9 "DeedTortoise$Moment" "spot" "I", Cond.fieldLink RX2 15 "DeedTortoise$Moment" "day" "I", Cond.fieldLink RX2 18 "DeedTortoise$Moment" "draw" "I", Cond.fieldLink RX2 21 "DeedTortoise$Moment" "food" "[I", Cond.methodLink RX2 28 arraycopyName, Cond.native arraycopyName, Cond.static arraycopyName, Cond.initialized "java/lang/System", Cond.fieldLink RX2 25 "DeedTortoise$Moment" "hedge" "[I"]
def wsX6_lay : List Cond := .code yX6_lay cX6_lay 4 (some .int) :: ((wsX6_lay_r1 ++ wsX6_lay_r2) ++ wsX60 ++ wsX10 ++ wsX20)
def wsX6_undo : List Cond := .code yX6_undo cX6_undo 1 (some .int) :: ([.fieldLink RX6 10 "DeedTortoise" "land" "LDeedTortoise$Land;", .fieldLink RX6 147 "DeedTortoise$Land" "known" "I", .methodLink RX6 162 yX1_recall, .instanceMethod yX1_recall, .selects RX1 yX1_recall yX1_recall, .initialized RX1, .code yX1_recall cX1_recall 1 none, .fieldLink RX1 26 "DeedTortoise$Land" "known" "I", .fieldLink RX1 18 "DeedTortoise$Land" "now" "LDeedTortoise$Moment;", .fieldLink RX1 22 "DeedTortoise$Land" "past" "[LDeedTortoise$Moment;", .methodLink RX1 87 yX2_take, .instanceMethod yX2_take, .selects RX2 yX2_take yX2_take, .initialized RX2, .code yX2_take cX2_take 2 none, .fieldLink RX2 9 "DeedTortoise$Moment" "spot" "I", .fieldLink RX2 15 "DeedTortoise$Moment" "day" "I", .fieldLink RX2 18 "DeedTortoise$Moment" "draw" "I", .fieldLink RX2 21 "DeedTortoise$Moment" "food" "[I", .methodLink RX2 28 arraycopyName, .native arraycopyName, .static arraycopyName, .initialized "java/lang/System", .fieldLink RX2 25 "DeedTortoise$Moment" "hedge" "[I"] ++ wsX60 ++ wsX10 ++ wsX20)
def wsX6_seed : List Cond := .code yX6_seed cX6_seed 3 (some .int) :: ([.fieldLink RX6 10 "DeedTortoise" "land" "LDeedTortoise$Land;", .fieldLink RX6 80 "DeedTortoise$Land" "now" "LDeedTortoise$Moment;", .fieldLink RX6 165 "DeedTortoise$Moment" "draw" "I"] ++ wsX60 ++ wsX10 ++ wsX20)
def wsX6_isForetold : List Cond := .code yX6_isForetold cX6_isForetold 1 (some .boolean) :: ([.methodLink RX6 61 yX6_isWithin, .static yX6_isWithin, .initialized RX6, .code yX6_isWithin cX6_isWithin 3 (some .boolean)])
def wsX6_foretell_r1 : List Cond := [Cond.fieldLink RX6 25 "DeedTortoise" "ways" "LDeedTortoise$Ways;", Cond.fieldLink RX6 80 "DeedTortoise$Land" "now" "LDeedTortoise$Moment;", Cond.fieldLink RX6 137 "DeedTortoise$Moment" "spot" "I", Cond.methodLink RX6 196 yX5_learn, Cond.instanceMethod yX5_learn, Cond.selects RX5 yX5_learn yX5_learn, Cond.initialized RX5, Cond.code yX5_learn cX5_learn 3 none, Cond.fieldLink RX5 18 "DeedTortoise$Ways" "whole" "I", Cond.fieldLink RX5 9 "DeedTortoise$Ways" "on" "[I", Cond.fieldLink RX5 15 "DeedTortoise$Ways" "back" "[I", Cond.methodLink RX5 40 yX1_onFrom, Cond.instanceMethod yX1_onFrom, Cond.selects RX1 yX1_onFrom yX1_onFrom, Cond.initialized RX1, Cond.code yX1_onFrom cX1_onFrom 3 (some .int), Cond.fieldLink RX1 18 "DeedTortoise$Land" "now" "LDeedTortoise$Moment;", Cond.fieldLink RX1 42 "DeedTortoise$Moment" "food" "[I", Cond.fieldLink RX1 9 "DeedTortoise$Land" "kind" "[I", Cond.methodLink RX1 52 Lib.Math.max.name, Cond.static Lib.Math.max.name, Cond.initialized "java/lang/Math", Cond.code Lib.Math.max.name Lib.Math.max.code 2 (some .int), Cond.methodLink RX1 45 yX1_onFromClover]
def wsX6_foretell_r2 : List Cond := [Cond.static yX1_onFromClover, Cond.code yX1_onFromClover cX1_onFromClover 1 (some .int), Cond.methodLink RX1 49 yX1_onFromStubble, Cond.static yX1_onFromStubble, Cond.code yX1_onFromStubble cX1_onFromStubble 1 (some .int), Cond.methodLink RX5 46 yX1_backFrom, Cond.instanceMethod yX1_backFrom, Cond.selects RX1 yX1_backFrom yX1_backFrom, Cond.code yX1_backFrom cX1_backFrom 2 (some .int), Cond.fieldLink RX1 58 "DeedTortoise$Moment" "hedge" "[I", Cond.methodLink RX1 64 Lib.Math.min.name, Cond.static Lib.Math.min.name, Cond.code Lib.Math.min.name Lib.Math.min.code 2 (some .int), Cond.methodLink RX1 61 yX1_onFrom, Cond.methodLink RX6 218 yX5_spread, Cond.instanceMethod yX5_spread, Cond.selects RX5 yX5_spread yX5_spread, Cond.code yX5_spread cX5_spread 4 none, Cond.fieldLink RX5 22 "DeedTortoise$Ways" "odds" "[J", Cond.fieldLink RX5 29 "DeedTortoise$Ways" "all" "J", Cond.methodLink RX5 53 yX5_spreadOneDay, Cond.instanceMethod yX5_spreadOneDay, Cond.selects RX5 yX5_spreadOneDay yX5_spreadOneDay, Cond.code yX5_spreadOneDay cX5_spreadOneDay 2 none]
def wsX6_foretell_r3 : List Cond := [Cond.fieldLink RX5 26 "DeedTortoise$Ways" "after" "[J", Cond.methodLink RX5 64 arraycopyName, Cond.native arraycopyName, Cond.static arraycopyName, Cond.initialized "java/lang/System", Cond.methodLink RX5 60 yX5_weight, Cond.instanceMethod yX5_weight, Cond.selects RX5 yX5_weight yX5_weight, Cond.code yX5_weight cX5_weight 3 (some .int), Cond.static yX6_isField, Cond.initialized RX6, Cond.code yX6_isField cX6_isField 1 (some .boolean), Cond.methodLink RX6 61 yX6_isWithin, Cond.static yX6_isWithin, Cond.code yX6_isWithin cX6_isWithin 3 (some .boolean), Cond.static yX6_power, Cond.code yX6_power cX6_power 6 (some .long)]
def wsX6_foretell : List Cond := .code yX6_foretell cX6_foretell 3 none :: ((wsX6_foretell_r1 ++ (wsX6_foretell_r2 ++ wsX6_foretell_r3)) ++ wsX60 ++ wsX10 ++ wsX20 ++ wsX50)
def wsX6_chance_r1 : List Cond := [Cond.fieldLink RX6 10 "DeedTortoise" "land" "LDeedTortoise$Land;", Cond.fieldLink RX6 32 "DeedTortoise" "fraction" "LDeedTortoise$Fraction;", Cond.fieldLink RX6 25 "DeedTortoise" "ways" "LDeedTortoise$Ways;", Cond.fieldLink RX6 175 "DeedTortoise$Ways" "odds" "[J", Cond.fieldLink RX6 179 "DeedTortoise$Ways" "all" "J", Cond.methodLink RX6 57 yX6_isField, Cond.static yX6_isField, Cond.initialized RX6, Cond.code yX6_isField cX6_isField 1 (some .boolean), Cond.methodLink RX6 61 yX6_isWithin, Cond.static yX6_isWithin, Cond.code yX6_isWithin cX6_isWithin 3 (some .boolean), Cond.methodLink RX6 168 yX6_isForetold, Cond.static yX6_isForetold, Cond.code yX6_isForetold cX6_isForetold 1 (some .boolean), Cond.methodLink RX6 171 yX6_foretell, Cond.instanceMethod yX6_foretell, Cond.selects RX6 yX6_foretell yX6_foretell, Cond.code yX6_foretell cX6_foretell 3 none, Cond.fieldLink RX6 80 "DeedTortoise$Land" "now" "LDeedTortoise$Moment;", Cond.fieldLink RX6 137 "DeedTortoise$Moment" "spot" "I", Cond.methodLink RX6 196 yX5_learn, Cond.instanceMethod yX5_learn, Cond.selects RX5 yX5_learn yX5_learn]
def wsX6_chance_r2 : List Cond := [Cond.initialized RX5, Cond.code yX5_learn cX5_learn 3 none, Cond.fieldLink RX5 18 "DeedTortoise$Ways" "whole" "I", Cond.fieldLink RX5 9 "DeedTortoise$Ways" "on" "[I", Cond.fieldLink RX5 15 "DeedTortoise$Ways" "back" "[I", Cond.methodLink RX5 40 yX1_onFrom, Cond.instanceMethod yX1_onFrom, Cond.selects RX1 yX1_onFrom yX1_onFrom, Cond.initialized RX1, Cond.code yX1_onFrom cX1_onFrom 3 (some .int), Cond.fieldLink RX1 18 "DeedTortoise$Land" "now" "LDeedTortoise$Moment;", Cond.fieldLink RX1 42 "DeedTortoise$Moment" "food" "[I", Cond.fieldLink RX1 9 "DeedTortoise$Land" "kind" "[I", Cond.methodLink RX1 52 Lib.Math.max.name, Cond.static Lib.Math.max.name, Cond.initialized "java/lang/Math", Cond.code Lib.Math.max.name Lib.Math.max.code 2 (some .int), Cond.methodLink RX1 45 yX1_onFromClover, Cond.static yX1_onFromClover, Cond.code yX1_onFromClover cX1_onFromClover 1 (some .int), Cond.methodLink RX1 49 yX1_onFromStubble, Cond.static yX1_onFromStubble, Cond.code yX1_onFromStubble cX1_onFromStubble 1 (some .int), Cond.methodLink RX5 46 yX1_backFrom]
def wsX6_chance_r3 : List Cond := [Cond.instanceMethod yX1_backFrom, Cond.selects RX1 yX1_backFrom yX1_backFrom, Cond.code yX1_backFrom cX1_backFrom 2 (some .int), Cond.fieldLink RX1 58 "DeedTortoise$Moment" "hedge" "[I", Cond.methodLink RX1 64 Lib.Math.min.name, Cond.static Lib.Math.min.name, Cond.code Lib.Math.min.name Lib.Math.min.code 2 (some .int), Cond.methodLink RX1 61 yX1_onFrom, Cond.methodLink RX6 218 yX5_spread, Cond.instanceMethod yX5_spread, Cond.selects RX5 yX5_spread yX5_spread, Cond.code yX5_spread cX5_spread 4 none, Cond.fieldLink RX5 22 "DeedTortoise$Ways" "odds" "[J", Cond.fieldLink RX5 29 "DeedTortoise$Ways" "all" "J", Cond.methodLink RX5 53 yX5_spreadOneDay, Cond.instanceMethod yX5_spreadOneDay, Cond.selects RX5 yX5_spreadOneDay yX5_spreadOneDay, Cond.code yX5_spreadOneDay cX5_spreadOneDay 2 none, Cond.fieldLink RX5 26 "DeedTortoise$Ways" "after" "[J", Cond.methodLink RX5 64 arraycopyName, Cond.native arraycopyName, Cond.static arraycopyName, Cond.initialized "java/lang/System", Cond.methodLink RX5 60 yX5_weight]
def wsX6_chance_r4 : List Cond := [Cond.instanceMethod yX5_weight, Cond.selects RX5 yX5_weight yX5_weight, Cond.code yX5_weight cX5_weight 3 (some .int), Cond.static yX6_power, Cond.code yX6_power cX6_power 6 (some .long), Cond.methodLink RX6 183 yX0_become, Cond.instanceMethod yX0_become, Cond.selects RX0 yX0_become yX0_become, Cond.initialized RX0, Cond.code yX0_become cX0_become 7 none, Cond.fieldLink RX0 7 "DeedTortoise$Fraction" "above" "J", Cond.fieldLink RX0 13 "DeedTortoise$Fraction" "below" "J", Cond.methodLink RX0 16 yX0_commonDivisor, Cond.static yX0_commonDivisor, Cond.code yX0_commonDivisor cX0_commonDivisor 7 (some .long), Cond.methodLink RX6 187 yX0_told, Cond.instanceMethod yX0_told, Cond.selects RX0 yX0_told yX0_told, Cond.code yX0_told cX0_told 2 (some .long)]
def wsX6_chance : List Cond := .code yX6_chance cX6_chance 4 (some .int) :: ((wsX6_chance_r1 ++ (wsX6_chance_r2 ++ (wsX6_chance_r3 ++ wsX6_chance_r4))) ++ wsX60 ++ wsX50 ++ wsX10 ++ wsX20 ++ wsX00)
def wsX6_likely_r1 : List Cond := [Cond.fieldLink RX6 10 "DeedTortoise" "land" "LDeedTortoise$Land;", Cond.fieldLink RX6 25 "DeedTortoise" "ways" "LDeedTortoise$Ways;", Cond.fieldLink RX6 175 "DeedTortoise$Ways" "odds" "[J", Cond.methodLink RX6 168 yX6_isForetold, Cond.static yX6_isForetold, Cond.initialized RX6, Cond.code yX6_isForetold cX6_isForetold 1 (some .boolean), Cond.methodLink RX6 61 yX6_isWithin, Cond.static yX6_isWithin, Cond.code yX6_isWithin cX6_isWithin 3 (some .boolean), Cond.methodLink RX6 171 yX6_foretell, Cond.instanceMethod yX6_foretell, Cond.selects RX6 yX6_foretell yX6_foretell, Cond.code yX6_foretell cX6_foretell 3 none, Cond.fieldLink RX6 80 "DeedTortoise$Land" "now" "LDeedTortoise$Moment;", Cond.fieldLink RX6 137 "DeedTortoise$Moment" "spot" "I", Cond.methodLink RX6 196 yX5_learn, Cond.instanceMethod yX5_learn, Cond.selects RX5 yX5_learn yX5_learn, Cond.initialized RX5, Cond.code yX5_learn cX5_learn 3 none, Cond.fieldLink RX5 18 "DeedTortoise$Ways" "whole" "I", Cond.fieldLink RX5 9 "DeedTortoise$Ways" "on" "[I", Cond.fieldLink RX5 15 "DeedTortoise$Ways" "back" "[I"]
def wsX6_likely_r2 : List Cond := [Cond.methodLink RX5 40 yX1_onFrom, Cond.instanceMethod yX1_onFrom, Cond.selects RX1 yX1_onFrom yX1_onFrom, Cond.initialized RX1, Cond.code yX1_onFrom cX1_onFrom 3 (some .int), Cond.fieldLink RX1 18 "DeedTortoise$Land" "now" "LDeedTortoise$Moment;", Cond.fieldLink RX1 42 "DeedTortoise$Moment" "food" "[I", Cond.fieldLink RX1 9 "DeedTortoise$Land" "kind" "[I", Cond.methodLink RX1 52 Lib.Math.max.name, Cond.static Lib.Math.max.name, Cond.initialized "java/lang/Math", Cond.code Lib.Math.max.name Lib.Math.max.code 2 (some .int), Cond.methodLink RX1 45 yX1_onFromClover, Cond.static yX1_onFromClover, Cond.code yX1_onFromClover cX1_onFromClover 1 (some .int), Cond.methodLink RX1 49 yX1_onFromStubble, Cond.static yX1_onFromStubble, Cond.code yX1_onFromStubble cX1_onFromStubble 1 (some .int), Cond.methodLink RX5 46 yX1_backFrom, Cond.instanceMethod yX1_backFrom, Cond.selects RX1 yX1_backFrom yX1_backFrom, Cond.code yX1_backFrom cX1_backFrom 2 (some .int), Cond.fieldLink RX1 58 "DeedTortoise$Moment" "hedge" "[I", Cond.methodLink RX1 64 Lib.Math.min.name]
def wsX6_likely_r3 : List Cond := [Cond.static Lib.Math.min.name, Cond.code Lib.Math.min.name Lib.Math.min.code 2 (some .int), Cond.methodLink RX1 61 yX1_onFrom, Cond.methodLink RX6 218 yX5_spread, Cond.instanceMethod yX5_spread, Cond.selects RX5 yX5_spread yX5_spread, Cond.code yX5_spread cX5_spread 4 none, Cond.fieldLink RX5 22 "DeedTortoise$Ways" "odds" "[J", Cond.fieldLink RX5 29 "DeedTortoise$Ways" "all" "J", Cond.methodLink RX5 53 yX5_spreadOneDay, Cond.instanceMethod yX5_spreadOneDay, Cond.selects RX5 yX5_spreadOneDay yX5_spreadOneDay, Cond.code yX5_spreadOneDay cX5_spreadOneDay 2 none, Cond.fieldLink RX5 26 "DeedTortoise$Ways" "after" "[J", Cond.methodLink RX5 64 arraycopyName, Cond.native arraycopyName, Cond.static arraycopyName, Cond.initialized "java/lang/System", Cond.methodLink RX5 60 yX5_weight, Cond.instanceMethod yX5_weight, Cond.selects RX5 yX5_weight yX5_weight, Cond.code yX5_weight cX5_weight 3 (some .int), Cond.static yX6_isField, Cond.code yX6_isField cX6_isField 1 (some .boolean)]
def wsX6_likely_r4 : List Cond := [Cond.static yX6_power, Cond.code yX6_power cX6_power 6 (some .long)]
def wsX6_likely : List Cond := .code yX6_likely cX6_likely 4 (some .int) :: ((wsX6_likely_r1 ++ (wsX6_likely_r2 ++ (wsX6_likely_r3 ++ wsX6_likely_r4))) ++ wsX60 ++ wsX50 ++ wsX10 ++ wsX20)
def wsX6_isAhead : List Cond := .code yX6_isAhead cX6_isAhead 2 (some .boolean) :: ([.fieldLink RX6 10 "DeedTortoise" "land" "LDeedTortoise$Land;", .fieldLink RX6 80 "DeedTortoise$Land" "now" "LDeedTortoise$Moment;", .fieldLink RX6 137 "DeedTortoise$Moment" "spot" "I", .methodLink RX6 61 yX6_isWithin, .static yX6_isWithin, .initialized RX6, .code yX6_isWithin cX6_isWithin 3 (some .boolean)] ++ wsX60 ++ wsX10 ++ wsX20)
def wsX6_mean_r1 : List Cond := [Cond.constantLong RX6 194 (-1), Cond.fieldLink RX6 25 "DeedTortoise" "ways" "LDeedTortoise$Ways;", Cond.fieldLink RX6 10 "DeedTortoise" "land" "LDeedTortoise$Land;", Cond.fieldLink RX6 80 "DeedTortoise$Land" "now" "LDeedTortoise$Moment;", Cond.fieldLink RX6 137 "DeedTortoise$Moment" "spot" "I", Cond.fieldLink RX6 32 "DeedTortoise" "fraction" "LDeedTortoise$Fraction;", Cond.methodLink RX6 191 yX6_isAhead, Cond.instanceMethod yX6_isAhead, Cond.selects RX6 yX6_isAhead yX6_isAhead, Cond.initialized RX6, Cond.code yX6_isAhead cX6_isAhead 2 (some .boolean), Cond.methodLink RX6 61 yX6_isWithin, Cond.static yX6_isWithin, Cond.code yX6_isWithin cX6_isWithin 3 (some .boolean), Cond.methodLink RX6 196 yX5_learn, Cond.instanceMethod yX5_learn, Cond.selects RX5 yX5_learn yX5_learn, Cond.initialized RX5, Cond.code yX5_learn cX5_learn 3 none, Cond.fieldLink RX5 18 "DeedTortoise$Ways" "whole" "I", Cond.fieldLink RX5 9 "DeedTortoise$Ways" "on" "[I", Cond.fieldLink RX5 15 "DeedTortoise$Ways" "back" "[I", Cond.methodLink RX5 40 yX1_onFrom, Cond.instanceMethod yX1_onFrom]
def wsX6_mean_r2 : List Cond := [Cond.selects RX1 yX1_onFrom yX1_onFrom, Cond.initialized RX1, Cond.code yX1_onFrom cX1_onFrom 3 (some .int), Cond.fieldLink RX1 18 "DeedTortoise$Land" "now" "LDeedTortoise$Moment;", Cond.fieldLink RX1 42 "DeedTortoise$Moment" "food" "[I", Cond.fieldLink RX1 9 "DeedTortoise$Land" "kind" "[I", Cond.methodLink RX1 52 Lib.Math.max.name, Cond.static Lib.Math.max.name, Cond.initialized "java/lang/Math", Cond.code Lib.Math.max.name Lib.Math.max.code 2 (some .int), Cond.methodLink RX1 45 yX1_onFromClover, Cond.static yX1_onFromClover, Cond.code yX1_onFromClover cX1_onFromClover 1 (some .int), Cond.methodLink RX1 49 yX1_onFromStubble, Cond.static yX1_onFromStubble, Cond.code yX1_onFromStubble cX1_onFromStubble 1 (some .int), Cond.methodLink RX5 46 yX1_backFrom, Cond.instanceMethod yX1_backFrom, Cond.selects RX1 yX1_backFrom yX1_backFrom, Cond.code yX1_backFrom cX1_backFrom 2 (some .int), Cond.fieldLink RX1 58 "DeedTortoise$Moment" "hedge" "[I", Cond.methodLink RX1 64 Lib.Math.min.name, Cond.static Lib.Math.min.name, Cond.code Lib.Math.min.name Lib.Math.min.code 2 (some .int)]
def wsX6_mean_r3 : List Cond := [Cond.methodLink RX1 61 yX1_onFrom, Cond.methodLink RX6 199 yX5_average, Cond.instanceMethod yX5_average, Cond.selects RX5 yX5_average yX5_average, Cond.code yX5_average cX5_average 5 none, Cond.fieldLink RX5 36 "DeedTortoise$Ways" "step" "LDeedTortoise$Fraction;", Cond.fieldLink RX5 76 "DeedTortoise$Fraction" "below" "J", Cond.fieldLink RX5 79 "DeedTortoise$Fraction" "above" "J", Cond.methodLink RX5 72 yX0_become, Cond.instanceMethod yX0_become, Cond.selects RX0 yX0_become yX0_become, Cond.initialized RX0, Cond.code yX0_become cX0_become 7 none, Cond.fieldLink RX0 7 "DeedTortoise$Fraction" "above" "J", Cond.fieldLink RX0 13 "DeedTortoise$Fraction" "below" "J", Cond.methodLink RX0 16 yX0_commonDivisor, Cond.static yX0_commonDivisor, Cond.code yX0_commonDivisor cX0_commonDivisor 7 (some .long), Cond.methodLink RX5 82 yX0_add, Cond.instanceMethod yX0_add, Cond.selects RX0 yX0_add yX0_add, Cond.code yX0_add cX0_add 2 none, Cond.methodLink RX0 20 yX0_become, Cond.methodLink RX6 187 yX0_told]
def wsX6_mean_r4 : List Cond := [Cond.instanceMethod yX0_told, Cond.selects RX0 yX0_told yX0_told, Cond.code yX0_told cX0_told 2 (some .long)]
def wsX6_mean : List Cond := .code yX6_mean cX6_mean 3 (some .long) :: ((wsX6_mean_r1 ++ (wsX6_mean_r2 ++ (wsX6_mean_r3 ++ wsX6_mean_r4))) ++ wsX60 ++ wsX10 ++ wsX20 ++ wsX50 ++ wsX00)
def wsX6_right_r1 : List Cond := [Cond.fieldLink RX6 10 "DeedTortoise" "land" "LDeedTortoise$Land;", Cond.fieldLink RX6 102 "DeedTortoise$Land" "first" "[I", Cond.fieldLink RX6 105 "DeedTortoise$Land" "last" "[I", Cond.fieldLink RX6 25 "DeedTortoise" "ways" "LDeedTortoise$Ways;", Cond.fieldLink RX6 175 "DeedTortoise$Ways" "odds" "[J", Cond.fieldLink RX6 32 "DeedTortoise" "fraction" "LDeedTortoise$Fraction;", Cond.fieldLink RX6 179 "DeedTortoise$Ways" "all" "J", Cond.fieldLink RX6 108 "DeedTortoise$Land" "worth" "[I", Cond.methodLink RX6 99 yX6_isClaim, Cond.instanceMethod yX6_isClaim, Cond.selects RX6 yX6_isClaim yX6_isClaim, Cond.initialized RX6, Cond.code yX6_isClaim cX6_isClaim 2 (some .boolean), Cond.fieldLink RX6 72 "DeedTortoise$Land" "claims" "I", Cond.methodLink RX6 61 yX6_isWithin, Cond.static yX6_isWithin, Cond.code yX6_isWithin cX6_isWithin 3 (some .boolean), Cond.methodLink RX6 168 yX6_isForetold, Cond.static yX6_isForetold, Cond.code yX6_isForetold cX6_isForetold 1 (some .boolean), Cond.methodLink RX6 171 yX6_foretell, Cond.instanceMethod yX6_foretell, Cond.selects RX6 yX6_foretell yX6_foretell, Cond.code yX6_foretell cX6_foretell 3 none]
def wsX6_right_r2 : List Cond := [Cond.fieldLink RX6 80 "DeedTortoise$Land" "now" "LDeedTortoise$Moment;", Cond.fieldLink RX6 137 "DeedTortoise$Moment" "spot" "I", Cond.methodLink RX6 196 yX5_learn, Cond.instanceMethod yX5_learn, Cond.selects RX5 yX5_learn yX5_learn, Cond.initialized RX5, Cond.code yX5_learn cX5_learn 3 none, Cond.fieldLink RX5 18 "DeedTortoise$Ways" "whole" "I", Cond.fieldLink RX5 9 "DeedTortoise$Ways" "on" "[I", Cond.fieldLink RX5 15 "DeedTortoise$Ways" "back" "[I", Cond.methodLink RX5 40 yX1_onFrom, Cond.instanceMethod yX1_onFrom, Cond.selects RX1 yX1_onFrom yX1_onFrom, Cond.initialized RX1, Cond.code yX1_onFrom cX1_onFrom 3 (some .int), Cond.fieldLink RX1 18 "DeedTortoise$Land" "now" "LDeedTortoise$Moment;", Cond.fieldLink RX1 42 "DeedTortoise$Moment" "food" "[I", Cond.fieldLink RX1 9 "DeedTortoise$Land" "kind" "[I", Cond.methodLink RX1 52 Lib.Math.max.name, Cond.static Lib.Math.max.name, Cond.initialized "java/lang/Math", Cond.code Lib.Math.max.name Lib.Math.max.code 2 (some .int), Cond.methodLink RX1 45 yX1_onFromClover, Cond.static yX1_onFromClover]
def wsX6_right_r3 : List Cond := [Cond.code yX1_onFromClover cX1_onFromClover 1 (some .int), Cond.methodLink RX1 49 yX1_onFromStubble, Cond.static yX1_onFromStubble, Cond.code yX1_onFromStubble cX1_onFromStubble 1 (some .int), Cond.methodLink RX5 46 yX1_backFrom, Cond.instanceMethod yX1_backFrom, Cond.selects RX1 yX1_backFrom yX1_backFrom, Cond.code yX1_backFrom cX1_backFrom 2 (some .int), Cond.fieldLink RX1 58 "DeedTortoise$Moment" "hedge" "[I", Cond.methodLink RX1 64 Lib.Math.min.name, Cond.static Lib.Math.min.name, Cond.code Lib.Math.min.name Lib.Math.min.code 2 (some .int), Cond.methodLink RX1 61 yX1_onFrom, Cond.methodLink RX6 218 yX5_spread, Cond.instanceMethod yX5_spread, Cond.selects RX5 yX5_spread yX5_spread, Cond.code yX5_spread cX5_spread 4 none, Cond.fieldLink RX5 22 "DeedTortoise$Ways" "odds" "[J", Cond.fieldLink RX5 29 "DeedTortoise$Ways" "all" "J", Cond.methodLink RX5 53 yX5_spreadOneDay, Cond.instanceMethod yX5_spreadOneDay, Cond.selects RX5 yX5_spreadOneDay yX5_spreadOneDay, Cond.code yX5_spreadOneDay cX5_spreadOneDay 2 none, Cond.fieldLink RX5 26 "DeedTortoise$Ways" "after" "[J"]
def wsX6_right_r4 : List Cond := [Cond.methodLink RX5 64 arraycopyName, Cond.native arraycopyName, Cond.static arraycopyName, Cond.initialized "java/lang/System", Cond.methodLink RX5 60 yX5_weight, Cond.instanceMethod yX5_weight, Cond.selects RX5 yX5_weight yX5_weight, Cond.code yX5_weight cX5_weight 3 (some .int), Cond.static yX6_isField, Cond.code yX6_isField cX6_isField 1 (some .boolean), Cond.static yX6_power, Cond.code yX6_power cX6_power 6 (some .long), Cond.methodLink RX6 183 yX0_become, Cond.instanceMethod yX0_become, Cond.selects RX0 yX0_become yX0_become, Cond.initialized RX0, Cond.code yX0_become cX0_become 7 none, Cond.fieldLink RX0 7 "DeedTortoise$Fraction" "above" "J", Cond.fieldLink RX0 13 "DeedTortoise$Fraction" "below" "J", Cond.methodLink RX0 16 yX0_commonDivisor, Cond.static yX0_commonDivisor, Cond.code yX0_commonDivisor cX0_commonDivisor 7 (some .long), Cond.methodLink RX6 203 yX0_partOf, Cond.instanceMethod yX0_partOf]
def wsX6_right_r5 : List Cond := [Cond.selects RX0 yX0_partOf yX0_partOf, Cond.code yX0_partOf cX0_partOf 3 (some .long), Cond.methodLink RX6 187 yX0_told, Cond.instanceMethod yX0_told, Cond.selects RX0 yX0_told yX0_told, Cond.code yX0_told cX0_told 2 (some .long)]
def wsX6_right : List Cond := .code yX6_right cX6_right 7 (some .int) :: ((wsX6_right_r1 ++ (wsX6_right_r2 ++ (wsX6_right_r3 ++ (wsX6_right_r4 ++ wsX6_right_r5)))) ++ wsX60 ++ wsX10 ++ wsX50 ++ wsX20 ++ wsX00)
def wsX6_sure_r1 : List Cond := [Cond.fieldLink RX6 10 "DeedTortoise" "land" "LDeedTortoise$Land;", Cond.fieldLink RX6 25 "DeedTortoise" "ways" "LDeedTortoise$Ways;", Cond.fieldLink RX6 175 "DeedTortoise$Ways" "odds" "[J", Cond.methodLink RX6 168 yX6_isForetold, Cond.static yX6_isForetold, Cond.initialized RX6, Cond.code yX6_isForetold cX6_isForetold 1 (some .boolean), Cond.methodLink RX6 61 yX6_isWithin, Cond.static yX6_isWithin, Cond.code yX6_isWithin cX6_isWithin 3 (some .boolean), Cond.methodLink RX6 171 yX6_foretell, Cond.instanceMethod yX6_foretell, Cond.selects RX6 yX6_foretell yX6_foretell, Cond.code yX6_foretell cX6_foretell 3 none, Cond.fieldLink RX6 80 "DeedTortoise$Land" "now" "LDeedTortoise$Moment;", Cond.fieldLink RX6 137 "DeedTortoise$Moment" "spot" "I", Cond.methodLink RX6 196 yX5_learn, Cond.instanceMethod yX5_learn, Cond.selects RX5 yX5_learn yX5_learn, Cond.initialized RX5, Cond.code yX5_learn cX5_learn 3 none, Cond.fieldLink RX5 18 "DeedTortoise$Ways" "whole" "I", Cond.fieldLink RX5 9 "DeedTortoise$Ways" "on" "[I", Cond.fieldLink RX5 15 "DeedTortoise$Ways" "back" "[I"]
def wsX6_sure_r2 : List Cond := [Cond.methodLink RX5 40 yX1_onFrom, Cond.instanceMethod yX1_onFrom, Cond.selects RX1 yX1_onFrom yX1_onFrom, Cond.initialized RX1, Cond.code yX1_onFrom cX1_onFrom 3 (some .int), Cond.fieldLink RX1 18 "DeedTortoise$Land" "now" "LDeedTortoise$Moment;", Cond.fieldLink RX1 42 "DeedTortoise$Moment" "food" "[I", Cond.fieldLink RX1 9 "DeedTortoise$Land" "kind" "[I", Cond.methodLink RX1 52 Lib.Math.max.name, Cond.static Lib.Math.max.name, Cond.initialized "java/lang/Math", Cond.code Lib.Math.max.name Lib.Math.max.code 2 (some .int), Cond.methodLink RX1 45 yX1_onFromClover, Cond.static yX1_onFromClover, Cond.code yX1_onFromClover cX1_onFromClover 1 (some .int), Cond.methodLink RX1 49 yX1_onFromStubble, Cond.static yX1_onFromStubble, Cond.code yX1_onFromStubble cX1_onFromStubble 1 (some .int), Cond.methodLink RX5 46 yX1_backFrom, Cond.instanceMethod yX1_backFrom, Cond.selects RX1 yX1_backFrom yX1_backFrom, Cond.code yX1_backFrom cX1_backFrom 2 (some .int), Cond.fieldLink RX1 58 "DeedTortoise$Moment" "hedge" "[I", Cond.methodLink RX1 64 Lib.Math.min.name]
def wsX6_sure_r3 : List Cond := [Cond.static Lib.Math.min.name, Cond.code Lib.Math.min.name Lib.Math.min.code 2 (some .int), Cond.methodLink RX1 61 yX1_onFrom, Cond.methodLink RX6 218 yX5_spread, Cond.instanceMethod yX5_spread, Cond.selects RX5 yX5_spread yX5_spread, Cond.code yX5_spread cX5_spread 4 none, Cond.fieldLink RX5 22 "DeedTortoise$Ways" "odds" "[J", Cond.fieldLink RX5 29 "DeedTortoise$Ways" "all" "J", Cond.methodLink RX5 53 yX5_spreadOneDay, Cond.instanceMethod yX5_spreadOneDay, Cond.selects RX5 yX5_spreadOneDay yX5_spreadOneDay, Cond.code yX5_spreadOneDay cX5_spreadOneDay 2 none, Cond.fieldLink RX5 26 "DeedTortoise$Ways" "after" "[J", Cond.methodLink RX5 64 arraycopyName, Cond.native arraycopyName, Cond.static arraycopyName, Cond.initialized "java/lang/System", Cond.methodLink RX5 60 yX5_weight, Cond.instanceMethod yX5_weight, Cond.selects RX5 yX5_weight yX5_weight, Cond.code yX5_weight cX5_weight 3 (some .int), Cond.static yX6_isField, Cond.code yX6_isField cX6_isField 1 (some .boolean)]
def wsX6_sure_r4 : List Cond := [Cond.static yX6_power, Cond.code yX6_power cX6_power 6 (some .long)]
def wsX6_sure : List Cond := .code yX6_sure cX6_sure 4 (some .int) :: ((wsX6_sure_r1 ++ (wsX6_sure_r2 ++ (wsX6_sure_r3 ++ wsX6_sure_r4))) ++ wsX60 ++ wsX50 ++ wsX10 ++ wsX20)
def wsX6_hedgeToOpen_r1 : List Cond := [Cond.fieldLink RX6 19 "DeedTortoise" "trial" "LDeedTortoise$Land;", Cond.fieldLink RX6 10 "DeedTortoise" "land" "LDeedTortoise$Land;", Cond.fieldLink RX6 80 "DeedTortoise$Land" "now" "LDeedTortoise$Moment;", Cond.fieldLink RX6 89 "DeedTortoise$Moment" "hedge" "[I", Cond.fieldLink RX6 25 "DeedTortoise" "ways" "LDeedTortoise$Ways;", Cond.fieldLink RX6 137 "DeedTortoise$Moment" "spot" "I", Cond.fieldLink RX6 36 "DeedTortoise" "tried" "LDeedTortoise$Fraction;", Cond.fieldLink RX6 32 "DeedTortoise" "fraction" "LDeedTortoise$Fraction;", Cond.fieldLink RX6 286 "DeedTortoise$Fraction" "above" "J", Cond.fieldLink RX6 289 "DeedTortoise$Fraction" "below" "J", Cond.methodLink RX6 117 yX1_takeGround, Cond.instanceMethod yX1_takeGround, Cond.selects RX1 yX1_takeGround yX1_takeGround, Cond.initialized RX1, Cond.code yX1_takeGround cX1_takeGround 2 none, Cond.fieldLink RX1 9 "DeedTortoise$Land" "kind" "[I", Cond.methodLink RX1 95 arraycopyName, Cond.native arraycopyName, Cond.static arraycopyName, Cond.initialized "java/lang/System", Cond.fieldLink RX1 18 "DeedTortoise$Land" "now" "LDeedTortoise$Moment;", Cond.methodLink RX1 87 yX2_take, Cond.instanceMethod yX2_take, Cond.selects RX2 yX2_take yX2_take]
def wsX6_hedgeToOpen_r2 : List Cond := [Cond.initialized RX2, Cond.code yX2_take cX2_take 2 none, Cond.fieldLink RX2 9 "DeedTortoise$Moment" "spot" "I", Cond.fieldLink RX2 15 "DeedTortoise$Moment" "day" "I", Cond.fieldLink RX2 18 "DeedTortoise$Moment" "draw" "I", Cond.fieldLink RX2 21 "DeedTortoise$Moment" "food" "[I", Cond.methodLink RX2 28 arraycopyName, Cond.fieldLink RX2 25 "DeedTortoise$Moment" "hedge" "[I", Cond.methodLink RX6 196 yX5_learn, Cond.instanceMethod yX5_learn, Cond.selects RX5 yX5_learn yX5_learn, Cond.initialized RX5, Cond.code yX5_learn cX5_learn 3 none, Cond.fieldLink RX5 18 "DeedTortoise$Ways" "whole" "I", Cond.fieldLink RX5 9 "DeedTortoise$Ways" "on" "[I", Cond.fieldLink RX5 15 "DeedTortoise$Ways" "back" "[I", Cond.methodLink RX5 40 yX1_onFrom, Cond.instanceMethod yX1_onFrom, Cond.selects RX1 yX1_onFrom yX1_onFrom, Cond.code yX1_onFrom cX1_onFrom 3 (some .int), Cond.fieldLink RX1 42 "DeedTortoise$Moment" "food" "[I", Cond.methodLink RX1 52 Lib.Math.max.name, Cond.static Lib.Math.max.name, Cond.initialized "java/lang/Math"]
def wsX6_hedgeToOpen_r3 : List Cond := [Cond.code Lib.Math.max.name Lib.Math.max.code 2 (some .int), Cond.methodLink RX1 45 yX1_onFromClover, Cond.static yX1_onFromClover, Cond.code yX1_onFromClover cX1_onFromClover 1 (some .int), Cond.methodLink RX1 49 yX1_onFromStubble, Cond.static yX1_onFromStubble, Cond.code yX1_onFromStubble cX1_onFromStubble 1 (some .int), Cond.methodLink RX5 46 yX1_backFrom, Cond.instanceMethod yX1_backFrom, Cond.selects RX1 yX1_backFrom yX1_backFrom, Cond.code yX1_backFrom cX1_backFrom 2 (some .int), Cond.fieldLink RX1 58 "DeedTortoise$Moment" "hedge" "[I", Cond.methodLink RX1 64 Lib.Math.min.name, Cond.static Lib.Math.min.name, Cond.code Lib.Math.min.name Lib.Math.min.code 2 (some .int), Cond.methodLink RX1 61 yX1_onFrom, Cond.methodLink RX6 199 yX5_average, Cond.instanceMethod yX5_average, Cond.selects RX5 yX5_average yX5_average, Cond.code yX5_average cX5_average 5 none, Cond.fieldLink RX5 36 "DeedTortoise$Ways" "step" "LDeedTortoise$Fraction;", Cond.fieldLink RX5 76 "DeedTortoise$Fraction" "below" "J", Cond.fieldLink RX5 79 "DeedTortoise$Fraction" "above" "J", Cond.methodLink RX5 72 yX0_become]
def wsX6_hedgeToOpen_r4 : List Cond := [Cond.instanceMethod yX0_become, Cond.selects RX0 yX0_become yX0_become, Cond.initialized RX0, Cond.code yX0_become cX0_become 7 none, Cond.fieldLink RX0 7 "DeedTortoise$Fraction" "above" "J", Cond.fieldLink RX0 13 "DeedTortoise$Fraction" "below" "J", Cond.methodLink RX0 16 yX0_commonDivisor, Cond.static yX0_commonDivisor, Cond.code yX0_commonDivisor cX0_commonDivisor 7 (some .long), Cond.methodLink RX5 82 yX0_add, Cond.instanceMethod yX0_add, Cond.selects RX0 yX0_add yX0_add, Cond.code yX0_add cX0_add 2 none, Cond.methodLink RX0 20 yX0_become, Cond.methodLink RX6 282 yX0_isBelow, Cond.instanceMethod yX0_isBelow, Cond.selects RX0 yX0_isBelow yX0_isBelow, Cond.code yX0_isBelow cX0_isBelow 2 (some .boolean), Cond.methodLink RX6 183 yX0_become]
def wsX6_hedgeToOpen : List Cond := .code yX6_hedgeToOpen cX6_hedgeToOpen 4 (some .int) :: ((wsX6_hedgeToOpen_r1 ++ (wsX6_hedgeToOpen_r2 ++ (wsX6_hedgeToOpen_r3 ++ wsX6_hedgeToOpen_r4))) ++ wsX60 ++ wsX10 ++ wsX20 ++ wsX00 ++ wsX50)
def wsX6_down_r1 : List Cond := [Cond.constantLong RX6 194 (-1), Cond.fieldLink RX6 32 "DeedTortoise" "fraction" "LDeedTortoise$Fraction;", Cond.methodLink RX6 191 yX6_isAhead, Cond.instanceMethod yX6_isAhead, Cond.selects RX6 yX6_isAhead yX6_isAhead, Cond.initialized RX6, Cond.code yX6_isAhead cX6_isAhead 2 (some .boolean), Cond.fieldLink RX6 10 "DeedTortoise" "land" "LDeedTortoise$Land;", Cond.fieldLink RX6 80 "DeedTortoise$Land" "now" "LDeedTortoise$Moment;", Cond.fieldLink RX6 137 "DeedTortoise$Moment" "spot" "I", Cond.methodLink RX6 61 yX6_isWithin, Cond.static yX6_isWithin, Cond.code yX6_isWithin cX6_isWithin 3 (some .boolean), Cond.methodLink RX6 207 yX6_hedgeToOpen, Cond.instanceMethod yX6_hedgeToOpen, Cond.selects RX6 yX6_hedgeToOpen yX6_hedgeToOpen, Cond.code yX6_hedgeToOpen cX6_hedgeToOpen 4 (some .int), Cond.fieldLink RX6 19 "DeedTortoise" "trial" "LDeedTortoise$Land;", Cond.fieldLink RX6 89 "DeedTortoise$Moment" "hedge" "[I", Cond.fieldLink RX6 25 "DeedTortoise" "ways" "LDeedTortoise$Ways;", Cond.fieldLink RX6 36 "DeedTortoise" "tried" "LDeedTortoise$Fraction;", Cond.fieldLink RX6 286 "DeedTortoise$Fraction" "above" "J", Cond.fieldLink RX6 289 "DeedTortoise$Fraction" "below" "J", Cond.methodLink RX6 117 yX1_takeGround]
def wsX6_down_r2 : List Cond := [Cond.instanceMethod yX1_takeGround, Cond.selects RX1 yX1_takeGround yX1_takeGround, Cond.initialized RX1, Cond.code yX1_takeGround cX1_takeGround 2 none, Cond.fieldLink RX1 9 "DeedTortoise$Land" "kind" "[I", Cond.methodLink RX1 95 arraycopyName, Cond.native arraycopyName, Cond.static arraycopyName, Cond.initialized "java/lang/System", Cond.fieldLink RX1 18 "DeedTortoise$Land" "now" "LDeedTortoise$Moment;", Cond.methodLink RX1 87 yX2_take, Cond.instanceMethod yX2_take, Cond.selects RX2 yX2_take yX2_take, Cond.initialized RX2, Cond.code yX2_take cX2_take 2 none, Cond.fieldLink RX2 9 "DeedTortoise$Moment" "spot" "I", Cond.fieldLink RX2 15 "DeedTortoise$Moment" "day" "I", Cond.fieldLink RX2 18 "DeedTortoise$Moment" "draw" "I", Cond.fieldLink RX2 21 "DeedTortoise$Moment" "food" "[I", Cond.methodLink RX2 28 arraycopyName, Cond.fieldLink RX2 25 "DeedTortoise$Moment" "hedge" "[I", Cond.methodLink RX6 196 yX5_learn, Cond.instanceMethod yX5_learn, Cond.selects RX5 yX5_learn yX5_learn]
def wsX6_down_r3 : List Cond := [Cond.initialized RX5, Cond.code yX5_learn cX5_learn 3 none, Cond.fieldLink RX5 18 "DeedTortoise$Ways" "whole" "I", Cond.fieldLink RX5 9 "DeedTortoise$Ways" "on" "[I", Cond.fieldLink RX5 15 "DeedTortoise$Ways" "back" "[I", Cond.methodLink RX5 40 yX1_onFrom, Cond.instanceMethod yX1_onFrom, Cond.selects RX1 yX1_onFrom yX1_onFrom, Cond.code yX1_onFrom cX1_onFrom 3 (some .int), Cond.fieldLink RX1 42 "DeedTortoise$Moment" "food" "[I", Cond.methodLink RX1 52 Lib.Math.max.name, Cond.static Lib.Math.max.name, Cond.initialized "java/lang/Math", Cond.code Lib.Math.max.name Lib.Math.max.code 2 (some .int), Cond.methodLink RX1 45 yX1_onFromClover, Cond.static yX1_onFromClover, Cond.code yX1_onFromClover cX1_onFromClover 1 (some .int), Cond.methodLink RX1 49 yX1_onFromStubble, Cond.static yX1_onFromStubble, Cond.code yX1_onFromStubble cX1_onFromStubble 1 (some .int), Cond.methodLink RX5 46 yX1_backFrom, Cond.instanceMethod yX1_backFrom, Cond.selects RX1 yX1_backFrom yX1_backFrom, Cond.code yX1_backFrom cX1_backFrom 2 (some .int)]
def wsX6_down_r4 : List Cond := [Cond.fieldLink RX1 58 "DeedTortoise$Moment" "hedge" "[I", Cond.methodLink RX1 64 Lib.Math.min.name, Cond.static Lib.Math.min.name, Cond.code Lib.Math.min.name Lib.Math.min.code 2 (some .int), Cond.methodLink RX1 61 yX1_onFrom, Cond.methodLink RX6 199 yX5_average, Cond.instanceMethod yX5_average, Cond.selects RX5 yX5_average yX5_average, Cond.code yX5_average cX5_average 5 none, Cond.fieldLink RX5 36 "DeedTortoise$Ways" "step" "LDeedTortoise$Fraction;", Cond.fieldLink RX5 76 "DeedTortoise$Fraction" "below" "J", Cond.fieldLink RX5 79 "DeedTortoise$Fraction" "above" "J", Cond.methodLink RX5 72 yX0_become, Cond.instanceMethod yX0_become, Cond.selects RX0 yX0_become yX0_become, Cond.initialized RX0, Cond.code yX0_become cX0_become 7 none, Cond.fieldLink RX0 7 "DeedTortoise$Fraction" "above" "J", Cond.fieldLink RX0 13 "DeedTortoise$Fraction" "below" "J", Cond.methodLink RX0 16 yX0_commonDivisor, Cond.static yX0_commonDivisor, Cond.code yX0_commonDivisor cX0_commonDivisor 7 (some .long), Cond.methodLink RX5 82 yX0_add, Cond.instanceMethod yX0_add]
def wsX6_down_r5 : List Cond := [Cond.selects RX0 yX0_add yX0_add, Cond.code yX0_add cX0_add 2 none, Cond.methodLink RX0 20 yX0_become, Cond.methodLink RX6 282 yX0_isBelow, Cond.instanceMethod yX0_isBelow, Cond.selects RX0 yX0_isBelow yX0_isBelow, Cond.code yX0_isBelow cX0_isBelow 2 (some .boolean), Cond.methodLink RX6 183 yX0_become, Cond.methodLink RX6 187 yX0_told, Cond.instanceMethod yX0_told, Cond.selects RX0 yX0_told yX0_told, Cond.code yX0_told cX0_told 2 (some .long)]
def wsX6_down : List Cond := .code yX6_down cX6_down 4 (some .long) :: ((wsX6_down_r1 ++ (wsX6_down_r2 ++ (wsX6_down_r3 ++ (wsX6_down_r4 ++ wsX6_down_r5)))) ++ wsX60 ++ wsX10 ++ wsX20 ++ wsX00 ++ wsX50)
def wsX6_keep_r1 : List Cond := [Cond.fieldLink RX6 10 "DeedTortoise" "land" "LDeedTortoise$Land;", Cond.fieldLink RX6 80 "DeedTortoise$Land" "now" "LDeedTortoise$Moment;", Cond.fieldLink RX6 137 "DeedTortoise$Moment" "spot" "I", Cond.fieldLink RX6 19 "DeedTortoise" "trial" "LDeedTortoise$Land;", Cond.fieldLink RX6 84 "DeedTortoise$Moment" "food" "[I", Cond.fieldLink RX6 25 "DeedTortoise" "ways" "LDeedTortoise$Ways;", Cond.methodLink RX6 61 yX6_isWithin, Cond.static yX6_isWithin, Cond.initialized RX6, Cond.code yX6_isWithin cX6_isWithin 3 (some .boolean), Cond.methodLink RX6 117 yX1_takeGround, Cond.instanceMethod yX1_takeGround, Cond.selects RX1 yX1_takeGround yX1_takeGround, Cond.initialized RX1, Cond.code yX1_takeGround cX1_takeGround 2 none, Cond.fieldLink RX1 9 "DeedTortoise$Land" "kind" "[I", Cond.methodLink RX1 95 arraycopyName, Cond.native arraycopyName, Cond.static arraycopyName, Cond.initialized "java/lang/System", Cond.fieldLink RX1 18 "DeedTortoise$Land" "now" "LDeedTortoise$Moment;", Cond.methodLink RX1 87 yX2_take, Cond.instanceMethod yX2_take, Cond.selects RX2 yX2_take yX2_take]
def wsX6_keep_r2 : List Cond := [Cond.initialized RX2, Cond.code yX2_take cX2_take 2 none, Cond.fieldLink RX2 9 "DeedTortoise$Moment" "spot" "I", Cond.fieldLink RX2 15 "DeedTortoise$Moment" "day" "I", Cond.fieldLink RX2 18 "DeedTortoise$Moment" "draw" "I", Cond.fieldLink RX2 21 "DeedTortoise$Moment" "food" "[I", Cond.methodLink RX2 28 arraycopyName, Cond.fieldLink RX2 25 "DeedTortoise$Moment" "hedge" "[I", Cond.methodLink RX6 171 yX6_foretell, Cond.instanceMethod yX6_foretell, Cond.selects RX6 yX6_foretell yX6_foretell, Cond.code yX6_foretell cX6_foretell 3 none, Cond.methodLink RX6 196 yX5_learn, Cond.instanceMethod yX5_learn, Cond.selects RX5 yX5_learn yX5_learn, Cond.initialized RX5, Cond.code yX5_learn cX5_learn 3 none, Cond.fieldLink RX5 18 "DeedTortoise$Ways" "whole" "I", Cond.fieldLink RX5 9 "DeedTortoise$Ways" "on" "[I", Cond.fieldLink RX5 15 "DeedTortoise$Ways" "back" "[I", Cond.methodLink RX5 40 yX1_onFrom, Cond.instanceMethod yX1_onFrom, Cond.selects RX1 yX1_onFrom yX1_onFrom, Cond.code yX1_onFrom cX1_onFrom 3 (some .int)]
def wsX6_keep_r3 : List Cond := [Cond.fieldLink RX1 42 "DeedTortoise$Moment" "food" "[I", Cond.methodLink RX1 52 Lib.Math.max.name, Cond.static Lib.Math.max.name, Cond.initialized "java/lang/Math", Cond.code Lib.Math.max.name Lib.Math.max.code 2 (some .int), Cond.methodLink RX1 45 yX1_onFromClover, Cond.static yX1_onFromClover, Cond.code yX1_onFromClover cX1_onFromClover 1 (some .int), Cond.methodLink RX1 49 yX1_onFromStubble, Cond.static yX1_onFromStubble, Cond.code yX1_onFromStubble cX1_onFromStubble 1 (some .int), Cond.methodLink RX5 46 yX1_backFrom, Cond.instanceMethod yX1_backFrom, Cond.selects RX1 yX1_backFrom yX1_backFrom, Cond.code yX1_backFrom cX1_backFrom 2 (some .int), Cond.fieldLink RX1 58 "DeedTortoise$Moment" "hedge" "[I", Cond.methodLink RX1 64 Lib.Math.min.name, Cond.static Lib.Math.min.name, Cond.code Lib.Math.min.name Lib.Math.min.code 2 (some .int), Cond.methodLink RX1 61 yX1_onFrom, Cond.methodLink RX6 218 yX5_spread, Cond.instanceMethod yX5_spread, Cond.selects RX5 yX5_spread yX5_spread, Cond.code yX5_spread cX5_spread 4 none]
def wsX6_keep_r4 : List Cond := [Cond.fieldLink RX5 22 "DeedTortoise$Ways" "odds" "[J", Cond.fieldLink RX5 29 "DeedTortoise$Ways" "all" "J", Cond.methodLink RX5 53 yX5_spreadOneDay, Cond.instanceMethod yX5_spreadOneDay, Cond.selects RX5 yX5_spreadOneDay yX5_spreadOneDay, Cond.code yX5_spreadOneDay cX5_spreadOneDay 2 none, Cond.fieldLink RX5 26 "DeedTortoise$Ways" "after" "[J", Cond.methodLink RX5 64 arraycopyName, Cond.methodLink RX5 60 yX5_weight, Cond.instanceMethod yX5_weight, Cond.selects RX5 yX5_weight yX5_weight, Cond.code yX5_weight cX5_weight 3 (some .int), Cond.static yX6_isField, Cond.code yX6_isField cX6_isField 1 (some .boolean), Cond.static yX6_power, Cond.code yX6_power cX6_power 6 (some .long), Cond.methodLink RX6 210 yX5_isLikelyBy, Cond.instanceMethod yX5_isLikelyBy, Cond.selects RX5 yX5_isLikelyBy yX5_isLikelyBy, Cond.code yX5_isLikelyBy cX5_isLikelyBy 3 (some .boolean), Cond.constantLong RX5 70 (100)]
def wsX6_keep : List Cond := .code yX6_keep cX6_keep 5 (some .int) :: ((wsX6_keep_r1 ++ (wsX6_keep_r2 ++ (wsX6_keep_r3 ++ wsX6_keep_r4))) ++ wsX60 ++ wsX10 ++ wsX20 ++ wsX50)
def wsX6_early_r1 : List Cond := [Cond.fieldLink RX6 10 "DeedTortoise" "land" "LDeedTortoise$Land;", Cond.fieldLink RX6 25 "DeedTortoise" "ways" "LDeedTortoise$Ways;", Cond.methodLink RX6 57 yX6_isField, Cond.static yX6_isField, Cond.initialized RX6, Cond.code yX6_isField cX6_isField 1 (some .boolean), Cond.methodLink RX6 61 yX6_isWithin, Cond.static yX6_isWithin, Cond.code yX6_isWithin cX6_isWithin 3 (some .boolean), Cond.methodLink RX6 171 yX6_foretell, Cond.instanceMethod yX6_foretell, Cond.selects RX6 yX6_foretell yX6_foretell, Cond.code yX6_foretell cX6_foretell 3 none, Cond.fieldLink RX6 80 "DeedTortoise$Land" "now" "LDeedTortoise$Moment;", Cond.fieldLink RX6 137 "DeedTortoise$Moment" "spot" "I", Cond.methodLink RX6 196 yX5_learn, Cond.instanceMethod yX5_learn, Cond.selects RX5 yX5_learn yX5_learn, Cond.initialized RX5, Cond.code yX5_learn cX5_learn 3 none, Cond.fieldLink RX5 18 "DeedTortoise$Ways" "whole" "I", Cond.fieldLink RX5 9 "DeedTortoise$Ways" "on" "[I", Cond.fieldLink RX5 15 "DeedTortoise$Ways" "back" "[I", Cond.methodLink RX5 40 yX1_onFrom]
def wsX6_early_r2 : List Cond := [Cond.instanceMethod yX1_onFrom, Cond.selects RX1 yX1_onFrom yX1_onFrom, Cond.initialized RX1, Cond.code yX1_onFrom cX1_onFrom 3 (some .int), Cond.fieldLink RX1 18 "DeedTortoise$Land" "now" "LDeedTortoise$Moment;", Cond.fieldLink RX1 42 "DeedTortoise$Moment" "food" "[I", Cond.fieldLink RX1 9 "DeedTortoise$Land" "kind" "[I", Cond.methodLink RX1 52 Lib.Math.max.name, Cond.static Lib.Math.max.name, Cond.initialized "java/lang/Math", Cond.code Lib.Math.max.name Lib.Math.max.code 2 (some .int), Cond.methodLink RX1 45 yX1_onFromClover, Cond.static yX1_onFromClover, Cond.code yX1_onFromClover cX1_onFromClover 1 (some .int), Cond.methodLink RX1 49 yX1_onFromStubble, Cond.static yX1_onFromStubble, Cond.code yX1_onFromStubble cX1_onFromStubble 1 (some .int), Cond.methodLink RX5 46 yX1_backFrom, Cond.instanceMethod yX1_backFrom, Cond.selects RX1 yX1_backFrom yX1_backFrom, Cond.code yX1_backFrom cX1_backFrom 2 (some .int), Cond.fieldLink RX1 58 "DeedTortoise$Moment" "hedge" "[I", Cond.methodLink RX1 64 Lib.Math.min.name, Cond.static Lib.Math.min.name]
def wsX6_early_r3 : List Cond := [Cond.code Lib.Math.min.name Lib.Math.min.code 2 (some .int), Cond.methodLink RX1 61 yX1_onFrom, Cond.methodLink RX6 218 yX5_spread, Cond.instanceMethod yX5_spread, Cond.selects RX5 yX5_spread yX5_spread, Cond.code yX5_spread cX5_spread 4 none, Cond.fieldLink RX5 22 "DeedTortoise$Ways" "odds" "[J", Cond.fieldLink RX5 29 "DeedTortoise$Ways" "all" "J", Cond.methodLink RX5 53 yX5_spreadOneDay, Cond.instanceMethod yX5_spreadOneDay, Cond.selects RX5 yX5_spreadOneDay yX5_spreadOneDay, Cond.code yX5_spreadOneDay cX5_spreadOneDay 2 none, Cond.fieldLink RX5 26 "DeedTortoise$Ways" "after" "[J", Cond.methodLink RX5 64 arraycopyName, Cond.native arraycopyName, Cond.static arraycopyName, Cond.initialized "java/lang/System", Cond.methodLink RX5 60 yX5_weight, Cond.instanceMethod yX5_weight, Cond.selects RX5 yX5_weight yX5_weight, Cond.code yX5_weight cX5_weight 3 (some .int), Cond.static yX6_power, Cond.code yX6_power cX6_power 6 (some .long), Cond.methodLink RX6 210 yX5_isLikelyBy]
def wsX6_early_r4 : List Cond := [Cond.instanceMethod yX5_isLikelyBy, Cond.selects RX5 yX5_isLikelyBy yX5_isLikelyBy, Cond.code yX5_isLikelyBy cX5_isLikelyBy 3 (some .boolean), Cond.constantLong RX5 70 (100)]
def wsX6_early : List Cond := .code yX6_early cX6_early 4 (some .int) :: ((wsX6_early_r1 ++ (wsX6_early_r2 ++ (wsX6_early_r3 ++ wsX6_early_r4))) ++ wsX60 ++ wsX10 ++ wsX20 ++ wsX50)
def wsX6_next_r1 : List Cond := [Cond.fieldLink RX6 19 "DeedTortoise" "trial" "LDeedTortoise$Land;", Cond.fieldLink RX6 10 "DeedTortoise" "land" "LDeedTortoise$Land;", Cond.fieldLink RX6 80 "DeedTortoise$Land" "now" "LDeedTortoise$Moment;", Cond.fieldLink RX6 137 "DeedTortoise$Moment" "spot" "I", Cond.methodLink RX6 61 yX6_isWithin, Cond.static yX6_isWithin, Cond.initialized RX6, Cond.code yX6_isWithin cX6_isWithin 3 (some .boolean), Cond.methodLink RX6 117 yX1_takeGround, Cond.instanceMethod yX1_takeGround, Cond.selects RX1 yX1_takeGround yX1_takeGround, Cond.initialized RX1, Cond.code yX1_takeGround cX1_takeGround 2 none, Cond.fieldLink RX1 9 "DeedTortoise$Land" "kind" "[I", Cond.methodLink RX1 95 arraycopyName, Cond.native arraycopyName, Cond.static arraycopyName, Cond.initialized "java/lang/System", Cond.fieldLink RX1 18 "DeedTortoise$Land" "now" "LDeedTortoise$Moment;", Cond.methodLink RX1 87 yX2_take, Cond.instanceMethod yX2_take, Cond.selects RX2 yX2_take yX2_take, Cond.initialized RX2, Cond.code yX2_take cX2_take 2 none]
def wsX6_next_r2 : List Cond := [Cond.fieldLink RX2 9 "DeedTortoise$Moment" "spot" "I", Cond.fieldLink RX2 15 "DeedTortoise$Moment" "day" "I", Cond.fieldLink RX2 18 "DeedTortoise$Moment" "draw" "I", Cond.fieldLink RX2 21 "DeedTortoise$Moment" "food" "[I", Cond.methodLink RX2 28 arraycopyName, Cond.fieldLink RX2 25 "DeedTortoise$Moment" "hedge" "[I", Cond.methodLink RX6 153 yX1_passDay, Cond.instanceMethod yX1_passDay, Cond.selects RX1 yX1_passDay yX1_passDay, Cond.code yX1_passDay cX1_passDay 5 none, Cond.fieldLink RX1 67 "DeedTortoise$Moment" "spot" "I", Cond.fieldLink RX1 73 "DeedTortoise$Moment" "draw" "I", Cond.constant RX1 76 (1103515245), Cond.constant RX1 79 (2147483647), Cond.constant RX1 80 (65536), Cond.fieldLink RX1 42 "DeedTortoise$Moment" "food" "[I", Cond.methodLink RX1 52 Lib.Math.max.name, Cond.static Lib.Math.max.name, Cond.initialized "java/lang/Math", Cond.code Lib.Math.max.name Lib.Math.max.code 2 (some .int), Cond.fieldLink RX1 81 "DeedTortoise$Moment" "day" "I", Cond.methodLink RX1 61 yX1_onFrom, Cond.instanceMethod yX1_onFrom, Cond.selects RX1 yX1_onFrom yX1_onFrom]
def wsX6_next_r3 : List Cond := [Cond.code yX1_onFrom cX1_onFrom 3 (some .int), Cond.methodLink RX1 45 yX1_onFromClover, Cond.static yX1_onFromClover, Cond.code yX1_onFromClover cX1_onFromClover 1 (some .int), Cond.methodLink RX1 49 yX1_onFromStubble, Cond.static yX1_onFromStubble, Cond.code yX1_onFromStubble cX1_onFromStubble 1 (some .int), Cond.methodLink RX1 70 yX1_backFrom, Cond.instanceMethod yX1_backFrom, Cond.selects RX1 yX1_backFrom yX1_backFrom, Cond.code yX1_backFrom cX1_backFrom 2 (some .int), Cond.fieldLink RX1 58 "DeedTortoise$Moment" "hedge" "[I", Cond.methodLink RX1 64 Lib.Math.min.name, Cond.static Lib.Math.min.name, Cond.code Lib.Math.min.name Lib.Math.min.code 2 (some .int)]
def wsX6_next : List Cond := .code yX6_next cX6_next 3 (some .int) :: ((wsX6_next_r1 ++ (wsX6_next_r2 ++ wsX6_next_r3)) ++ wsX60 ++ wsX10 ++ wsX20)
def wsX6_winter_r1 : List Cond := [Cond.fieldLink RX6 25 "DeedTortoise" "ways" "LDeedTortoise$Ways;", Cond.fieldLink RX6 10 "DeedTortoise" "land" "LDeedTortoise$Land;", Cond.fieldLink RX6 80 "DeedTortoise$Land" "now" "LDeedTortoise$Moment;", Cond.fieldLink RX6 137 "DeedTortoise$Moment" "spot" "I", Cond.fieldLink RX6 32 "DeedTortoise" "fraction" "LDeedTortoise$Fraction;", Cond.fieldLink RX6 175 "DeedTortoise$Ways" "odds" "[J", Cond.fieldLink RX6 179 "DeedTortoise$Ways" "all" "J", Cond.methodLink RX6 57 yX6_isField, Cond.static yX6_isField, Cond.initialized RX6, Cond.code yX6_isField cX6_isField 1 (some .boolean), Cond.methodLink RX6 61 yX6_isWithin, Cond.static yX6_isWithin, Cond.code yX6_isWithin cX6_isWithin 3 (some .boolean), Cond.methodLink RX6 196 yX5_learn, Cond.instanceMethod yX5_learn, Cond.selects RX5 yX5_learn yX5_learn, Cond.initialized RX5, Cond.code yX5_learn cX5_learn 3 none, Cond.fieldLink RX5 18 "DeedTortoise$Ways" "whole" "I", Cond.fieldLink RX5 9 "DeedTortoise$Ways" "on" "[I", Cond.fieldLink RX5 15 "DeedTortoise$Ways" "back" "[I", Cond.methodLink RX5 40 yX1_onFrom, Cond.instanceMethod yX1_onFrom]
def wsX6_winter_r2 : List Cond := [Cond.selects RX1 yX1_onFrom yX1_onFrom, Cond.initialized RX1, Cond.code yX1_onFrom cX1_onFrom 3 (some .int), Cond.fieldLink RX1 18 "DeedTortoise$Land" "now" "LDeedTortoise$Moment;", Cond.fieldLink RX1 42 "DeedTortoise$Moment" "food" "[I", Cond.fieldLink RX1 9 "DeedTortoise$Land" "kind" "[I", Cond.methodLink RX1 52 Lib.Math.max.name, Cond.static Lib.Math.max.name, Cond.initialized "java/lang/Math", Cond.code Lib.Math.max.name Lib.Math.max.code 2 (some .int), Cond.methodLink RX1 45 yX1_onFromClover, Cond.static yX1_onFromClover, Cond.code yX1_onFromClover cX1_onFromClover 1 (some .int), Cond.methodLink RX1 49 yX1_onFromStubble, Cond.static yX1_onFromStubble, Cond.code yX1_onFromStubble cX1_onFromStubble 1 (some .int), Cond.methodLink RX5 46 yX1_backFrom, Cond.instanceMethod yX1_backFrom, Cond.selects RX1 yX1_backFrom yX1_backFrom, Cond.code yX1_backFrom cX1_backFrom 2 (some .int), Cond.fieldLink RX1 58 "DeedTortoise$Moment" "hedge" "[I", Cond.methodLink RX1 64 Lib.Math.min.name, Cond.static Lib.Math.min.name, Cond.code Lib.Math.min.name Lib.Math.min.code 2 (some .int)]
def wsX6_winter_r3 : List Cond := [Cond.methodLink RX1 61 yX1_onFrom, Cond.methodLink RX6 214 yX5_fallAsleep, Cond.instanceMethod yX5_fallAsleep, Cond.selects RX5 yX5_fallAsleep yX5_fallAsleep, Cond.code yX5_fallAsleep cX5_fallAsleep 3 none, Cond.methodLink RX6 218 yX5_spread, Cond.instanceMethod yX5_spread, Cond.selects RX5 yX5_spread yX5_spread, Cond.code yX5_spread cX5_spread 4 none, Cond.fieldLink RX5 22 "DeedTortoise$Ways" "odds" "[J", Cond.fieldLink RX5 29 "DeedTortoise$Ways" "all" "J", Cond.methodLink RX5 53 yX5_spreadOneDay, Cond.instanceMethod yX5_spreadOneDay, Cond.selects RX5 yX5_spreadOneDay yX5_spreadOneDay, Cond.code yX5_spreadOneDay cX5_spreadOneDay 2 none, Cond.fieldLink RX5 26 "DeedTortoise$Ways" "after" "[J", Cond.methodLink RX5 64 arraycopyName, Cond.native arraycopyName, Cond.static arraycopyName, Cond.initialized "java/lang/System", Cond.methodLink RX5 60 yX5_weight, Cond.instanceMethod yX5_weight, Cond.selects RX5 yX5_weight yX5_weight, Cond.code yX5_weight cX5_weight 3 (some .int)]
def wsX6_winter_r4 : List Cond := [Cond.static yX6_power, Cond.code yX6_power cX6_power 6 (some .long), Cond.methodLink RX6 183 yX0_become, Cond.instanceMethod yX0_become, Cond.selects RX0 yX0_become yX0_become, Cond.initialized RX0, Cond.code yX0_become cX0_become 7 none, Cond.fieldLink RX0 7 "DeedTortoise$Fraction" "above" "J", Cond.fieldLink RX0 13 "DeedTortoise$Fraction" "below" "J", Cond.methodLink RX0 16 yX0_commonDivisor, Cond.static yX0_commonDivisor, Cond.code yX0_commonDivisor cX0_commonDivisor 7 (some .long), Cond.methodLink RX6 187 yX0_told, Cond.instanceMethod yX0_told, Cond.selects RX0 yX0_told yX0_told, Cond.code yX0_told cX0_told 2 (some .long)]
def wsX6_winter : List Cond := .code yX6_winter cX6_winter 5 (some .int) :: ((wsX6_winter_r1 ++ (wsX6_winter_r2 ++ (wsX6_winter_r3 ++ wsX6_winter_r4))) ++ wsX60 ++ wsX10 ++ wsX20 ++ wsX50 ++ wsX00)
def wsX6_image_r1 : List Cond := [Cond.fieldLink RX6 16 "DeedTortoise" "kept" "LDeedTortoise$Land;", Cond.fieldLink RX6 10 "DeedTortoise" "land" "LDeedTortoise$Land;", Cond.fieldLink RX6 53 "DeedTortoise" "hasKept" "Z", Cond.methodLink RX6 222 yX1_takeAll, Cond.instanceMethod yX1_takeAll, Cond.selects RX1 yX1_takeAll yX1_takeAll, Cond.initialized RX1, Cond.code yX1_takeAll cX1_takeAll 3 none, Cond.fieldLink RX1 26 "DeedTortoise$Land" "known" "I", Cond.fieldLink RX1 22 "DeedTortoise$Land" "past" "[LDeedTortoise$Moment;", Cond.methodLink RX1 101 yX1_takeGround, Cond.instanceMethod yX1_takeGround, Cond.selects RX1 yX1_takeGround yX1_takeGround, Cond.code yX1_takeGround cX1_takeGround 2 none, Cond.fieldLink RX1 9 "DeedTortoise$Land" "kind" "[I", Cond.methodLink RX1 95 arraycopyName, Cond.native arraycopyName, Cond.static arraycopyName, Cond.initialized "java/lang/System", Cond.fieldLink RX1 18 "DeedTortoise$Land" "now" "LDeedTortoise$Moment;", Cond.methodLink RX1 87 yX2_take, Cond.instanceMethod yX2_take, Cond.selects RX2 yX2_take yX2_take, Cond.initialized RX2]
def wsX6_image_r2 : List Cond := [Cond.code yX2_take cX2_take 2 none, Cond.fieldLink RX2 9 "DeedTortoise$Moment" "spot" "I", Cond.fieldLink RX2 15 "DeedTortoise$Moment" "day" "I", Cond.fieldLink RX2 18 "DeedTortoise$Moment" "draw" "I", Cond.fieldLink RX2 21 "DeedTortoise$Moment" "food" "[I", Cond.methodLink RX2 28 arraycopyName, Cond.fieldLink RX2 25 "DeedTortoise$Moment" "hedge" "[I", Cond.methodLink RX1 105 yX1_takeClaims, Cond.instanceMethod yX1_takeClaims, Cond.selects RX1 yX1_takeClaims yX1_takeClaims, Cond.code yX1_takeClaims cX1_takeClaims 2 none, Cond.fieldLink RX1 30 "DeedTortoise$Land" "first" "[I", Cond.fieldLink RX1 33 "DeedTortoise$Land" "last" "[I", Cond.fieldLink RX1 36 "DeedTortoise$Land" "worth" "[I", Cond.fieldLink RX1 39 "DeedTortoise$Land" "claims" "I"]
def wsX6_image : List Cond := .code yX6_image cX6_image 1 (some .int) :: ((wsX6_image_r1 ++ wsX6_image_r2) ++ wsX60 ++ wsX10 ++ wsX20)
def wsX6_restore_r1 : List Cond := [Cond.fieldLink RX6 53 "DeedTortoise" "hasKept" "Z", Cond.fieldLink RX6 10 "DeedTortoise" "land" "LDeedTortoise$Land;", Cond.fieldLink RX6 16 "DeedTortoise" "kept" "LDeedTortoise$Land;", Cond.methodLink RX6 222 yX1_takeAll, Cond.instanceMethod yX1_takeAll, Cond.selects RX1 yX1_takeAll yX1_takeAll, Cond.initialized RX1, Cond.code yX1_takeAll cX1_takeAll 3 none, Cond.fieldLink RX1 26 "DeedTortoise$Land" "known" "I", Cond.fieldLink RX1 22 "DeedTortoise$Land" "past" "[LDeedTortoise$Moment;", Cond.methodLink RX1 101 yX1_takeGround, Cond.instanceMethod yX1_takeGround, Cond.selects RX1 yX1_takeGround yX1_takeGround, Cond.code yX1_takeGround cX1_takeGround 2 none, Cond.fieldLink RX1 9 "DeedTortoise$Land" "kind" "[I", Cond.methodLink RX1 95 arraycopyName, Cond.native arraycopyName, Cond.static arraycopyName, Cond.initialized "java/lang/System", Cond.fieldLink RX1 18 "DeedTortoise$Land" "now" "LDeedTortoise$Moment;", Cond.methodLink RX1 87 yX2_take, Cond.instanceMethod yX2_take, Cond.selects RX2 yX2_take yX2_take, Cond.initialized RX2]
def wsX6_restore_r2 : List Cond := [Cond.code yX2_take cX2_take 2 none, Cond.fieldLink RX2 9 "DeedTortoise$Moment" "spot" "I", Cond.fieldLink RX2 15 "DeedTortoise$Moment" "day" "I", Cond.fieldLink RX2 18 "DeedTortoise$Moment" "draw" "I", Cond.fieldLink RX2 21 "DeedTortoise$Moment" "food" "[I", Cond.methodLink RX2 28 arraycopyName, Cond.fieldLink RX2 25 "DeedTortoise$Moment" "hedge" "[I", Cond.methodLink RX1 105 yX1_takeClaims, Cond.instanceMethod yX1_takeClaims, Cond.selects RX1 yX1_takeClaims yX1_takeClaims, Cond.code yX1_takeClaims cX1_takeClaims 2 none, Cond.fieldLink RX1 30 "DeedTortoise$Land" "first" "[I", Cond.fieldLink RX1 33 "DeedTortoise$Land" "last" "[I", Cond.fieldLink RX1 36 "DeedTortoise$Land" "worth" "[I", Cond.fieldLink RX1 39 "DeedTortoise$Land" "claims" "I"]
def wsX6_restore : List Cond := .code yX6_restore cX6_restore 1 (some .int) :: ((wsX6_restore_r1 ++ wsX6_restore_r2) ++ wsX60 ++ wsX10 ++ wsX20)
def wsX6_isSheet : List Cond := .code yX6_isSheet cX6_isSheet 1 (some .boolean) :: ([.methodLink RX6 61 yX6_isWithin, .static yX6_isWithin, .initialized RX6, .code yX6_isWithin cX6_isWithin 3 (some .boolean)])
def wsX6_isLane : List Cond := .code yX6_isLane cX6_isLane 1 (some .boolean) :: ([.methodLink RX6 61 yX6_isWithin, .static yX6_isWithin, .initialized RX6, .code yX6_isWithin cX6_isWithin 3 (some .boolean)])
def wsX6_weightOf : List Cond := .code yX6_weightOf cX6_weightOf 10 (some .long) :: ([.fieldLink RX6 25 "DeedTortoise" "ways" "LDeedTortoise$Ways;", .methodLink RX6 292 yX4_fieldAt, .instanceMethod yX4_fieldAt, .selects RX4 yX4_fieldAt yX4_fieldAt, .initialized RX4, .code yX4_fieldAt cX4_fieldAt 4 (some .int), .fieldLink RX4 22 "DeedTortoise$Sheet" "items" "[J", .constantLong RX4 30 (6), .methodLink RX6 295 yX5_weight, .instanceMethod yX5_weight, .selects RX5 yX5_weight yX5_weight, .initialized RX5, .code yX5_weight cX5_weight 3 (some .int), .fieldLink RX5 18 "DeedTortoise$Ways" "whole" "I", .fieldLink RX5 9 "DeedTortoise$Ways" "on" "[I", .fieldLink RX5 15 "DeedTortoise$Ways" "back" "[I", .static yX6_isField, .initialized RX6, .code yX6_isField cX6_isField 1 (some .boolean), .methodLink RX6 61 yX6_isWithin, .static yX6_isWithin, .code yX6_isWithin cX6_isWithin 3 (some .boolean)] ++ wsX60 ++ wsX40 ++ wsX50)
def wsX6_fieldsBefore_r1 : List Cond := [Cond.methodLink RX6 239 yX6_weightOf, Cond.instanceMethod yX6_weightOf, Cond.selects RX6 yX6_weightOf yX6_weightOf, Cond.initialized RX6, Cond.code yX6_weightOf cX6_weightOf 10 (some .long), Cond.fieldLink RX6 25 "DeedTortoise" "ways" "LDeedTortoise$Ways;", Cond.methodLink RX6 292 yX4_fieldAt, Cond.instanceMethod yX4_fieldAt, Cond.selects RX4 yX4_fieldAt yX4_fieldAt, Cond.initialized RX4, Cond.code yX4_fieldAt cX4_fieldAt 4 (some .int), Cond.fieldLink RX4 22 "DeedTortoise$Sheet" "items" "[J", Cond.constantLong RX4 30 (6), Cond.methodLink RX6 295 yX5_weight, Cond.instanceMethod yX5_weight, Cond.selects RX5 yX5_weight yX5_weight, Cond.initialized RX5, Cond.code yX5_weight cX5_weight 3 (some .int), Cond.fieldLink RX5 18 "DeedTortoise$Ways" "whole" "I", Cond.fieldLink RX5 9 "DeedTortoise$Ways" "on" "[I", Cond.fieldLink RX5 15 "DeedTortoise$Ways" "back" "[I", Cond.static yX6_isField, Cond.code yX6_isField cX6_isField 1 (some .boolean), Cond.methodLink RX6 61 yX6_isWithin]
def wsX6_fieldsBefore_r2 : List Cond := [Cond.static yX6_isWithin, Cond.code yX6_isWithin cX6_isWithin 3 (some .boolean)]
def wsX6_fieldsBefore : List Cond := .code yX6_fieldsBefore cX6_fieldsBefore 6 (some .int) :: ((wsX6_fieldsBefore_r1 ++ wsX6_fieldsBefore_r2) ++ wsX60 ++ wsX40 ++ wsX50)
def wsX6_seen_r1 : List Cond := [Cond.fieldLink RX6 48 "DeedTortoise" "sheets" "[LDeedTortoise$Sheet;", Cond.fieldLink RX6 25 "DeedTortoise" "ways" "LDeedTortoise$Ways;", Cond.fieldLink RX6 10 "DeedTortoise" "land" "LDeedTortoise$Land;", Cond.fieldLink RX6 32 "DeedTortoise" "fraction" "LDeedTortoise$Fraction;", Cond.fieldLink RX6 80 "DeedTortoise$Land" "now" "LDeedTortoise$Moment;", Cond.fieldLink RX6 137 "DeedTortoise$Moment" "spot" "I", Cond.constantLong RX6 243 (10), Cond.methodLink RX6 225 yX6_isSheet, Cond.static yX6_isSheet, Cond.initialized RX6, Cond.code yX6_isSheet cX6_isSheet 1 (some .boolean), Cond.methodLink RX6 61 yX6_isWithin, Cond.static yX6_isWithin, Cond.code yX6_isWithin cX6_isWithin 3 (some .boolean), Cond.methodLink RX6 228 yX6_isLane, Cond.static yX6_isLane, Cond.code yX6_isLane cX6_isLane 1 (some .boolean), Cond.methodLink RX6 231 yX4_refusal, Cond.instanceMethod yX4_refusal, Cond.selects RX4 yX4_refusal yX4_refusal, Cond.initialized RX4, Cond.code yX4_refusal cX4_refusal 4 (some .int), Cond.fieldLink RX4 9 "DeedTortoise$Sheet" "isHeld" "Z", Cond.fieldLink RX4 15 "DeedTortoise$Sheet" "lane" "I"]
def wsX6_seen_r2 : List Cond := [Cond.methodLink RX4 26 yX4_hasItems, Cond.instanceMethod yX4_hasItems, Cond.selects RX4 yX4_hasItems yX4_hasItems, Cond.code yX4_hasItems cX4_hasItems 3 (some .boolean), Cond.fieldLink RX4 19 "DeedTortoise$Sheet" "length" "I", Cond.methodLink RX6 196 yX5_learn, Cond.instanceMethod yX5_learn, Cond.selects RX5 yX5_learn yX5_learn, Cond.initialized RX5, Cond.code yX5_learn cX5_learn 3 none, Cond.fieldLink RX5 18 "DeedTortoise$Ways" "whole" "I", Cond.fieldLink RX5 9 "DeedTortoise$Ways" "on" "[I", Cond.fieldLink RX5 15 "DeedTortoise$Ways" "back" "[I", Cond.methodLink RX5 40 yX1_onFrom, Cond.instanceMethod yX1_onFrom, Cond.selects RX1 yX1_onFrom yX1_onFrom, Cond.initialized RX1, Cond.code yX1_onFrom cX1_onFrom 3 (some .int), Cond.fieldLink RX1 18 "DeedTortoise$Land" "now" "LDeedTortoise$Moment;", Cond.fieldLink RX1 42 "DeedTortoise$Moment" "food" "[I", Cond.fieldLink RX1 9 "DeedTortoise$Land" "kind" "[I", Cond.methodLink RX1 52 Lib.Math.max.name, Cond.static Lib.Math.max.name, Cond.initialized "java/lang/Math"]
def wsX6_seen_r3 : List Cond := [Cond.code Lib.Math.max.name Lib.Math.max.code 2 (some .int), Cond.methodLink RX1 45 yX1_onFromClover, Cond.static yX1_onFromClover, Cond.code yX1_onFromClover cX1_onFromClover 1 (some .int), Cond.methodLink RX1 49 yX1_onFromStubble, Cond.static yX1_onFromStubble, Cond.code yX1_onFromStubble cX1_onFromStubble 1 (some .int), Cond.methodLink RX5 46 yX1_backFrom, Cond.instanceMethod yX1_backFrom, Cond.selects RX1 yX1_backFrom yX1_backFrom, Cond.code yX1_backFrom cX1_backFrom 2 (some .int), Cond.fieldLink RX1 58 "DeedTortoise$Moment" "hedge" "[I", Cond.methodLink RX1 64 Lib.Math.min.name, Cond.static Lib.Math.min.name, Cond.code Lib.Math.min.name Lib.Math.min.code 2 (some .int), Cond.methodLink RX1 61 yX1_onFrom, Cond.methodLink RX6 235 yX6_fieldsBefore, Cond.instanceMethod yX6_fieldsBefore, Cond.selects RX6 yX6_fieldsBefore yX6_fieldsBefore, Cond.code yX6_fieldsBefore cX6_fieldsBefore 6 (some .int), Cond.methodLink RX6 239 yX6_weightOf, Cond.instanceMethod yX6_weightOf, Cond.selects RX6 yX6_weightOf yX6_weightOf, Cond.code yX6_weightOf cX6_weightOf 10 (some .long)]
def wsX6_seen_r4 : List Cond := [Cond.methodLink RX6 292 yX4_fieldAt, Cond.instanceMethod yX4_fieldAt, Cond.selects RX4 yX4_fieldAt yX4_fieldAt, Cond.code yX4_fieldAt cX4_fieldAt 4 (some .int), Cond.fieldLink RX4 22 "DeedTortoise$Sheet" "items" "[J", Cond.constantLong RX4 30 (6), Cond.methodLink RX6 295 yX5_weight, Cond.instanceMethod yX5_weight, Cond.selects RX5 yX5_weight yX5_weight, Cond.code yX5_weight cX5_weight 3 (some .int), Cond.static yX6_isField, Cond.code yX6_isField cX6_isField 1 (some .boolean), Cond.methodLink RX6 245 yX6_power, Cond.static yX6_power, Cond.code yX6_power cX6_power 6 (some .long), Cond.methodLink RX6 183 yX0_become, Cond.instanceMethod yX0_become, Cond.selects RX0 yX0_become yX0_become, Cond.initialized RX0, Cond.code yX0_become cX0_become 7 none, Cond.fieldLink RX0 7 "DeedTortoise$Fraction" "above" "J", Cond.fieldLink RX0 13 "DeedTortoise$Fraction" "below" "J", Cond.methodLink RX0 16 yX0_commonDivisor, Cond.static yX0_commonDivisor]
def wsX6_seen_r5 : List Cond := [Cond.code yX0_commonDivisor cX0_commonDivisor 7 (some .long), Cond.methodLink RX6 187 yX0_told, Cond.instanceMethod yX0_told, Cond.selects RX0 yX0_told yX0_told, Cond.code yX0_told cX0_told 2 (some .long)]
def wsX6_seen : List Cond := .code yX6_seen cX6_seen 8 (some .int) :: ((wsX6_seen_r1 ++ (wsX6_seen_r2 ++ (wsX6_seen_r3 ++ (wsX6_seen_r4 ++ wsX6_seen_r5)))) ++ wsX60 ++ wsX10 ++ wsX20 ++ wsX40 ++ wsX50 ++ wsX00)
def wsX6_goesAsTold_r1 : List Cond := [Cond.fieldLink RX6 19 "DeedTortoise" "trial" "LDeedTortoise$Land;", Cond.fieldLink RX6 80 "DeedTortoise$Land" "now" "LDeedTortoise$Moment;", Cond.fieldLink RX6 137 "DeedTortoise$Moment" "spot" "I", Cond.methodLink RX6 153 yX1_passDay, Cond.instanceMethod yX1_passDay, Cond.selects RX1 yX1_passDay yX1_passDay, Cond.initialized RX1, Cond.code yX1_passDay cX1_passDay 5 none, Cond.fieldLink RX1 18 "DeedTortoise$Land" "now" "LDeedTortoise$Moment;", Cond.fieldLink RX1 67 "DeedTortoise$Moment" "spot" "I", Cond.fieldLink RX1 73 "DeedTortoise$Moment" "draw" "I", Cond.constant RX1 76 (1103515245), Cond.constant RX1 79 (2147483647), Cond.constant RX1 80 (65536), Cond.fieldLink RX1 42 "DeedTortoise$Moment" "food" "[I", Cond.methodLink RX1 52 Lib.Math.max.name, Cond.static Lib.Math.max.name, Cond.initialized "java/lang/Math", Cond.code Lib.Math.max.name Lib.Math.max.code 2 (some .int), Cond.fieldLink RX1 81 "DeedTortoise$Moment" "day" "I", Cond.methodLink RX1 61 yX1_onFrom, Cond.instanceMethod yX1_onFrom, Cond.selects RX1 yX1_onFrom yX1_onFrom, Cond.code yX1_onFrom cX1_onFrom 3 (some .int)]
def wsX6_goesAsTold_r2 : List Cond := [Cond.fieldLink RX1 9 "DeedTortoise$Land" "kind" "[I", Cond.methodLink RX1 45 yX1_onFromClover, Cond.static yX1_onFromClover, Cond.code yX1_onFromClover cX1_onFromClover 1 (some .int), Cond.methodLink RX1 49 yX1_onFromStubble, Cond.static yX1_onFromStubble, Cond.code yX1_onFromStubble cX1_onFromStubble 1 (some .int), Cond.methodLink RX1 70 yX1_backFrom, Cond.instanceMethod yX1_backFrom, Cond.selects RX1 yX1_backFrom yX1_backFrom, Cond.code yX1_backFrom cX1_backFrom 2 (some .int), Cond.fieldLink RX1 58 "DeedTortoise$Moment" "hedge" "[I", Cond.methodLink RX1 64 Lib.Math.min.name, Cond.static Lib.Math.min.name, Cond.code Lib.Math.min.name Lib.Math.min.code 2 (some .int), Cond.methodLink RX6 292 yX4_fieldAt, Cond.instanceMethod yX4_fieldAt, Cond.selects RX4 yX4_fieldAt yX4_fieldAt, Cond.initialized RX4, Cond.code yX4_fieldAt cX4_fieldAt 4 (some .int), Cond.fieldLink RX4 22 "DeedTortoise$Sheet" "items" "[J", Cond.constantLong RX4 30 (6)]
def wsX6_goesAsTold : List Cond := .code yX6_goesAsTold cX6_goesAsTold 5 (some .boolean) :: ((wsX6_goesAsTold_r1 ++ wsX6_goesAsTold_r2) ++ wsX60 ++ wsX10 ++ wsX20 ++ wsX40)
def wsX6_kindsFor_r1 : List Cond := [Cond.fieldLink RX6 19 "DeedTortoise" "trial" "LDeedTortoise$Land;", Cond.fieldLink RX6 10 "DeedTortoise" "land" "LDeedTortoise$Land;", Cond.fieldLink RX6 65 "DeedTortoise$Land" "kind" "[I", Cond.methodLink RX6 117 yX1_takeGround, Cond.instanceMethod yX1_takeGround, Cond.selects RX1 yX1_takeGround yX1_takeGround, Cond.initialized RX1, Cond.code yX1_takeGround cX1_takeGround 2 none, Cond.fieldLink RX1 9 "DeedTortoise$Land" "kind" "[I", Cond.methodLink RX1 95 arraycopyName, Cond.native arraycopyName, Cond.static arraycopyName, Cond.initialized "java/lang/System", Cond.fieldLink RX1 18 "DeedTortoise$Land" "now" "LDeedTortoise$Moment;", Cond.methodLink RX1 87 yX2_take, Cond.instanceMethod yX2_take, Cond.selects RX2 yX2_take yX2_take, Cond.initialized RX2, Cond.code yX2_take cX2_take 2 none, Cond.fieldLink RX2 9 "DeedTortoise$Moment" "spot" "I", Cond.fieldLink RX2 15 "DeedTortoise$Moment" "day" "I", Cond.fieldLink RX2 18 "DeedTortoise$Moment" "draw" "I", Cond.fieldLink RX2 21 "DeedTortoise$Moment" "food" "[I", Cond.methodLink RX2 28 arraycopyName]
def wsX6_kindsFor_r2 : List Cond := [Cond.fieldLink RX2 25 "DeedTortoise$Moment" "hedge" "[I", Cond.methodLink RX6 298 yX6_goesAsTold, Cond.instanceMethod yX6_goesAsTold, Cond.selects RX6 yX6_goesAsTold yX6_goesAsTold, Cond.initialized RX6, Cond.code yX6_goesAsTold cX6_goesAsTold 5 (some .boolean), Cond.fieldLink RX6 80 "DeedTortoise$Land" "now" "LDeedTortoise$Moment;", Cond.fieldLink RX6 137 "DeedTortoise$Moment" "spot" "I", Cond.methodLink RX6 153 yX1_passDay, Cond.instanceMethod yX1_passDay, Cond.selects RX1 yX1_passDay yX1_passDay, Cond.code yX1_passDay cX1_passDay 5 none, Cond.fieldLink RX1 67 "DeedTortoise$Moment" "spot" "I", Cond.fieldLink RX1 73 "DeedTortoise$Moment" "draw" "I", Cond.constant RX1 76 (1103515245), Cond.constant RX1 79 (2147483647), Cond.constant RX1 80 (65536), Cond.fieldLink RX1 42 "DeedTortoise$Moment" "food" "[I", Cond.methodLink RX1 52 Lib.Math.max.name, Cond.static Lib.Math.max.name, Cond.initialized "java/lang/Math", Cond.code Lib.Math.max.name Lib.Math.max.code 2 (some .int), Cond.fieldLink RX1 81 "DeedTortoise$Moment" "day" "I", Cond.methodLink RX1 61 yX1_onFrom]
def wsX6_kindsFor_r3 : List Cond := [Cond.instanceMethod yX1_onFrom, Cond.selects RX1 yX1_onFrom yX1_onFrom, Cond.code yX1_onFrom cX1_onFrom 3 (some .int), Cond.methodLink RX1 45 yX1_onFromClover, Cond.static yX1_onFromClover, Cond.code yX1_onFromClover cX1_onFromClover 1 (some .int), Cond.methodLink RX1 49 yX1_onFromStubble, Cond.static yX1_onFromStubble, Cond.code yX1_onFromStubble cX1_onFromStubble 1 (some .int), Cond.methodLink RX1 70 yX1_backFrom, Cond.instanceMethod yX1_backFrom, Cond.selects RX1 yX1_backFrom yX1_backFrom, Cond.code yX1_backFrom cX1_backFrom 2 (some .int), Cond.fieldLink RX1 58 "DeedTortoise$Moment" "hedge" "[I", Cond.methodLink RX1 64 Lib.Math.min.name, Cond.static Lib.Math.min.name, Cond.code Lib.Math.min.name Lib.Math.min.code 2 (some .int), Cond.methodLink RX6 292 yX4_fieldAt, Cond.instanceMethod yX4_fieldAt, Cond.selects RX4 yX4_fieldAt yX4_fieldAt, Cond.initialized RX4, Cond.code yX4_fieldAt cX4_fieldAt 4 (some .int), Cond.fieldLink RX4 22 "DeedTortoise$Sheet" "items" "[J", Cond.constantLong RX4 30 (6)]
def wsX6_kindsFor : List Cond := .code yX6_kindsFor cX6_kindsFor 7 (some .int) :: ((wsX6_kindsFor_r1 ++ (wsX6_kindsFor_r2 ++ wsX6_kindsFor_r3)) ++ wsX60 ++ wsX10 ++ wsX20 ++ wsX40)
def wsX6_foodsFor_r1 : List Cond := [Cond.fieldLink RX6 19 "DeedTortoise" "trial" "LDeedTortoise$Land;", Cond.fieldLink RX6 10 "DeedTortoise" "land" "LDeedTortoise$Land;", Cond.fieldLink RX6 80 "DeedTortoise$Land" "now" "LDeedTortoise$Moment;", Cond.fieldLink RX6 84 "DeedTortoise$Moment" "food" "[I", Cond.methodLink RX6 117 yX1_takeGround, Cond.instanceMethod yX1_takeGround, Cond.selects RX1 yX1_takeGround yX1_takeGround, Cond.initialized RX1, Cond.code yX1_takeGround cX1_takeGround 2 none, Cond.fieldLink RX1 9 "DeedTortoise$Land" "kind" "[I", Cond.methodLink RX1 95 arraycopyName, Cond.native arraycopyName, Cond.static arraycopyName, Cond.initialized "java/lang/System", Cond.fieldLink RX1 18 "DeedTortoise$Land" "now" "LDeedTortoise$Moment;", Cond.methodLink RX1 87 yX2_take, Cond.instanceMethod yX2_take, Cond.selects RX2 yX2_take yX2_take, Cond.initialized RX2, Cond.code yX2_take cX2_take 2 none, Cond.fieldLink RX2 9 "DeedTortoise$Moment" "spot" "I", Cond.fieldLink RX2 15 "DeedTortoise$Moment" "day" "I", Cond.fieldLink RX2 18 "DeedTortoise$Moment" "draw" "I", Cond.fieldLink RX2 21 "DeedTortoise$Moment" "food" "[I"]
def wsX6_foodsFor_r2 : List Cond := [Cond.methodLink RX2 28 arraycopyName, Cond.fieldLink RX2 25 "DeedTortoise$Moment" "hedge" "[I", Cond.methodLink RX6 298 yX6_goesAsTold, Cond.instanceMethod yX6_goesAsTold, Cond.selects RX6 yX6_goesAsTold yX6_goesAsTold, Cond.initialized RX6, Cond.code yX6_goesAsTold cX6_goesAsTold 5 (some .boolean), Cond.fieldLink RX6 137 "DeedTortoise$Moment" "spot" "I", Cond.methodLink RX6 153 yX1_passDay, Cond.instanceMethod yX1_passDay, Cond.selects RX1 yX1_passDay yX1_passDay, Cond.code yX1_passDay cX1_passDay 5 none, Cond.fieldLink RX1 67 "DeedTortoise$Moment" "spot" "I", Cond.fieldLink RX1 73 "DeedTortoise$Moment" "draw" "I", Cond.constant RX1 76 (1103515245), Cond.constant RX1 79 (2147483647), Cond.constant RX1 80 (65536), Cond.fieldLink RX1 42 "DeedTortoise$Moment" "food" "[I", Cond.methodLink RX1 52 Lib.Math.max.name, Cond.static Lib.Math.max.name, Cond.initialized "java/lang/Math", Cond.code Lib.Math.max.name Lib.Math.max.code 2 (some .int), Cond.fieldLink RX1 81 "DeedTortoise$Moment" "day" "I", Cond.methodLink RX1 61 yX1_onFrom]
def wsX6_foodsFor_r3 : List Cond := [Cond.instanceMethod yX1_onFrom, Cond.selects RX1 yX1_onFrom yX1_onFrom, Cond.code yX1_onFrom cX1_onFrom 3 (some .int), Cond.methodLink RX1 45 yX1_onFromClover, Cond.static yX1_onFromClover, Cond.code yX1_onFromClover cX1_onFromClover 1 (some .int), Cond.methodLink RX1 49 yX1_onFromStubble, Cond.static yX1_onFromStubble, Cond.code yX1_onFromStubble cX1_onFromStubble 1 (some .int), Cond.methodLink RX1 70 yX1_backFrom, Cond.instanceMethod yX1_backFrom, Cond.selects RX1 yX1_backFrom yX1_backFrom, Cond.code yX1_backFrom cX1_backFrom 2 (some .int), Cond.fieldLink RX1 58 "DeedTortoise$Moment" "hedge" "[I", Cond.methodLink RX1 64 Lib.Math.min.name, Cond.static Lib.Math.min.name, Cond.code Lib.Math.min.name Lib.Math.min.code 2 (some .int), Cond.methodLink RX6 292 yX4_fieldAt, Cond.instanceMethod yX4_fieldAt, Cond.selects RX4 yX4_fieldAt yX4_fieldAt, Cond.initialized RX4, Cond.code yX4_fieldAt cX4_fieldAt 4 (some .int), Cond.fieldLink RX4 22 "DeedTortoise$Sheet" "items" "[J", Cond.constantLong RX4 30 (6)]
def wsX6_foodsFor : List Cond := .code yX6_foodsFor cX6_foodsFor 7 (some .int) :: ((wsX6_foodsFor_r1 ++ (wsX6_foodsFor_r2 ++ wsX6_foodsFor_r3)) ++ wsX60 ++ wsX10 ++ wsX20 ++ wsX40)
def wsX6_bore_r1 : List Cond := [Cond.fieldLink RX6 48 "DeedTortoise" "sheets" "[LDeedTortoise$Sheet;", Cond.methodLink RX6 57 yX6_isField, Cond.static yX6_isField, Cond.initialized RX6, Cond.code yX6_isField cX6_isField 1 (some .boolean), Cond.methodLink RX6 61 yX6_isWithin, Cond.static yX6_isWithin, Cond.code yX6_isWithin cX6_isWithin 3 (some .boolean), Cond.methodLink RX6 225 yX6_isSheet, Cond.static yX6_isSheet, Cond.code yX6_isSheet cX6_isSheet 1 (some .boolean), Cond.methodLink RX6 228 yX6_isLane, Cond.static yX6_isLane, Cond.code yX6_isLane cX6_isLane 1 (some .boolean), Cond.methodLink RX6 231 yX4_refusal, Cond.instanceMethod yX4_refusal, Cond.selects RX4 yX4_refusal yX4_refusal, Cond.initialized RX4, Cond.code yX4_refusal cX4_refusal 4 (some .int), Cond.fieldLink RX4 9 "DeedTortoise$Sheet" "isHeld" "Z", Cond.fieldLink RX4 15 "DeedTortoise$Sheet" "lane" "I", Cond.methodLink RX4 26 yX4_hasItems, Cond.instanceMethod yX4_hasItems, Cond.selects RX4 yX4_hasItems yX4_hasItems]
def wsX6_bore_r2 : List Cond := [Cond.code yX4_hasItems cX4_hasItems 3 (some .boolean), Cond.fieldLink RX4 19 "DeedTortoise$Sheet" "length" "I", Cond.methodLink RX6 249 yX6_kindsFor, Cond.instanceMethod yX6_kindsFor, Cond.selects RX6 yX6_kindsFor yX6_kindsFor, Cond.code yX6_kindsFor cX6_kindsFor 7 (some .int), Cond.fieldLink RX6 19 "DeedTortoise" "trial" "LDeedTortoise$Land;", Cond.fieldLink RX6 10 "DeedTortoise" "land" "LDeedTortoise$Land;", Cond.fieldLink RX6 65 "DeedTortoise$Land" "kind" "[I", Cond.methodLink RX6 117 yX1_takeGround, Cond.instanceMethod yX1_takeGround, Cond.selects RX1 yX1_takeGround yX1_takeGround, Cond.initialized RX1, Cond.code yX1_takeGround cX1_takeGround 2 none, Cond.fieldLink RX1 9 "DeedTortoise$Land" "kind" "[I", Cond.methodLink RX1 95 arraycopyName, Cond.native arraycopyName, Cond.static arraycopyName, Cond.initialized "java/lang/System", Cond.fieldLink RX1 18 "DeedTortoise$Land" "now" "LDeedTortoise$Moment;", Cond.methodLink RX1 87 yX2_take, Cond.instanceMethod yX2_take, Cond.selects RX2 yX2_take yX2_take, Cond.initialized RX2]
def wsX6_bore_r3 : List Cond := [Cond.code yX2_take cX2_take 2 none, Cond.fieldLink RX2 9 "DeedTortoise$Moment" "spot" "I", Cond.fieldLink RX2 15 "DeedTortoise$Moment" "day" "I", Cond.fieldLink RX2 18 "DeedTortoise$Moment" "draw" "I", Cond.fieldLink RX2 21 "DeedTortoise$Moment" "food" "[I", Cond.methodLink RX2 28 arraycopyName, Cond.fieldLink RX2 25 "DeedTortoise$Moment" "hedge" "[I", Cond.methodLink RX6 298 yX6_goesAsTold, Cond.instanceMethod yX6_goesAsTold, Cond.selects RX6 yX6_goesAsTold yX6_goesAsTold, Cond.code yX6_goesAsTold cX6_goesAsTold 5 (some .boolean), Cond.fieldLink RX6 80 "DeedTortoise$Land" "now" "LDeedTortoise$Moment;", Cond.fieldLink RX6 137 "DeedTortoise$Moment" "spot" "I", Cond.methodLink RX6 153 yX1_passDay, Cond.instanceMethod yX1_passDay, Cond.selects RX1 yX1_passDay yX1_passDay, Cond.code yX1_passDay cX1_passDay 5 none, Cond.fieldLink RX1 67 "DeedTortoise$Moment" "spot" "I", Cond.fieldLink RX1 73 "DeedTortoise$Moment" "draw" "I", Cond.constant RX1 76 (1103515245), Cond.constant RX1 79 (2147483647), Cond.constant RX1 80 (65536), Cond.fieldLink RX1 42 "DeedTortoise$Moment" "food" "[I", Cond.methodLink RX1 52 Lib.Math.max.name]
def wsX6_bore_r4 : List Cond := [Cond.static Lib.Math.max.name, Cond.initialized "java/lang/Math", Cond.code Lib.Math.max.name Lib.Math.max.code 2 (some .int), Cond.fieldLink RX1 81 "DeedTortoise$Moment" "day" "I", Cond.methodLink RX1 61 yX1_onFrom, Cond.instanceMethod yX1_onFrom, Cond.selects RX1 yX1_onFrom yX1_onFrom, Cond.code yX1_onFrom cX1_onFrom 3 (some .int), Cond.methodLink RX1 45 yX1_onFromClover, Cond.static yX1_onFromClover, Cond.code yX1_onFromClover cX1_onFromClover 1 (some .int), Cond.methodLink RX1 49 yX1_onFromStubble, Cond.static yX1_onFromStubble, Cond.code yX1_onFromStubble cX1_onFromStubble 1 (some .int), Cond.methodLink RX1 70 yX1_backFrom, Cond.instanceMethod yX1_backFrom, Cond.selects RX1 yX1_backFrom yX1_backFrom, Cond.code yX1_backFrom cX1_backFrom 2 (some .int), Cond.fieldLink RX1 58 "DeedTortoise$Moment" "hedge" "[I", Cond.methodLink RX1 64 Lib.Math.min.name, Cond.static Lib.Math.min.name, Cond.code Lib.Math.min.name Lib.Math.min.code 2 (some .int), Cond.methodLink RX6 292 yX4_fieldAt, Cond.instanceMethod yX4_fieldAt]
def wsX6_bore_r5 : List Cond := [Cond.selects RX4 yX4_fieldAt yX4_fieldAt, Cond.code yX4_fieldAt cX4_fieldAt 4 (some .int), Cond.fieldLink RX4 22 "DeedTortoise$Sheet" "items" "[J", Cond.constantLong RX4 30 (6), Cond.methodLink RX6 253 yX6_foodsFor, Cond.instanceMethod yX6_foodsFor, Cond.selects RX6 yX6_foodsFor yX6_foodsFor, Cond.code yX6_foodsFor cX6_foodsFor 7 (some .int), Cond.fieldLink RX6 84 "DeedTortoise$Moment" "food" "[I"]
def wsX6_bore : List Cond := .code yX6_bore cX6_bore 9 (some .int) :: ((wsX6_bore_r1 ++ (wsX6_bore_r2 ++ (wsX6_bore_r3 ++ (wsX6_bore_r4 ++ wsX6_bore_r5)))) ++ wsX60 ++ wsX40 ++ wsX10 ++ wsX20)
def wsX6_film_r1 : List Cond := [Cond.fieldLink RX6 48 "DeedTortoise" "sheets" "[LDeedTortoise$Sheet;", Cond.fieldLink RX6 19 "DeedTortoise" "trial" "LDeedTortoise$Land;", Cond.fieldLink RX6 10 "DeedTortoise" "land" "LDeedTortoise$Land;", Cond.fieldLink RX6 80 "DeedTortoise$Land" "now" "LDeedTortoise$Moment;", Cond.fieldLink RX6 137 "DeedTortoise$Moment" "spot" "I", Cond.methodLink RX6 61 yX6_isWithin, Cond.static yX6_isWithin, Cond.initialized RX6, Cond.code yX6_isWithin cX6_isWithin 3 (some .boolean), Cond.methodLink RX6 225 yX6_isSheet, Cond.static yX6_isSheet, Cond.code yX6_isSheet cX6_isSheet 1 (some .boolean), Cond.methodLink RX6 228 yX6_isLane, Cond.static yX6_isLane, Cond.code yX6_isLane cX6_isLane 1 (some .boolean), Cond.methodLink RX6 231 yX4_refusal, Cond.instanceMethod yX4_refusal, Cond.selects RX4 yX4_refusal yX4_refusal, Cond.initialized RX4, Cond.code yX4_refusal cX4_refusal 4 (some .int), Cond.fieldLink RX4 9 "DeedTortoise$Sheet" "isHeld" "Z", Cond.fieldLink RX4 15 "DeedTortoise$Sheet" "lane" "I", Cond.methodLink RX4 26 yX4_hasItems, Cond.instanceMethod yX4_hasItems]
def wsX6_film_r2 : List Cond := [Cond.selects RX4 yX4_hasItems yX4_hasItems, Cond.code yX4_hasItems cX4_hasItems 3 (some .boolean), Cond.fieldLink RX4 19 "DeedTortoise$Sheet" "length" "I", Cond.methodLink RX6 117 yX1_takeGround, Cond.instanceMethod yX1_takeGround, Cond.selects RX1 yX1_takeGround yX1_takeGround, Cond.initialized RX1, Cond.code yX1_takeGround cX1_takeGround 2 none, Cond.fieldLink RX1 9 "DeedTortoise$Land" "kind" "[I", Cond.methodLink RX1 95 arraycopyName, Cond.native arraycopyName, Cond.static arraycopyName, Cond.initialized "java/lang/System", Cond.fieldLink RX1 18 "DeedTortoise$Land" "now" "LDeedTortoise$Moment;", Cond.methodLink RX1 87 yX2_take, Cond.instanceMethod yX2_take, Cond.selects RX2 yX2_take yX2_take, Cond.initialized RX2, Cond.code yX2_take cX2_take 2 none, Cond.fieldLink RX2 9 "DeedTortoise$Moment" "spot" "I", Cond.fieldLink RX2 15 "DeedTortoise$Moment" "day" "I", Cond.fieldLink RX2 18 "DeedTortoise$Moment" "draw" "I", Cond.fieldLink RX2 21 "DeedTortoise$Moment" "food" "[I", Cond.methodLink RX2 28 arraycopyName]
def wsX6_film_r3 : List Cond := [Cond.fieldLink RX2 25 "DeedTortoise$Moment" "hedge" "[I", Cond.methodLink RX6 153 yX1_passDay, Cond.instanceMethod yX1_passDay, Cond.selects RX1 yX1_passDay yX1_passDay, Cond.code yX1_passDay cX1_passDay 5 none, Cond.fieldLink RX1 67 "DeedTortoise$Moment" "spot" "I", Cond.fieldLink RX1 73 "DeedTortoise$Moment" "draw" "I", Cond.constant RX1 76 (1103515245), Cond.constant RX1 79 (2147483647), Cond.constant RX1 80 (65536), Cond.fieldLink RX1 42 "DeedTortoise$Moment" "food" "[I", Cond.methodLink RX1 52 Lib.Math.max.name, Cond.static Lib.Math.max.name, Cond.initialized "java/lang/Math", Cond.code Lib.Math.max.name Lib.Math.max.code 2 (some .int), Cond.fieldLink RX1 81 "DeedTortoise$Moment" "day" "I", Cond.methodLink RX1 61 yX1_onFrom, Cond.instanceMethod yX1_onFrom, Cond.selects RX1 yX1_onFrom yX1_onFrom, Cond.code yX1_onFrom cX1_onFrom 3 (some .int), Cond.methodLink RX1 45 yX1_onFromClover, Cond.static yX1_onFromClover, Cond.code yX1_onFromClover cX1_onFromClover 1 (some .int), Cond.methodLink RX1 49 yX1_onFromStubble]
def wsX6_film_r4 : List Cond := [Cond.static yX1_onFromStubble, Cond.code yX1_onFromStubble cX1_onFromStubble 1 (some .int), Cond.methodLink RX1 70 yX1_backFrom, Cond.instanceMethod yX1_backFrom, Cond.selects RX1 yX1_backFrom yX1_backFrom, Cond.code yX1_backFrom cX1_backFrom 2 (some .int), Cond.fieldLink RX1 58 "DeedTortoise$Moment" "hedge" "[I", Cond.methodLink RX1 64 Lib.Math.min.name, Cond.static Lib.Math.min.name, Cond.code Lib.Math.min.name Lib.Math.min.code 2 (some .int), Cond.methodLink RX6 256 yX4_put, Cond.instanceMethod yX4_put, Cond.selects RX4 yX4_put yX4_put, Cond.code yX4_put cX4_put 4 none, Cond.fieldLink RX4 22 "DeedTortoise$Sheet" "items" "[J"]
def wsX6_film : List Cond := .code yX6_film cX6_film 8 (some .int) :: ((wsX6_film_r1 ++ (wsX6_film_r2 ++ (wsX6_film_r3 ++ wsX6_film_r4))) ++ wsX60 ++ wsX10 ++ wsX20 ++ wsX40)
def wsX6_sheet : List Cond := .code yX6_sheet cX6_sheet 4 (some .int) :: ([.fieldLink RX6 48 "DeedTortoise" "sheets" "[LDeedTortoise$Sheet;", .methodLink RX6 225 yX6_isSheet, .static yX6_isSheet, .initialized RX6, .code yX6_isSheet cX6_isSheet 1 (some .boolean), .methodLink RX6 61 yX6_isWithin, .static yX6_isWithin, .code yX6_isWithin cX6_isWithin 3 (some .boolean), .methodLink RX6 228 yX6_isLane, .static yX6_isLane, .code yX6_isLane cX6_isLane 1 (some .boolean), .methodLink RX6 260 yX4_begin, .instanceMethod yX4_begin, .selects RX4 yX4_begin yX4_begin, .initialized RX4, .code yX4_begin cX4_begin 4 none, .fieldLink RX4 9 "DeedTortoise$Sheet" "isHeld" "Z", .fieldLink RX4 15 "DeedTortoise$Sheet" "lane" "I", .fieldLink RX4 19 "DeedTortoise$Sheet" "length" "I", .fieldLink RX4 22 "DeedTortoise$Sheet" "items" "[J"] ++ wsX60 ++ wsX40)
def wsX6_drop : List Cond := .code yX6_drop cX6_drop 3 (some .int) :: ([.fieldLink RX6 48 "DeedTortoise" "sheets" "[LDeedTortoise$Sheet;", .fieldLink RX6 263 "DeedTortoise$Sheet" "isHeld" "Z", .fieldLink RX6 266 "DeedTortoise$Sheet" "length" "I", .methodLink RX6 225 yX6_isSheet, .static yX6_isSheet, .initialized RX6, .code yX6_isSheet cX6_isSheet 1 (some .boolean), .methodLink RX6 61 yX6_isWithin, .static yX6_isWithin, .code yX6_isWithin cX6_isWithin 3 (some .boolean)] ++ wsX60 ++ wsX40)
def wsX6_item_r1 : List Cond := [Cond.fieldLink RX6 48 "DeedTortoise" "sheets" "[LDeedTortoise$Sheet;", Cond.methodLink RX6 225 yX6_isSheet, Cond.static yX6_isSheet, Cond.initialized RX6, Cond.code yX6_isSheet cX6_isSheet 1 (some .boolean), Cond.methodLink RX6 61 yX6_isWithin, Cond.static yX6_isWithin, Cond.code yX6_isWithin cX6_isWithin 3 (some .boolean), Cond.methodLink RX6 228 yX6_isLane, Cond.static yX6_isLane, Cond.code yX6_isLane cX6_isLane 1 (some .boolean), Cond.methodLink RX6 231 yX4_refusal, Cond.instanceMethod yX4_refusal, Cond.selects RX4 yX4_refusal yX4_refusal, Cond.initialized RX4, Cond.code yX4_refusal cX4_refusal 4 (some .int), Cond.fieldLink RX4 9 "DeedTortoise$Sheet" "isHeld" "Z", Cond.fieldLink RX4 15 "DeedTortoise$Sheet" "lane" "I", Cond.methodLink RX4 26 yX4_hasItems, Cond.instanceMethod yX4_hasItems, Cond.selects RX4 yX4_hasItems yX4_hasItems, Cond.code yX4_hasItems cX4_hasItems 3 (some .boolean), Cond.fieldLink RX4 19 "DeedTortoise$Sheet" "length" "I", Cond.methodLink RX6 256 yX4_put]
def wsX6_item_r2 : List Cond := [Cond.instanceMethod yX4_put, Cond.selects RX4 yX4_put yX4_put, Cond.code yX4_put cX4_put 4 none, Cond.fieldLink RX4 22 "DeedTortoise$Sheet" "items" "[J"]
def wsX6_item : List Cond := .code yX6_item cX6_item 8 (some .int) :: ((wsX6_item_r1 ++ wsX6_item_r2) ++ wsX60 ++ wsX40)
def wsX6_copy : List Cond := .code yX6_copy cX6_copy 8 (some .int) :: ([.fieldLink RX6 48 "DeedTortoise" "sheets" "[LDeedTortoise$Sheet;", .fieldLink RX6 263 "DeedTortoise$Sheet" "isHeld" "Z", .fieldLink RX6 267 "DeedTortoise$Sheet" "lane" "I", .fieldLink RX6 273 "DeedTortoise$Sheet" "items" "[J", .methodLink RX6 276 arraycopyName, .native arraycopyName, .static arraycopyName, .initialized "java/lang/System", .methodLink RX6 225 yX6_isSheet, .static yX6_isSheet, .initialized RX6, .code yX6_isSheet cX6_isSheet 1 (some .boolean), .methodLink RX6 61 yX6_isWithin, .static yX6_isWithin, .code yX6_isWithin cX6_isWithin 3 (some .boolean), .methodLink RX6 270 yX4_hasItems, .instanceMethod yX4_hasItems, .selects RX4 yX4_hasItems yX4_hasItems, .initialized RX4, .code yX4_hasItems cX4_hasItems 3 (some .boolean), .fieldLink RX4 19 "DeedTortoise$Sheet" "length" "I"] ++ wsX60 ++ wsX40)
def wsX7_init : List Cond := .code yX7_init cX7_init 2 none :: ([.methodLink RX7 1 objectInit, .instanceMethod objectInit, .code objectInit ⟨#[0xb1]⟩ 1 none, .arrayClass .int, .fieldLink RX7 7 "DeedTortoiseModel" "lane" "[I", .fieldLink RX7 13 "DeedTortoiseModel" "size" "[I", .arrayClass .long, .fieldLink RX7 16 "DeedTortoiseModel" "item" "[J", .fieldLink RX7 20 "DeedTortoiseModel" "tape" "[I", .fieldLink RX7 23 "DeedTortoiseModel" "now" "[I", .fieldLink RX7 26 "DeedTortoiseModel" "tried" "[I", .fieldLink RX7 29 "DeedTortoiseModel" "read" "[I", .fieldLink RX7 32 "DeedTortoiseModel" "kept" "[I", .fieldLink RX7 35 "DeedTortoiseModel" "odds" "[J", .fieldLink RX7 38 "DeedTortoiseModel" "then" "[J"] ++ wsX70)
def wsX7_in : List Cond := .code yX7_in cX7_in 3 (some .boolean) :: ([])
def wsX7_bring : List Cond := .code yX7_bring cX7_bring 6 none :: ([])
def wsX7_isField : List Cond := .code yX7_isField cX7_isField 1 (some .boolean) :: ([.methodLink RX7 41 yX7_in, .static yX7_in, .initialized RX7, .code yX7_in cX7_in 3 (some .boolean)])
def wsX7_isClaim : List Cond := .code yX7_isClaim cX7_isClaim 2 (some .boolean) :: ([.fieldLink RX7 23 "DeedTortoiseModel" "now" "[I", .methodLink RX7 41 yX7_in, .static yX7_in, .initialized RX7, .code yX7_in cX7_in 3 (some .boolean)] ++ wsX70)
def wsX7_field : List Cond := .code yX7_field cX7_field 4 (some .int) :: ([.fieldLink RX7 23 "DeedTortoiseModel" "now" "[I", .methodLink RX7 45 yX7_isField, .static yX7_isField, .initialized RX7, .code yX7_isField cX7_isField 1 (some .boolean), .methodLink RX7 41 yX7_in, .static yX7_in, .code yX7_in cX7_in 3 (some .boolean)] ++ wsX70)
def wsX7_addClaim : List Cond := .code yX7_addClaim cX7_addClaim 5 (some .int) :: ([])
def wsX7_claim : List Cond := .code yX7_claim cX7_claim 4 (some .int) :: ([.fieldLink RX7 23 "DeedTortoiseModel" "now" "[I", .methodLink RX7 45 yX7_isField, .static yX7_isField, .initialized RX7, .code yX7_isField cX7_isField 1 (some .boolean), .methodLink RX7 41 yX7_in, .static yX7_in, .code yX7_in cX7_in 3 (some .boolean), .methodLink RX7 49 yX7_addClaim, .static yX7_addClaim, .code yX7_addClaim cX7_addClaim 5 (some .int)] ++ wsX70)
def wsX7_onOf : List Cond := .code yX7_onOf cX7_onOf 5 (some .int) :: ([])
def wsX7_backOf : List Cond := .code yX7_backOf cX7_backOf 3 (some .int) :: ([.methodLink RX7 53 yX7_onOf, .static yX7_onOf, .initialized RX7, .code yX7_onOf cX7_onOf 5 (some .int)])
def wsX7_of : List Cond := .code yX7_of cX7_of 3 (some .int) :: ([.fieldLink RX7 23 "DeedTortoiseModel" "now" "[I", .methodLink RX7 45 yX7_isField, .static yX7_isField, .initialized RX7, .code yX7_isField cX7_isField 1 (some .boolean), .methodLink RX7 41 yX7_in, .static yX7_in, .code yX7_in cX7_in 3 (some .boolean), .methodLink RX7 53 yX7_onOf, .static yX7_onOf, .code yX7_onOf cX7_onOf 5 (some .int), .methodLink RX7 57 yX7_backOf, .static yX7_backOf, .code yX7_backOf cX7_backOf 3 (some .int)] ++ wsX70)
def wsX7_at : List Cond := .code yX7_at cX7_at 3 (some .int) :: ([.fieldLink RX7 23 "DeedTortoiseModel" "now" "[I", .methodLink RX7 60 yX7_isClaim, .instanceMethod yX7_isClaim, .selects RX7 yX7_isClaim yX7_isClaim, .initialized RX7, .code yX7_isClaim cX7_isClaim 2 (some .boolean), .methodLink RX7 41 yX7_in, .static yX7_in, .code yX7_in cX7_in 3 (some .boolean)] ++ wsX70)
def wsX7_type : List Cond := .code yX7_type cX7_type 2 (some .int) :: ([.fieldLink RX7 63 "DeedTortoiseModel" "letters" "I", .fieldLink RX7 20 "DeedTortoiseModel" "tape" "[I", .methodLink RX7 41 yX7_in, .static yX7_in, .initialized RX7, .code yX7_in cX7_in 3 (some .boolean)] ++ wsX70)
def wsX7_peek : List Cond := .code yX7_peek cX7_peek 1 (some .int) :: ([.fieldLink RX7 67 "DeedTortoiseModel" "position" "I", .fieldLink RX7 63 "DeedTortoiseModel" "letters" "I", .fieldLink RX7 20 "DeedTortoiseModel" "tape" "[I"] ++ wsX70)
def wsX7_isSign : List Cond := .code yX7_isSign cX7_isSign 2 (some .boolean) :: ([.fieldLink RX7 67 "DeedTortoiseModel" "position" "I", .methodLink RX7 70 yX7_peek, .instanceMethod yX7_peek, .selects RX7 yX7_peek yX7_peek, .initialized RX7, .code yX7_peek cX7_peek 1 (some .int), .fieldLink RX7 63 "DeedTortoiseModel" "letters" "I", .fieldLink RX7 20 "DeedTortoiseModel" "tape" "[I"] ++ wsX70)
def wsX7_isDigit : List Cond := .code yX7_isDigit cX7_isDigit 3 (some .boolean) :: ([.fieldLink RX7 74 "DeedTortoiseModel" "number" "I", .fieldLink RX7 67 "DeedTortoiseModel" "position" "I", .methodLink RX7 70 yX7_peek, .instanceMethod yX7_peek, .selects RX7 yX7_peek yX7_peek, .initialized RX7, .code yX7_peek cX7_peek 1 (some .int), .fieldLink RX7 63 "DeedTortoiseModel" "letters" "I", .fieldLink RX7 20 "DeedTortoiseModel" "tape" "[I", .methodLink RX7 41 yX7_in, .static yX7_in, .code yX7_in cX7_in 3 (some .boolean)] ++ wsX70)
def wsX7_isNumber : List Cond := .code yX7_isNumber cX7_isNumber 5 (some .boolean) :: ([.fieldLink RX7 67 "DeedTortoiseModel" "position" "I", .fieldLink RX7 74 "DeedTortoiseModel" "number" "I", .fieldLink RX7 63 "DeedTortoiseModel" "letters" "I", .fieldLink RX7 20 "DeedTortoiseModel" "tape" "[I", .methodLink RX7 77 yX7_isDigit, .instanceMethod yX7_isDigit, .selects RX7 yX7_isDigit yX7_isDigit, .initialized RX7, .code yX7_isDigit cX7_isDigit 3 (some .boolean), .methodLink RX7 70 yX7_peek, .instanceMethod yX7_peek, .selects RX7 yX7_peek yX7_peek, .code yX7_peek cX7_peek 1 (some .int), .methodLink RX7 41 yX7_in, .static yX7_in, .code yX7_in cX7_in 3 (some .boolean)] ++ wsX70)
def wsX7_kindBy : List Cond := .code yX7_kindBy cX7_kindBy 1 (some .int) :: ([])
def wsX7_isFieldItem : List Cond := .code yX7_isFieldItem cX7_isFieldItem 3 (some .boolean) :: ([.fieldLink RX7 67 "DeedTortoiseModel" "position" "I", .fieldLink RX7 29 "DeedTortoiseModel" "read" "[I", .fieldLink RX7 74 "DeedTortoiseModel" "number" "I", .methodLink RX7 70 yX7_peek, .instanceMethod yX7_peek, .selects RX7 yX7_peek yX7_peek, .initialized RX7, .code yX7_peek cX7_peek 1 (some .int), .fieldLink RX7 63 "DeedTortoiseModel" "letters" "I", .fieldLink RX7 20 "DeedTortoiseModel" "tape" "[I", .methodLink RX7 81 yX7_kindBy, .static yX7_kindBy, .code yX7_kindBy cX7_kindBy 1 (some .int), .methodLink RX7 77 yX7_isDigit, .instanceMethod yX7_isDigit, .selects RX7 yX7_isDigit yX7_isDigit, .code yX7_isDigit cX7_isDigit 3 (some .boolean), .methodLink RX7 41 yX7_in, .static yX7_in, .code yX7_in cX7_in 3 (some .boolean), .methodLink RX7 85 yX7_isSign, .instanceMethod yX7_isSign, .selects RX7 yX7_isSign yX7_isSign, .code yX7_isSign cX7_isSign 2 (some .boolean)] ++ wsX70)
def wsX7_isClaimItem_r1 : List Cond := [Cond.fieldLink RX7 74 "DeedTortoiseModel" "number" "I", Cond.fieldLink RX7 29 "DeedTortoiseModel" "read" "[I", Cond.methodLink RX7 77 yX7_isDigit, Cond.instanceMethod yX7_isDigit, Cond.selects RX7 yX7_isDigit yX7_isDigit, Cond.initialized RX7, Cond.code yX7_isDigit cX7_isDigit 3 (some .boolean), Cond.fieldLink RX7 67 "DeedTortoiseModel" "position" "I", Cond.methodLink RX7 70 yX7_peek, Cond.instanceMethod yX7_peek, Cond.selects RX7 yX7_peek yX7_peek, Cond.code yX7_peek cX7_peek 1 (some .int), Cond.fieldLink RX7 63 "DeedTortoiseModel" "letters" "I", Cond.fieldLink RX7 20 "DeedTortoiseModel" "tape" "[I", Cond.methodLink RX7 41 yX7_in, Cond.static yX7_in, Cond.code yX7_in cX7_in 3 (some .boolean), Cond.methodLink RX7 85 yX7_isSign, Cond.instanceMethod yX7_isSign, Cond.selects RX7 yX7_isSign yX7_isSign, Cond.code yX7_isSign cX7_isSign 2 (some .boolean), Cond.methodLink RX7 88 yX7_isNumber, Cond.instanceMethod yX7_isNumber, Cond.selects RX7 yX7_isNumber yX7_isNumber]
def wsX7_isClaimItem_r2 : List Cond := [Cond.code yX7_isNumber cX7_isNumber 5 (some .boolean), Cond.methodLink RX7 49 yX7_addClaim, Cond.static yX7_addClaim, Cond.code yX7_addClaim cX7_addClaim 5 (some .int)]
def wsX7_isClaimItem : List Cond := .code yX7_isClaimItem cX7_isClaimItem 3 (some .boolean) :: ((wsX7_isClaimItem_r1 ++ wsX7_isClaimItem_r2) ++ wsX70)
def wsX7_isValley_r1 : List Cond := [Cond.fieldLink RX7 29 "DeedTortoiseModel" "read" "[I", Cond.fieldLink RX7 74 "DeedTortoiseModel" "number" "I", Cond.methodLink RX7 77 yX7_isDigit, Cond.instanceMethod yX7_isDigit, Cond.selects RX7 yX7_isDigit yX7_isDigit, Cond.initialized RX7, Cond.code yX7_isDigit cX7_isDigit 3 (some .boolean), Cond.fieldLink RX7 67 "DeedTortoiseModel" "position" "I", Cond.methodLink RX7 70 yX7_peek, Cond.instanceMethod yX7_peek, Cond.selects RX7 yX7_peek yX7_peek, Cond.code yX7_peek cX7_peek 1 (some .int), Cond.fieldLink RX7 63 "DeedTortoiseModel" "letters" "I", Cond.fieldLink RX7 20 "DeedTortoiseModel" "tape" "[I", Cond.methodLink RX7 41 yX7_in, Cond.static yX7_in, Cond.code yX7_in cX7_in 3 (some .boolean), Cond.methodLink RX7 85 yX7_isSign, Cond.instanceMethod yX7_isSign, Cond.selects RX7 yX7_isSign yX7_isSign, Cond.code yX7_isSign cX7_isSign 2 (some .boolean), Cond.methodLink RX7 91 yX7_isFieldItem, Cond.instanceMethod yX7_isFieldItem, Cond.selects RX7 yX7_isFieldItem yX7_isFieldItem]
def wsX7_isValley_r2 : List Cond := [Cond.code yX7_isFieldItem cX7_isFieldItem 3 (some .boolean), Cond.methodLink RX7 81 yX7_kindBy, Cond.static yX7_kindBy, Cond.code yX7_kindBy cX7_kindBy 1 (some .int), Cond.methodLink RX7 94 yX7_isClaimItem, Cond.instanceMethod yX7_isClaimItem, Cond.selects RX7 yX7_isClaimItem yX7_isClaimItem, Cond.code yX7_isClaimItem cX7_isClaimItem 3 (some .boolean), Cond.methodLink RX7 88 yX7_isNumber, Cond.instanceMethod yX7_isNumber, Cond.selects RX7 yX7_isNumber yX7_isNumber, Cond.code yX7_isNumber cX7_isNumber 5 (some .boolean), Cond.methodLink RX7 49 yX7_addClaim, Cond.static yX7_addClaim, Cond.code yX7_addClaim cX7_addClaim 5 (some .int)]
def wsX7_isValley : List Cond := .code yX7_isValley cX7_isValley 2 (some .boolean) :: ((wsX7_isValley_r1 ++ wsX7_isValley_r2) ++ wsX70)
def wsX7_valley_r1 : List Cond := [Cond.fieldLink RX7 29 "DeedTortoiseModel" "read" "[I", Cond.fieldLink RX7 23 "DeedTortoiseModel" "now" "[I", Cond.fieldLink RX7 67 "DeedTortoiseModel" "position" "I", Cond.fieldLink RX7 63 "DeedTortoiseModel" "letters" "I", Cond.methodLink RX7 98 yX7_isValley, Cond.instanceMethod yX7_isValley, Cond.selects RX7 yX7_isValley yX7_isValley, Cond.initialized RX7, Cond.code yX7_isValley cX7_isValley 2 (some .boolean), Cond.fieldLink RX7 74 "DeedTortoiseModel" "number" "I", Cond.methodLink RX7 77 yX7_isDigit, Cond.instanceMethod yX7_isDigit, Cond.selects RX7 yX7_isDigit yX7_isDigit, Cond.code yX7_isDigit cX7_isDigit 3 (some .boolean), Cond.methodLink RX7 70 yX7_peek, Cond.instanceMethod yX7_peek, Cond.selects RX7 yX7_peek yX7_peek, Cond.code yX7_peek cX7_peek 1 (some .int), Cond.fieldLink RX7 20 "DeedTortoiseModel" "tape" "[I", Cond.methodLink RX7 41 yX7_in, Cond.static yX7_in, Cond.code yX7_in cX7_in 3 (some .boolean), Cond.methodLink RX7 85 yX7_isSign, Cond.instanceMethod yX7_isSign]
def wsX7_valley_r2 : List Cond := [Cond.selects RX7 yX7_isSign yX7_isSign, Cond.code yX7_isSign cX7_isSign 2 (some .boolean), Cond.methodLink RX7 91 yX7_isFieldItem, Cond.instanceMethod yX7_isFieldItem, Cond.selects RX7 yX7_isFieldItem yX7_isFieldItem, Cond.code yX7_isFieldItem cX7_isFieldItem 3 (some .boolean), Cond.methodLink RX7 81 yX7_kindBy, Cond.static yX7_kindBy, Cond.code yX7_kindBy cX7_kindBy 1 (some .int), Cond.methodLink RX7 94 yX7_isClaimItem, Cond.instanceMethod yX7_isClaimItem, Cond.selects RX7 yX7_isClaimItem yX7_isClaimItem, Cond.code yX7_isClaimItem cX7_isClaimItem 3 (some .boolean), Cond.methodLink RX7 88 yX7_isNumber, Cond.instanceMethod yX7_isNumber, Cond.selects RX7 yX7_isNumber yX7_isNumber, Cond.code yX7_isNumber cX7_isNumber 5 (some .boolean), Cond.methodLink RX7 49 yX7_addClaim, Cond.static yX7_addClaim, Cond.code yX7_addClaim cX7_addClaim 5 (some .int), Cond.methodLink RX7 101 yX7_bring, Cond.static yX7_bring, Cond.code yX7_bring cX7_bring 6 none]
def wsX7_valley : List Cond := .code yX7_valley cX7_valley 2 (some .int) :: ((wsX7_valley_r1 ++ wsX7_valley_r2) ++ wsX70)
def wsX7_sumOf : List Cond := .code yX7_sumOf cX7_sumOf 4 (some .int) :: ([])
def wsX7_claimsHere : List Cond := .code yX7_claimsHere cX7_claimsHere 3 (some .int) :: ([.fieldLink RX7 23 "DeedTortoiseModel" "now" "[I", .methodLink RX7 41 yX7_in, .static yX7_in, .initialized RX7, .code yX7_in cX7_in 3 (some .boolean)] ++ wsX70)
def wsX7_count : List Cond := .code yX7_count cX7_count 2 (some .int) :: ([.fieldLink RX7 23 "DeedTortoiseModel" "now" "[I", .methodLink RX7 105 yX7_sumOf, .static yX7_sumOf, .initialized RX7, .code yX7_sumOf cX7_sumOf 4 (some .int), .methodLink RX7 108 yX7_claimsHere, .instanceMethod yX7_claimsHere, .selects RX7 yX7_claimsHere yX7_claimsHere, .code yX7_claimsHere cX7_claimsHere 3 (some .int), .methodLink RX7 41 yX7_in, .static yX7_in, .code yX7_in cX7_in 3 (some .boolean)] ++ wsX70)
def wsX7_note : List Cond := .code yX7_note cX7_note 1 none :: ([.fieldLink RX7 23 "DeedTortoiseModel" "now" "[I", .methodLink RX7 101 yX7_bring, .static yX7_bring, .initialized RX7, .code yX7_bring cX7_bring 6 none] ++ wsX70)
def wsX7_dayIn : List Cond := .code yX7_dayIn cX7_dayIn 4 none :: ([.constantLong RX7 111 (1103515245), .constantLong RX7 113 (12345), .constantLong RX7 115 (2147483648), .constant RX7 117 (65536), .methodLink RX7 53 yX7_onOf, .static yX7_onOf, .initialized RX7, .code yX7_onOf cX7_onOf 5 (some .int), .methodLink RX7 57 yX7_backOf, .static yX7_backOf, .code yX7_backOf cX7_backOf 3 (some .int)])
def wsX7_days_r1 : List Cond := [Cond.fieldLink RX7 23 "DeedTortoiseModel" "now" "[I", Cond.methodLink RX7 41 yX7_in, Cond.static yX7_in, Cond.initialized RX7, Cond.code yX7_in cX7_in 3 (some .boolean), Cond.methodLink RX7 118 yX7_note, Cond.instanceMethod yX7_note, Cond.selects RX7 yX7_note yX7_note, Cond.code yX7_note cX7_note 1 none, Cond.methodLink RX7 101 yX7_bring, Cond.static yX7_bring, Cond.code yX7_bring cX7_bring 6 none, Cond.methodLink RX7 121 yX7_dayIn, Cond.static yX7_dayIn, Cond.code yX7_dayIn cX7_dayIn 4 none, Cond.constantLong RX7 111 (1103515245), Cond.constantLong RX7 113 (12345), Cond.constantLong RX7 115 (2147483648), Cond.constant RX7 117 (65536), Cond.methodLink RX7 53 yX7_onOf, Cond.static yX7_onOf, Cond.code yX7_onOf cX7_onOf 5 (some .int), Cond.methodLink RX7 57 yX7_backOf, Cond.static yX7_backOf]
def wsX7_days_r2 : List Cond := [Cond.code yX7_backOf cX7_backOf 3 (some .int)]
def wsX7_days : List Cond := .code yX7_days cX7_days 3 (some .int) :: ((wsX7_days_r1 ++ wsX7_days_r2) ++ wsX70)
def wsX7_carry : List Cond := .code yX7_carry cX7_carry 3 (some .int) :: ([.fieldLink RX7 23 "DeedTortoiseModel" "now" "[I", .methodLink RX7 45 yX7_isField, .static yX7_isField, .initialized RX7, .code yX7_isField cX7_isField 1 (some .boolean), .methodLink RX7 41 yX7_in, .static yX7_in, .code yX7_in cX7_in 3 (some .boolean), .methodLink RX7 118 yX7_note, .instanceMethod yX7_note, .selects RX7 yX7_note yX7_note, .code yX7_note cX7_note 1 none, .methodLink RX7 101 yX7_bring, .static yX7_bring, .code yX7_bring cX7_bring 6 none] ++ wsX70)
def wsX7_lettuce : List Cond := .code yX7_lettuce cX7_lettuce 3 (some .int) :: ([.fieldLink RX7 23 "DeedTortoiseModel" "now" "[I", .methodLink RX7 45 yX7_isField, .static yX7_isField, .initialized RX7, .code yX7_isField cX7_isField 1 (some .boolean), .methodLink RX7 41 yX7_in, .static yX7_in, .code yX7_in cX7_in 3 (some .boolean), .methodLink RX7 118 yX7_note, .instanceMethod yX7_note, .selects RX7 yX7_note yX7_note, .code yX7_note cX7_note 1 none, .methodLink RX7 101 yX7_bring, .static yX7_bring, .code yX7_bring cX7_bring 6 none] ++ wsX70)
def wsX7_lay : List Cond := .code yX7_lay cX7_lay 4 (some .int) :: ([.fieldLink RX7 23 "DeedTortoiseModel" "now" "[I", .methodLink RX7 45 yX7_isField, .static yX7_isField, .initialized RX7, .code yX7_isField cX7_isField 1 (some .boolean), .methodLink RX7 41 yX7_in, .static yX7_in, .code yX7_in cX7_in 3 (some .boolean), .methodLink RX7 118 yX7_note, .instanceMethod yX7_note, .selects RX7 yX7_note yX7_note, .code yX7_note cX7_note 1 none, .methodLink RX7 101 yX7_bring, .static yX7_bring, .code yX7_bring cX7_bring 6 none] ++ wsX70)
def wsX7_undo : List Cond := .code yX7_undo cX7_undo 1 (some .int) :: ([.fieldLink RX7 23 "DeedTortoiseModel" "now" "[I", .methodLink RX7 101 yX7_bring, .static yX7_bring, .initialized RX7, .code yX7_bring cX7_bring 6 none] ++ wsX70)
def wsX7_seed : List Cond := .code yX7_seed cX7_seed 3 (some .int) :: ([.fieldLink RX7 23 "DeedTortoiseModel" "now" "[I"] ++ wsX70)
def wsX7_begin : List Cond := .code yX7_begin cX7_begin 1 none :: ([.fieldLink RX7 23 "DeedTortoiseModel" "now" "[I", .fieldLink RX7 26 "DeedTortoiseModel" "tried" "[I", .methodLink RX7 101 yX7_bring, .static yX7_bring, .initialized RX7, .code yX7_bring cX7_bring 6 none] ++ wsX70)
def wsX7_part : List Cond := .code yX7_part cX7_part 11 (some .long) :: ([])
def wsX7_layOdds : List Cond := .code yX7_layOdds cX7_layOdds 14 none :: ([.fieldLink RX7 35 "DeedTortoiseModel" "odds" "[J", .constantLong RX7 125 (10), .constantLong RX7 127 (100), .fieldLink RX7 129 "DeedTortoiseModel" "allOdds" "J", .fieldLink RX7 38 "DeedTortoiseModel" "then" "[J", .methodLink RX7 53 yX7_onOf, .static yX7_onOf, .initialized RX7, .code yX7_onOf cX7_onOf 5 (some .int), .methodLink RX7 57 yX7_backOf, .static yX7_backOf, .code yX7_backOf cX7_backOf 3 (some .int)] ++ wsX70)
def wsX7_chance_r1 : List Cond := [Cond.fieldLink RX7 23 "DeedTortoiseModel" "now" "[I", Cond.fieldLink RX7 35 "DeedTortoiseModel" "odds" "[J", Cond.fieldLink RX7 129 "DeedTortoiseModel" "allOdds" "J", Cond.methodLink RX7 45 yX7_isField, Cond.static yX7_isField, Cond.initialized RX7, Cond.code yX7_isField cX7_isField 1 (some .boolean), Cond.methodLink RX7 41 yX7_in, Cond.static yX7_in, Cond.code yX7_in cX7_in 3 (some .boolean), Cond.methodLink RX7 133 yX7_layOdds, Cond.instanceMethod yX7_layOdds, Cond.selects RX7 yX7_layOdds yX7_layOdds, Cond.code yX7_layOdds cX7_layOdds 14 none, Cond.constantLong RX7 125 (10), Cond.constantLong RX7 127 (100), Cond.fieldLink RX7 38 "DeedTortoiseModel" "then" "[J", Cond.methodLink RX7 53 yX7_onOf, Cond.static yX7_onOf, Cond.code yX7_onOf cX7_onOf 5 (some .int), Cond.methodLink RX7 57 yX7_backOf, Cond.static yX7_backOf, Cond.code yX7_backOf cX7_backOf 3 (some .int), Cond.methodLink RX7 137 yX7_part]
def wsX7_chance_r2 : List Cond := [Cond.static yX7_part, Cond.code yX7_part cX7_part 11 (some .long)]
def wsX7_chance : List Cond := .code yX7_chance cX7_chance 4 (some .int) :: ((wsX7_chance_r1 ++ wsX7_chance_r2) ++ wsX70)
def wsX7_likely : List Cond := .code yX7_likely cX7_likely 4 (some .int) :: ([.fieldLink RX7 23 "DeedTortoiseModel" "now" "[I", .fieldLink RX7 35 "DeedTortoiseModel" "odds" "[J", .methodLink RX7 41 yX7_in, .static yX7_in, .initialized RX7, .code yX7_in cX7_in 3 (some .boolean), .methodLink RX7 133 yX7_layOdds, .instanceMethod yX7_layOdds, .selects RX7 yX7_layOdds yX7_layOdds, .code yX7_layOdds cX7_layOdds 14 none, .constantLong RX7 125 (10), .constantLong RX7 127 (100), .fieldLink RX7 129 "DeedTortoiseModel" "allOdds" "J", .fieldLink RX7 38 "DeedTortoiseModel" "then" "[J", .methodLink RX7 53 yX7_onOf, .static yX7_onOf, .code yX7_onOf cX7_onOf 5 (some .int), .methodLink RX7 57 yX7_backOf, .static yX7_backOf, .code yX7_backOf cX7_backOf 3 (some .int)] ++ wsX70)
def wsX7_layMean : List Cond := .code yX7_layMean cX7_layMean 16 none :: ([.fieldLink RX7 141 "DeedTortoiseModel" "meanUp" "J", .fieldLink RX7 144 "DeedTortoiseModel" "meanDown" "J", .constantLong RX7 125 (10), .methodLink RX7 57 yX7_backOf, .static yX7_backOf, .initialized RX7, .code yX7_backOf cX7_backOf 3 (some .int), .methodLink RX7 53 yX7_onOf, .static yX7_onOf, .code yX7_onOf cX7_onOf 5 (some .int), .methodLink RX7 137 yX7_part, .static yX7_part, .code yX7_part cX7_part 11 (some .long)] ++ wsX70)
def wsX7_mean : List Cond := .code yX7_mean cX7_mean 3 (some .long) :: ([.fieldLink RX7 23 "DeedTortoiseModel" "now" "[I", .constantLong RX7 147 (-1), .fieldLink RX7 141 "DeedTortoiseModel" "meanUp" "J", .fieldLink RX7 144 "DeedTortoiseModel" "meanDown" "J", .methodLink RX7 41 yX7_in, .static yX7_in, .initialized RX7, .code yX7_in cX7_in 3 (some .boolean), .methodLink RX7 149 yX7_layMean, .instanceMethod yX7_layMean, .selects RX7 yX7_layMean yX7_layMean, .code yX7_layMean cX7_layMean 16 none, .constantLong RX7 125 (10), .methodLink RX7 57 yX7_backOf, .static yX7_backOf, .code yX7_backOf cX7_backOf 3 (some .int), .methodLink RX7 53 yX7_onOf, .static yX7_onOf, .code yX7_onOf cX7_onOf 5 (some .int), .methodLink RX7 137 yX7_part, .static yX7_part, .code yX7_part cX7_part 11 (some .long)] ++ wsX70)
def wsX7_oddsOf : List Cond := .code yX7_oddsOf cX7_oddsOf 5 (some .long) :: ([.fieldLink RX7 23 "DeedTortoiseModel" "now" "[I", .fieldLink RX7 35 "DeedTortoiseModel" "odds" "[J"] ++ wsX70)
def wsX7_right_r1 : List Cond := [Cond.fieldLink RX7 23 "DeedTortoiseModel" "now" "[I", Cond.fieldLink RX7 129 "DeedTortoiseModel" "allOdds" "J", Cond.methodLink RX7 60 yX7_isClaim, Cond.instanceMethod yX7_isClaim, Cond.selects RX7 yX7_isClaim yX7_isClaim, Cond.initialized RX7, Cond.code yX7_isClaim cX7_isClaim 2 (some .boolean), Cond.methodLink RX7 41 yX7_in, Cond.static yX7_in, Cond.code yX7_in cX7_in 3 (some .boolean), Cond.methodLink RX7 133 yX7_layOdds, Cond.instanceMethod yX7_layOdds, Cond.selects RX7 yX7_layOdds yX7_layOdds, Cond.code yX7_layOdds cX7_layOdds 14 none, Cond.fieldLink RX7 35 "DeedTortoiseModel" "odds" "[J", Cond.constantLong RX7 125 (10), Cond.constantLong RX7 127 (100), Cond.fieldLink RX7 38 "DeedTortoiseModel" "then" "[J", Cond.methodLink RX7 53 yX7_onOf, Cond.static yX7_onOf, Cond.code yX7_onOf cX7_onOf 5 (some .int), Cond.methodLink RX7 57 yX7_backOf, Cond.static yX7_backOf, Cond.code yX7_backOf cX7_backOf 3 (some .int)]
def wsX7_right_r2 : List Cond := [Cond.methodLink RX7 153 yX7_oddsOf, Cond.instanceMethod yX7_oddsOf, Cond.selects RX7 yX7_oddsOf yX7_oddsOf, Cond.code yX7_oddsOf cX7_oddsOf 5 (some .long), Cond.methodLink RX7 137 yX7_part, Cond.static yX7_part, Cond.code yX7_part cX7_part 11 (some .long)]
def wsX7_right : List Cond := .code yX7_right cX7_right 6 (some .int) :: ((wsX7_right_r1 ++ wsX7_right_r2) ++ wsX70)
def wsX7_sure : List Cond := .code yX7_sure cX7_sure 4 (some .int) :: ([.fieldLink RX7 23 "DeedTortoiseModel" "now" "[I", .fieldLink RX7 35 "DeedTortoiseModel" "odds" "[J", .methodLink RX7 41 yX7_in, .static yX7_in, .initialized RX7, .code yX7_in cX7_in 3 (some .boolean), .methodLink RX7 133 yX7_layOdds, .instanceMethod yX7_layOdds, .selects RX7 yX7_layOdds yX7_layOdds, .code yX7_layOdds cX7_layOdds 14 none, .constantLong RX7 125 (10), .constantLong RX7 127 (100), .fieldLink RX7 129 "DeedTortoiseModel" "allOdds" "J", .fieldLink RX7 38 "DeedTortoiseModel" "then" "[J", .methodLink RX7 53 yX7_onOf, .static yX7_onOf, .code yX7_onOf cX7_onOf 5 (some .int), .methodLink RX7 57 yX7_backOf, .static yX7_backOf, .code yX7_backOf cX7_backOf 3 (some .int)] ++ wsX70)
def wsX7_down_r1 : List Cond := [Cond.fieldLink RX7 23 "DeedTortoiseModel" "now" "[I", Cond.constantLong RX7 147 (-1), Cond.fieldLink RX7 26 "DeedTortoiseModel" "tried" "[I", Cond.fieldLink RX7 141 "DeedTortoiseModel" "meanUp" "J", Cond.fieldLink RX7 160 "DeedTortoiseModel" "bestDown" "J", Cond.fieldLink RX7 163 "DeedTortoiseModel" "bestUp" "J", Cond.fieldLink RX7 144 "DeedTortoiseModel" "meanDown" "J", Cond.methodLink RX7 41 yX7_in, Cond.static yX7_in, Cond.initialized RX7, Cond.code yX7_in cX7_in 3 (some .boolean), Cond.methodLink RX7 157 yX7_begin, Cond.instanceMethod yX7_begin, Cond.selects RX7 yX7_begin yX7_begin, Cond.code yX7_begin cX7_begin 1 none, Cond.methodLink RX7 101 yX7_bring, Cond.static yX7_bring, Cond.code yX7_bring cX7_bring 6 none, Cond.methodLink RX7 149 yX7_layMean, Cond.instanceMethod yX7_layMean, Cond.selects RX7 yX7_layMean yX7_layMean, Cond.code yX7_layMean cX7_layMean 16 none, Cond.constantLong RX7 125 (10), Cond.methodLink RX7 57 yX7_backOf]
def wsX7_down_r2 : List Cond := [Cond.static yX7_backOf, Cond.code yX7_backOf cX7_backOf 3 (some .int), Cond.methodLink RX7 53 yX7_onOf, Cond.static yX7_onOf, Cond.code yX7_onOf cX7_onOf 5 (some .int), Cond.methodLink RX7 137 yX7_part, Cond.static yX7_part, Cond.code yX7_part cX7_part 11 (some .long)]
def wsX7_down : List Cond := .code yX7_down cX7_down 5 (some .long) :: ((wsX7_down_r1 ++ wsX7_down_r2) ++ wsX70)
def wsX7_keep_r1 : List Cond := [Cond.fieldLink RX7 26 "DeedTortoiseModel" "tried" "[I", Cond.fieldLink RX7 23 "DeedTortoiseModel" "now" "[I", Cond.constantLong RX7 127 (100), Cond.fieldLink RX7 35 "DeedTortoiseModel" "odds" "[J", Cond.fieldLink RX7 129 "DeedTortoiseModel" "allOdds" "J", Cond.methodLink RX7 41 yX7_in, Cond.static yX7_in, Cond.initialized RX7, Cond.code yX7_in cX7_in 3 (some .boolean), Cond.methodLink RX7 157 yX7_begin, Cond.instanceMethod yX7_begin, Cond.selects RX7 yX7_begin yX7_begin, Cond.code yX7_begin cX7_begin 1 none, Cond.methodLink RX7 101 yX7_bring, Cond.static yX7_bring, Cond.code yX7_bring cX7_bring 6 none, Cond.methodLink RX7 133 yX7_layOdds, Cond.instanceMethod yX7_layOdds, Cond.selects RX7 yX7_layOdds yX7_layOdds, Cond.code yX7_layOdds cX7_layOdds 14 none, Cond.constantLong RX7 125 (10), Cond.fieldLink RX7 38 "DeedTortoiseModel" "then" "[J", Cond.methodLink RX7 53 yX7_onOf, Cond.static yX7_onOf]
def wsX7_keep_r2 : List Cond := [Cond.code yX7_onOf cX7_onOf 5 (some .int), Cond.methodLink RX7 57 yX7_backOf, Cond.static yX7_backOf, Cond.code yX7_backOf cX7_backOf 3 (some .int)]
def wsX7_keep : List Cond := .code yX7_keep cX7_keep 4 (some .int) :: ((wsX7_keep_r1 ++ wsX7_keep_r2) ++ wsX70)
def wsX7_early : List Cond := .code yX7_early cX7_early 4 (some .int) :: ([.fieldLink RX7 23 "DeedTortoiseModel" "now" "[I", .constantLong RX7 127 (100), .fieldLink RX7 35 "DeedTortoiseModel" "odds" "[J", .fieldLink RX7 129 "DeedTortoiseModel" "allOdds" "J", .methodLink RX7 45 yX7_isField, .static yX7_isField, .initialized RX7, .code yX7_isField cX7_isField 1 (some .boolean), .methodLink RX7 41 yX7_in, .static yX7_in, .code yX7_in cX7_in 3 (some .boolean), .methodLink RX7 133 yX7_layOdds, .instanceMethod yX7_layOdds, .selects RX7 yX7_layOdds yX7_layOdds, .code yX7_layOdds cX7_layOdds 14 none, .constantLong RX7 125 (10), .fieldLink RX7 38 "DeedTortoiseModel" "then" "[J", .methodLink RX7 53 yX7_onOf, .static yX7_onOf, .code yX7_onOf cX7_onOf 5 (some .int), .methodLink RX7 57 yX7_backOf, .static yX7_backOf, .code yX7_backOf cX7_backOf 3 (some .int)] ++ wsX70)
def wsX7_next_r1 : List Cond := [Cond.fieldLink RX7 26 "DeedTortoiseModel" "tried" "[I", Cond.methodLink RX7 41 yX7_in, Cond.static yX7_in, Cond.initialized RX7, Cond.code yX7_in cX7_in 3 (some .boolean), Cond.methodLink RX7 157 yX7_begin, Cond.instanceMethod yX7_begin, Cond.selects RX7 yX7_begin yX7_begin, Cond.code yX7_begin cX7_begin 1 none, Cond.fieldLink RX7 23 "DeedTortoiseModel" "now" "[I", Cond.methodLink RX7 101 yX7_bring, Cond.static yX7_bring, Cond.code yX7_bring cX7_bring 6 none, Cond.methodLink RX7 121 yX7_dayIn, Cond.static yX7_dayIn, Cond.code yX7_dayIn cX7_dayIn 4 none, Cond.constantLong RX7 111 (1103515245), Cond.constantLong RX7 113 (12345), Cond.constantLong RX7 115 (2147483648), Cond.constant RX7 117 (65536), Cond.methodLink RX7 53 yX7_onOf, Cond.static yX7_onOf, Cond.code yX7_onOf cX7_onOf 5 (some .int), Cond.methodLink RX7 57 yX7_backOf]
def wsX7_next_r2 : List Cond := [Cond.static yX7_backOf, Cond.code yX7_backOf cX7_backOf 3 (some .int)]
def wsX7_next : List Cond := .code yX7_next cX7_next 3 (some .int) :: ((wsX7_next_r1 ++ wsX7_next_r2) ++ wsX70)
def wsX7_winter_r1 : List Cond := [Cond.fieldLink RX7 23 "DeedTortoiseModel" "now" "[I", Cond.fieldLink RX7 35 "DeedTortoiseModel" "odds" "[J", Cond.fieldLink RX7 129 "DeedTortoiseModel" "allOdds" "J", Cond.methodLink RX7 45 yX7_isField, Cond.static yX7_isField, Cond.initialized RX7, Cond.code yX7_isField cX7_isField 1 (some .boolean), Cond.methodLink RX7 41 yX7_in, Cond.static yX7_in, Cond.code yX7_in cX7_in 3 (some .boolean), Cond.methodLink RX7 133 yX7_layOdds, Cond.instanceMethod yX7_layOdds, Cond.selects RX7 yX7_layOdds yX7_layOdds, Cond.code yX7_layOdds cX7_layOdds 14 none, Cond.constantLong RX7 125 (10), Cond.constantLong RX7 127 (100), Cond.fieldLink RX7 38 "DeedTortoiseModel" "then" "[J", Cond.methodLink RX7 53 yX7_onOf, Cond.static yX7_onOf, Cond.code yX7_onOf cX7_onOf 5 (some .int), Cond.methodLink RX7 57 yX7_backOf, Cond.static yX7_backOf, Cond.code yX7_backOf cX7_backOf 3 (some .int), Cond.methodLink RX7 137 yX7_part]
def wsX7_winter_r2 : List Cond := [Cond.static yX7_part, Cond.code yX7_part cX7_part 11 (some .long)]
def wsX7_winter : List Cond := .code yX7_winter cX7_winter 5 (some .int) :: ((wsX7_winter_r1 ++ wsX7_winter_r2) ++ wsX70)
def wsX7_image : List Cond := .code yX7_image cX7_image 1 (some .int) :: ([.fieldLink RX7 23 "DeedTortoiseModel" "now" "[I", .fieldLink RX7 32 "DeedTortoiseModel" "kept" "[I", .fieldLink RX7 166 "DeedTortoiseModel" "isKept" "Z", .methodLink RX7 101 yX7_bring, .static yX7_bring, .initialized RX7, .code yX7_bring cX7_bring 6 none] ++ wsX70)
def wsX7_restore : List Cond := .code yX7_restore cX7_restore 1 (some .int) :: ([.fieldLink RX7 166 "DeedTortoiseModel" "isKept" "Z", .fieldLink RX7 32 "DeedTortoiseModel" "kept" "[I", .fieldLink RX7 23 "DeedTortoiseModel" "now" "[I", .methodLink RX7 101 yX7_bring, .static yX7_bring, .initialized RX7, .code yX7_bring cX7_bring 6 none] ++ wsX70)
def wsX7_isSheet : List Cond := .code yX7_isSheet cX7_isSheet 1 (some .boolean) :: ([.methodLink RX7 41 yX7_in, .static yX7_in, .initialized RX7, .code yX7_in cX7_in 3 (some .boolean)])
def wsX7_isPart : List Cond := .code yX7_isPart cX7_isPart 3 (some .boolean) :: ([])
def wsX7_wrong : List Cond := .code yX7_wrong cX7_wrong 5 (some .int) :: ([.fieldLink RX7 7 "DeedTortoiseModel" "lane" "[I", .fieldLink RX7 13 "DeedTortoiseModel" "size" "[I", .methodLink RX7 170 yX7_isPart, .static yX7_isPart, .initialized RX7, .code yX7_isPart cX7_isPart 3 (some .boolean)] ++ wsX70)
def wsX7_wayOdds : List Cond := .code yX7_wayOdds cX7_wayOdds 14 (some .long) :: ([.fieldLink RX7 16 "DeedTortoiseModel" "item" "[J", .constantLong RX7 173 (6), .fieldLink RX7 23 "DeedTortoiseModel" "now" "[I", .methodLink RX7 53 yX7_onOf, .static yX7_onOf, .initialized RX7, .code yX7_onOf cX7_onOf 5 (some .int), .methodLink RX7 57 yX7_backOf, .static yX7_backOf, .code yX7_backOf cX7_backOf 3 (some .int)] ++ wsX70)
def wsX7_seen_r1 : List Cond := [Cond.constantLong RX7 125 (10), Cond.fieldLink RX7 23 "DeedTortoiseModel" "now" "[I", Cond.methodLink RX7 175 yX7_isSheet, Cond.static yX7_isSheet, Cond.initialized RX7, Cond.code yX7_isSheet cX7_isSheet 1 (some .boolean), Cond.methodLink RX7 41 yX7_in, Cond.static yX7_in, Cond.code yX7_in cX7_in 3 (some .boolean), Cond.methodLink RX7 178 yX7_wrong, Cond.instanceMethod yX7_wrong, Cond.selects RX7 yX7_wrong yX7_wrong, Cond.code yX7_wrong cX7_wrong 5 (some .int), Cond.fieldLink RX7 7 "DeedTortoiseModel" "lane" "[I", Cond.fieldLink RX7 13 "DeedTortoiseModel" "size" "[I", Cond.methodLink RX7 170 yX7_isPart, Cond.static yX7_isPart, Cond.code yX7_isPart cX7_isPart 3 (some .boolean), Cond.methodLink RX7 182 yX7_wayOdds, Cond.instanceMethod yX7_wayOdds, Cond.selects RX7 yX7_wayOdds yX7_wayOdds, Cond.code yX7_wayOdds cX7_wayOdds 14 (some .long), Cond.fieldLink RX7 16 "DeedTortoiseModel" "item" "[J", Cond.constantLong RX7 173 (6)]
def wsX7_seen_r2 : List Cond := [Cond.methodLink RX7 53 yX7_onOf, Cond.static yX7_onOf, Cond.code yX7_onOf cX7_onOf 5 (some .int), Cond.methodLink RX7 57 yX7_backOf, Cond.static yX7_backOf, Cond.code yX7_backOf cX7_backOf 3 (some .int), Cond.methodLink RX7 137 yX7_part, Cond.static yX7_part, Cond.code yX7_part cX7_part 11 (some .long)]
def wsX7_seen : List Cond := .code yX7_seen cX7_seen 10 (some .int) :: ((wsX7_seen_r1 ++ wsX7_seen_r2) ++ wsX70)
def wsX7_isBorne : List Cond := .code yX7_isBorne cX7_isBorne 6 (some .boolean) :: ([.fieldLink RX7 26 "DeedTortoiseModel" "tried" "[I", .fieldLink RX7 16 "DeedTortoiseModel" "item" "[J", .methodLink RX7 121 yX7_dayIn, .static yX7_dayIn, .initialized RX7, .code yX7_dayIn cX7_dayIn 4 none, .constantLong RX7 111 (1103515245), .constantLong RX7 113 (12345), .constantLong RX7 115 (2147483648), .constant RX7 117 (65536), .methodLink RX7 53 yX7_onOf, .static yX7_onOf, .code yX7_onOf cX7_onOf 5 (some .int), .methodLink RX7 57 yX7_backOf, .static yX7_backOf, .code yX7_backOf cX7_backOf 3 (some .int)] ++ wsX70)
def wsX7_bore_r1 : List Cond := [Cond.fieldLink RX7 26 "DeedTortoiseModel" "tried" "[I", Cond.methodLink RX7 45 yX7_isField, Cond.static yX7_isField, Cond.initialized RX7, Cond.code yX7_isField cX7_isField 1 (some .boolean), Cond.methodLink RX7 41 yX7_in, Cond.static yX7_in, Cond.code yX7_in cX7_in 3 (some .boolean), Cond.methodLink RX7 175 yX7_isSheet, Cond.static yX7_isSheet, Cond.code yX7_isSheet cX7_isSheet 1 (some .boolean), Cond.methodLink RX7 178 yX7_wrong, Cond.instanceMethod yX7_wrong, Cond.selects RX7 yX7_wrong yX7_wrong, Cond.code yX7_wrong cX7_wrong 5 (some .int), Cond.fieldLink RX7 7 "DeedTortoiseModel" "lane" "[I", Cond.fieldLink RX7 13 "DeedTortoiseModel" "size" "[I", Cond.methodLink RX7 170 yX7_isPart, Cond.static yX7_isPart, Cond.code yX7_isPart cX7_isPart 3 (some .boolean), Cond.methodLink RX7 157 yX7_begin, Cond.instanceMethod yX7_begin, Cond.selects RX7 yX7_begin yX7_begin, Cond.code yX7_begin cX7_begin 1 none]
def wsX7_bore_r2 : List Cond := [Cond.fieldLink RX7 23 "DeedTortoiseModel" "now" "[I", Cond.methodLink RX7 101 yX7_bring, Cond.static yX7_bring, Cond.code yX7_bring cX7_bring 6 none, Cond.methodLink RX7 186 yX7_isBorne, Cond.instanceMethod yX7_isBorne, Cond.selects RX7 yX7_isBorne yX7_isBorne, Cond.code yX7_isBorne cX7_isBorne 6 (some .boolean), Cond.fieldLink RX7 16 "DeedTortoiseModel" "item" "[J", Cond.methodLink RX7 121 yX7_dayIn, Cond.static yX7_dayIn, Cond.code yX7_dayIn cX7_dayIn 4 none, Cond.constantLong RX7 111 (1103515245), Cond.constantLong RX7 113 (12345), Cond.constantLong RX7 115 (2147483648), Cond.constant RX7 117 (65536), Cond.methodLink RX7 53 yX7_onOf, Cond.static yX7_onOf, Cond.code yX7_onOf cX7_onOf 5 (some .int), Cond.methodLink RX7 57 yX7_backOf, Cond.static yX7_backOf, Cond.code yX7_backOf cX7_backOf 3 (some .int)]
def wsX7_bore : List Cond := .code yX7_bore cX7_bore 10 (some .int) :: ((wsX7_bore_r1 ++ wsX7_bore_r2) ++ wsX70)
def wsX7_cutTo : List Cond := .code yX7_cutTo cX7_cutTo 3 (some .long) :: ([])
def wsX7_film_r1 : List Cond := [Cond.fieldLink RX7 26 "DeedTortoiseModel" "tried" "[I", Cond.fieldLink RX7 16 "DeedTortoiseModel" "item" "[J", Cond.methodLink RX7 41 yX7_in, Cond.static yX7_in, Cond.initialized RX7, Cond.code yX7_in cX7_in 3 (some .boolean), Cond.methodLink RX7 175 yX7_isSheet, Cond.static yX7_isSheet, Cond.code yX7_isSheet cX7_isSheet 1 (some .boolean), Cond.methodLink RX7 178 yX7_wrong, Cond.instanceMethod yX7_wrong, Cond.selects RX7 yX7_wrong yX7_wrong, Cond.code yX7_wrong cX7_wrong 5 (some .int), Cond.fieldLink RX7 7 "DeedTortoiseModel" "lane" "[I", Cond.fieldLink RX7 13 "DeedTortoiseModel" "size" "[I", Cond.methodLink RX7 170 yX7_isPart, Cond.static yX7_isPart, Cond.code yX7_isPart cX7_isPart 3 (some .boolean), Cond.methodLink RX7 157 yX7_begin, Cond.instanceMethod yX7_begin, Cond.selects RX7 yX7_begin yX7_begin, Cond.code yX7_begin cX7_begin 1 none, Cond.fieldLink RX7 23 "DeedTortoiseModel" "now" "[I", Cond.methodLink RX7 101 yX7_bring]
def wsX7_film_r2 : List Cond := [Cond.static yX7_bring, Cond.code yX7_bring cX7_bring 6 none, Cond.methodLink RX7 121 yX7_dayIn, Cond.static yX7_dayIn, Cond.code yX7_dayIn cX7_dayIn 4 none, Cond.constantLong RX7 111 (1103515245), Cond.constantLong RX7 113 (12345), Cond.constantLong RX7 115 (2147483648), Cond.constant RX7 117 (65536), Cond.methodLink RX7 53 yX7_onOf, Cond.static yX7_onOf, Cond.code yX7_onOf cX7_onOf 5 (some .int), Cond.methodLink RX7 57 yX7_backOf, Cond.static yX7_backOf, Cond.code yX7_backOf cX7_backOf 3 (some .int), Cond.methodLink RX7 189 yX7_cutTo, Cond.static yX7_cutTo, Cond.code yX7_cutTo cX7_cutTo 3 (some .long)]
def wsX7_film : List Cond := .code yX7_film cX7_film 7 (some .int) :: ((wsX7_film_r1 ++ wsX7_film_r2) ++ wsX70)
def wsX7_sheet : List Cond := .code yX7_sheet cX7_sheet 5 (some .int) :: ([.fieldLink RX7 7 "DeedTortoiseModel" "lane" "[I", .fieldLink RX7 13 "DeedTortoiseModel" "size" "[I", .fieldLink RX7 16 "DeedTortoiseModel" "item" "[J", .methodLink RX7 175 yX7_isSheet, .static yX7_isSheet, .initialized RX7, .code yX7_isSheet cX7_isSheet 1 (some .boolean), .methodLink RX7 41 yX7_in, .static yX7_in, .code yX7_in cX7_in 3 (some .boolean)] ++ wsX70)
def wsX7_drop : List Cond := .code yX7_drop cX7_drop 2 (some .int) :: ([.fieldLink RX7 7 "DeedTortoiseModel" "lane" "[I", .fieldLink RX7 13 "DeedTortoiseModel" "size" "[I", .methodLink RX7 175 yX7_isSheet, .static yX7_isSheet, .initialized RX7, .code yX7_isSheet cX7_isSheet 1 (some .boolean), .methodLink RX7 41 yX7_in, .static yX7_in, .code yX7_in cX7_in 3 (some .boolean)] ++ wsX70)
def wsX7_item : List Cond := .code yX7_item cX7_item 7 (some .int) :: ([.fieldLink RX7 16 "DeedTortoiseModel" "item" "[J", .methodLink RX7 175 yX7_isSheet, .static yX7_isSheet, .initialized RX7, .code yX7_isSheet cX7_isSheet 1 (some .boolean), .methodLink RX7 41 yX7_in, .static yX7_in, .code yX7_in cX7_in 3 (some .boolean), .methodLink RX7 178 yX7_wrong, .instanceMethod yX7_wrong, .selects RX7 yX7_wrong yX7_wrong, .code yX7_wrong cX7_wrong 5 (some .int), .fieldLink RX7 7 "DeedTortoiseModel" "lane" "[I", .fieldLink RX7 13 "DeedTortoiseModel" "size" "[I", .methodLink RX7 170 yX7_isPart, .static yX7_isPart, .code yX7_isPart cX7_isPart 3 (some .boolean)] ++ wsX70)
def wsX7_copy : List Cond := .code yX7_copy cX7_copy 9 (some .int) :: ([.fieldLink RX7 7 "DeedTortoiseModel" "lane" "[I", .fieldLink RX7 13 "DeedTortoiseModel" "size" "[I", .fieldLink RX7 16 "DeedTortoiseModel" "item" "[J", .methodLink RX7 175 yX7_isSheet, .static yX7_isSheet, .initialized RX7, .code yX7_isSheet cX7_isSheet 1 (some .boolean), .methodLink RX7 41 yX7_in, .static yX7_in, .code yX7_in cX7_in 3 (some .boolean), .methodLink RX7 170 yX7_isPart, .static yX7_isPart, .code yX7_isPart cX7_isPart 3 (some .boolean)] ++ wsX70)
def wsJ9_max_7cf53 : List Cond := .code yJ9_max_7cf53 cJ9_max_7cf53 2 (some .int) :: ([])
def wsJ9_min_7cf53 : List Cond := .code yJ9_min_7cf53 cJ9_min_7cf53 2 (some .int) :: ([])
def wsL_law_r1 : List Cond := [Cond.classLink RL 7 RX6, Cond.instantiable RX6 9, Cond.initialized RX6, Cond.classLink RL 10 RX7, Cond.instantiable RX7 19, Cond.initialized RX7, Cond.constantLong RL 141 (4294967295), Cond.methodLink RL 9 yX6_init, Cond.instanceMethod yX6_init, Cond.code yX6_init cX6_init 2 none, Cond.methodLink RX6 1 objectInit, Cond.instanceMethod objectInit, Cond.code objectInit ⟨#[0xb1]⟩ 1 none, Cond.classLink RX6 7 RX1, Cond.instantiable RX1 8, Cond.initialized RX1, Cond.fieldLink RX6 10 "DeedTortoise" "land" "LDeedTortoise$Land;", Cond.fieldLink RX6 16 "DeedTortoise" "kept" "LDeedTortoise$Land;", Cond.fieldLink RX6 19 "DeedTortoise" "trial" "LDeedTortoise$Land;", Cond.classLink RX6 22 RX5, Cond.instantiable RX5 7, Cond.initialized RX5, Cond.fieldLink RX6 25 "DeedTortoise" "ways" "LDeedTortoise$Ways;", Cond.classLink RX6 29 RX0]
def wsL_law_r2 : List Cond := [Cond.instantiable RX0 2, Cond.initialized RX0, Cond.fieldLink RX6 32 "DeedTortoise" "fraction" "LDeedTortoise$Fraction;", Cond.fieldLink RX6 36 "DeedTortoise" "tried" "LDeedTortoise$Fraction;", Cond.classLink RX6 39 RX3, Cond.instantiable RX3 3, Cond.initialized RX3, Cond.fieldLink RX6 42 "DeedTortoise" "reader" "LDeedTortoise$Reader;", Cond.classLink RX6 46 RX4, Cond.fieldLink RX6 48 "DeedTortoise" "sheets" "[LDeedTortoise$Sheet;", Cond.instantiable RX4 4, Cond.initialized RX4, Cond.fieldLink RX6 53 "DeedTortoise" "hasKept" "Z", Cond.methodLink RX6 9 yX1_init, Cond.instanceMethod yX1_init, Cond.code yX1_init cX1_init 2 none, Cond.methodLink RX1 3 objectInit, Cond.arrayClass .int, Cond.fieldLink RX1 9 "DeedTortoise$Land" "kind" "[I", Cond.classLink RX1 15 RX2, Cond.instantiable RX2 5, Cond.initialized RX2, Cond.fieldLink RX1 18 "DeedTortoise$Land" "now" "LDeedTortoise$Moment;", Cond.fieldLink RX1 22 "DeedTortoise$Land" "past" "[LDeedTortoise$Moment;"]
def wsL_law_r3 : List Cond := [Cond.fieldLink RX1 26 "DeedTortoise$Land" "known" "I", Cond.fieldLink RX1 30 "DeedTortoise$Land" "first" "[I", Cond.fieldLink RX1 33 "DeedTortoise$Land" "last" "[I", Cond.fieldLink RX1 36 "DeedTortoise$Land" "worth" "[I", Cond.fieldLink RX1 39 "DeedTortoise$Land" "claims" "I", Cond.instanceMethod yX2_init, Cond.code yX2_init cX2_init 1 none, Cond.methodLink RX2 3 objectInit, Cond.fieldLink RX2 9 "DeedTortoise$Moment" "spot" "I", Cond.fieldLink RX2 15 "DeedTortoise$Moment" "day" "I", Cond.fieldLink RX2 18 "DeedTortoise$Moment" "draw" "I", Cond.fieldLink RX2 21 "DeedTortoise$Moment" "food" "[I", Cond.fieldLink RX2 25 "DeedTortoise$Moment" "hedge" "[I", Cond.instanceMethod yX5_init, Cond.code yX5_init cX5_init 1 none, Cond.methodLink RX5 3 objectInit, Cond.fieldLink RX5 9 "DeedTortoise$Ways" "on" "[I", Cond.fieldLink RX5 15 "DeedTortoise$Ways" "back" "[I", Cond.fieldLink RX5 18 "DeedTortoise$Ways" "whole" "I", Cond.arrayClass .long, Cond.fieldLink RX5 22 "DeedTortoise$Ways" "odds" "[J", Cond.fieldLink RX5 26 "DeedTortoise$Ways" "after" "[J", Cond.fieldLink RX5 29 "DeedTortoise$Ways" "all" "J", Cond.classLink RX5 33 RX0]
def wsL_law_r4 : List Cond := [Cond.fieldLink RX5 36 "DeedTortoise$Ways" "step" "LDeedTortoise$Fraction;", Cond.instanceMethod yX0_init, Cond.code yX0_init cX0_init 1 none, Cond.methodLink RX0 1 objectInit, Cond.fieldLink RX0 7 "DeedTortoise$Fraction" "above" "J", Cond.fieldLink RX0 13 "DeedTortoise$Fraction" "below" "J", Cond.instanceMethod yX3_init, Cond.code yX3_init cX3_init 1 none, Cond.methodLink RX3 3 objectInit, Cond.fieldLink RX3 9 "DeedTortoise$Reader" "letters" "[I", Cond.fieldLink RX3 15 "DeedTortoise$Reader" "length" "I", Cond.fieldLink RX3 19 "DeedTortoise$Reader" "place" "I", Cond.instanceMethod yX4_init, Cond.code yX4_init cX4_init 1 none, Cond.methodLink RX4 3 objectInit, Cond.fieldLink RX4 9 "DeedTortoise$Sheet" "isHeld" "Z", Cond.fieldLink RX4 15 "DeedTortoise$Sheet" "lane" "I", Cond.fieldLink RX4 19 "DeedTortoise$Sheet" "length" "I", Cond.fieldLink RX4 22 "DeedTortoise$Sheet" "items" "[J", Cond.methodLink RL 12 yX7_init, Cond.instanceMethod yX7_init, Cond.code yX7_init cX7_init 2 none, Cond.methodLink RX7 1 objectInit, Cond.fieldLink RX7 7 "DeedTortoiseModel" "lane" "[I"]
def wsL_law_r5 : List Cond := [Cond.fieldLink RX7 13 "DeedTortoiseModel" "size" "[I", Cond.fieldLink RX7 16 "DeedTortoiseModel" "item" "[J", Cond.fieldLink RX7 20 "DeedTortoiseModel" "tape" "[I", Cond.fieldLink RX7 23 "DeedTortoiseModel" "now" "[I", Cond.fieldLink RX7 26 "DeedTortoiseModel" "tried" "[I", Cond.fieldLink RX7 29 "DeedTortoiseModel" "read" "[I", Cond.fieldLink RX7 32 "DeedTortoiseModel" "kept" "[I", Cond.fieldLink RX7 35 "DeedTortoiseModel" "odds" "[J", Cond.fieldLink RX7 38 "DeedTortoiseModel" "then" "[J", Cond.methodLink RL 13 yX6_field, Cond.instanceMethod yX6_field, Cond.selects RX6 yX6_field yX6_field, Cond.code yX6_field cX6_field 4 (some .int), Cond.fieldLink RX6 65 "DeedTortoise$Land" "kind" "[I", Cond.methodLink RX6 57 yX6_isField, Cond.static yX6_isField, Cond.code yX6_isField cX6_isField 1 (some .boolean), Cond.methodLink RX6 61 yX6_isWithin, Cond.static yX6_isWithin, Cond.code yX6_isWithin cX6_isWithin 3 (some .boolean), Cond.methodLink RX6 69 yX1_forget, Cond.instanceMethod yX1_forget, Cond.selects RX1 yX1_forget yX1_forget, Cond.code yX1_forget cX1_forget 1 none]
def wsL_law_r6 : List Cond := [Cond.methodLink RL 17 yX7_field, Cond.instanceMethod yX7_field, Cond.selects RX7 yX7_field yX7_field, Cond.code yX7_field cX7_field 4 (some .int), Cond.methodLink RX7 45 yX7_isField, Cond.static yX7_isField, Cond.code yX7_isField cX7_isField 1 (some .boolean), Cond.methodLink RX7 41 yX7_in, Cond.static yX7_in, Cond.code yX7_in cX7_in 3 (some .boolean), Cond.methodLink RL 18 yX6_claim, Cond.instanceMethod yX6_claim, Cond.selects RX6 yX6_claim yX6_claim, Cond.code yX6_claim cX6_claim 4 (some .int), Cond.fieldLink RX6 72 "DeedTortoise$Land" "claims" "I", Cond.methodLink RX6 76 yX1_addClaim, Cond.instanceMethod yX1_addClaim, Cond.selects RX1 yX1_addClaim yX1_addClaim, Cond.code yX1_addClaim cX1_addClaim 4 none, Cond.methodLink RL 22 yX7_claim, Cond.instanceMethod yX7_claim, Cond.selects RX7 yX7_claim yX7_claim, Cond.code yX7_claim cX7_claim 4 (some .int), Cond.methodLink RX7 49 yX7_addClaim]
def wsL_law_r7 : List Cond := [Cond.static yX7_addClaim, Cond.code yX7_addClaim cX7_addClaim 5 (some .int), Cond.methodLink RL 23 yX6_of, Cond.instanceMethod yX6_of, Cond.selects RX6 yX6_of yX6_of, Cond.code yX6_of cX6_of 3 (some .int), Cond.fieldLink RX6 80 "DeedTortoise$Land" "now" "LDeedTortoise$Moment;", Cond.fieldLink RX6 84 "DeedTortoise$Moment" "food" "[I", Cond.fieldLink RX6 89 "DeedTortoise$Moment" "hedge" "[I", Cond.methodLink RX6 92 yX1_onFrom, Cond.instanceMethod yX1_onFrom, Cond.selects RX1 yX1_onFrom yX1_onFrom, Cond.code yX1_onFrom cX1_onFrom 3 (some .int), Cond.fieldLink RX1 42 "DeedTortoise$Moment" "food" "[I", Cond.methodLink RX1 52 Lib.Math.max.name, Cond.static Lib.Math.max.name, Cond.initialized "java/lang/Math", Cond.code Lib.Math.max.name Lib.Math.max.code 2 (some .int), Cond.methodLink RX1 45 yX1_onFromClover, Cond.static yX1_onFromClover, Cond.code yX1_onFromClover cX1_onFromClover 1 (some .int), Cond.methodLink RX1 49 yX1_onFromStubble, Cond.static yX1_onFromStubble, Cond.code yX1_onFromStubble cX1_onFromStubble 1 (some .int)]
def wsL_law_r8 : List Cond := [Cond.methodLink RX6 96 yX1_backFrom, Cond.instanceMethod yX1_backFrom, Cond.selects RX1 yX1_backFrom yX1_backFrom, Cond.code yX1_backFrom cX1_backFrom 2 (some .int), Cond.fieldLink RX1 58 "DeedTortoise$Moment" "hedge" "[I", Cond.methodLink RX1 64 Lib.Math.min.name, Cond.static Lib.Math.min.name, Cond.code Lib.Math.min.name Lib.Math.min.code 2 (some .int), Cond.methodLink RX1 61 yX1_onFrom, Cond.methodLink RL 26 yX7_of, Cond.instanceMethod yX7_of, Cond.selects RX7 yX7_of yX7_of, Cond.code yX7_of cX7_of 3 (some .int), Cond.methodLink RX7 53 yX7_onOf, Cond.static yX7_onOf, Cond.code yX7_onOf cX7_onOf 5 (some .int), Cond.methodLink RX7 57 yX7_backOf, Cond.static yX7_backOf, Cond.code yX7_backOf cX7_backOf 3 (some .int), Cond.methodLink RL 27 yX6_at, Cond.instanceMethod yX6_at, Cond.selects RX6 yX6_at yX6_at, Cond.code yX6_at cX6_at 3 (some .int), Cond.fieldLink RX6 102 "DeedTortoise$Land" "first" "[I"]
def wsL_law_r9 : List Cond := [Cond.fieldLink RX6 105 "DeedTortoise$Land" "last" "[I", Cond.fieldLink RX6 108 "DeedTortoise$Land" "worth" "[I", Cond.methodLink RX6 99 yX6_isClaim, Cond.instanceMethod yX6_isClaim, Cond.selects RX6 yX6_isClaim yX6_isClaim, Cond.code yX6_isClaim cX6_isClaim 2 (some .boolean), Cond.methodLink RL 30 yX7_at, Cond.instanceMethod yX7_at, Cond.selects RX7 yX7_at yX7_at, Cond.code yX7_at cX7_at 3 (some .int), Cond.methodLink RX7 60 yX7_isClaim, Cond.instanceMethod yX7_isClaim, Cond.selects RX7 yX7_isClaim yX7_isClaim, Cond.code yX7_isClaim cX7_isClaim 2 (some .boolean), Cond.methodLink RL 31 yX6_type, Cond.instanceMethod yX6_type, Cond.selects RX6 yX6_type yX6_type, Cond.code yX6_type cX6_type 2 (some .int), Cond.fieldLink RX6 114 "DeedTortoise$Reader" "length" "I", Cond.methodLink RX6 111 yX3_add, Cond.instanceMethod yX3_add, Cond.selects RX3 yX3_add yX3_add, Cond.code yX3_add cX3_add 2 (some .boolean), Cond.methodLink RL 35 yX7_type]
def wsL_law_r10 : List Cond := [Cond.instanceMethod yX7_type, Cond.selects RX7 yX7_type yX7_type, Cond.code yX7_type cX7_type 2 (some .int), Cond.fieldLink RX7 63 "DeedTortoiseModel" "letters" "I", Cond.methodLink RL 36 yX6_valley, Cond.instanceMethod yX6_valley, Cond.selects RX6 yX6_valley yX6_valley, Cond.code yX6_valley cX6_valley 3 (some .int), Cond.fieldLink RX6 125 "DeedTortoise$Reader" "place" "I", Cond.fieldLink RX6 134 "DeedTortoise$Moment" "day" "I", Cond.methodLink RX6 117 yX1_takeGround, Cond.instanceMethod yX1_takeGround, Cond.selects RX1 yX1_takeGround yX1_takeGround, Cond.code yX1_takeGround cX1_takeGround 2 none, Cond.methodLink RX1 95 arraycopyName, Cond.native arraycopyName, Cond.static arraycopyName, Cond.initialized "java/lang/System", Cond.methodLink RX1 87 yX2_take, Cond.instanceMethod yX2_take, Cond.selects RX2 yX2_take yX2_take, Cond.code yX2_take cX2_take 2 none, Cond.methodLink RX2 28 arraycopyName, Cond.methodLink RX6 121 yX3_readValley]
def wsL_law_r11 : List Cond := [Cond.instanceMethod yX3_readValley, Cond.selects RX3 yX3_readValley yX3_readValley, Cond.code yX3_readValley cX3_readValley 4 (some .boolean), Cond.fieldLink RX3 22 "DeedTortoise$Land" "claims" "I", Cond.fieldLink RX3 35 "DeedTortoise$Land" "now" "LDeedTortoise$Moment;", Cond.fieldLink RX3 39 "DeedTortoise$Moment" "spot" "I", Cond.methodLink RX3 27 yX3_readDigit, Cond.instanceMethod yX3_readDigit, Cond.selects RX3 yX3_readDigit yX3_readDigit, Cond.code yX3_readDigit cX3_readDigit 4 (some .int), Cond.methodLink RX3 52 yX3_look, Cond.instanceMethod yX3_look, Cond.selects RX3 yX3_look yX3_look, Cond.code yX3_look cX3_look 1 (some .int), Cond.methodLink RX3 31 yX3_accepts, Cond.instanceMethod yX3_accepts, Cond.selects RX3 yX3_accepts yX3_accepts, Cond.code yX3_accepts cX3_accepts 2 (some .boolean), Cond.methodLink RX3 44 yX3_readField, Cond.instanceMethod yX3_readField, Cond.selects RX3 yX3_readField yX3_readField, Cond.code yX3_readField cX3_readField 5 (some .boolean), Cond.fieldLink RX3 60 "DeedTortoise$Land" "kind" "[I", Cond.fieldLink RX3 63 "DeedTortoise$Moment" "food" "[I"]
def wsL_law_r12 : List Cond := [Cond.methodLink RX3 66 Lib.Math.max.name, Cond.fieldLink RX3 71 "DeedTortoise$Moment" "hedge" "[I", Cond.methodLink RX3 56 yX3_kindOf, Cond.static yX3_kindOf, Cond.code yX3_kindOf cX3_kindOf 1 (some .int), Cond.methodLink RX3 48 yX3_readClaims, Cond.instanceMethod yX3_readClaims, Cond.selects RX3 yX3_readClaims yX3_readClaims, Cond.code yX3_readClaims cX3_readClaims 3 (some .boolean), Cond.methodLink RX3 74 yX3_readClaim, Cond.instanceMethod yX3_readClaim, Cond.selects RX3 yX3_readClaim yX3_readClaim, Cond.code yX3_readClaim cX3_readClaim 5 (some .boolean), Cond.methodLink RX3 77 yX3_readWorth, Cond.instanceMethod yX3_readWorth, Cond.selects RX3 yX3_readWorth yX3_readWorth, Cond.code yX3_readWorth cX3_readWorth 3 (some .int), Cond.methodLink RX3 80 yX1_addClaim, Cond.methodLink RX6 128 yX3_clear, Cond.instanceMethod yX3_clear, Cond.selects RX3 yX3_clear yX3_clear, Cond.code yX3_clear cX3_clear 1 none, Cond.methodLink RX6 131 yX1_takeClaims, Cond.instanceMethod yX1_takeClaims]
def wsL_law_r13 : List Cond := [Cond.selects RX1 yX1_takeClaims yX1_takeClaims, Cond.code yX1_takeClaims cX1_takeClaims 2 none, Cond.methodLink RL 40 yX7_valley, Cond.instanceMethod yX7_valley, Cond.selects RX7 yX7_valley yX7_valley, Cond.code yX7_valley cX7_valley 2 (some .int), Cond.fieldLink RX7 67 "DeedTortoiseModel" "position" "I", Cond.methodLink RX7 98 yX7_isValley, Cond.instanceMethod yX7_isValley, Cond.selects RX7 yX7_isValley yX7_isValley, Cond.code yX7_isValley cX7_isValley 2 (some .boolean), Cond.fieldLink RX7 74 "DeedTortoiseModel" "number" "I", Cond.methodLink RX7 77 yX7_isDigit, Cond.instanceMethod yX7_isDigit, Cond.selects RX7 yX7_isDigit yX7_isDigit, Cond.code yX7_isDigit cX7_isDigit 3 (some .boolean), Cond.methodLink RX7 70 yX7_peek, Cond.instanceMethod yX7_peek, Cond.selects RX7 yX7_peek yX7_peek, Cond.code yX7_peek cX7_peek 1 (some .int), Cond.methodLink RX7 85 yX7_isSign, Cond.instanceMethod yX7_isSign, Cond.selects RX7 yX7_isSign yX7_isSign, Cond.code yX7_isSign cX7_isSign 2 (some .boolean)]
def wsL_law_r14 : List Cond := [Cond.methodLink RX7 91 yX7_isFieldItem, Cond.instanceMethod yX7_isFieldItem, Cond.selects RX7 yX7_isFieldItem yX7_isFieldItem, Cond.code yX7_isFieldItem cX7_isFieldItem 3 (some .boolean), Cond.methodLink RX7 81 yX7_kindBy, Cond.static yX7_kindBy, Cond.code yX7_kindBy cX7_kindBy 1 (some .int), Cond.methodLink RX7 94 yX7_isClaimItem, Cond.instanceMethod yX7_isClaimItem, Cond.selects RX7 yX7_isClaimItem yX7_isClaimItem, Cond.code yX7_isClaimItem cX7_isClaimItem 3 (some .boolean), Cond.methodLink RX7 88 yX7_isNumber, Cond.instanceMethod yX7_isNumber, Cond.selects RX7 yX7_isNumber yX7_isNumber, Cond.code yX7_isNumber cX7_isNumber 5 (some .boolean), Cond.methodLink RX7 101 yX7_bring, Cond.static yX7_bring, Cond.code yX7_bring cX7_bring 6 none, Cond.methodLink RL 41 yX6_count, Cond.instanceMethod yX6_count, Cond.selects RX6 yX6_count yX6_count, Cond.code yX6_count cX6_count 2 (some .int), Cond.fieldLink RX6 137 "DeedTortoise$Moment" "spot" "I", Cond.fieldLink RX6 147 "DeedTortoise$Land" "known" "I"]
def wsL_law_r15 : List Cond := [Cond.methodLink RX6 140 yX6_sum, Cond.static yX6_sum, Cond.code yX6_sum cX6_sum 6 (some .int), Cond.methodLink RX6 144 yX1_claimsOn, Cond.instanceMethod yX1_claimsOn, Cond.selects RX1 yX1_claimsOn yX1_claimsOn, Cond.code yX1_claimsOn cX1_claimsOn 4 (some .int), Cond.methodLink RL 44 yX7_count, Cond.instanceMethod yX7_count, Cond.selects RX7 yX7_count yX7_count, Cond.code yX7_count cX7_count 2 (some .int), Cond.methodLink RX7 105 yX7_sumOf, Cond.static yX7_sumOf, Cond.code yX7_sumOf cX7_sumOf 4 (some .int), Cond.methodLink RX7 108 yX7_claimsHere, Cond.instanceMethod yX7_claimsHere, Cond.selects RX7 yX7_claimsHere yX7_claimsHere, Cond.code yX7_claimsHere cX7_claimsHere 3 (some .int), Cond.methodLink RL 45 yX6_days, Cond.instanceMethod yX6_days, Cond.selects RX6 yX6_days yX6_days, Cond.code yX6_days cX6_days 3 (some .int), Cond.methodLink RX6 150 yX1_remember, Cond.instanceMethod yX1_remember]
def wsL_law_r16 : List Cond := [Cond.selects RX1 yX1_remember yX1_remember, Cond.code yX1_remember cX1_remember 1 none, Cond.methodLink RX1 84 yX1_loseOldest, Cond.instanceMethod yX1_loseOldest, Cond.selects RX1 yX1_loseOldest yX1_loseOldest, Cond.code yX1_loseOldest cX1_loseOldest 3 none, Cond.methodLink RX6 153 yX1_passDay, Cond.instanceMethod yX1_passDay, Cond.selects RX1 yX1_passDay yX1_passDay, Cond.code yX1_passDay cX1_passDay 5 none, Cond.fieldLink RX1 67 "DeedTortoise$Moment" "spot" "I", Cond.fieldLink RX1 73 "DeedTortoise$Moment" "draw" "I", Cond.constant RX1 76 (1103515245), Cond.constant RX1 79 (2147483647), Cond.constant RX1 80 (65536), Cond.fieldLink RX1 81 "DeedTortoise$Moment" "day" "I", Cond.methodLink RX1 70 yX1_backFrom, Cond.methodLink RL 48 yX7_days, Cond.instanceMethod yX7_days, Cond.selects RX7 yX7_days yX7_days, Cond.code yX7_days cX7_days 3 (some .int), Cond.methodLink RX7 118 yX7_note, Cond.instanceMethod yX7_note, Cond.selects RX7 yX7_note yX7_note]
def wsL_law_r17 : List Cond := [Cond.code yX7_note cX7_note 1 none, Cond.methodLink RX7 121 yX7_dayIn, Cond.static yX7_dayIn, Cond.code yX7_dayIn cX7_dayIn 4 none, Cond.constantLong RX7 111 (1103515245), Cond.constantLong RX7 113 (12345), Cond.constantLong RX7 115 (2147483648), Cond.constant RX7 117 (65536), Cond.methodLink RL 49 yX6_carry, Cond.instanceMethod yX6_carry, Cond.selects RX6 yX6_carry yX6_carry, Cond.code yX6_carry cX6_carry 3 (some .int), Cond.methodLink RL 52 yX7_carry, Cond.instanceMethod yX7_carry, Cond.selects RX7 yX7_carry yX7_carry, Cond.code yX7_carry cX7_carry 3 (some .int), Cond.methodLink RL 53 yX6_lettuce, Cond.instanceMethod yX6_lettuce, Cond.selects RX6 yX6_lettuce yX6_lettuce, Cond.code yX6_lettuce cX6_lettuce 3 (some .int), Cond.methodLink RX6 156 Lib.Math.min.name, Cond.methodLink RL 56 yX7_lettuce, Cond.instanceMethod yX7_lettuce, Cond.selects RX7 yX7_lettuce yX7_lettuce]
def wsL_law_r18 : List Cond := [Cond.code yX7_lettuce cX7_lettuce 3 (some .int), Cond.methodLink RL 57 yX6_lay, Cond.instanceMethod yX6_lay, Cond.selects RX6 yX6_lay yX6_lay, Cond.code yX6_lay cX6_lay 4 (some .int), Cond.methodLink RL 60 yX7_lay, Cond.instanceMethod yX7_lay, Cond.selects RX7 yX7_lay yX7_lay, Cond.code yX7_lay cX7_lay 4 (some .int), Cond.methodLink RL 61 yX6_undo, Cond.instanceMethod yX6_undo, Cond.selects RX6 yX6_undo yX6_undo, Cond.code yX6_undo cX6_undo 1 (some .int), Cond.methodLink RX6 162 yX1_recall, Cond.instanceMethod yX1_recall, Cond.selects RX1 yX1_recall yX1_recall, Cond.code yX1_recall cX1_recall 1 none, Cond.methodLink RL 64 yX7_undo, Cond.instanceMethod yX7_undo, Cond.selects RX7 yX7_undo yX7_undo, Cond.code yX7_undo cX7_undo 1 (some .int), Cond.methodLink RL 65 yX6_seed, Cond.instanceMethod yX6_seed, Cond.selects RX6 yX6_seed yX6_seed]
def wsL_law_r19 : List Cond := [Cond.code yX6_seed cX6_seed 3 (some .int), Cond.fieldLink RX6 165 "DeedTortoise$Moment" "draw" "I", Cond.methodLink RL 68 yX7_seed, Cond.instanceMethod yX7_seed, Cond.selects RX7 yX7_seed yX7_seed, Cond.code yX7_seed cX7_seed 3 (some .int), Cond.methodLink RL 69 yX6_chance, Cond.instanceMethod yX6_chance, Cond.selects RX6 yX6_chance yX6_chance, Cond.code yX6_chance cX6_chance 4 (some .int), Cond.fieldLink RX6 175 "DeedTortoise$Ways" "odds" "[J", Cond.fieldLink RX6 179 "DeedTortoise$Ways" "all" "J", Cond.methodLink RX6 168 yX6_isForetold, Cond.static yX6_isForetold, Cond.code yX6_isForetold cX6_isForetold 1 (some .boolean), Cond.methodLink RX6 171 yX6_foretell, Cond.instanceMethod yX6_foretell, Cond.selects RX6 yX6_foretell yX6_foretell, Cond.code yX6_foretell cX6_foretell 3 none, Cond.methodLink RX6 196 yX5_learn, Cond.instanceMethod yX5_learn, Cond.selects RX5 yX5_learn yX5_learn, Cond.code yX5_learn cX5_learn 3 none, Cond.methodLink RX5 40 yX1_onFrom]
def wsL_law_r20 : List Cond := [Cond.methodLink RX5 46 yX1_backFrom, Cond.methodLink RX6 218 yX5_spread, Cond.instanceMethod yX5_spread, Cond.selects RX5 yX5_spread yX5_spread, Cond.code yX5_spread cX5_spread 4 none, Cond.methodLink RX5 53 yX5_spreadOneDay, Cond.instanceMethod yX5_spreadOneDay, Cond.selects RX5 yX5_spreadOneDay yX5_spreadOneDay, Cond.code yX5_spreadOneDay cX5_spreadOneDay 2 none, Cond.methodLink RX5 64 arraycopyName, Cond.methodLink RX5 60 yX5_weight, Cond.instanceMethod yX5_weight, Cond.selects RX5 yX5_weight yX5_weight, Cond.code yX5_weight cX5_weight 3 (some .int), Cond.static yX6_power, Cond.code yX6_power cX6_power 6 (some .long), Cond.methodLink RX6 183 yX0_become, Cond.instanceMethod yX0_become, Cond.selects RX0 yX0_become yX0_become, Cond.code yX0_become cX0_become 7 none, Cond.methodLink RX0 16 yX0_commonDivisor, Cond.static yX0_commonDivisor, Cond.code yX0_commonDivisor cX0_commonDivisor 7 (some .long), Cond.methodLink RX6 187 yX0_told]
def wsL_law_r21 : List Cond := [Cond.instanceMethod yX0_told, Cond.selects RX0 yX0_told yX0_told, Cond.code yX0_told cX0_told 2 (some .long), Cond.methodLink RL 72 yX7_chance, Cond.instanceMethod yX7_chance, Cond.selects RX7 yX7_chance yX7_chance, Cond.code yX7_chance cX7_chance 4 (some .int), Cond.fieldLink RX7 129 "DeedTortoiseModel" "allOdds" "J", Cond.methodLink RX7 133 yX7_layOdds, Cond.instanceMethod yX7_layOdds, Cond.selects RX7 yX7_layOdds yX7_layOdds, Cond.code yX7_layOdds cX7_layOdds 14 none, Cond.constantLong RX7 125 (10), Cond.constantLong RX7 127 (100), Cond.methodLink RX7 137 yX7_part, Cond.static yX7_part, Cond.code yX7_part cX7_part 11 (some .long), Cond.methodLink RL 73 yX6_likely, Cond.instanceMethod yX6_likely, Cond.selects RX6 yX6_likely yX6_likely, Cond.code yX6_likely cX6_likely 4 (some .int), Cond.methodLink RL 76 yX7_likely, Cond.instanceMethod yX7_likely, Cond.selects RX7 yX7_likely yX7_likely]
def wsL_law_r22 : List Cond := [Cond.code yX7_likely cX7_likely 4 (some .int), Cond.methodLink RL 77 yX6_mean, Cond.instanceMethod yX6_mean, Cond.selects RX6 yX6_mean yX6_mean, Cond.code yX6_mean cX6_mean 3 (some .long), Cond.constantLong RX6 194 (-1), Cond.methodLink RX6 191 yX6_isAhead, Cond.instanceMethod yX6_isAhead, Cond.selects RX6 yX6_isAhead yX6_isAhead, Cond.code yX6_isAhead cX6_isAhead 2 (some .boolean), Cond.methodLink RX6 199 yX5_average, Cond.instanceMethod yX5_average, Cond.selects RX5 yX5_average yX5_average, Cond.code yX5_average cX5_average 5 none, Cond.fieldLink RX5 76 "DeedTortoise$Fraction" "below" "J", Cond.fieldLink RX5 79 "DeedTortoise$Fraction" "above" "J", Cond.methodLink RX5 72 yX0_become, Cond.methodLink RX5 82 yX0_add, Cond.instanceMethod yX0_add, Cond.selects RX0 yX0_add yX0_add, Cond.code yX0_add cX0_add 2 none, Cond.methodLink RX0 20 yX0_become, Cond.methodLink RL 81 yX7_mean, Cond.instanceMethod yX7_mean]
def wsL_law_r23 : List Cond := [Cond.selects RX7 yX7_mean yX7_mean, Cond.code yX7_mean cX7_mean 3 (some .long), Cond.constantLong RX7 147 (-1), Cond.fieldLink RX7 141 "DeedTortoiseModel" "meanUp" "J", Cond.fieldLink RX7 144 "DeedTortoiseModel" "meanDown" "J", Cond.methodLink RX7 149 yX7_layMean, Cond.instanceMethod yX7_layMean, Cond.selects RX7 yX7_layMean yX7_layMean, Cond.code yX7_layMean cX7_layMean 16 none, Cond.methodLink RL 82 yX6_right, Cond.instanceMethod yX6_right, Cond.selects RX6 yX6_right yX6_right, Cond.code yX6_right cX6_right 7 (some .int), Cond.methodLink RX6 203 yX0_partOf, Cond.instanceMethod yX0_partOf, Cond.selects RX0 yX0_partOf yX0_partOf, Cond.code yX0_partOf cX0_partOf 3 (some .long), Cond.methodLink RL 85 yX7_right, Cond.instanceMethod yX7_right, Cond.selects RX7 yX7_right yX7_right, Cond.code yX7_right cX7_right 6 (some .int), Cond.methodLink RX7 153 yX7_oddsOf, Cond.instanceMethod yX7_oddsOf, Cond.selects RX7 yX7_oddsOf yX7_oddsOf]
def wsL_law_r24 : List Cond := [Cond.code yX7_oddsOf cX7_oddsOf 5 (some .long), Cond.methodLink RL 86 yX6_sure, Cond.instanceMethod yX6_sure, Cond.selects RX6 yX6_sure yX6_sure, Cond.code yX6_sure cX6_sure 4 (some .int), Cond.methodLink RL 89 yX7_sure, Cond.instanceMethod yX7_sure, Cond.selects RX7 yX7_sure yX7_sure, Cond.code yX7_sure cX7_sure 4 (some .int), Cond.methodLink RL 90 yX6_down, Cond.instanceMethod yX6_down, Cond.selects RX6 yX6_down yX6_down, Cond.code yX6_down cX6_down 4 (some .long), Cond.methodLink RX6 207 yX6_hedgeToOpen, Cond.instanceMethod yX6_hedgeToOpen, Cond.selects RX6 yX6_hedgeToOpen yX6_hedgeToOpen, Cond.code yX6_hedgeToOpen cX6_hedgeToOpen 4 (some .int), Cond.fieldLink RX6 286 "DeedTortoise$Fraction" "above" "J", Cond.fieldLink RX6 289 "DeedTortoise$Fraction" "below" "J", Cond.methodLink RX6 282 yX0_isBelow, Cond.instanceMethod yX0_isBelow, Cond.selects RX0 yX0_isBelow yX0_isBelow, Cond.code yX0_isBelow cX0_isBelow 2 (some .boolean), Cond.methodLink RL 93 yX7_down]
def wsL_law_r25 : List Cond := [Cond.instanceMethod yX7_down, Cond.selects RX7 yX7_down yX7_down, Cond.code yX7_down cX7_down 5 (some .long), Cond.fieldLink RX7 160 "DeedTortoiseModel" "bestDown" "J", Cond.fieldLink RX7 163 "DeedTortoiseModel" "bestUp" "J", Cond.methodLink RX7 157 yX7_begin, Cond.instanceMethod yX7_begin, Cond.selects RX7 yX7_begin yX7_begin, Cond.code yX7_begin cX7_begin 1 none, Cond.methodLink RL 94 yX6_keep, Cond.instanceMethod yX6_keep, Cond.selects RX6 yX6_keep yX6_keep, Cond.code yX6_keep cX6_keep 5 (some .int), Cond.methodLink RX6 210 yX5_isLikelyBy, Cond.instanceMethod yX5_isLikelyBy, Cond.selects RX5 yX5_isLikelyBy yX5_isLikelyBy, Cond.code yX5_isLikelyBy cX5_isLikelyBy 3 (some .boolean), Cond.constantLong RX5 70 (100), Cond.methodLink RL 97 yX7_keep, Cond.instanceMethod yX7_keep, Cond.selects RX7 yX7_keep yX7_keep, Cond.code yX7_keep cX7_keep 4 (some .int), Cond.methodLink RL 98 yX6_early, Cond.instanceMethod yX6_early]
def wsL_law_r26 : List Cond := [Cond.selects RX6 yX6_early yX6_early, Cond.code yX6_early cX6_early 4 (some .int), Cond.methodLink RL 101 yX7_early, Cond.instanceMethod yX7_early, Cond.selects RX7 yX7_early yX7_early, Cond.code yX7_early cX7_early 4 (some .int), Cond.methodLink RL 102 yX6_next, Cond.instanceMethod yX6_next, Cond.selects RX6 yX6_next yX6_next, Cond.code yX6_next cX6_next 3 (some .int), Cond.methodLink RL 105 yX7_next, Cond.instanceMethod yX7_next, Cond.selects RX7 yX7_next yX7_next, Cond.code yX7_next cX7_next 3 (some .int), Cond.methodLink RL 106 yX6_winter, Cond.instanceMethod yX6_winter, Cond.selects RX6 yX6_winter yX6_winter, Cond.code yX6_winter cX6_winter 5 (some .int), Cond.methodLink RX6 214 yX5_fallAsleep, Cond.instanceMethod yX5_fallAsleep, Cond.selects RX5 yX5_fallAsleep yX5_fallAsleep, Cond.code yX5_fallAsleep cX5_fallAsleep 3 none, Cond.methodLink RL 110 yX7_winter, Cond.instanceMethod yX7_winter]
def wsL_law_r27 : List Cond := [Cond.selects RX7 yX7_winter yX7_winter, Cond.code yX7_winter cX7_winter 5 (some .int), Cond.methodLink RL 111 yX6_image, Cond.instanceMethod yX6_image, Cond.selects RX6 yX6_image yX6_image, Cond.code yX6_image cX6_image 1 (some .int), Cond.methodLink RX6 222 yX1_takeAll, Cond.instanceMethod yX1_takeAll, Cond.selects RX1 yX1_takeAll yX1_takeAll, Cond.code yX1_takeAll cX1_takeAll 3 none, Cond.methodLink RX1 101 yX1_takeGround, Cond.methodLink RX1 105 yX1_takeClaims, Cond.methodLink RL 114 yX7_image, Cond.instanceMethod yX7_image, Cond.selects RX7 yX7_image yX7_image, Cond.code yX7_image cX7_image 1 (some .int), Cond.fieldLink RX7 166 "DeedTortoiseModel" "isKept" "Z", Cond.methodLink RL 115 yX6_restore, Cond.instanceMethod yX6_restore, Cond.selects RX6 yX6_restore yX6_restore, Cond.code yX6_restore cX6_restore 1 (some .int), Cond.methodLink RL 118 yX7_restore, Cond.instanceMethod yX7_restore, Cond.selects RX7 yX7_restore yX7_restore]
def wsL_law_r28 : List Cond := [Cond.code yX7_restore cX7_restore 1 (some .int), Cond.methodLink RL 119 yX6_seen, Cond.instanceMethod yX6_seen, Cond.selects RX6 yX6_seen yX6_seen, Cond.code yX6_seen cX6_seen 8 (some .int), Cond.constantLong RX6 243 (10), Cond.methodLink RX6 225 yX6_isSheet, Cond.static yX6_isSheet, Cond.code yX6_isSheet cX6_isSheet 1 (some .boolean), Cond.methodLink RX6 228 yX6_isLane, Cond.static yX6_isLane, Cond.code yX6_isLane cX6_isLane 1 (some .boolean), Cond.methodLink RX6 231 yX4_refusal, Cond.instanceMethod yX4_refusal, Cond.selects RX4 yX4_refusal yX4_refusal, Cond.code yX4_refusal cX4_refusal 4 (some .int), Cond.methodLink RX4 26 yX4_hasItems, Cond.instanceMethod yX4_hasItems, Cond.selects RX4 yX4_hasItems yX4_hasItems, Cond.code yX4_hasItems cX4_hasItems 3 (some .boolean), Cond.methodLink RX6 235 yX6_fieldsBefore, Cond.instanceMethod yX6_fieldsBefore, Cond.selects RX6 yX6_fieldsBefore yX6_fieldsBefore, Cond.code yX6_fieldsBefore cX6_fieldsBefore 6 (some .int)]
def wsL_law_r29 : List Cond := [Cond.methodLink RX6 239 yX6_weightOf, Cond.instanceMethod yX6_weightOf, Cond.selects RX6 yX6_weightOf yX6_weightOf, Cond.code yX6_weightOf cX6_weightOf 10 (some .long), Cond.methodLink RX6 292 yX4_fieldAt, Cond.instanceMethod yX4_fieldAt, Cond.selects RX4 yX4_fieldAt yX4_fieldAt, Cond.code yX4_fieldAt cX4_fieldAt 4 (some .int), Cond.constantLong RX4 30 (6), Cond.methodLink RX6 295 yX5_weight, Cond.methodLink RX6 245 yX6_power, Cond.methodLink RL 123 yX7_seen, Cond.instanceMethod yX7_seen, Cond.selects RX7 yX7_seen yX7_seen, Cond.code yX7_seen cX7_seen 10 (some .int), Cond.methodLink RX7 175 yX7_isSheet, Cond.static yX7_isSheet, Cond.code yX7_isSheet cX7_isSheet 1 (some .boolean), Cond.methodLink RX7 178 yX7_wrong, Cond.instanceMethod yX7_wrong, Cond.selects RX7 yX7_wrong yX7_wrong, Cond.code yX7_wrong cX7_wrong 5 (some .int), Cond.methodLink RX7 170 yX7_isPart, Cond.static yX7_isPart]
def wsL_law_r30 : List Cond := [Cond.code yX7_isPart cX7_isPart 3 (some .boolean), Cond.methodLink RX7 182 yX7_wayOdds, Cond.instanceMethod yX7_wayOdds, Cond.selects RX7 yX7_wayOdds yX7_wayOdds, Cond.code yX7_wayOdds cX7_wayOdds 14 (some .long), Cond.constantLong RX7 173 (6), Cond.methodLink RL 124 yX6_bore, Cond.instanceMethod yX6_bore, Cond.selects RX6 yX6_bore yX6_bore, Cond.code yX6_bore cX6_bore 9 (some .int), Cond.methodLink RX6 249 yX6_kindsFor, Cond.instanceMethod yX6_kindsFor, Cond.selects RX6 yX6_kindsFor yX6_kindsFor, Cond.code yX6_kindsFor cX6_kindsFor 7 (some .int), Cond.methodLink RX6 298 yX6_goesAsTold, Cond.instanceMethod yX6_goesAsTold, Cond.selects RX6 yX6_goesAsTold yX6_goesAsTold, Cond.code yX6_goesAsTold cX6_goesAsTold 5 (some .boolean), Cond.methodLink RX6 253 yX6_foodsFor, Cond.instanceMethod yX6_foodsFor, Cond.selects RX6 yX6_foodsFor yX6_foodsFor, Cond.code yX6_foodsFor cX6_foodsFor 7 (some .int), Cond.methodLink RL 128 yX7_bore, Cond.instanceMethod yX7_bore]
def wsL_law_r31 : List Cond := [Cond.selects RX7 yX7_bore yX7_bore, Cond.code yX7_bore cX7_bore 10 (some .int), Cond.methodLink RX7 186 yX7_isBorne, Cond.instanceMethod yX7_isBorne, Cond.selects RX7 yX7_isBorne yX7_isBorne, Cond.code yX7_isBorne cX7_isBorne 6 (some .boolean), Cond.methodLink RL 129 yX6_film, Cond.instanceMethod yX6_film, Cond.selects RX6 yX6_film yX6_film, Cond.code yX6_film cX6_film 8 (some .int), Cond.methodLink RX6 256 yX4_put, Cond.instanceMethod yX4_put, Cond.selects RX4 yX4_put yX4_put, Cond.code yX4_put cX4_put 4 none, Cond.methodLink RL 132 yX7_film, Cond.instanceMethod yX7_film, Cond.selects RX7 yX7_film yX7_film, Cond.code yX7_film cX7_film 7 (some .int), Cond.methodLink RX7 189 yX7_cutTo, Cond.static yX7_cutTo, Cond.code yX7_cutTo cX7_cutTo 3 (some .long), Cond.methodLink RL 133 yX6_sheet, Cond.instanceMethod yX6_sheet, Cond.selects RX6 yX6_sheet yX6_sheet]
def wsL_law_r32 : List Cond := [Cond.code yX6_sheet cX6_sheet 4 (some .int), Cond.methodLink RX6 260 yX4_begin, Cond.instanceMethod yX4_begin, Cond.selects RX4 yX4_begin yX4_begin, Cond.code yX4_begin cX4_begin 4 none, Cond.methodLink RL 136 yX7_sheet, Cond.instanceMethod yX7_sheet, Cond.selects RX7 yX7_sheet yX7_sheet, Cond.code yX7_sheet cX7_sheet 5 (some .int), Cond.methodLink RL 137 yX6_drop, Cond.instanceMethod yX6_drop, Cond.selects RX6 yX6_drop yX6_drop, Cond.code yX6_drop cX6_drop 3 (some .int), Cond.fieldLink RX6 263 "DeedTortoise$Sheet" "isHeld" "Z", Cond.fieldLink RX6 266 "DeedTortoise$Sheet" "length" "I", Cond.methodLink RL 140 yX7_drop, Cond.instanceMethod yX7_drop, Cond.selects RX7 yX7_drop yX7_drop, Cond.code yX7_drop cX7_drop 2 (some .int), Cond.methodLink RL 143 yX6_item, Cond.instanceMethod yX6_item, Cond.selects RX6 yX6_item yX6_item, Cond.code yX6_item cX6_item 8 (some .int), Cond.methodLink RL 147 yX7_item]
def wsL_law_r33 : List Cond := [Cond.instanceMethod yX7_item, Cond.selects RX7 yX7_item yX7_item, Cond.code yX7_item cX7_item 7 (some .int), Cond.methodLink RL 148 yX6_copy, Cond.instanceMethod yX6_copy, Cond.selects RX6 yX6_copy yX6_copy, Cond.code yX6_copy cX6_copy 8 (some .int), Cond.fieldLink RX6 267 "DeedTortoise$Sheet" "lane" "I", Cond.fieldLink RX6 273 "DeedTortoise$Sheet" "items" "[J", Cond.methodLink RX6 276 arraycopyName, Cond.methodLink RX6 270 yX4_hasItems, Cond.methodLink RL 151 yX7_copy, Cond.instanceMethod yX7_copy, Cond.selects RX7 yX7_copy yX7_copy, Cond.code yX7_copy cX7_copy 9 (some .int)]
def wsL_law : List Cond := (wsL_law_r1 ++ (wsL_law_r2 ++ (wsL_law_r3 ++ (wsL_law_r4 ++ (wsL_law_r5 ++ (wsL_law_r6 ++ (wsL_law_r7 ++ (wsL_law_r8 ++ (wsL_law_r9 ++ (wsL_law_r10 ++ (wsL_law_r11 ++ (wsL_law_r12 ++ (wsL_law_r13 ++ (wsL_law_r14 ++ (wsL_law_r15 ++ (wsL_law_r16 ++ (wsL_law_r17 ++ (wsL_law_r18 ++ (wsL_law_r19 ++ (wsL_law_r20 ++ (wsL_law_r21 ++ (wsL_law_r22 ++ (wsL_law_r23 ++ (wsL_law_r24 ++ (wsL_law_r25 ++ (wsL_law_r26 ++ (wsL_law_r27 ++ (wsL_law_r28 ++ (wsL_law_r29 ++ (wsL_law_r30 ++ (wsL_law_r31 ++ (wsL_law_r32 ++ wsL_law_r33)))))))))))))))))))))))))))))))) ++ wsX60 ++ wsX70 ++ wsX10 ++ wsX50 ++ wsX00 ++ wsX30 ++ wsX40 ++ wsX20 ++ ([] : List Cond)
theorem wsL_sub {big ws : List Cond} (ps : List Nat) (hp : ws = ps.filterMap (fun i => big[i]?)) : ∀ w ∈ ws, w ∈ big := by
  intro w hw
  rw [hp] at hw
  obtain ⟨i, -, hi⟩ := List.mem_filterMap.mp hw
  exact List.mem_of_getElem? hi
set_option maxRecDepth 20000 in
theorem wsL_law_r1_in : ∀ w ∈ wsL_law_r1, w ∈ lw_tbl := wsL_sub [46, 47, 36, 645, 646, 43, 952, 48, 49, 50, 51, 52, 53, 54, 55, 37, 224, 225, 226, 132, 133, 39, 227, 180] (by decide +kernel)
set_option maxRecDepth 20000 in
theorem wsL_law_r2_in : ∀ w ∈ wsL_law_r2, w ∈ lw_tbl := wsL_sub [139, 40, 228, 229, 182, 183, 41, 230, 200, 231, 202, 42, 232, 56, 57, 58, 59, 95, 97, 60, 61, 38, 100, 103] (by decide +kernel)
set_option maxRecDepth 20000 in
theorem wsL_law_r3_in : ∀ w ∈ wsL_law_r3, w ∈ lw_tbl := wsL_sub [104, 106, 108, 110, 112, 63, 64, 65, 66, 70, 73, 76, 80, 135, 136, 137, 156, 157, 158, 155, 159, 161, 162, 138] (by decide +kernel)
set_option maxRecDepth 20000 in
theorem wsL_law_r4_in : ∀ w ∈ wsL_law_r4, w ∈ lw_tbl := wsL_sub [164, 141, 142, 143, 144, 147, 185, 186, 187, 188, 189, 191, 204, 205, 206, 207, 209, 211, 213, 647, 648, 649, 650, 651] (by decide +kernel)
set_option maxRecDepth 20000 in
theorem wsL_law_r5_in : ∀ w ∈ wsL_law_r5, w ∈ lw_tbl := wsL_sub [652, 653, 655, 658, 659, 660, 661, 663, 664, 252, 253, 254, 255, 98, 256, 257, 258, 259, 260, 261, 262, 263, 264, 265] (by decide +kernel)
set_option maxRecDepth 20000 in
theorem wsL_law_r6_in : ∀ w ∈ wsL_law_r6, w ∈ lw_tbl := wsL_sub [709, 710, 711, 712, 713, 714, 715, 716, 717, 718, 266, 267, 268, 269, 113, 270, 271, 272, 273, 719, 720, 721, 722, 723] (by decide +kernel)
set_option maxRecDepth 20000 in
theorem wsL_law_r7_in : ∀ w ∈ wsL_law_r7, w ∈ lw_tbl := wsL_sub [724, 725, 274, 275, 276, 277, 102, 78, 81, 278, 279, 280, 281, 77, 288, 289, 44, 290, 282, 283, 284, 285, 286, 287] (by decide +kernel)
set_option maxRecDepth 20000 in
theorem wsL_law_r8_in : ∀ w ∈ wsL_law_r8, w ∈ lw_tbl := wsL_sub [291, 292, 293, 294, 82, 296, 297, 298, 295, 726, 727, 728, 729, 730, 731, 732, 733, 734, 735, 299, 300, 301, 302, 107] (by decide +kernel)
set_option maxRecDepth 20000 in
theorem wsL_law_r9_in : ∀ w ∈ wsL_law_r9, w ∈ lw_tbl := wsL_sub [109, 111, 303, 305, 0, 306, 736, 737, 738, 739, 740, 742, 18, 743, 307, 308, 309, 310, 190, 311, 312, 313, 314, 744] (by decide +kernel)
set_option maxRecDepth 20000 in
theorem wsL_law_r10_in : ∀ w ∈ wsL_law_r10, w ∈ lw_tbl := wsL_sub [745, 746, 747, 654, 315, 316, 317, 318, 192, 72, 319, 320, 321, 322, 323, 325, 324, 45, 326, 327, 328, 329, 330, 331] (by decide +kernel)
set_option maxRecDepth 20000 in
theorem wsL_law_r11_in : ∀ w ∈ wsL_law_r11, w ∈ lw_tbl := wsL_sub [332, 333, 334, 114, 101, 67, 335, 337, 1, 338, 339, 341, 2, 342, 344, 346, 3, 347, 348, 350, 4, 351, 99, 79] (by decide +kernel)
set_option maxRecDepth 20000 in
theorem wsL_law_r12_in : ∀ w ∈ wsL_law_r12, w ∈ lw_tbl := wsL_sub [355, 83, 352, 353, 354, 356, 358, 5, 359, 360, 362, 6, 363, 364, 366, 7, 367, 368, 369, 370, 371, 372, 373, 374] (by decide +kernel)
set_option maxRecDepth 20000 in
theorem wsL_law_r13_in : ∀ w ∈ wsL_law_r13, w ∈ lw_tbl := wsL_sub [375, 376, 748, 749, 750, 751, 656, 752, 754, 19, 755, 657, 756, 758, 20, 759, 760, 762, 21, 763, 764, 766, 22, 767] (by decide +kernel)
set_option maxRecDepth 20000 in
theorem wsL_law_r14_in : ∀ w ∈ wsL_law_r14, w ∈ lw_tbl := wsL_sub [768, 770, 23, 771, 772, 773, 774, 775, 777, 24, 778, 779, 781, 25, 782, 783, 784, 785, 377, 378, 379, 380, 69, 105] (by decide +kernel)
set_option maxRecDepth 20000 in
theorem wsL_law_r15_in : ∀ w ∈ wsL_law_r15, w ∈ lw_tbl := wsL_sub [381, 382, 383, 384, 385, 386, 387, 786, 787, 788, 789, 790, 791, 792, 793, 795, 26, 796, 389, 390, 391, 392, 393, 394] (by decide +kernel)
set_option maxRecDepth 20000 in
theorem wsL_law_r16_in : ∀ w ∈ wsL_law_r16, w ∈ lw_tbl := wsL_sub [395, 396, 397, 399, 8, 400, 401, 402, 403, 404, 68, 74, 406, 407, 408, 71, 405, 797, 798, 799, 800, 801, 803, 27] (by decide +kernel)
set_option maxRecDepth 20000 in
theorem wsL_law_r17_in : ∀ w ∈ wsL_law_r17, w ∈ lw_tbl := wsL_sub [804, 805, 806, 807, 808, 809, 810, 811, 409, 410, 411, 412, 812, 813, 814, 815, 413, 414, 415, 416, 417, 816, 817, 818] (by decide +kernel)
set_option maxRecDepth 20000 in
theorem wsL_law_r18_in : ∀ w ∈ wsL_law_r18, w ∈ lw_tbl := wsL_sub [819, 418, 419, 420, 421, 820, 821, 822, 823, 422, 423, 424, 425, 426, 427, 428, 429, 824, 825, 826, 827, 430, 431, 432] (by decide +kernel)
set_option maxRecDepth 20000 in
theorem wsL_law_r19_in : ∀ w ∈ wsL_law_r19, w ∈ lw_tbl := wsL_sub [433, 75, 828, 829, 830, 831, 434, 435, 436, 437, 160, 163, 438, 439, 440, 441, 443, 9, 444, 445, 446, 447, 448, 449] (by decide +kernel)
set_option maxRecDepth 20000 in
theorem wsL_law_r20_in : ∀ w ∈ wsL_law_r20, w ∈ lw_tbl := wsL_sub [450, 451, 452, 453, 454, 455, 457, 10, 458, 464, 459, 460, 461, 462, 466, 467, 468, 469, 470, 471, 472, 473, 474, 475] (by decide +kernel)
set_option maxRecDepth 20000 in
theorem wsL_law_r21_in : ∀ w ∈ wsL_law_r21, w ∈ lw_tbl := wsL_sub [476, 477, 478, 832, 833, 834, 835, 665, 836, 838, 28, 839, 840, 841, 842, 843, 844, 479, 480, 481, 482, 845, 846, 847] (by decide +kernel)
set_option maxRecDepth 20000 in
theorem wsL_law_r22_in : ∀ w ∈ wsL_law_r22, w ∈ lw_tbl := wsL_sub [848, 483, 484, 485, 486, 491, 487, 489, 11, 490, 492, 493, 494, 495, 148, 145, 496, 497, 498, 499, 500, 501, 849, 850] (by decide +kernel)
set_option maxRecDepth 20000 in
theorem wsL_law_r23_in : ∀ w ∈ wsL_law_r23, w ∈ lw_tbl := wsL_sub [851, 852, 853, 666, 667, 854, 856, 29, 857, 502, 503, 504, 505, 506, 507, 508, 509, 858, 859, 860, 861, 862, 864, 30] (by decide +kernel)
set_option maxRecDepth 20000 in
theorem wsL_law_r24_in : ∀ w ∈ wsL_law_r24, w ∈ lw_tbl := wsL_sub [865, 510, 511, 512, 513, 866, 867, 868, 869, 514, 515, 516, 517, 518, 520, 12, 521, 146, 149, 522, 523, 524, 525, 870] (by decide +kernel)
set_option maxRecDepth 20000 in
theorem wsL_law_r25_in : ∀ w ∈ wsL_law_r25, w ∈ lw_tbl := wsL_sub [871, 872, 873, 669, 668, 874, 876, 31, 877, 526, 527, 528, 529, 530, 531, 532, 533, 534, 878, 879, 880, 881, 535, 536] (by decide +kernel)
set_option maxRecDepth 20000 in
theorem wsL_law_r26_in : ∀ w ∈ wsL_law_r26, w ∈ lw_tbl := wsL_sub [537, 538, 882, 883, 884, 885, 539, 540, 541, 542, 886, 887, 888, 889, 543, 544, 545, 546, 547, 548, 549, 550, 890, 891] (by decide +kernel)
set_option maxRecDepth 20000 in
theorem wsL_law_r27_in : ∀ w ∈ wsL_law_r27, w ∈ lw_tbl := wsL_sub [892, 893, 551, 552, 553, 554, 555, 556, 557, 558, 559, 560, 894, 895, 896, 897, 662, 561, 562, 563, 564, 898, 899, 900] (by decide +kernel)
set_option maxRecDepth 20000 in
theorem wsL_law_r28_in : ∀ w ∈ wsL_law_r28, w ∈ lw_tbl := wsL_sub [901, 565, 566, 567, 568, 597, 569, 570, 571, 572, 573, 574, 575, 576, 577, 578, 579, 580, 581, 582, 583, 585, 13, 586] (by decide +kernel)
set_option maxRecDepth 20000 in
theorem wsL_law_r29_in : ∀ w ∈ wsL_law_r29, w ∈ lw_tbl := wsL_sub [587, 589, 14, 590, 591, 592, 593, 594, 595, 596, 598, 902, 903, 904, 905, 906, 907, 908, 909, 911, 32, 912, 913, 914] (by decide +kernel)
set_option maxRecDepth 20000 in
theorem wsL_law_r30_in : ∀ w ∈ wsL_law_r30, w ∈ lw_tbl := wsL_sub [915, 916, 918, 33, 919, 920, 599, 600, 601, 602, 603, 605, 15, 606, 607, 609, 16, 610, 611, 613, 17, 614, 921, 922] (by decide +kernel)
set_option maxRecDepth 20000 in
theorem wsL_law_r31_in : ∀ w ∈ wsL_law_r31, w ∈ lw_tbl := wsL_sub [923, 924, 925, 927, 34, 928, 615, 616, 617, 618, 619, 620, 621, 622, 929, 930, 931, 932, 933, 934, 935, 623, 624, 625] (by decide +kernel)
set_option maxRecDepth 20000 in
theorem wsL_law_r32_in : ∀ w ∈ wsL_law_r32, w ∈ lw_tbl := wsL_sub [626, 627, 628, 629, 630, 936, 937, 938, 939, 631, 632, 633, 634, 208, 212, 940, 941, 942, 943, 635, 636, 637, 638, 944] (by decide +kernel)
set_option maxRecDepth 20000 in
theorem wsL_law_r33_in : ∀ w ∈ wsL_law_r33, w ∈ lw_tbl := wsL_sub [945, 946, 947, 639, 640, 641, 642, 210, 214, 644, 643, 948, 949, 950, 951] (by decide +kernel)
set_option maxRecDepth 20000 in
theorem wsX60_in0 : ∀ w ∈ wsX60, w ∈ lw_tbl := wsL_sub [233, 235, 237, 239, 241, 243, 245, 247, 249] (by decide +kernel)
set_option maxRecDepth 20000 in
theorem wsX70_in0 : ∀ w ∈ wsX70, w ∈ lw_tbl := wsL_sub [670, 672, 674, 676, 678, 680, 682, 684, 686, 688, 690, 692, 694, 696, 698, 700, 702, 704, 706] (by decide +kernel)
set_option maxRecDepth 20000 in
theorem wsX10_in0 : ∀ w ∈ wsX10, w ∈ lw_tbl := wsL_sub [115, 117, 119, 121, 123, 125, 127, 129] (by decide +kernel)
set_option maxRecDepth 20000 in
theorem wsX50_in0 : ∀ w ∈ wsX50, w ∈ lw_tbl := wsL_sub [165, 167, 169, 171, 173, 175, 177] (by decide +kernel)
set_option maxRecDepth 20000 in
theorem wsX00_in0 : ∀ w ∈ wsX00, w ∈ lw_tbl := wsL_sub [150, 152] (by decide +kernel)
set_option maxRecDepth 20000 in
theorem wsX30_in0 : ∀ w ∈ wsX30, w ∈ lw_tbl := wsL_sub [193, 195, 197] (by decide +kernel)
set_option maxRecDepth 20000 in
theorem wsX40_in0 : ∀ w ∈ wsX40, w ∈ lw_tbl := wsL_sub [215, 217, 219, 221] (by decide +kernel)
set_option maxRecDepth 20000 in
theorem wsX20_in0 : ∀ w ∈ wsX20, w ∈ lw_tbl := wsL_sub [84, 86, 88, 90, 92] (by decide +kernel)
theorem wsL_app {big a b : List Cond} (ha : ∀ w ∈ a, w ∈ big) (hb : ∀ w ∈ b, w ∈ big) : ∀ w ∈ a ++ b, w ∈ big := fun w h => (List.mem_append.mp h).elim (ha w) (hb w)
theorem wsL_law_in : ∀ w ∈ wsL_law, w ∈ lw_tbl := wsL_app (wsL_app (wsL_app (wsL_app (wsL_app (wsL_app (wsL_app (wsL_app (wsL_app (wsL_app wsL_law_r1_in (wsL_app wsL_law_r2_in (wsL_app wsL_law_r3_in (wsL_app wsL_law_r4_in (wsL_app wsL_law_r5_in (wsL_app wsL_law_r6_in (wsL_app wsL_law_r7_in (wsL_app wsL_law_r8_in (wsL_app wsL_law_r9_in (wsL_app wsL_law_r10_in (wsL_app wsL_law_r11_in (wsL_app wsL_law_r12_in (wsL_app wsL_law_r13_in (wsL_app wsL_law_r14_in (wsL_app wsL_law_r15_in (wsL_app wsL_law_r16_in (wsL_app wsL_law_r17_in (wsL_app wsL_law_r18_in (wsL_app wsL_law_r19_in (wsL_app wsL_law_r20_in (wsL_app wsL_law_r21_in (wsL_app wsL_law_r22_in (wsL_app wsL_law_r23_in (wsL_app wsL_law_r24_in (wsL_app wsL_law_r25_in (wsL_app wsL_law_r26_in (wsL_app wsL_law_r27_in (wsL_app wsL_law_r28_in (wsL_app wsL_law_r29_in (wsL_app wsL_law_r30_in (wsL_app wsL_law_r31_in (wsL_app wsL_law_r32_in (wsL_law_r33_in))))))))))))))))))))))))))))))))) wsX60_in0) wsX70_in0) wsX10_in0) wsX50_in0) wsX00_in0) wsX30_in0) wsX40_in0) wsX20_in0) (fun _ h => absurd h List.not_mem_nil)
theorem inlX0 : ∀ w ∈ wsX00, w ∈ wsL_law := fun _ h => List.mem_append_left _ (List.mem_append_left _ (List.mem_append_left _ (List.mem_append_left _ (List.mem_append_right _ h))))
theorem inX0 : ∀ w ∈ wsX00, w ∈ lw_tbl := fun w h => wsL_law_in w (inlX0 w h)
theorem inlX1 : ∀ w ∈ wsX10, w ∈ wsL_law := fun _ h => List.mem_append_left _ (List.mem_append_left _ (List.mem_append_left _ (List.mem_append_left _ (List.mem_append_left _ (List.mem_append_left _ (List.mem_append_right _ h))))))
theorem inX1 : ∀ w ∈ wsX10, w ∈ lw_tbl := fun w h => wsL_law_in w (inlX1 w h)
theorem inlX2 : ∀ w ∈ wsX20, w ∈ wsL_law := fun _ h => List.mem_append_left _ (List.mem_append_right _ h)
theorem inX2 : ∀ w ∈ wsX20, w ∈ lw_tbl := fun w h => wsL_law_in w (inlX2 w h)
theorem inlX3 : ∀ w ∈ wsX30, w ∈ wsL_law := fun _ h => List.mem_append_left _ (List.mem_append_left _ (List.mem_append_left _ (List.mem_append_right _ h)))
theorem inX3 : ∀ w ∈ wsX30, w ∈ lw_tbl := fun w h => wsL_law_in w (inlX3 w h)
theorem inlX4 : ∀ w ∈ wsX40, w ∈ wsL_law := fun _ h => List.mem_append_left _ (List.mem_append_left _ (List.mem_append_right _ h))
theorem inX4 : ∀ w ∈ wsX40, w ∈ lw_tbl := fun w h => wsL_law_in w (inlX4 w h)
theorem inlX5 : ∀ w ∈ wsX50, w ∈ wsL_law := fun _ h => List.mem_append_left _ (List.mem_append_left _ (List.mem_append_left _ (List.mem_append_left _ (List.mem_append_left _ (List.mem_append_right _ h)))))
theorem inX5 : ∀ w ∈ wsX50, w ∈ lw_tbl := fun w h => wsL_law_in w (inlX5 w h)
theorem inlX6 : ∀ w ∈ wsX60, w ∈ wsL_law := fun _ h => List.mem_append_left _ (List.mem_append_left _ (List.mem_append_left _ (List.mem_append_left _ (List.mem_append_left _ (List.mem_append_left _ (List.mem_append_left _ (List.mem_append_left _ (List.mem_append_right _ h))))))))
theorem inX6 : ∀ w ∈ wsX60, w ∈ lw_tbl := fun w h => wsL_law_in w (inlX6 w h)
theorem inlX7 : ∀ w ∈ wsX70, w ∈ wsL_law := fun _ h => List.mem_append_left _ (List.mem_append_left _ (List.mem_append_left _ (List.mem_append_left _ (List.mem_append_left _ (List.mem_append_left _ (List.mem_append_left _ (List.mem_append_right _ h)))))))
theorem inX7 : ∀ w ∈ wsX70, w ∈ lw_tbl := fun w h => wsL_law_in w (inlX7 w h)
theorem inJ9 : ∀ w ∈ wsJ90, w ∈ lw_tbl := by decide +kernel
theorem inJ10 : ∀ w ∈ wsJ100, w ∈ lw_tbl := by decide +kernel
abbrev vwCl : List vw_C := [(RX0, TX0, 2), (RX1, TX1, 8), (RX2, TX2, 5), (RX3, TX3, 3), (RX4, TX4, 4), (RX5, TX5, 7), (RX6, TX6, 9), (RX7, TX7, 19)]
end
section
theorem dX0_init_0 : decode cX0_init 0 = .ok (.aload_n 0, 1) := by decide +kernel
theorem dX0_init_1 : decode cX0_init 1 = .ok (.invokespecial 1, 3) := by decide +kernel
theorem dX0_init_4 : decode cX0_init 4 = .ok (.aload_n 0, 1) := by decide +kernel
theorem dX0_init_5 : decode cX0_init 5 = .ok (.lconst 0, 1) := by decide +kernel
theorem dX0_init_6 : decode cX0_init 6 = .ok (.putfield 7, 3) := by decide +kernel
theorem dX0_init_9 : decode cX0_init 9 = .ok (.aload_n 0, 1) := by decide +kernel
theorem dX0_init_10 : decode cX0_init 10 = .ok (.lconst 1, 1) := by decide +kernel
theorem dX0_init_11 : decode cX0_init 11 = .ok (.putfield 13, 3) := by decide +kernel
theorem dX0_init_14 : decode cX0_init 14 = .ok (.return_, 1) := by decide +kernel
set_option maxRecDepth 20000 in
theorem ggX0_become_X0_commonDivisor : GoodIn wsX0_become wsX0_commonDivisor := goodIn_r _ [6] (by decide +kernel) (by decide +kernel)
set_option maxRecDepth 20000 in
theorem gX0_become_X0_commonDivisor : GoodIn wsX0_become (va_wsS RX0 16 yX0_commonDivisor wsX0_commonDivisor) := goodIn_app (goodIn_of _ (by decide +kernel)) ggX0_become_X0_commonDivisor
theorem dX0_become_0 : decode cX0_become 0 = .ok (.lload_n 1, 1) := by decide +kernel
theorem dX0_become_1 : decode cX0_become 1 = .ok (.lload_n 3, 1) := by decide +kernel
theorem dX0_become_2 : decode cX0_become 2 = .ok (.invokestatic 16, 3) := by decide +kernel
theorem dX0_become_5 : decode cX0_become 5 = .ok (.lstore 5, 2) := by decide +kernel
theorem dX0_become_7 : decode cX0_become 7 = .ok (.lload 5, 2) := by decide +kernel
theorem dX0_become_9 : decode cX0_become 9 = .ok (.lconst 0, 1) := by decide +kernel
theorem dX0_become_10 : decode cX0_become 10 = .ok (.lcmp, 1) := by decide +kernel
theorem dX0_become_11 : decode cX0_become 11 = .ok (.ifCond .le 19, 3) := by decide +kernel
theorem dX0_become_14 : decode cX0_become 14 = .ok (.aload_n 0, 1) := by decide +kernel
theorem dX0_become_15 : decode cX0_become 15 = .ok (.lload_n 1, 1) := by decide +kernel
theorem dX0_become_16 : decode cX0_become 16 = .ok (.lload 5, 2) := by decide +kernel
theorem dX0_become_18 : decode cX0_become 18 = .ok (.ldiv, 1) := by decide +kernel
theorem dX0_become_19 : decode cX0_become 19 = .ok (.putfield 7, 3) := by decide +kernel
theorem dX0_become_22 : decode cX0_become 22 = .ok (.aload_n 0, 1) := by decide +kernel
theorem dX0_become_23 : decode cX0_become 23 = .ok (.lload_n 3, 1) := by decide +kernel
theorem dX0_become_24 : decode cX0_become 24 = .ok (.lload 5, 2) := by decide +kernel
theorem dX0_become_26 : decode cX0_become 26 = .ok (.ldiv, 1) := by decide +kernel
theorem dX0_become_27 : decode cX0_become 27 = .ok (.putfield 13, 3) := by decide +kernel
theorem dX0_become_30 : decode cX0_become 30 = .ok (.return_, 1) := by decide +kernel
theorem dX0_commonDivisor_0 : decode cX0_commonDivisor 0 = .ok (.iconst 0, 1) := by decide +kernel
theorem dX0_commonDivisor_1 : decode cX0_commonDivisor 1 = .ok (.istore 4, 2) := by decide +kernel
theorem dX0_commonDivisor_3 : decode cX0_commonDivisor 3 = .ok (.iload 4, 2) := by decide +kernel
theorem dX0_commonDivisor_5 : decode cX0_commonDivisor 5 = .ok (.sipush 1000, 3) := by decide +kernel
theorem dX0_commonDivisor_8 : decode cX0_commonDivisor 8 = .ok (.if_icmp .ge 25, 3) := by decide +kernel
theorem dX0_commonDivisor_11 : decode cX0_commonDivisor 11 = .ok (.lload_n 2, 1) := by decide +kernel
theorem dX0_commonDivisor_12 : decode cX0_commonDivisor 12 = .ok (.lconst 0, 1) := by decide +kernel
theorem dX0_commonDivisor_13 : decode cX0_commonDivisor 13 = .ok (.lcmp, 1) := by decide +kernel
theorem dX0_commonDivisor_14 : decode cX0_commonDivisor 14 = .ok (.ifCond .eq 19, 3) := by decide +kernel
theorem dX0_commonDivisor_17 : decode cX0_commonDivisor 17 = .ok (.lload_n 0, 1) := by decide +kernel
theorem dX0_commonDivisor_18 : decode cX0_commonDivisor 18 = .ok (.lload_n 2, 1) := by decide +kernel
theorem dX0_commonDivisor_19 : decode cX0_commonDivisor 19 = .ok (.lrem, 1) := by decide +kernel
theorem dX0_commonDivisor_20 : decode cX0_commonDivisor 20 = .ok (.lstore 5, 2) := by decide +kernel
theorem dX0_commonDivisor_22 : decode cX0_commonDivisor 22 = .ok (.lload_n 2, 1) := by decide +kernel
theorem dX0_commonDivisor_23 : decode cX0_commonDivisor 23 = .ok (.lstore_n 0, 1) := by decide +kernel
theorem dX0_commonDivisor_24 : decode cX0_commonDivisor 24 = .ok (.lload 5, 2) := by decide +kernel
theorem dX0_commonDivisor_26 : decode cX0_commonDivisor 26 = .ok (.lstore_n 2, 1) := by decide +kernel
theorem dX0_commonDivisor_27 : decode cX0_commonDivisor 27 = .ok (.iinc 4 1, 3) := by decide +kernel
theorem dX0_commonDivisor_30 : decode cX0_commonDivisor 30 = .ok (.goto (-27), 3) := by decide +kernel
theorem dX0_commonDivisor_33 : decode cX0_commonDivisor 33 = .ok (.lload_n 0, 1) := by decide +kernel
theorem dX0_commonDivisor_34 : decode cX0_commonDivisor 34 = .ok (.lreturn, 1) := by decide +kernel
set_option maxRecDepth 20000 in
theorem ggX0_add_X0_become : GoodIn wsX0_add wsX0_become := goodIn_r _ [7, 1, 2, 8, 9, 6, 10, 11, 12] (by decide +kernel) (by decide +kernel)
set_option maxRecDepth 20000 in
theorem gX0_add_X0_become : GoodIn wsX0_add (wsV RX0 20 RX0 yX0_become wsX0_become) := goodIn_app (goodIn_of _ (by decide +kernel)) ggX0_add_X0_become
theorem dX0_add_0 : decode cX0_add 0 = .ok (.aload_n 0, 1) := by decide +kernel
theorem dX0_add_1 : decode cX0_add 1 = .ok (.aload_n 0, 1) := by decide +kernel
theorem dX0_add_2 : decode cX0_add 2 = .ok (.getfield 7, 3) := by decide +kernel
theorem dX0_add_5 : decode cX0_add 5 = .ok (.aload_n 1, 1) := by decide +kernel
theorem dX0_add_6 : decode cX0_add 6 = .ok (.getfield 13, 3) := by decide +kernel
theorem dX0_add_9 : decode cX0_add 9 = .ok (.lmul, 1) := by decide +kernel
theorem dX0_add_10 : decode cX0_add 10 = .ok (.aload_n 1, 1) := by decide +kernel
theorem dX0_add_11 : decode cX0_add 11 = .ok (.getfield 7, 3) := by decide +kernel
theorem dX0_add_14 : decode cX0_add 14 = .ok (.aload_n 0, 1) := by decide +kernel
theorem dX0_add_15 : decode cX0_add 15 = .ok (.getfield 13, 3) := by decide +kernel
theorem dX0_add_18 : decode cX0_add 18 = .ok (.lmul, 1) := by decide +kernel
theorem dX0_add_19 : decode cX0_add 19 = .ok (.ladd, 1) := by decide +kernel
theorem dX0_add_20 : decode cX0_add 20 = .ok (.aload_n 0, 1) := by decide +kernel
theorem dX0_add_21 : decode cX0_add 21 = .ok (.getfield 13, 3) := by decide +kernel
theorem dX0_add_24 : decode cX0_add 24 = .ok (.aload_n 1, 1) := by decide +kernel
theorem dX0_add_25 : decode cX0_add 25 = .ok (.getfield 13, 3) := by decide +kernel
theorem dX0_add_28 : decode cX0_add 28 = .ok (.lmul, 1) := by decide +kernel
theorem dX0_add_29 : decode cX0_add 29 = .ok (.invokevirtual 20, 3) := by decide +kernel
theorem dX0_add_32 : decode cX0_add 32 = .ok (.return_, 1) := by decide +kernel
theorem dX0_isBelow_0 : decode cX0_isBelow 0 = .ok (.aload_n 0, 1) := by decide +kernel
theorem dX0_isBelow_1 : decode cX0_isBelow 1 = .ok (.getfield 7, 3) := by decide +kernel
theorem dX0_isBelow_4 : decode cX0_isBelow 4 = .ok (.aload_n 1, 1) := by decide +kernel
theorem dX0_isBelow_5 : decode cX0_isBelow 5 = .ok (.getfield 13, 3) := by decide +kernel
theorem dX0_isBelow_8 : decode cX0_isBelow 8 = .ok (.lmul, 1) := by decide +kernel
theorem dX0_isBelow_9 : decode cX0_isBelow 9 = .ok (.aload_n 1, 1) := by decide +kernel
theorem dX0_isBelow_10 : decode cX0_isBelow 10 = .ok (.getfield 7, 3) := by decide +kernel
theorem dX0_isBelow_13 : decode cX0_isBelow 13 = .ok (.aload_n 0, 1) := by decide +kernel
theorem dX0_isBelow_14 : decode cX0_isBelow 14 = .ok (.getfield 13, 3) := by decide +kernel
theorem dX0_isBelow_17 : decode cX0_isBelow 17 = .ok (.lmul, 1) := by decide +kernel
theorem dX0_isBelow_18 : decode cX0_isBelow 18 = .ok (.lcmp, 1) := by decide +kernel
theorem dX0_isBelow_19 : decode cX0_isBelow 19 = .ok (.ifCond .ge 7, 3) := by decide +kernel
theorem dX0_isBelow_22 : decode cX0_isBelow 22 = .ok (.iconst 1, 1) := by decide +kernel
theorem dX0_isBelow_23 : decode cX0_isBelow 23 = .ok (.goto 4, 3) := by decide +kernel
theorem dX0_isBelow_26 : decode cX0_isBelow 26 = .ok (.iconst 0, 1) := by decide +kernel
theorem dX0_isBelow_27 : decode cX0_isBelow 27 = .ok (.ireturn, 1) := by decide +kernel
theorem dX0_told_0 : decode cX0_told 0 = .ok (.iload_n 1, 1) := by decide +kernel
theorem dX0_told_1 : decode cX0_told 1 = .ok (.ifCond .ne 10, 3) := by decide +kernel
theorem dX0_told_4 : decode cX0_told 4 = .ok (.aload_n 0, 1) := by decide +kernel
theorem dX0_told_5 : decode cX0_told 5 = .ok (.getfield 7, 3) := by decide +kernel
theorem dX0_told_8 : decode cX0_told 8 = .ok (.goto 7, 3) := by decide +kernel
theorem dX0_told_11 : decode cX0_told 11 = .ok (.aload_n 0, 1) := by decide +kernel
theorem dX0_told_12 : decode cX0_told 12 = .ok (.getfield 13, 3) := by decide +kernel
theorem dX0_told_15 : decode cX0_told 15 = .ok (.lreturn, 1) := by decide +kernel
theorem dX0_partOf_0 : decode cX0_partOf 0 = .ok (.aload_n 0, 1) := by decide +kernel
theorem dX0_partOf_1 : decode cX0_partOf 1 = .ok (.getfield 13, 3) := by decide +kernel
theorem dX0_partOf_4 : decode cX0_partOf 4 = .ok (.lconst 0, 1) := by decide +kernel
theorem dX0_partOf_5 : decode cX0_partOf 5 = .ok (.lcmp, 1) := by decide +kernel
theorem dX0_partOf_6 : decode cX0_partOf 6 = .ok (.ifCond .le 17, 3) := by decide +kernel
theorem dX0_partOf_9 : decode cX0_partOf 9 = .ok (.lload_n 1, 1) := by decide +kernel
theorem dX0_partOf_10 : decode cX0_partOf 10 = .ok (.aload_n 0, 1) := by decide +kernel
theorem dX0_partOf_11 : decode cX0_partOf 11 = .ok (.getfield 7, 3) := by decide +kernel
theorem dX0_partOf_14 : decode cX0_partOf 14 = .ok (.lmul, 1) := by decide +kernel
theorem dX0_partOf_15 : decode cX0_partOf 15 = .ok (.aload_n 0, 1) := by decide +kernel
theorem dX0_partOf_16 : decode cX0_partOf 16 = .ok (.getfield 13, 3) := by decide +kernel
theorem dX0_partOf_19 : decode cX0_partOf 19 = .ok (.ldiv, 1) := by decide +kernel
theorem dX0_partOf_20 : decode cX0_partOf 20 = .ok (.goto 4, 3) := by decide +kernel
theorem dX0_partOf_23 : decode cX0_partOf 23 = .ok (.lconst 0, 1) := by decide +kernel
theorem dX0_partOf_24 : decode cX0_partOf 24 = .ok (.lreturn, 1) := by decide +kernel
set_option maxRecDepth 20000 in
theorem ggX1_init_X2_init : GoodIn wsX1_init wsX2_init := goodIn_r _ [17, 18, 2, 3, 19, 20, 21, 4, 22, 23, 32, 33, 34, 35, 36] (by decide +kernel) (by decide +kernel)
set_option maxRecDepth 20000 in
theorem gX1_init_X2_init_n17 : GoodIn wsX1_init (wsX2_init) := ggX1_init_X2_init
theorem dX1_init_0 : decode cX1_init 0 = .ok (.aload_n 0, 1) := by decide +kernel
theorem dX1_init_1 : decode cX1_init 1 = .ok (.invokespecial 3, 3) := by decide +kernel
theorem dX1_init_4 : decode cX1_init 4 = .ok (.aload_n 0, 1) := by decide +kernel
theorem dX1_init_5 : decode cX1_init 5 = .ok (.bipush 7, 2) := by decide +kernel
theorem dX1_init_7 : decode cX1_init 7 = .ok (.newarray .int, 2) := by decide +kernel
theorem dX1_init_9 : decode cX1_init 9 = .ok (.putfield 9, 3) := by decide +kernel
theorem dX1_init_12 : decode cX1_init 12 = .ok (.aload_n 0, 1) := by decide +kernel
theorem dX1_init_13 : decode cX1_init 13 = .ok (.new 15, 3) := by decide +kernel
theorem dX1_init_16 : decode cX1_init 16 = .ok (.dup, 1) := by decide +kernel
theorem dX1_init_17 : decode cX1_init 17 = .ok (.invokespecial 17, 3) := by decide +kernel
theorem dX1_init_20 : decode cX1_init 20 = .ok (.putfield 18, 3) := by decide +kernel
theorem dX1_init_23 : decode cX1_init 23 = .ok (.aload_n 0, 1) := by decide +kernel
theorem dX1_init_24 : decode cX1_init 24 = .ok (.bipush 8, 2) := by decide +kernel
theorem dX1_init_26 : decode cX1_init 26 = .ok (.anewarray 15, 3) := by decide +kernel
theorem dX1_init_29 : decode cX1_init 29 = .ok (.putfield 22, 3) := by decide +kernel
theorem dX1_init_32 : decode cX1_init 32 = .ok (.aload_n 0, 1) := by decide +kernel
theorem dX1_init_33 : decode cX1_init 33 = .ok (.iconst 0, 1) := by decide +kernel
theorem dX1_init_34 : decode cX1_init 34 = .ok (.putfield 26, 3) := by decide +kernel
theorem dX1_init_37 : decode cX1_init 37 = .ok (.aload_n 0, 1) := by decide +kernel
theorem dX1_init_38 : decode cX1_init 38 = .ok (.iconst 5, 1) := by decide +kernel
theorem dX1_init_39 : decode cX1_init 39 = .ok (.newarray .int, 2) := by decide +kernel
theorem dX1_init_41 : decode cX1_init 41 = .ok (.putfield 30, 3) := by decide +kernel
theorem dX1_init_44 : decode cX1_init 44 = .ok (.aload_n 0, 1) := by decide +kernel
theorem dX1_init_45 : decode cX1_init 45 = .ok (.iconst 5, 1) := by decide +kernel
theorem dX1_init_46 : decode cX1_init 46 = .ok (.newarray .int, 2) := by decide +kernel
theorem dX1_init_48 : decode cX1_init 48 = .ok (.putfield 33, 3) := by decide +kernel
theorem dX1_init_51 : decode cX1_init 51 = .ok (.aload_n 0, 1) := by decide +kernel
theorem dX1_init_52 : decode cX1_init 52 = .ok (.iconst 5, 1) := by decide +kernel
theorem dX1_init_53 : decode cX1_init 53 = .ok (.newarray .int, 2) := by decide +kernel
theorem dX1_init_55 : decode cX1_init 55 = .ok (.putfield 36, 3) := by decide +kernel
theorem dX1_init_58 : decode cX1_init 58 = .ok (.aload_n 0, 1) := by decide +kernel
theorem dX1_init_59 : decode cX1_init 59 = .ok (.iconst 0, 1) := by decide +kernel
theorem dX1_init_60 : decode cX1_init 60 = .ok (.putfield 39, 3) := by decide +kernel
theorem dX1_init_63 : decode cX1_init 63 = .ok (.iconst 0, 1) := by decide +kernel
theorem dX1_init_64 : decode cX1_init 64 = .ok (.istore_n 1, 1) := by decide +kernel
theorem dX1_init_65 : decode cX1_init 65 = .ok (.iload_n 1, 1) := by decide +kernel
theorem dX1_init_66 : decode cX1_init 66 = .ok (.bipush 8, 2) := by decide +kernel
theorem dX1_init_68 : decode cX1_init 68 = .ok (.if_icmp .ge 22, 3) := by decide +kernel
theorem dX1_init_71 : decode cX1_init 71 = .ok (.aload_n 0, 1) := by decide +kernel
theorem dX1_init_72 : decode cX1_init 72 = .ok (.getfield 22, 3) := by decide +kernel
theorem dX1_init_75 : decode cX1_init 75 = .ok (.iload_n 1, 1) := by decide +kernel
theorem dX1_init_76 : decode cX1_init 76 = .ok (.new 15, 3) := by decide +kernel
theorem dX1_init_79 : decode cX1_init 79 = .ok (.dup, 1) := by decide +kernel
theorem dX1_init_80 : decode cX1_init 80 = .ok (.invokespecial 17, 3) := by decide +kernel
theorem dX1_init_83 : decode cX1_init 83 = .ok (.aastore, 1) := by decide +kernel
theorem dX1_init_84 : decode cX1_init 84 = .ok (.iinc 1 1, 3) := by decide +kernel
theorem dX1_init_87 : decode cX1_init 87 = .ok (.goto (-22), 3) := by decide +kernel
theorem dX1_init_90 : decode cX1_init 90 = .ok (.return_, 1) := by decide +kernel
set_option maxRecDepth 20000 in
theorem ggX1_onFrom_X1_onFromClover : GoodIn wsX1_onFrom wsX1_onFromClover := goodIn_r _ [11] (by decide +kernel) (by decide +kernel)
set_option maxRecDepth 20000 in
theorem gX1_onFrom_X1_onFromClover : GoodIn wsX1_onFrom (va_wsS RX1 45 yX1_onFromClover wsX1_onFromClover) := goodIn_app (goodIn_of _ (by decide +kernel)) ggX1_onFrom_X1_onFromClover
set_option maxRecDepth 20000 in
theorem ggX1_onFrom_X1_onFromStubble : GoodIn wsX1_onFrom wsX1_onFromStubble := goodIn_r _ [14] (by decide +kernel) (by decide +kernel)
set_option maxRecDepth 20000 in
theorem gX1_onFrom_X1_onFromStubble : GoodIn wsX1_onFrom (va_wsS RX1 49 yX1_onFromStubble wsX1_onFromStubble) := goodIn_app (goodIn_of _ (by decide +kernel)) ggX1_onFrom_X1_onFromStubble
theorem dX1_onFrom_0 : decode cX1_onFrom 0 = .ok (.iload_n 1, 1) := by decide +kernel
theorem dX1_onFrom_1 : decode cX1_onFrom 1 = .ok (.bipush 6, 2) := by decide +kernel
theorem dX1_onFrom_3 : decode cX1_onFrom 3 = .ok (.if_icmp .lt 5, 3) := by decide +kernel
theorem dX1_onFrom_6 : decode cX1_onFrom 6 = .ok (.iconst 0, 1) := by decide +kernel
theorem dX1_onFrom_7 : decode cX1_onFrom 7 = .ok (.ireturn, 1) := by decide +kernel
theorem dX1_onFrom_8 : decode cX1_onFrom 8 = .ok (.aload_n 0, 1) := by decide +kernel
theorem dX1_onFrom_9 : decode cX1_onFrom 9 = .ok (.getfield 18, 3) := by decide +kernel
theorem dX1_onFrom_12 : decode cX1_onFrom 12 = .ok (.getfield 42, 3) := by decide +kernel
theorem dX1_onFrom_15 : decode cX1_onFrom 15 = .ok (.iload_n 1, 1) := by decide +kernel
theorem dX1_onFrom_16 : decode cX1_onFrom 16 = .ok (.iaload, 1) := by decide +kernel
theorem dX1_onFrom_17 : decode cX1_onFrom 17 = .ok (.istore_n 2, 1) := by decide +kernel
theorem dX1_onFrom_18 : decode cX1_onFrom 18 = .ok (.aload_n 0, 1) := by decide +kernel
theorem dX1_onFrom_19 : decode cX1_onFrom 19 = .ok (.getfield 9, 3) := by decide +kernel
theorem dX1_onFrom_22 : decode cX1_onFrom 22 = .ok (.iload_n 1, 1) := by decide +kernel
theorem dX1_onFrom_23 : decode cX1_onFrom 23 = .ok (.iaload, 1) := by decide +kernel
theorem dX1_onFrom_24 : decode cX1_onFrom 24 = .ok (.tableswitch 64 0 4 #[64, 36, 41, 46, 57], 36) := by decide +kernel
theorem dX1_onFrom_60 : decode cX1_onFrom 60 = .ok (.iload_n 2, 1) := by decide +kernel
theorem dX1_onFrom_61 : decode cX1_onFrom 61 = .ok (.invokestatic 45, 3) := by decide +kernel
theorem dX1_onFrom_64 : decode cX1_onFrom 64 = .ok (.ireturn, 1) := by decide +kernel
theorem dX1_onFrom_65 : decode cX1_onFrom 65 = .ok (.iload_n 2, 1) := by decide +kernel
theorem dX1_onFrom_66 : decode cX1_onFrom 66 = .ok (.invokestatic 49, 3) := by decide +kernel
theorem dX1_onFrom_69 : decode cX1_onFrom 69 = .ok (.ireturn, 1) := by decide +kernel
theorem dX1_onFrom_70 : decode cX1_onFrom 70 = .ok (.iconst 1, 1) := by decide +kernel
theorem dX1_onFrom_71 : decode cX1_onFrom 71 = .ok (.iload_n 2, 1) := by decide +kernel
theorem dX1_onFrom_72 : decode cX1_onFrom 72 = .ok (.invokestatic 45, 3) := by decide +kernel
theorem dX1_onFrom_75 : decode cX1_onFrom 75 = .ok (.iconst 3, 1) := by decide +kernel
theorem dX1_onFrom_76 : decode cX1_onFrom 76 = .ok (.isub, 1) := by decide +kernel
theorem dX1_onFrom_77 : decode cX1_onFrom 77 = .ok (.invokestatic 52, 3) := by decide +kernel
theorem dX1_onFrom_80 : decode cX1_onFrom 80 = .ok (.ireturn, 1) := by decide +kernel
theorem dX1_onFrom_81 : decode cX1_onFrom 81 = .ok (.iload_n 2, 1) := by decide +kernel
theorem dX1_onFrom_82 : decode cX1_onFrom 82 = .ok (.invokestatic 49, 3) := by decide +kernel
theorem dX1_onFrom_85 : decode cX1_onFrom 85 = .ok (.iconst 2, 1) := by decide +kernel
theorem dX1_onFrom_86 : decode cX1_onFrom 86 = .ok (.iadd, 1) := by decide +kernel
theorem dX1_onFrom_87 : decode cX1_onFrom 87 = .ok (.ireturn, 1) := by decide +kernel
theorem dX1_onFrom_88 : decode cX1_onFrom 88 = .ok (.iconst 5, 1) := by decide +kernel
theorem dX1_onFrom_89 : decode cX1_onFrom 89 = .ok (.ireturn, 1) := by decide +kernel
theorem dX1_onFromClover_0 : decode cX1_onFromClover 0 = .ok (.iconst 5, 1) := by decide +kernel
theorem dX1_onFromClover_1 : decode cX1_onFromClover 1 = .ok (.iload_n 0, 1) := by decide +kernel
theorem dX1_onFromClover_2 : decode cX1_onFromClover 2 = .ok (.iconst 2, 1) := by decide +kernel
theorem dX1_onFromClover_3 : decode cX1_onFromClover 3 = .ok (.idiv, 1) := by decide +kernel
theorem dX1_onFromClover_4 : decode cX1_onFromClover 4 = .ok (.isub, 1) := by decide +kernel
theorem dX1_onFromClover_5 : decode cX1_onFromClover 5 = .ok (.ireturn, 1) := by decide +kernel
theorem dX1_onFromStubble_0 : decode cX1_onFromStubble 0 = .ok (.iconst 5, 1) := by decide +kernel
theorem dX1_onFromStubble_1 : decode cX1_onFromStubble 1 = .ok (.iload_n 0, 1) := by decide +kernel
theorem dX1_onFromStubble_2 : decode cX1_onFromStubble 2 = .ok (.ifCond .ne 7, 3) := by decide +kernel
theorem dX1_onFromStubble_5 : decode cX1_onFromStubble 5 = .ok (.iconst 2, 1) := by decide +kernel
theorem dX1_onFromStubble_6 : decode cX1_onFromStubble 6 = .ok (.goto 4, 3) := by decide +kernel
theorem dX1_onFromStubble_9 : decode cX1_onFromStubble 9 = .ok (.iconst 0, 1) := by decide +kernel
theorem dX1_onFromStubble_10 : decode cX1_onFromStubble 10 = .ok (.iadd, 1) := by decide +kernel
theorem dX1_onFromStubble_11 : decode cX1_onFromStubble 11 = .ok (.ireturn, 1) := by decide +kernel
set_option maxRecDepth 20000 in
theorem ggX1_backFrom_X1_onFrom : GoodIn wsX1_backFrom wsX1_onFrom := goodIn_r _ [11, 1, 12, 13, 14, 15, 5, 16, 17, 18, 10, 19, 20, 21, 22, 23, 24, 25, 26, 27, 28, 29, 30, 31, 32, 33, 34, 35] (by decide +kernel) (by decide +kernel)
set_option maxRecDepth 20000 in
theorem gX1_backFrom_X1_onFrom : GoodIn wsX1_backFrom (wsV RX1 61 RX1 yX1_onFrom wsX1_onFrom) := goodIn_app (goodIn_of _ (by decide +kernel)) ggX1_backFrom_X1_onFrom
theorem dX1_backFrom_0 : decode cX1_backFrom 0 = .ok (.iload_n 1, 1) := by decide +kernel
theorem dX1_backFrom_1 : decode cX1_backFrom 1 = .ok (.ifCond .gt 7, 3) := by decide +kernel
theorem dX1_backFrom_4 : decode cX1_backFrom 4 = .ok (.iconst 0, 1) := by decide +kernel
theorem dX1_backFrom_5 : decode cX1_backFrom 5 = .ok (.goto 23, 3) := by decide +kernel
theorem dX1_backFrom_8 : decode cX1_backFrom 8 = .ok (.aload_n 0, 1) := by decide +kernel
theorem dX1_backFrom_9 : decode cX1_backFrom 9 = .ok (.getfield 18, 3) := by decide +kernel
theorem dX1_backFrom_12 : decode cX1_backFrom 12 = .ok (.getfield 58, 3) := by decide +kernel
theorem dX1_backFrom_15 : decode cX1_backFrom 15 = .ok (.iload_n 1, 1) := by decide +kernel
theorem dX1_backFrom_16 : decode cX1_backFrom 16 = .ok (.iaload, 1) := by decide +kernel
theorem dX1_backFrom_17 : decode cX1_backFrom 17 = .ok (.bipush 10, 2) := by decide +kernel
theorem dX1_backFrom_19 : decode cX1_backFrom 19 = .ok (.aload_n 0, 1) := by decide +kernel
theorem dX1_backFrom_20 : decode cX1_backFrom 20 = .ok (.iload_n 1, 1) := by decide +kernel
theorem dX1_backFrom_21 : decode cX1_backFrom 21 = .ok (.invokevirtual 61, 3) := by decide +kernel
theorem dX1_backFrom_24 : decode cX1_backFrom 24 = .ok (.isub, 1) := by decide +kernel
theorem dX1_backFrom_25 : decode cX1_backFrom 25 = .ok (.invokestatic 64, 3) := by decide +kernel
theorem dX1_backFrom_28 : decode cX1_backFrom 28 = .ok (.ireturn, 1) := by decide +kernel
set_option maxRecDepth 20000 in
theorem ggX1_passDay_X1_onFrom : GoodIn wsX1_passDay wsX1_onFrom := goodIn_r _ [17, 1, 7, 18, 8, 9, 10, 11, 19, 20, 16, 21, 22, 23, 24, 33, 34, 35, 36, 37, 38, 39, 40, 41, 42, 43, 44, 45] (by decide +kernel) (by decide +kernel)
set_option maxRecDepth 20000 in
theorem gX1_passDay_X1_onFrom : GoodIn wsX1_passDay (wsV RX1 61 RX1 yX1_onFrom wsX1_onFrom) := goodIn_app (goodIn_of _ (by decide +kernel)) ggX1_passDay_X1_onFrom
set_option maxRecDepth 20000 in
theorem ggX1_passDay_X1_backFrom : GoodIn wsX1_passDay wsX1_backFrom := goodIn_r _ [28, 1, 29, 30, 31, 10, 32, 13, 14, 15, 16, 17, 7, 18, 8, 9, 11, 19, 20, 21, 22, 23, 24, 33, 34, 35, 36, 37, 38, 39, 40, 41, 42, 43, 44, 45] (by decide +kernel) (by decide +kernel)
set_option maxRecDepth 20000 in
theorem gX1_passDay_X1_backFrom : GoodIn wsX1_passDay (wsV RX1 70 RX1 yX1_backFrom wsX1_backFrom) := goodIn_app (goodIn_of _ (by decide +kernel)) ggX1_passDay_X1_backFrom
theorem dX1_passDay_0 : decode cX1_passDay 0 = .ok (.aload_n 0, 1) := by decide +kernel
theorem dX1_passDay_1 : decode cX1_passDay 1 = .ok (.getfield 18, 3) := by decide +kernel
theorem dX1_passDay_4 : decode cX1_passDay 4 = .ok (.getfield 67, 3) := by decide +kernel
theorem dX1_passDay_7 : decode cX1_passDay 7 = .ok (.istore_n 1, 1) := by decide +kernel
theorem dX1_passDay_8 : decode cX1_passDay 8 = .ok (.aload_n 0, 1) := by decide +kernel
theorem dX1_passDay_9 : decode cX1_passDay 9 = .ok (.iload_n 1, 1) := by decide +kernel
theorem dX1_passDay_10 : decode cX1_passDay 10 = .ok (.invokevirtual 61, 3) := by decide +kernel
theorem dX1_passDay_13 : decode cX1_passDay 13 = .ok (.istore_n 2, 1) := by decide +kernel
theorem dX1_passDay_14 : decode cX1_passDay 14 = .ok (.aload_n 0, 1) := by decide +kernel
theorem dX1_passDay_15 : decode cX1_passDay 15 = .ok (.iload_n 1, 1) := by decide +kernel
theorem dX1_passDay_16 : decode cX1_passDay 16 = .ok (.invokevirtual 70, 3) := by decide +kernel
theorem dX1_passDay_19 : decode cX1_passDay 19 = .ok (.istore_n 3, 1) := by decide +kernel
theorem dX1_passDay_20 : decode cX1_passDay 20 = .ok (.aload_n 0, 1) := by decide +kernel
theorem dX1_passDay_21 : decode cX1_passDay 21 = .ok (.getfield 18, 3) := by decide +kernel
theorem dX1_passDay_24 : decode cX1_passDay 24 = .ok (.aload_n 0, 1) := by decide +kernel
theorem dX1_passDay_25 : decode cX1_passDay 25 = .ok (.getfield 18, 3) := by decide +kernel
theorem dX1_passDay_28 : decode cX1_passDay 28 = .ok (.getfield 73, 3) := by decide +kernel
theorem dX1_passDay_31 : decode cX1_passDay 31 = .ok (.ldc 76, 2) := by decide +kernel
theorem dX1_passDay_33 : decode cX1_passDay 33 = .ok (.imul, 1) := by decide +kernel
theorem dX1_passDay_34 : decode cX1_passDay 34 = .ok (.sipush 12345, 3) := by decide +kernel
theorem dX1_passDay_37 : decode cX1_passDay 37 = .ok (.iadd, 1) := by decide +kernel
theorem dX1_passDay_38 : decode cX1_passDay 38 = .ok (.ldc 79, 2) := by decide +kernel
theorem dX1_passDay_40 : decode cX1_passDay 40 = .ok (.iand, 1) := by decide +kernel
theorem dX1_passDay_41 : decode cX1_passDay 41 = .ok (.putfield 73, 3) := by decide +kernel
theorem dX1_passDay_44 : decode cX1_passDay 44 = .ok (.aload_n 0, 1) := by decide +kernel
theorem dX1_passDay_45 : decode cX1_passDay 45 = .ok (.getfield 18, 3) := by decide +kernel
theorem dX1_passDay_48 : decode cX1_passDay 48 = .ok (.getfield 73, 3) := by decide +kernel
theorem dX1_passDay_51 : decode cX1_passDay 51 = .ok (.ldc 80, 2) := by decide +kernel
theorem dX1_passDay_53 : decode cX1_passDay 53 = .ok (.idiv, 1) := by decide +kernel
theorem dX1_passDay_54 : decode cX1_passDay 54 = .ok (.bipush 10, 2) := by decide +kernel
theorem dX1_passDay_56 : decode cX1_passDay 56 = .ok (.irem, 1) := by decide +kernel
theorem dX1_passDay_57 : decode cX1_passDay 57 = .ok (.istore 4, 2) := by decide +kernel
theorem dX1_passDay_59 : decode cX1_passDay 59 = .ok (.iload 4, 2) := by decide +kernel
theorem dX1_passDay_61 : decode cX1_passDay 61 = .ok (.iload_n 2, 1) := by decide +kernel
theorem dX1_passDay_62 : decode cX1_passDay 62 = .ok (.if_icmp .ge 16, 3) := by decide +kernel
theorem dX1_passDay_65 : decode cX1_passDay 65 = .ok (.aload_n 0, 1) := by decide +kernel
theorem dX1_passDay_66 : decode cX1_passDay 66 = .ok (.getfield 18, 3) := by decide +kernel
theorem dX1_passDay_69 : decode cX1_passDay 69 = .ok (.iload_n 1, 1) := by decide +kernel
theorem dX1_passDay_70 : decode cX1_passDay 70 = .ok (.iconst 1, 1) := by decide +kernel
theorem dX1_passDay_71 : decode cX1_passDay 71 = .ok (.iadd, 1) := by decide +kernel
theorem dX1_passDay_72 : decode cX1_passDay 72 = .ok (.putfield 67, 3) := by decide +kernel
theorem dX1_passDay_75 : decode cX1_passDay 75 = .ok (.goto 48, 3) := by decide +kernel
theorem dX1_passDay_78 : decode cX1_passDay 78 = .ok (.iload 4, 2) := by decide +kernel
theorem dX1_passDay_80 : decode cX1_passDay 80 = .ok (.iload_n 2, 1) := by decide +kernel
theorem dX1_passDay_81 : decode cX1_passDay 81 = .ok (.iload_n 3, 1) := by decide +kernel
theorem dX1_passDay_82 : decode cX1_passDay 82 = .ok (.iadd, 1) := by decide +kernel
theorem dX1_passDay_83 : decode cX1_passDay 83 = .ok (.if_icmp .ge 16, 3) := by decide +kernel
theorem dX1_passDay_86 : decode cX1_passDay 86 = .ok (.aload_n 0, 1) := by decide +kernel
theorem dX1_passDay_87 : decode cX1_passDay 87 = .ok (.getfield 18, 3) := by decide +kernel
theorem dX1_passDay_90 : decode cX1_passDay 90 = .ok (.iload_n 1, 1) := by decide +kernel
theorem dX1_passDay_91 : decode cX1_passDay 91 = .ok (.iconst 1, 1) := by decide +kernel
theorem dX1_passDay_92 : decode cX1_passDay 92 = .ok (.isub, 1) := by decide +kernel
theorem dX1_passDay_93 : decode cX1_passDay 93 = .ok (.putfield 67, 3) := by decide +kernel
theorem dX1_passDay_96 : decode cX1_passDay 96 = .ok (.goto 27, 3) := by decide +kernel
theorem dX1_passDay_99 : decode cX1_passDay 99 = .ok (.aload_n 0, 1) := by decide +kernel
theorem dX1_passDay_100 : decode cX1_passDay 100 = .ok (.getfield 18, 3) := by decide +kernel
theorem dX1_passDay_103 : decode cX1_passDay 103 = .ok (.getfield 42, 3) := by decide +kernel
theorem dX1_passDay_106 : decode cX1_passDay 106 = .ok (.iload_n 1, 1) := by decide +kernel
theorem dX1_passDay_107 : decode cX1_passDay 107 = .ok (.iconst 0, 1) := by decide +kernel
theorem dX1_passDay_108 : decode cX1_passDay 108 = .ok (.aload_n 0, 1) := by decide +kernel
theorem dX1_passDay_109 : decode cX1_passDay 109 = .ok (.getfield 18, 3) := by decide +kernel
theorem dX1_passDay_112 : decode cX1_passDay 112 = .ok (.getfield 42, 3) := by decide +kernel
theorem dX1_passDay_115 : decode cX1_passDay 115 = .ok (.iload_n 1, 1) := by decide +kernel
theorem dX1_passDay_116 : decode cX1_passDay 116 = .ok (.iaload, 1) := by decide +kernel
theorem dX1_passDay_117 : decode cX1_passDay 117 = .ok (.iconst 1, 1) := by decide +kernel
theorem dX1_passDay_118 : decode cX1_passDay 118 = .ok (.isub, 1) := by decide +kernel
theorem dX1_passDay_119 : decode cX1_passDay 119 = .ok (.invokestatic 52, 3) := by decide +kernel
theorem dX1_passDay_122 : decode cX1_passDay 122 = .ok (.iastore, 1) := by decide +kernel
theorem dX1_passDay_123 : decode cX1_passDay 123 = .ok (.aload_n 0, 1) := by decide +kernel
theorem dX1_passDay_124 : decode cX1_passDay 124 = .ok (.getfield 18, 3) := by decide +kernel
theorem dX1_passDay_127 : decode cX1_passDay 127 = .ok (.dup, 1) := by decide +kernel
theorem dX1_passDay_128 : decode cX1_passDay 128 = .ok (.getfield 81, 3) := by decide +kernel
theorem dX1_passDay_131 : decode cX1_passDay 131 = .ok (.iconst 1, 1) := by decide +kernel
theorem dX1_passDay_132 : decode cX1_passDay 132 = .ok (.iadd, 1) := by decide +kernel
theorem dX1_passDay_133 : decode cX1_passDay 133 = .ok (.putfield 81, 3) := by decide +kernel
theorem dX1_passDay_136 : decode cX1_passDay 136 = .ok (.return_, 1) := by decide +kernel
set_option maxRecDepth 20000 in
theorem ggX1_remember_X1_loseOldest : GoodIn wsX1_remember wsX1_loseOldest := goodIn_r _ [8, 2, 1, 23, 24, 25, 26, 27, 28, 29, 30] (by decide +kernel) (by decide +kernel)
set_option maxRecDepth 20000 in
theorem gX1_remember_X1_loseOldest : GoodIn wsX1_remember (wsV RX1 84 RX1 yX1_loseOldest wsX1_loseOldest) := goodIn_app (goodIn_of _ (by decide +kernel)) ggX1_remember_X1_loseOldest
set_option maxRecDepth 20000 in
theorem ggX1_remember_X2_take : GoodIn wsX1_remember wsX2_take := goodIn_r _ [13, 14, 15, 16, 17, 18, 19, 20, 21, 22, 31, 32, 33, 34, 35] (by decide +kernel) (by decide +kernel)
set_option maxRecDepth 20000 in
theorem gX1_remember_X2_take : GoodIn wsX1_remember (wsV RX1 87 RX2 yX2_take wsX2_take) := goodIn_app (goodIn_of _ (by decide +kernel)) ggX1_remember_X2_take
theorem dX1_remember_0 : decode cX1_remember 0 = .ok (.aload_n 0, 1) := by decide +kernel
theorem dX1_remember_1 : decode cX1_remember 1 = .ok (.getfield 26, 3) := by decide +kernel
theorem dX1_remember_4 : decode cX1_remember 4 = .ok (.bipush 8, 2) := by decide +kernel
theorem dX1_remember_6 : decode cX1_remember 6 = .ok (.if_icmp .lt 7, 3) := by decide +kernel
theorem dX1_remember_9 : decode cX1_remember 9 = .ok (.aload_n 0, 1) := by decide +kernel
theorem dX1_remember_10 : decode cX1_remember 10 = .ok (.invokevirtual 84, 3) := by decide +kernel
theorem dX1_remember_13 : decode cX1_remember 13 = .ok (.aload_n 0, 1) := by decide +kernel
theorem dX1_remember_14 : decode cX1_remember 14 = .ok (.getfield 22, 3) := by decide +kernel
theorem dX1_remember_17 : decode cX1_remember 17 = .ok (.aload_n 0, 1) := by decide +kernel
theorem dX1_remember_18 : decode cX1_remember 18 = .ok (.getfield 26, 3) := by decide +kernel
theorem dX1_remember_21 : decode cX1_remember 21 = .ok (.aaload, 1) := by decide +kernel
theorem dX1_remember_22 : decode cX1_remember 22 = .ok (.aload_n 0, 1) := by decide +kernel
theorem dX1_remember_23 : decode cX1_remember 23 = .ok (.getfield 18, 3) := by decide +kernel
theorem dX1_remember_26 : decode cX1_remember 26 = .ok (.invokevirtual 87, 3) := by decide +kernel
theorem dX1_remember_29 : decode cX1_remember 29 = .ok (.aload_n 0, 1) := by decide +kernel
theorem dX1_remember_30 : decode cX1_remember 30 = .ok (.dup, 1) := by decide +kernel
theorem dX1_remember_31 : decode cX1_remember 31 = .ok (.getfield 26, 3) := by decide +kernel
theorem dX1_remember_34 : decode cX1_remember 34 = .ok (.iconst 1, 1) := by decide +kernel
theorem dX1_remember_35 : decode cX1_remember 35 = .ok (.iadd, 1) := by decide +kernel
theorem dX1_remember_36 : decode cX1_remember 36 = .ok (.putfield 26, 3) := by decide +kernel
theorem dX1_remember_39 : decode cX1_remember 39 = .ok (.return_, 1) := by decide +kernel
theorem dX1_loseOldest_0 : decode cX1_loseOldest 0 = .ok (.aload_n 0, 1) := by decide +kernel
theorem dX1_loseOldest_1 : decode cX1_loseOldest 1 = .ok (.getfield 22, 3) := by decide +kernel
theorem dX1_loseOldest_4 : decode cX1_loseOldest 4 = .ok (.iconst 0, 1) := by decide +kernel
theorem dX1_loseOldest_5 : decode cX1_loseOldest 5 = .ok (.aaload, 1) := by decide +kernel
theorem dX1_loseOldest_6 : decode cX1_loseOldest 6 = .ok (.astore_n 1, 1) := by decide +kernel
theorem dX1_loseOldest_7 : decode cX1_loseOldest 7 = .ok (.iconst 1, 1) := by decide +kernel
theorem dX1_loseOldest_8 : decode cX1_loseOldest 8 = .ok (.istore_n 2, 1) := by decide +kernel
theorem dX1_loseOldest_9 : decode cX1_loseOldest 9 = .ok (.iload_n 2, 1) := by decide +kernel
theorem dX1_loseOldest_10 : decode cX1_loseOldest 10 = .ok (.bipush 8, 2) := by decide +kernel
theorem dX1_loseOldest_12 : decode cX1_loseOldest 12 = .ok (.if_icmp .ge 23, 3) := by decide +kernel
theorem dX1_loseOldest_15 : decode cX1_loseOldest 15 = .ok (.aload_n 0, 1) := by decide +kernel
theorem dX1_loseOldest_16 : decode cX1_loseOldest 16 = .ok (.getfield 22, 3) := by decide +kernel
theorem dX1_loseOldest_19 : decode cX1_loseOldest 19 = .ok (.iload_n 2, 1) := by decide +kernel
theorem dX1_loseOldest_20 : decode cX1_loseOldest 20 = .ok (.iconst 1, 1) := by decide +kernel
theorem dX1_loseOldest_21 : decode cX1_loseOldest 21 = .ok (.isub, 1) := by decide +kernel
theorem dX1_loseOldest_22 : decode cX1_loseOldest 22 = .ok (.aload_n 0, 1) := by decide +kernel
theorem dX1_loseOldest_23 : decode cX1_loseOldest 23 = .ok (.getfield 22, 3) := by decide +kernel
theorem dX1_loseOldest_26 : decode cX1_loseOldest 26 = .ok (.iload_n 2, 1) := by decide +kernel
theorem dX1_loseOldest_27 : decode cX1_loseOldest 27 = .ok (.aaload, 1) := by decide +kernel
theorem dX1_loseOldest_28 : decode cX1_loseOldest 28 = .ok (.aastore, 1) := by decide +kernel
theorem dX1_loseOldest_29 : decode cX1_loseOldest 29 = .ok (.iinc 2 1, 3) := by decide +kernel
theorem dX1_loseOldest_32 : decode cX1_loseOldest 32 = .ok (.goto (-23), 3) := by decide +kernel
theorem dX1_loseOldest_35 : decode cX1_loseOldest 35 = .ok (.aload_n 0, 1) := by decide +kernel
theorem dX1_loseOldest_36 : decode cX1_loseOldest 36 = .ok (.getfield 22, 3) := by decide +kernel
theorem dX1_loseOldest_39 : decode cX1_loseOldest 39 = .ok (.bipush 7, 2) := by decide +kernel
theorem dX1_loseOldest_41 : decode cX1_loseOldest 41 = .ok (.aload_n 1, 1) := by decide +kernel
theorem dX1_loseOldest_42 : decode cX1_loseOldest 42 = .ok (.aastore, 1) := by decide +kernel
theorem dX1_loseOldest_43 : decode cX1_loseOldest 43 = .ok (.aload_n 0, 1) := by decide +kernel
theorem dX1_loseOldest_44 : decode cX1_loseOldest 44 = .ok (.bipush 7, 2) := by decide +kernel
theorem dX1_loseOldest_46 : decode cX1_loseOldest 46 = .ok (.putfield 26, 3) := by decide +kernel
theorem dX1_loseOldest_49 : decode cX1_loseOldest 49 = .ok (.return_, 1) := by decide +kernel
set_option maxRecDepth 20000 in
theorem ggX1_recall_X2_take : GoodIn wsX1_recall wsX2_take := goodIn_r _ [8, 9, 10, 11, 12, 13, 14, 15, 16, 17, 26, 27, 28, 29, 30] (by decide +kernel) (by decide +kernel)
set_option maxRecDepth 20000 in
theorem gX1_recall_X2_take : GoodIn wsX1_recall (wsV RX1 87 RX2 yX2_take wsX2_take) := goodIn_app (goodIn_of _ (by decide +kernel)) ggX1_recall_X2_take
theorem dX1_recall_0 : decode cX1_recall 0 = .ok (.aload_n 0, 1) := by decide +kernel
theorem dX1_recall_1 : decode cX1_recall 1 = .ok (.dup, 1) := by decide +kernel
theorem dX1_recall_2 : decode cX1_recall 2 = .ok (.getfield 26, 3) := by decide +kernel
theorem dX1_recall_5 : decode cX1_recall 5 = .ok (.iconst 1, 1) := by decide +kernel
theorem dX1_recall_6 : decode cX1_recall 6 = .ok (.isub, 1) := by decide +kernel
theorem dX1_recall_7 : decode cX1_recall 7 = .ok (.putfield 26, 3) := by decide +kernel
theorem dX1_recall_10 : decode cX1_recall 10 = .ok (.aload_n 0, 1) := by decide +kernel
theorem dX1_recall_11 : decode cX1_recall 11 = .ok (.getfield 18, 3) := by decide +kernel
theorem dX1_recall_14 : decode cX1_recall 14 = .ok (.aload_n 0, 1) := by decide +kernel
theorem dX1_recall_15 : decode cX1_recall 15 = .ok (.getfield 22, 3) := by decide +kernel
theorem dX1_recall_18 : decode cX1_recall 18 = .ok (.aload_n 0, 1) := by decide +kernel
theorem dX1_recall_19 : decode cX1_recall 19 = .ok (.getfield 26, 3) := by decide +kernel
theorem dX1_recall_22 : decode cX1_recall 22 = .ok (.aaload, 1) := by decide +kernel
theorem dX1_recall_23 : decode cX1_recall 23 = .ok (.invokevirtual 87, 3) := by decide +kernel
theorem dX1_recall_26 : decode cX1_recall 26 = .ok (.return_, 1) := by decide +kernel
theorem dX1_forget_0 : decode cX1_forget 0 = .ok (.aload_n 0, 1) := by decide +kernel
theorem dX1_forget_1 : decode cX1_forget 1 = .ok (.iconst 0, 1) := by decide +kernel
theorem dX1_forget_2 : decode cX1_forget 2 = .ok (.putfield 26, 3) := by decide +kernel
theorem dX1_forget_5 : decode cX1_forget 5 = .ok (.return_, 1) := by decide +kernel
theorem dX1_addClaim_0 : decode cX1_addClaim 0 = .ok (.aload_n 0, 1) := by decide +kernel
theorem dX1_addClaim_1 : decode cX1_addClaim 1 = .ok (.getfield 30, 3) := by decide +kernel
theorem dX1_addClaim_4 : decode cX1_addClaim 4 = .ok (.aload_n 0, 1) := by decide +kernel
theorem dX1_addClaim_5 : decode cX1_addClaim 5 = .ok (.getfield 39, 3) := by decide +kernel
theorem dX1_addClaim_8 : decode cX1_addClaim 8 = .ok (.iload_n 1, 1) := by decide +kernel
theorem dX1_addClaim_9 : decode cX1_addClaim 9 = .ok (.iastore, 1) := by decide +kernel
theorem dX1_addClaim_10 : decode cX1_addClaim 10 = .ok (.aload_n 0, 1) := by decide +kernel
theorem dX1_addClaim_11 : decode cX1_addClaim 11 = .ok (.getfield 33, 3) := by decide +kernel
theorem dX1_addClaim_14 : decode cX1_addClaim 14 = .ok (.aload_n 0, 1) := by decide +kernel
theorem dX1_addClaim_15 : decode cX1_addClaim 15 = .ok (.getfield 39, 3) := by decide +kernel
theorem dX1_addClaim_18 : decode cX1_addClaim 18 = .ok (.iload_n 2, 1) := by decide +kernel
theorem dX1_addClaim_19 : decode cX1_addClaim 19 = .ok (.iastore, 1) := by decide +kernel
theorem dX1_addClaim_20 : decode cX1_addClaim 20 = .ok (.aload_n 0, 1) := by decide +kernel
theorem dX1_addClaim_21 : decode cX1_addClaim 21 = .ok (.getfield 36, 3) := by decide +kernel
theorem dX1_addClaim_24 : decode cX1_addClaim 24 = .ok (.aload_n 0, 1) := by decide +kernel
theorem dX1_addClaim_25 : decode cX1_addClaim 25 = .ok (.getfield 39, 3) := by decide +kernel
theorem dX1_addClaim_28 : decode cX1_addClaim 28 = .ok (.iload_n 3, 1) := by decide +kernel
theorem dX1_addClaim_29 : decode cX1_addClaim 29 = .ok (.iastore, 1) := by decide +kernel
theorem dX1_addClaim_30 : decode cX1_addClaim 30 = .ok (.aload_n 0, 1) := by decide +kernel
theorem dX1_addClaim_31 : decode cX1_addClaim 31 = .ok (.dup, 1) := by decide +kernel
theorem dX1_addClaim_32 : decode cX1_addClaim 32 = .ok (.getfield 39, 3) := by decide +kernel
theorem dX1_addClaim_35 : decode cX1_addClaim 35 = .ok (.iconst 1, 1) := by decide +kernel
theorem dX1_addClaim_36 : decode cX1_addClaim 36 = .ok (.iadd, 1) := by decide +kernel
theorem dX1_addClaim_37 : decode cX1_addClaim 37 = .ok (.putfield 39, 3) := by decide +kernel
theorem dX1_addClaim_40 : decode cX1_addClaim 40 = .ok (.return_, 1) := by decide +kernel
set_option maxRecDepth 20000 in
theorem ggX1_claimsOn_X6_isWithin : GoodIn wsX1_claimsOn wsX6_isWithin := goodIn_r _ [6] (by decide +kernel) (by decide +kernel)
set_option maxRecDepth 20000 in
theorem gX1_claimsOn_X6_isWithin_n91 : GoodIn wsX1_claimsOn (wsX6_isWithin) := ggX1_claimsOn_X6_isWithin
theorem dX1_claimsOn_0 : decode cX1_claimsOn 0 = .ok (.iconst 0, 1) := by decide +kernel
theorem dX1_claimsOn_1 : decode cX1_claimsOn 1 = .ok (.istore_n 2, 1) := by decide +kernel
theorem dX1_claimsOn_2 : decode cX1_claimsOn 2 = .ok (.iconst 0, 1) := by decide +kernel
theorem dX1_claimsOn_3 : decode cX1_claimsOn 3 = .ok (.istore_n 3, 1) := by decide +kernel
theorem dX1_claimsOn_4 : decode cX1_claimsOn 4 = .ok (.iload_n 3, 1) := by decide +kernel
theorem dX1_claimsOn_5 : decode cX1_claimsOn 5 = .ok (.aload_n 0, 1) := by decide +kernel
theorem dX1_claimsOn_6 : decode cX1_claimsOn 6 = .ok (.getfield 39, 3) := by decide +kernel
theorem dX1_claimsOn_9 : decode cX1_claimsOn 9 = .ok (.if_icmp .ge 34, 3) := by decide +kernel
theorem dX1_claimsOn_12 : decode cX1_claimsOn 12 = .ok (.iload_n 1, 1) := by decide +kernel
theorem dX1_claimsOn_13 : decode cX1_claimsOn 13 = .ok (.aload_n 0, 1) := by decide +kernel
theorem dX1_claimsOn_14 : decode cX1_claimsOn 14 = .ok (.getfield 30, 3) := by decide +kernel
theorem dX1_claimsOn_17 : decode cX1_claimsOn 17 = .ok (.iload_n 3, 1) := by decide +kernel
theorem dX1_claimsOn_18 : decode cX1_claimsOn 18 = .ok (.iaload, 1) := by decide +kernel
theorem dX1_claimsOn_19 : decode cX1_claimsOn 19 = .ok (.aload_n 0, 1) := by decide +kernel
theorem dX1_claimsOn_20 : decode cX1_claimsOn 20 = .ok (.getfield 33, 3) := by decide +kernel
theorem dX1_claimsOn_23 : decode cX1_claimsOn 23 = .ok (.iload_n 3, 1) := by decide +kernel
theorem dX1_claimsOn_24 : decode cX1_claimsOn 24 = .ok (.iaload, 1) := by decide +kernel
theorem dX1_claimsOn_25 : decode cX1_claimsOn 25 = .ok (.invokestatic 91, 3) := by decide +kernel
theorem dX1_claimsOn_28 : decode cX1_claimsOn 28 = .ok (.ifCond .eq 9, 3) := by decide +kernel
theorem dX1_claimsOn_31 : decode cX1_claimsOn 31 = .ok (.iload_n 2, 1) := by decide +kernel
theorem dX1_claimsOn_32 : decode cX1_claimsOn 32 = .ok (.iconst 1, 1) := by decide +kernel
theorem dX1_claimsOn_33 : decode cX1_claimsOn 33 = .ok (.iload_n 3, 1) := by decide +kernel
theorem dX1_claimsOn_34 : decode cX1_claimsOn 34 = .ok (.ishl, 1) := by decide +kernel
theorem dX1_claimsOn_35 : decode cX1_claimsOn 35 = .ok (.ior, 1) := by decide +kernel
theorem dX1_claimsOn_36 : decode cX1_claimsOn 36 = .ok (.istore_n 2, 1) := by decide +kernel
theorem dX1_claimsOn_37 : decode cX1_claimsOn 37 = .ok (.iinc 3 1, 3) := by decide +kernel
theorem dX1_claimsOn_40 : decode cX1_claimsOn 40 = .ok (.goto (-36), 3) := by decide +kernel
theorem dX1_claimsOn_43 : decode cX1_claimsOn 43 = .ok (.iload_n 2, 1) := by decide +kernel
theorem dX1_claimsOn_44 : decode cX1_claimsOn 44 = .ok (.ireturn, 1) := by decide +kernel
set_option maxRecDepth 20000 in
theorem ggX1_takeGround_X2_take : GoodIn wsX1_takeGround wsX2_take := goodIn_r _ [11, 12, 13, 14, 15, 16, 3, 4, 5, 17, 26, 27, 28, 29, 30] (by decide +kernel) (by decide +kernel)
set_option maxRecDepth 20000 in
theorem gX1_takeGround_X2_take : GoodIn wsX1_takeGround (wsV RX1 87 RX2 yX2_take wsX2_take) := goodIn_app (goodIn_of _ (by decide +kernel)) ggX1_takeGround_X2_take
theorem dX1_takeGround_0 : decode cX1_takeGround 0 = .ok (.aload_n 1, 1) := by decide +kernel
theorem dX1_takeGround_1 : decode cX1_takeGround 1 = .ok (.getfield 9, 3) := by decide +kernel
theorem dX1_takeGround_4 : decode cX1_takeGround 4 = .ok (.iconst 0, 1) := by decide +kernel
theorem dX1_takeGround_5 : decode cX1_takeGround 5 = .ok (.aload_n 0, 1) := by decide +kernel
theorem dX1_takeGround_6 : decode cX1_takeGround 6 = .ok (.getfield 9, 3) := by decide +kernel
theorem dX1_takeGround_9 : decode cX1_takeGround 9 = .ok (.iconst 0, 1) := by decide +kernel
theorem dX1_takeGround_10 : decode cX1_takeGround 10 = .ok (.bipush 7, 2) := by decide +kernel
theorem dX1_takeGround_12 : decode cX1_takeGround 12 = .ok (.invokestatic 95, 3) := by decide +kernel
theorem dX1_takeGround_15 : decode cX1_takeGround 15 = .ok (.aload_n 0, 1) := by decide +kernel
theorem dX1_takeGround_16 : decode cX1_takeGround 16 = .ok (.getfield 18, 3) := by decide +kernel
theorem dX1_takeGround_19 : decode cX1_takeGround 19 = .ok (.aload_n 1, 1) := by decide +kernel
theorem dX1_takeGround_20 : decode cX1_takeGround 20 = .ok (.getfield 18, 3) := by decide +kernel
theorem dX1_takeGround_23 : decode cX1_takeGround 23 = .ok (.invokevirtual 87, 3) := by decide +kernel
theorem dX1_takeGround_26 : decode cX1_takeGround 26 = .ok (.return_, 1) := by decide +kernel
theorem dX1_takeClaims_0 : decode cX1_takeClaims 0 = .ok (.aload_n 1, 1) := by decide +kernel
theorem dX1_takeClaims_1 : decode cX1_takeClaims 1 = .ok (.getfield 30, 3) := by decide +kernel
theorem dX1_takeClaims_4 : decode cX1_takeClaims 4 = .ok (.iconst 0, 1) := by decide +kernel
theorem dX1_takeClaims_5 : decode cX1_takeClaims 5 = .ok (.aload_n 0, 1) := by decide +kernel
theorem dX1_takeClaims_6 : decode cX1_takeClaims 6 = .ok (.getfield 30, 3) := by decide +kernel
theorem dX1_takeClaims_9 : decode cX1_takeClaims 9 = .ok (.iconst 0, 1) := by decide +kernel
theorem dX1_takeClaims_10 : decode cX1_takeClaims 10 = .ok (.iconst 5, 1) := by decide +kernel
theorem dX1_takeClaims_11 : decode cX1_takeClaims 11 = .ok (.invokestatic 95, 3) := by decide +kernel
theorem dX1_takeClaims_14 : decode cX1_takeClaims 14 = .ok (.aload_n 1, 1) := by decide +kernel
theorem dX1_takeClaims_15 : decode cX1_takeClaims 15 = .ok (.getfield 33, 3) := by decide +kernel
theorem dX1_takeClaims_18 : decode cX1_takeClaims 18 = .ok (.iconst 0, 1) := by decide +kernel
theorem dX1_takeClaims_19 : decode cX1_takeClaims 19 = .ok (.aload_n 0, 1) := by decide +kernel
theorem dX1_takeClaims_20 : decode cX1_takeClaims 20 = .ok (.getfield 33, 3) := by decide +kernel
theorem dX1_takeClaims_23 : decode cX1_takeClaims 23 = .ok (.iconst 0, 1) := by decide +kernel
theorem dX1_takeClaims_24 : decode cX1_takeClaims 24 = .ok (.iconst 5, 1) := by decide +kernel
theorem dX1_takeClaims_25 : decode cX1_takeClaims 25 = .ok (.invokestatic 95, 3) := by decide +kernel
theorem dX1_takeClaims_28 : decode cX1_takeClaims 28 = .ok (.aload_n 1, 1) := by decide +kernel
theorem dX1_takeClaims_29 : decode cX1_takeClaims 29 = .ok (.getfield 36, 3) := by decide +kernel
theorem dX1_takeClaims_32 : decode cX1_takeClaims 32 = .ok (.iconst 0, 1) := by decide +kernel
theorem dX1_takeClaims_33 : decode cX1_takeClaims 33 = .ok (.aload_n 0, 1) := by decide +kernel
theorem dX1_takeClaims_34 : decode cX1_takeClaims 34 = .ok (.getfield 36, 3) := by decide +kernel
theorem dX1_takeClaims_37 : decode cX1_takeClaims 37 = .ok (.iconst 0, 1) := by decide +kernel
theorem dX1_takeClaims_38 : decode cX1_takeClaims 38 = .ok (.iconst 5, 1) := by decide +kernel
theorem dX1_takeClaims_39 : decode cX1_takeClaims 39 = .ok (.invokestatic 95, 3) := by decide +kernel
theorem dX1_takeClaims_42 : decode cX1_takeClaims 42 = .ok (.aload_n 0, 1) := by decide +kernel
theorem dX1_takeClaims_43 : decode cX1_takeClaims 43 = .ok (.aload_n 1, 1) := by decide +kernel
theorem dX1_takeClaims_44 : decode cX1_takeClaims 44 = .ok (.getfield 39, 3) := by decide +kernel
theorem dX1_takeClaims_47 : decode cX1_takeClaims 47 = .ok (.putfield 39, 3) := by decide +kernel
theorem dX1_takeClaims_50 : decode cX1_takeClaims 50 = .ok (.return_, 1) := by decide +kernel
set_option maxRecDepth 20000 in
theorem ggX1_takeAll_X1_takeGround : GoodIn wsX1_takeAll wsX1_takeGround := goodIn_r _ [7, 8, 9, 10, 11, 12, 13, 14, 15, 16, 17, 18, 19, 20, 21, 22, 23, 24, 33, 34, 35, 36, 37, 38, 39, 40, 41, 42, 43, 44, 45] (by decide +kernel) (by decide +kernel)
set_option maxRecDepth 20000 in
theorem gX1_takeAll_X1_takeGround : GoodIn wsX1_takeAll (wsV RX1 101 RX1 yX1_takeGround wsX1_takeGround) := goodIn_app (goodIn_of _ (by decide +kernel)) ggX1_takeAll_X1_takeGround
set_option maxRecDepth 20000 in
theorem ggX1_takeAll_X1_takeClaims : GoodIn wsX1_takeAll wsX1_takeClaims := goodIn_r _ [28, 29, 9, 10, 11, 12, 30, 31, 32, 33, 34, 35, 36, 37, 38, 39, 40] (by decide +kernel) (by decide +kernel)
set_option maxRecDepth 20000 in
theorem gX1_takeAll_X1_takeClaims : GoodIn wsX1_takeAll (wsV RX1 105 RX1 yX1_takeClaims wsX1_takeClaims) := goodIn_app (goodIn_of _ (by decide +kernel)) ggX1_takeAll_X1_takeClaims
set_option maxRecDepth 20000 in
theorem ggX1_takeAll_X2_take : GoodIn wsX1_takeAll wsX2_take := goodIn_r _ [18, 19, 20, 21, 22, 23, 10, 11, 12, 24, 41, 42, 43, 44, 45] (by decide +kernel) (by decide +kernel)
set_option maxRecDepth 20000 in
theorem gX1_takeAll_X2_take : GoodIn wsX1_takeAll (wsV RX1 87 RX2 yX2_take wsX2_take) := goodIn_app (goodIn_of _ (by decide +kernel)) ggX1_takeAll_X2_take
theorem dX1_takeAll_0 : decode cX1_takeAll 0 = .ok (.aload_n 0, 1) := by decide +kernel
theorem dX1_takeAll_1 : decode cX1_takeAll 1 = .ok (.aload_n 1, 1) := by decide +kernel
theorem dX1_takeAll_2 : decode cX1_takeAll 2 = .ok (.invokevirtual 101, 3) := by decide +kernel
theorem dX1_takeAll_5 : decode cX1_takeAll 5 = .ok (.aload_n 0, 1) := by decide +kernel
theorem dX1_takeAll_6 : decode cX1_takeAll 6 = .ok (.aload_n 1, 1) := by decide +kernel
theorem dX1_takeAll_7 : decode cX1_takeAll 7 = .ok (.invokevirtual 105, 3) := by decide +kernel
theorem dX1_takeAll_10 : decode cX1_takeAll 10 = .ok (.iconst 0, 1) := by decide +kernel
theorem dX1_takeAll_11 : decode cX1_takeAll 11 = .ok (.istore_n 2, 1) := by decide +kernel
theorem dX1_takeAll_12 : decode cX1_takeAll 12 = .ok (.iload_n 2, 1) := by decide +kernel
theorem dX1_takeAll_13 : decode cX1_takeAll 13 = .ok (.aload_n 1, 1) := by decide +kernel
theorem dX1_takeAll_14 : decode cX1_takeAll 14 = .ok (.getfield 26, 3) := by decide +kernel
theorem dX1_takeAll_17 : decode cX1_takeAll 17 = .ok (.if_icmp .ge 24, 3) := by decide +kernel
theorem dX1_takeAll_20 : decode cX1_takeAll 20 = .ok (.aload_n 0, 1) := by decide +kernel
theorem dX1_takeAll_21 : decode cX1_takeAll 21 = .ok (.getfield 22, 3) := by decide +kernel
theorem dX1_takeAll_24 : decode cX1_takeAll 24 = .ok (.iload_n 2, 1) := by decide +kernel
theorem dX1_takeAll_25 : decode cX1_takeAll 25 = .ok (.aaload, 1) := by decide +kernel
theorem dX1_takeAll_26 : decode cX1_takeAll 26 = .ok (.aload_n 1, 1) := by decide +kernel
theorem dX1_takeAll_27 : decode cX1_takeAll 27 = .ok (.getfield 22, 3) := by decide +kernel
theorem dX1_takeAll_30 : decode cX1_takeAll 30 = .ok (.iload_n 2, 1) := by decide +kernel
theorem dX1_takeAll_31 : decode cX1_takeAll 31 = .ok (.aaload, 1) := by decide +kernel
theorem dX1_takeAll_32 : decode cX1_takeAll 32 = .ok (.invokevirtual 87, 3) := by decide +kernel
theorem dX1_takeAll_35 : decode cX1_takeAll 35 = .ok (.iinc 2 1, 3) := by decide +kernel
theorem dX1_takeAll_38 : decode cX1_takeAll 38 = .ok (.goto (-26), 3) := by decide +kernel
theorem dX1_takeAll_41 : decode cX1_takeAll 41 = .ok (.aload_n 0, 1) := by decide +kernel
theorem dX1_takeAll_42 : decode cX1_takeAll 42 = .ok (.aload_n 1, 1) := by decide +kernel
theorem dX1_takeAll_43 : decode cX1_takeAll 43 = .ok (.getfield 26, 3) := by decide +kernel
theorem dX1_takeAll_46 : decode cX1_takeAll 46 = .ok (.putfield 26, 3) := by decide +kernel
theorem dX1_takeAll_49 : decode cX1_takeAll 49 = .ok (.return_, 1) := by decide +kernel
theorem dX2_init_0 : decode cX2_init 0 = .ok (.aload_n 0, 1) := by decide +kernel
theorem dX2_init_1 : decode cX2_init 1 = .ok (.invokespecial 3, 3) := by decide +kernel
theorem dX2_init_4 : decode cX2_init 4 = .ok (.aload_n 0, 1) := by decide +kernel
theorem dX2_init_5 : decode cX2_init 5 = .ok (.iconst 0, 1) := by decide +kernel
theorem dX2_init_6 : decode cX2_init 6 = .ok (.putfield 9, 3) := by decide +kernel
theorem dX2_init_9 : decode cX2_init 9 = .ok (.aload_n 0, 1) := by decide +kernel
theorem dX2_init_10 : decode cX2_init 10 = .ok (.iconst 0, 1) := by decide +kernel
theorem dX2_init_11 : decode cX2_init 11 = .ok (.putfield 15, 3) := by decide +kernel
theorem dX2_init_14 : decode cX2_init 14 = .ok (.aload_n 0, 1) := by decide +kernel
theorem dX2_init_15 : decode cX2_init 15 = .ok (.iconst 1, 1) := by decide +kernel
theorem dX2_init_16 : decode cX2_init 16 = .ok (.putfield 18, 3) := by decide +kernel
theorem dX2_init_19 : decode cX2_init 19 = .ok (.aload_n 0, 1) := by decide +kernel
theorem dX2_init_20 : decode cX2_init 20 = .ok (.bipush 7, 2) := by decide +kernel
theorem dX2_init_22 : decode cX2_init 22 = .ok (.newarray .int, 2) := by decide +kernel
theorem dX2_init_24 : decode cX2_init 24 = .ok (.putfield 21, 3) := by decide +kernel
theorem dX2_init_27 : decode cX2_init 27 = .ok (.aload_n 0, 1) := by decide +kernel
theorem dX2_init_28 : decode cX2_init 28 = .ok (.bipush 7, 2) := by decide +kernel
theorem dX2_init_30 : decode cX2_init 30 = .ok (.newarray .int, 2) := by decide +kernel
theorem dX2_init_32 : decode cX2_init 32 = .ok (.putfield 25, 3) := by decide +kernel
theorem dX2_init_35 : decode cX2_init 35 = .ok (.return_, 1) := by decide +kernel
theorem dX2_take_0 : decode cX2_take 0 = .ok (.aload_n 0, 1) := by decide +kernel
theorem dX2_take_1 : decode cX2_take 1 = .ok (.aload_n 1, 1) := by decide +kernel
theorem dX2_take_2 : decode cX2_take 2 = .ok (.getfield 9, 3) := by decide +kernel
theorem dX2_take_5 : decode cX2_take 5 = .ok (.putfield 9, 3) := by decide +kernel
theorem dX2_take_8 : decode cX2_take 8 = .ok (.aload_n 0, 1) := by decide +kernel
theorem dX2_take_9 : decode cX2_take 9 = .ok (.aload_n 1, 1) := by decide +kernel
theorem dX2_take_10 : decode cX2_take 10 = .ok (.getfield 15, 3) := by decide +kernel
theorem dX2_take_13 : decode cX2_take 13 = .ok (.putfield 15, 3) := by decide +kernel
theorem dX2_take_16 : decode cX2_take 16 = .ok (.aload_n 0, 1) := by decide +kernel
theorem dX2_take_17 : decode cX2_take 17 = .ok (.aload_n 1, 1) := by decide +kernel
theorem dX2_take_18 : decode cX2_take 18 = .ok (.getfield 18, 3) := by decide +kernel
theorem dX2_take_21 : decode cX2_take 21 = .ok (.putfield 18, 3) := by decide +kernel
theorem dX2_take_24 : decode cX2_take 24 = .ok (.aload_n 1, 1) := by decide +kernel
theorem dX2_take_25 : decode cX2_take 25 = .ok (.getfield 21, 3) := by decide +kernel
theorem dX2_take_28 : decode cX2_take 28 = .ok (.iconst 0, 1) := by decide +kernel
theorem dX2_take_29 : decode cX2_take 29 = .ok (.aload_n 0, 1) := by decide +kernel
theorem dX2_take_30 : decode cX2_take 30 = .ok (.getfield 21, 3) := by decide +kernel
theorem dX2_take_33 : decode cX2_take 33 = .ok (.iconst 0, 1) := by decide +kernel
theorem dX2_take_34 : decode cX2_take 34 = .ok (.bipush 7, 2) := by decide +kernel
theorem dX2_take_36 : decode cX2_take 36 = .ok (.invokestatic 28, 3) := by decide +kernel
theorem dX2_take_39 : decode cX2_take 39 = .ok (.aload_n 1, 1) := by decide +kernel
theorem dX2_take_40 : decode cX2_take 40 = .ok (.getfield 25, 3) := by decide +kernel
theorem dX2_take_43 : decode cX2_take 43 = .ok (.iconst 0, 1) := by decide +kernel
theorem dX2_take_44 : decode cX2_take 44 = .ok (.aload_n 0, 1) := by decide +kernel
theorem dX2_take_45 : decode cX2_take 45 = .ok (.getfield 25, 3) := by decide +kernel
theorem dX2_take_48 : decode cX2_take 48 = .ok (.iconst 0, 1) := by decide +kernel
theorem dX2_take_49 : decode cX2_take 49 = .ok (.bipush 7, 2) := by decide +kernel
theorem dX2_take_51 : decode cX2_take 51 = .ok (.invokestatic 28, 3) := by decide +kernel
theorem dX2_take_54 : decode cX2_take 54 = .ok (.return_, 1) := by decide +kernel
theorem dX3_init_0 : decode cX3_init 0 = .ok (.aload_n 0, 1) := by decide +kernel
theorem dX3_init_1 : decode cX3_init 1 = .ok (.invokespecial 3, 3) := by decide +kernel
theorem dX3_init_4 : decode cX3_init 4 = .ok (.aload_n 0, 1) := by decide +kernel
theorem dX3_init_5 : decode cX3_init 5 = .ok (.bipush 80, 2) := by decide +kernel
theorem dX3_init_7 : decode cX3_init 7 = .ok (.newarray .int, 2) := by decide +kernel
theorem dX3_init_9 : decode cX3_init 9 = .ok (.putfield 9, 3) := by decide +kernel
theorem dX3_init_12 : decode cX3_init 12 = .ok (.aload_n 0, 1) := by decide +kernel
theorem dX3_init_13 : decode cX3_init 13 = .ok (.iconst 0, 1) := by decide +kernel
theorem dX3_init_14 : decode cX3_init 14 = .ok (.putfield 15, 3) := by decide +kernel
theorem dX3_init_17 : decode cX3_init 17 = .ok (.aload_n 0, 1) := by decide +kernel
theorem dX3_init_18 : decode cX3_init 18 = .ok (.iconst 0, 1) := by decide +kernel
theorem dX3_init_19 : decode cX3_init 19 = .ok (.putfield 19, 3) := by decide +kernel
theorem dX3_init_22 : decode cX3_init 22 = .ok (.return_, 1) := by decide +kernel
theorem dX3_add_0 : decode cX3_add 0 = .ok (.aload_n 0, 1) := by decide +kernel
theorem dX3_add_1 : decode cX3_add 1 = .ok (.getfield 15, 3) := by decide +kernel
theorem dX3_add_4 : decode cX3_add 4 = .ok (.bipush 80, 2) := by decide +kernel
theorem dX3_add_6 : decode cX3_add 6 = .ok (.if_icmp .lt 5, 3) := by decide +kernel
theorem dX3_add_9 : decode cX3_add 9 = .ok (.iconst 0, 1) := by decide +kernel
theorem dX3_add_10 : decode cX3_add 10 = .ok (.ireturn, 1) := by decide +kernel
theorem dX3_add_11 : decode cX3_add 11 = .ok (.aload_n 0, 1) := by decide +kernel
theorem dX3_add_12 : decode cX3_add 12 = .ok (.getfield 9, 3) := by decide +kernel
theorem dX3_add_15 : decode cX3_add 15 = .ok (.aload_n 0, 1) := by decide +kernel
theorem dX3_add_16 : decode cX3_add 16 = .ok (.getfield 15, 3) := by decide +kernel
theorem dX3_add_19 : decode cX3_add 19 = .ok (.iload_n 1, 1) := by decide +kernel
theorem dX3_add_20 : decode cX3_add 20 = .ok (.iastore, 1) := by decide +kernel
theorem dX3_add_21 : decode cX3_add 21 = .ok (.aload_n 0, 1) := by decide +kernel
theorem dX3_add_22 : decode cX3_add 22 = .ok (.dup, 1) := by decide +kernel
theorem dX3_add_23 : decode cX3_add 23 = .ok (.getfield 15, 3) := by decide +kernel
theorem dX3_add_26 : decode cX3_add 26 = .ok (.iconst 1, 1) := by decide +kernel
theorem dX3_add_27 : decode cX3_add 27 = .ok (.iadd, 1) := by decide +kernel
theorem dX3_add_28 : decode cX3_add 28 = .ok (.putfield 15, 3) := by decide +kernel
theorem dX3_add_31 : decode cX3_add 31 = .ok (.iconst 1, 1) := by decide +kernel
theorem dX3_add_32 : decode cX3_add 32 = .ok (.ireturn, 1) := by decide +kernel
theorem dX3_clear_0 : decode cX3_clear 0 = .ok (.aload_n 0, 1) := by decide +kernel
theorem dX3_clear_1 : decode cX3_clear 1 = .ok (.iconst 0, 1) := by decide +kernel
theorem dX3_clear_2 : decode cX3_clear 2 = .ok (.putfield 15, 3) := by decide +kernel
theorem dX3_clear_5 : decode cX3_clear 5 = .ok (.return_, 1) := by decide +kernel
set_option maxRecDepth 20000 in
theorem ggX3_readValley_X3_readDigit : GoodIn wsX3_readValley wsX3_readDigit := goodIn_r _ [9, 1, 10, 11, 12, 8, 13, 14, 15, 16, 17, 18, 58, 59, 60] (by decide +kernel) (by decide +kernel)
set_option maxRecDepth 20000 in
theorem gX3_readValley_X3_readDigit : GoodIn wsX3_readValley (wsV RX3 27 RX3 yX3_readDigit wsX3_readDigit) := goodIn_app (goodIn_of _ (by decide +kernel)) ggX3_readValley_X3_readDigit
set_option maxRecDepth 20000 in
theorem ggX3_readValley_X3_accepts : GoodIn wsX3_readValley wsX3_accepts := goodIn_r _ [22, 1, 10, 11, 12, 8, 13, 14, 15, 58, 59, 60] (by decide +kernel) (by decide +kernel)
set_option maxRecDepth 20000 in
theorem gX3_readValley_X3_accepts : GoodIn wsX3_readValley (wsV RX3 31 RX3 yX3_accepts wsX3_accepts) := goodIn_app (goodIn_of _ (by decide +kernel)) ggX3_readValley_X3_accepts
set_option maxRecDepth 20000 in
theorem ggX3_readValley_X3_readField : GoodIn wsX3_readValley wsX3_readField := goodIn_r _ [26, 1, 27, 3, 28, 29, 30, 31, 32, 33, 10, 11, 12, 8, 13, 14, 15, 34, 35, 36, 5, 6, 7, 9, 16, 17, 18, 19, 20, 21, 22, 58, 59, 60, 61, 62, 63, 64, 65, 66, 67, 68, 69, 70, 71, 72, 73] (by decide +kernel) (by decide +kernel)
set_option maxRecDepth 20000 in
theorem gX3_readValley_X3_readField : GoodIn wsX3_readValley (wsV RX3 44 RX3 yX3_readField wsX3_readField) := goodIn_app (goodIn_of _ (by decide +kernel)) ggX3_readValley_X3_readField
set_option maxRecDepth 20000 in
theorem ggX3_readValley_X3_readClaims : GoodIn wsX3_readValley wsX3_readClaims := goodIn_r _ [40, 19, 20, 21, 8, 22, 1, 10, 11, 12, 13, 14, 15, 41, 42, 43, 44, 5, 6, 7, 9, 16, 17, 18, 45, 46, 47, 48, 49, 50, 51, 52, 53, 54, 55, 56, 57, 58, 59, 60, 61, 62, 63, 64, 65, 66, 67, 68] (by decide +kernel) (by decide +kernel)
set_option maxRecDepth 20000 in
theorem gX3_readValley_X3_readClaims : GoodIn wsX3_readValley (wsV RX3 48 RX3 yX3_readClaims wsX3_readClaims) := goodIn_app (goodIn_of _ (by decide +kernel)) ggX3_readValley_X3_readClaims
set_option maxRecDepth 20000 in
theorem ggX3_readValley_X3_look : GoodIn wsX3_readValley wsX3_look := goodIn_r _ [13, 1, 14, 15, 58, 59, 60] (by decide +kernel) (by decide +kernel)
set_option maxRecDepth 20000 in
theorem gX3_readValley_X3_look : GoodIn wsX3_readValley (wsV RX3 52 RX3 yX3_look wsX3_look) := goodIn_app (goodIn_of _ (by decide +kernel)) ggX3_readValley_X3_look
theorem dX3_readValley_0 : decode cX3_readValley 0 = .ok (.aload_n 0, 1) := by decide +kernel
theorem dX3_readValley_1 : decode cX3_readValley 1 = .ok (.iconst 0, 1) := by decide +kernel
theorem dX3_readValley_2 : decode cX3_readValley 2 = .ok (.putfield 19, 3) := by decide +kernel
theorem dX3_readValley_5 : decode cX3_readValley 5 = .ok (.aload_n 1, 1) := by decide +kernel
theorem dX3_readValley_6 : decode cX3_readValley 6 = .ok (.iconst 0, 1) := by decide +kernel
theorem dX3_readValley_7 : decode cX3_readValley 7 = .ok (.putfield 22, 3) := by decide +kernel
theorem dX3_readValley_10 : decode cX3_readValley 10 = .ok (.aload_n 0, 1) := by decide +kernel
theorem dX3_readValley_11 : decode cX3_readValley 11 = .ok (.iconst 0, 1) := by decide +kernel
theorem dX3_readValley_12 : decode cX3_readValley 12 = .ok (.bipush 6, 2) := by decide +kernel
theorem dX3_readValley_14 : decode cX3_readValley 14 = .ok (.invokevirtual 27, 3) := by decide +kernel
theorem dX3_readValley_17 : decode cX3_readValley 17 = .ok (.istore_n 2, 1) := by decide +kernel
theorem dX3_readValley_18 : decode cX3_readValley 18 = .ok (.iload_n 2, 1) := by decide +kernel
theorem dX3_readValley_19 : decode cX3_readValley 19 = .ok (.ifCond .lt 12, 3) := by decide +kernel
theorem dX3_readValley_22 : decode cX3_readValley 22 = .ok (.aload_n 0, 1) := by decide +kernel
theorem dX3_readValley_23 : decode cX3_readValley 23 = .ok (.bipush 58, 2) := by decide +kernel
theorem dX3_readValley_25 : decode cX3_readValley 25 = .ok (.invokevirtual 31, 3) := by decide +kernel
theorem dX3_readValley_28 : decode cX3_readValley 28 = .ok (.ifCond .ne 5, 3) := by decide +kernel
theorem dX3_readValley_31 : decode cX3_readValley 31 = .ok (.iconst 0, 1) := by decide +kernel
theorem dX3_readValley_32 : decode cX3_readValley 32 = .ok (.ireturn, 1) := by decide +kernel
theorem dX3_readValley_33 : decode cX3_readValley 33 = .ok (.aload_n 1, 1) := by decide +kernel
theorem dX3_readValley_34 : decode cX3_readValley 34 = .ok (.getfield 35, 3) := by decide +kernel
theorem dX3_readValley_37 : decode cX3_readValley 37 = .ok (.iload_n 2, 1) := by decide +kernel
theorem dX3_readValley_38 : decode cX3_readValley 38 = .ok (.putfield 39, 3) := by decide +kernel
theorem dX3_readValley_41 : decode cX3_readValley 41 = .ok (.iconst 0, 1) := by decide +kernel
theorem dX3_readValley_42 : decode cX3_readValley 42 = .ok (.istore_n 3, 1) := by decide +kernel
theorem dX3_readValley_43 : decode cX3_readValley 43 = .ok (.iload_n 3, 1) := by decide +kernel
theorem dX3_readValley_44 : decode cX3_readValley 44 = .ok (.bipush 7, 2) := by decide +kernel
theorem dX3_readValley_46 : decode cX3_readValley 46 = .ok (.if_icmp .ge 20, 3) := by decide +kernel
theorem dX3_readValley_49 : decode cX3_readValley 49 = .ok (.aload_n 0, 1) := by decide +kernel
theorem dX3_readValley_50 : decode cX3_readValley 50 = .ok (.aload_n 1, 1) := by decide +kernel
theorem dX3_readValley_51 : decode cX3_readValley 51 = .ok (.iload_n 3, 1) := by decide +kernel
theorem dX3_readValley_52 : decode cX3_readValley 52 = .ok (.invokevirtual 44, 3) := by decide +kernel
theorem dX3_readValley_55 : decode cX3_readValley 55 = .ok (.ifCond .ne 5, 3) := by decide +kernel
theorem dX3_readValley_58 : decode cX3_readValley 58 = .ok (.iconst 0, 1) := by decide +kernel
theorem dX3_readValley_59 : decode cX3_readValley 59 = .ok (.ireturn, 1) := by decide +kernel
theorem dX3_readValley_60 : decode cX3_readValley 60 = .ok (.iinc 3 1, 3) := by decide +kernel
theorem dX3_readValley_63 : decode cX3_readValley 63 = .ok (.goto (-20), 3) := by decide +kernel
theorem dX3_readValley_66 : decode cX3_readValley 66 = .ok (.aload_n 0, 1) := by decide +kernel
theorem dX3_readValley_67 : decode cX3_readValley 67 = .ok (.bipush 59, 2) := by decide +kernel
theorem dX3_readValley_69 : decode cX3_readValley 69 = .ok (.invokevirtual 31, 3) := by decide +kernel
theorem dX3_readValley_72 : decode cX3_readValley 72 = .ok (.ifCond .eq 13, 3) := by decide +kernel
theorem dX3_readValley_75 : decode cX3_readValley 75 = .ok (.aload_n 0, 1) := by decide +kernel
theorem dX3_readValley_76 : decode cX3_readValley 76 = .ok (.aload_n 1, 1) := by decide +kernel
theorem dX3_readValley_77 : decode cX3_readValley 77 = .ok (.invokevirtual 48, 3) := by decide +kernel
theorem dX3_readValley_80 : decode cX3_readValley 80 = .ok (.ifCond .ne 5, 3) := by decide +kernel
theorem dX3_readValley_83 : decode cX3_readValley 83 = .ok (.iconst 0, 1) := by decide +kernel
theorem dX3_readValley_84 : decode cX3_readValley 84 = .ok (.ireturn, 1) := by decide +kernel
theorem dX3_readValley_85 : decode cX3_readValley 85 = .ok (.aload_n 0, 1) := by decide +kernel
theorem dX3_readValley_86 : decode cX3_readValley 86 = .ok (.invokevirtual 52, 3) := by decide +kernel
theorem dX3_readValley_89 : decode cX3_readValley 89 = .ok (.iconst (-1), 1) := by decide +kernel
theorem dX3_readValley_90 : decode cX3_readValley 90 = .ok (.if_icmp .ne 7, 3) := by decide +kernel
theorem dX3_readValley_93 : decode cX3_readValley 93 = .ok (.iconst 1, 1) := by decide +kernel
theorem dX3_readValley_94 : decode cX3_readValley 94 = .ok (.goto 4, 3) := by decide +kernel
theorem dX3_readValley_97 : decode cX3_readValley 97 = .ok (.iconst 0, 1) := by decide +kernel
theorem dX3_readValley_98 : decode cX3_readValley 98 = .ok (.ireturn, 1) := by decide +kernel
set_option maxRecDepth 20000 in
theorem ggX3_readField_X3_look : GoodIn wsX3_readField wsX3_look := goodIn_r _ [14, 1, 15, 16, 31, 32, 33] (by decide +kernel) (by decide +kernel)
set_option maxRecDepth 20000 in
theorem gX3_readField_X3_look : GoodIn wsX3_readField (wsV RX3 52 RX3 yX3_look wsX3_look) := goodIn_app (goodIn_of _ (by decide +kernel)) ggX3_readField_X3_look
set_option maxRecDepth 20000 in
theorem ggX3_readField_X3_kindOf : GoodIn wsX3_readField wsX3_kindOf := goodIn_r _ [19] (by decide +kernel) (by decide +kernel)
set_option maxRecDepth 20000 in
theorem gX3_readField_X3_kindOf : GoodIn wsX3_readField (va_wsS RX3 56 yX3_kindOf wsX3_kindOf) := goodIn_app (goodIn_of _ (by decide +kernel)) ggX3_readField_X3_kindOf
set_option maxRecDepth 20000 in
theorem ggX3_readField_X3_readDigit : GoodIn wsX3_readField wsX3_readDigit := goodIn_r _ [23, 1, 10, 11, 12, 13, 14, 15, 16, 24, 25, 26, 31, 32, 33] (by decide +kernel) (by decide +kernel)
set_option maxRecDepth 20000 in
theorem gX3_readField_X3_readDigit : GoodIn wsX3_readField (wsV RX3 27 RX3 yX3_readDigit wsX3_readDigit) := goodIn_app (goodIn_of _ (by decide +kernel)) ggX3_readField_X3_readDigit
set_option maxRecDepth 20000 in
theorem ggX3_readField_X3_accepts : GoodIn wsX3_readField wsX3_accepts := goodIn_r _ [30, 1, 10, 11, 12, 13, 14, 15, 16, 31, 32, 33] (by decide +kernel) (by decide +kernel)
set_option maxRecDepth 20000 in
theorem gX3_readField_X3_accepts : GoodIn wsX3_readField (wsV RX3 31 RX3 yX3_accepts wsX3_accepts) := goodIn_app (goodIn_of _ (by decide +kernel)) ggX3_readField_X3_accepts
theorem dX3_readField_0 : decode cX3_readField 0 = .ok (.aload_n 0, 1) := by decide +kernel
theorem dX3_readField_1 : decode cX3_readField 1 = .ok (.invokevirtual 52, 3) := by decide +kernel
theorem dX3_readField_4 : decode cX3_readField 4 = .ok (.invokestatic 56, 3) := by decide +kernel
theorem dX3_readField_7 : decode cX3_readField 7 = .ok (.istore_n 3, 1) := by decide +kernel
theorem dX3_readField_8 : decode cX3_readField 8 = .ok (.iload_n 3, 1) := by decide +kernel
theorem dX3_readField_9 : decode cX3_readField 9 = .ok (.ifCond .ge 5, 3) := by decide +kernel
theorem dX3_readField_12 : decode cX3_readField 12 = .ok (.iconst 0, 1) := by decide +kernel
theorem dX3_readField_13 : decode cX3_readField 13 = .ok (.ireturn, 1) := by decide +kernel
theorem dX3_readField_14 : decode cX3_readField 14 = .ok (.aload_n 0, 1) := by decide +kernel
theorem dX3_readField_15 : decode cX3_readField 15 = .ok (.dup, 1) := by decide +kernel
theorem dX3_readField_16 : decode cX3_readField 16 = .ok (.getfield 19, 3) := by decide +kernel
theorem dX3_readField_19 : decode cX3_readField 19 = .ok (.iconst 1, 1) := by decide +kernel
theorem dX3_readField_20 : decode cX3_readField 20 = .ok (.iadd, 1) := by decide +kernel
theorem dX3_readField_21 : decode cX3_readField 21 = .ok (.putfield 19, 3) := by decide +kernel
theorem dX3_readField_24 : decode cX3_readField 24 = .ok (.aload_n 1, 1) := by decide +kernel
theorem dX3_readField_25 : decode cX3_readField 25 = .ok (.getfield 60, 3) := by decide +kernel
theorem dX3_readField_28 : decode cX3_readField 28 = .ok (.iload_n 2, 1) := by decide +kernel
theorem dX3_readField_29 : decode cX3_readField 29 = .ok (.iload_n 3, 1) := by decide +kernel
theorem dX3_readField_30 : decode cX3_readField 30 = .ok (.iastore, 1) := by decide +kernel
theorem dX3_readField_31 : decode cX3_readField 31 = .ok (.aload_n 1, 1) := by decide +kernel
theorem dX3_readField_32 : decode cX3_readField 32 = .ok (.getfield 35, 3) := by decide +kernel
theorem dX3_readField_35 : decode cX3_readField 35 = .ok (.getfield 63, 3) := by decide +kernel
theorem dX3_readField_38 : decode cX3_readField 38 = .ok (.iload_n 2, 1) := by decide +kernel
theorem dX3_readField_39 : decode cX3_readField 39 = .ok (.iconst 0, 1) := by decide +kernel
theorem dX3_readField_40 : decode cX3_readField 40 = .ok (.aload_n 0, 1) := by decide +kernel
theorem dX3_readField_41 : decode cX3_readField 41 = .ok (.iconst 0, 1) := by decide +kernel
theorem dX3_readField_42 : decode cX3_readField 42 = .ok (.bipush 9, 2) := by decide +kernel
theorem dX3_readField_44 : decode cX3_readField 44 = .ok (.invokevirtual 27, 3) := by decide +kernel
theorem dX3_readField_47 : decode cX3_readField 47 = .ok (.invokestatic 66, 3) := by decide +kernel
theorem dX3_readField_50 : decode cX3_readField 50 = .ok (.iastore, 1) := by decide +kernel
theorem dX3_readField_51 : decode cX3_readField 51 = .ok (.aload_n 1, 1) := by decide +kernel
theorem dX3_readField_52 : decode cX3_readField 52 = .ok (.getfield 35, 3) := by decide +kernel
theorem dX3_readField_55 : decode cX3_readField 55 = .ok (.getfield 71, 3) := by decide +kernel
theorem dX3_readField_58 : decode cX3_readField 58 = .ok (.iload_n 2, 1) := by decide +kernel
theorem dX3_readField_59 : decode cX3_readField 59 = .ok (.iconst 0, 1) := by decide +kernel
theorem dX3_readField_60 : decode cX3_readField 60 = .ok (.iastore, 1) := by decide +kernel
theorem dX3_readField_61 : decode cX3_readField 61 = .ok (.aload_n 0, 1) := by decide +kernel
theorem dX3_readField_62 : decode cX3_readField 62 = .ok (.bipush 35, 2) := by decide +kernel
theorem dX3_readField_64 : decode cX3_readField 64 = .ok (.invokevirtual 31, 3) := by decide +kernel
theorem dX3_readField_67 : decode cX3_readField 67 = .ok (.ifCond .ne 5, 3) := by decide +kernel
theorem dX3_readField_70 : decode cX3_readField 70 = .ok (.iconst 1, 1) := by decide +kernel
theorem dX3_readField_71 : decode cX3_readField 71 = .ok (.ireturn, 1) := by decide +kernel
theorem dX3_readField_72 : decode cX3_readField 72 = .ok (.aload_n 0, 1) := by decide +kernel
theorem dX3_readField_73 : decode cX3_readField 73 = .ok (.iconst 1, 1) := by decide +kernel
theorem dX3_readField_74 : decode cX3_readField 74 = .ok (.iconst 4, 1) := by decide +kernel
theorem dX3_readField_75 : decode cX3_readField 75 = .ok (.invokevirtual 27, 3) := by decide +kernel
theorem dX3_readField_78 : decode cX3_readField 78 = .ok (.istore 4, 2) := by decide +kernel
theorem dX3_readField_80 : decode cX3_readField 80 = .ok (.iload 4, 2) := by decide +kernel
theorem dX3_readField_82 : decode cX3_readField 82 = .ok (.ifCond .ge 5, 3) := by decide +kernel
theorem dX3_readField_85 : decode cX3_readField 85 = .ok (.iconst 0, 1) := by decide +kernel
theorem dX3_readField_86 : decode cX3_readField 86 = .ok (.ireturn, 1) := by decide +kernel
theorem dX3_readField_87 : decode cX3_readField 87 = .ok (.aload_n 1, 1) := by decide +kernel
theorem dX3_readField_88 : decode cX3_readField 88 = .ok (.getfield 35, 3) := by decide +kernel
theorem dX3_readField_91 : decode cX3_readField 91 = .ok (.getfield 71, 3) := by decide +kernel
theorem dX3_readField_94 : decode cX3_readField 94 = .ok (.iload_n 2, 1) := by decide +kernel
theorem dX3_readField_95 : decode cX3_readField 95 = .ok (.iload 4, 2) := by decide +kernel
theorem dX3_readField_97 : decode cX3_readField 97 = .ok (.iastore, 1) := by decide +kernel
theorem dX3_readField_98 : decode cX3_readField 98 = .ok (.iconst 1, 1) := by decide +kernel
theorem dX3_readField_99 : decode cX3_readField 99 = .ok (.ireturn, 1) := by decide +kernel
theorem dX3_kindOf_0 : decode cX3_kindOf 0 = .ok (.iload_n 0, 1) := by decide +kernel
theorem dX3_kindOf_1 : decode cX3_kindOf 1 = .ok (.lookupswitch 61 #[(99, 53), (103, 57), (108, 59), (109, 51), (115, 55)], 51) := by decide +kernel
theorem dX3_kindOf_52 : decode cX3_kindOf 52 = .ok (.iconst 0, 1) := by decide +kernel
theorem dX3_kindOf_53 : decode cX3_kindOf 53 = .ok (.ireturn, 1) := by decide +kernel
theorem dX3_kindOf_54 : decode cX3_kindOf 54 = .ok (.iconst 1, 1) := by decide +kernel
theorem dX3_kindOf_55 : decode cX3_kindOf 55 = .ok (.ireturn, 1) := by decide +kernel
theorem dX3_kindOf_56 : decode cX3_kindOf 56 = .ok (.iconst 2, 1) := by decide +kernel
theorem dX3_kindOf_57 : decode cX3_kindOf 57 = .ok (.ireturn, 1) := by decide +kernel
theorem dX3_kindOf_58 : decode cX3_kindOf 58 = .ok (.iconst 3, 1) := by decide +kernel
theorem dX3_kindOf_59 : decode cX3_kindOf 59 = .ok (.ireturn, 1) := by decide +kernel
theorem dX3_kindOf_60 : decode cX3_kindOf 60 = .ok (.iconst 4, 1) := by decide +kernel
theorem dX3_kindOf_61 : decode cX3_kindOf 61 = .ok (.ireturn, 1) := by decide +kernel
theorem dX3_kindOf_62 : decode cX3_kindOf 62 = .ok (.iconst (-1), 1) := by decide +kernel
theorem dX3_kindOf_63 : decode cX3_kindOf 63 = .ok (.ireturn, 1) := by decide +kernel
set_option maxRecDepth 20000 in
theorem ggX3_readClaims_X3_accepts : GoodIn wsX3_readClaims wsX3_accepts := goodIn_r _ [5, 6, 7, 8, 9, 4, 10, 11, 12, 37, 38, 39] (by decide +kernel) (by decide +kernel)
set_option maxRecDepth 20000 in
theorem gX3_readClaims_X3_accepts : GoodIn wsX3_readClaims (wsV RX3 31 RX3 yX3_accepts wsX3_accepts) := goodIn_app (goodIn_of _ (by decide +kernel)) ggX3_readClaims_X3_accepts
set_option maxRecDepth 20000 in
theorem ggX3_readClaims_X3_readClaim : GoodIn wsX3_readClaims wsX3_readClaim := goodIn_r _ [16, 17, 18, 19, 4, 20, 6, 7, 8, 9, 10, 11, 12, 21, 22, 23, 1, 2, 3, 5, 24, 25, 26, 27, 28, 29, 30, 31, 32, 33, 34, 35, 36, 37, 38, 39, 40, 41, 42, 43, 44, 45, 46, 47] (by decide +kernel) (by decide +kernel)
set_option maxRecDepth 20000 in
theorem gX3_readClaims_X3_readClaim : GoodIn wsX3_readClaims (wsV RX3 74 RX3 yX3_readClaim wsX3_readClaim) := goodIn_app (goodIn_of _ (by decide +kernel)) ggX3_readClaims_X3_readClaim
theorem dX3_readClaims_0 : decode cX3_readClaims 0 = .ok (.iconst 0, 1) := by decide +kernel
theorem dX3_readClaims_1 : decode cX3_readClaims 1 = .ok (.istore_n 2, 1) := by decide +kernel
theorem dX3_readClaims_2 : decode cX3_readClaims 2 = .ok (.iload_n 2, 1) := by decide +kernel
theorem dX3_readClaims_3 : decode cX3_readClaims 3 = .ok (.iconst 5, 1) := by decide +kernel
theorem dX3_readClaims_4 : decode cX3_readClaims 4 = .ok (.if_icmp .ge 34, 3) := by decide +kernel
theorem dX3_readClaims_7 : decode cX3_readClaims 7 = .ok (.iload_n 2, 1) := by decide +kernel
theorem dX3_readClaims_8 : decode cX3_readClaims 8 = .ok (.ifCond .le 14, 3) := by decide +kernel
theorem dX3_readClaims_11 : decode cX3_readClaims 11 = .ok (.aload_n 0, 1) := by decide +kernel
theorem dX3_readClaims_12 : decode cX3_readClaims 12 = .ok (.bipush 44, 2) := by decide +kernel
theorem dX3_readClaims_14 : decode cX3_readClaims 14 = .ok (.invokevirtual 31, 3) := by decide +kernel
theorem dX3_readClaims_17 : decode cX3_readClaims 17 = .ok (.ifCond .ne 5, 3) := by decide +kernel
theorem dX3_readClaims_20 : decode cX3_readClaims 20 = .ok (.iconst 1, 1) := by decide +kernel
theorem dX3_readClaims_21 : decode cX3_readClaims 21 = .ok (.ireturn, 1) := by decide +kernel
theorem dX3_readClaims_22 : decode cX3_readClaims 22 = .ok (.aload_n 0, 1) := by decide +kernel
theorem dX3_readClaims_23 : decode cX3_readClaims 23 = .ok (.aload_n 1, 1) := by decide +kernel
theorem dX3_readClaims_24 : decode cX3_readClaims 24 = .ok (.invokevirtual 74, 3) := by decide +kernel
theorem dX3_readClaims_27 : decode cX3_readClaims 27 = .ok (.ifCond .ne 5, 3) := by decide +kernel
theorem dX3_readClaims_30 : decode cX3_readClaims 30 = .ok (.iconst 0, 1) := by decide +kernel
theorem dX3_readClaims_31 : decode cX3_readClaims 31 = .ok (.ireturn, 1) := by decide +kernel
theorem dX3_readClaims_32 : decode cX3_readClaims 32 = .ok (.iinc 2 1, 3) := by decide +kernel
theorem dX3_readClaims_35 : decode cX3_readClaims 35 = .ok (.goto (-33), 3) := by decide +kernel
theorem dX3_readClaims_38 : decode cX3_readClaims 38 = .ok (.iconst 1, 1) := by decide +kernel
theorem dX3_readClaims_39 : decode cX3_readClaims 39 = .ok (.ireturn, 1) := by decide +kernel
set_option maxRecDepth 20000 in
theorem ggX3_readClaim_X3_readDigit : GoodIn wsX3_readClaim wsX3_readDigit := goodIn_r _ [5, 6, 7, 8, 9, 4, 10, 11, 12, 13, 14, 15, 33, 34, 35] (by decide +kernel) (by decide +kernel)
set_option maxRecDepth 20000 in
theorem gX3_readClaim_X3_readDigit : GoodIn wsX3_readClaim (wsV RX3 27 RX3 yX3_readDigit wsX3_readDigit) := goodIn_app (goodIn_of _ (by decide +kernel)) ggX3_readClaim_X3_readDigit
set_option maxRecDepth 20000 in
theorem ggX3_readClaim_X3_accepts : GoodIn wsX3_readClaim wsX3_accepts := goodIn_r _ [19, 6, 7, 8, 9, 4, 10, 11, 12, 33, 34, 35] (by decide +kernel) (by decide +kernel)
set_option maxRecDepth 20000 in
theorem gX3_readClaim_X3_accepts : GoodIn wsX3_readClaim (wsV RX3 31 RX3 yX3_accepts wsX3_accepts) := goodIn_app (goodIn_of _ (by decide +kernel)) ggX3_readClaim_X3_accepts
set_option maxRecDepth 20000 in
theorem ggX3_readClaim_X3_readWorth : GoodIn wsX3_readClaim wsX3_readWorth := goodIn_r _ [23, 6, 11, 12, 1, 2, 3, 4, 5, 7, 8, 9, 10, 13, 14, 15, 33, 34, 35] (by decide +kernel) (by decide +kernel)
set_option maxRecDepth 20000 in
theorem gX3_readClaim_X3_readWorth : GoodIn wsX3_readClaim (wsV RX3 77 RX3 yX3_readWorth wsX3_readWorth) := goodIn_app (goodIn_of _ (by decide +kernel)) ggX3_readClaim_X3_readWorth
set_option maxRecDepth 20000 in
theorem ggX3_readClaim_X1_addClaim : GoodIn wsX3_readClaim wsX1_addClaim := goodIn_r _ [28, 29, 30, 31, 32, 36, 37, 38, 39, 40, 41, 42, 43] (by decide +kernel) (by decide +kernel)
set_option maxRecDepth 20000 in
theorem gX3_readClaim_X1_addClaim : GoodIn wsX3_readClaim (wsV RX3 80 RX1 yX1_addClaim wsX1_addClaim) := goodIn_app (goodIn_of _ (by decide +kernel)) ggX3_readClaim_X1_addClaim
theorem dX3_readClaim_0 : decode cX3_readClaim 0 = .ok (.aload_n 0, 1) := by decide +kernel
theorem dX3_readClaim_1 : decode cX3_readClaim 1 = .ok (.iconst 0, 1) := by decide +kernel
theorem dX3_readClaim_2 : decode cX3_readClaim 2 = .ok (.bipush 6, 2) := by decide +kernel
theorem dX3_readClaim_4 : decode cX3_readClaim 4 = .ok (.invokevirtual 27, 3) := by decide +kernel
theorem dX3_readClaim_7 : decode cX3_readClaim 7 = .ok (.istore_n 2, 1) := by decide +kernel
theorem dX3_readClaim_8 : decode cX3_readClaim 8 = .ok (.iload_n 2, 1) := by decide +kernel
theorem dX3_readClaim_9 : decode cX3_readClaim 9 = .ok (.ifCond .lt 12, 3) := by decide +kernel
theorem dX3_readClaim_12 : decode cX3_readClaim 12 = .ok (.aload_n 0, 1) := by decide +kernel
theorem dX3_readClaim_13 : decode cX3_readClaim 13 = .ok (.bipush 45, 2) := by decide +kernel
theorem dX3_readClaim_15 : decode cX3_readClaim 15 = .ok (.invokevirtual 31, 3) := by decide +kernel
theorem dX3_readClaim_18 : decode cX3_readClaim 18 = .ok (.ifCond .ne 5, 3) := by decide +kernel
theorem dX3_readClaim_21 : decode cX3_readClaim 21 = .ok (.iconst 0, 1) := by decide +kernel
theorem dX3_readClaim_22 : decode cX3_readClaim 22 = .ok (.ireturn, 1) := by decide +kernel
theorem dX3_readClaim_23 : decode cX3_readClaim 23 = .ok (.aload_n 0, 1) := by decide +kernel
theorem dX3_readClaim_24 : decode cX3_readClaim 24 = .ok (.iload_n 2, 1) := by decide +kernel
theorem dX3_readClaim_25 : decode cX3_readClaim 25 = .ok (.bipush 6, 2) := by decide +kernel
theorem dX3_readClaim_27 : decode cX3_readClaim 27 = .ok (.invokevirtual 27, 3) := by decide +kernel
theorem dX3_readClaim_30 : decode cX3_readClaim 30 = .ok (.istore_n 3, 1) := by decide +kernel
theorem dX3_readClaim_31 : decode cX3_readClaim 31 = .ok (.iload_n 3, 1) := by decide +kernel
theorem dX3_readClaim_32 : decode cX3_readClaim 32 = .ok (.ifCond .lt 12, 3) := by decide +kernel
theorem dX3_readClaim_35 : decode cX3_readClaim 35 = .ok (.aload_n 0, 1) := by decide +kernel
theorem dX3_readClaim_36 : decode cX3_readClaim 36 = .ok (.bipush 61, 2) := by decide +kernel
theorem dX3_readClaim_38 : decode cX3_readClaim 38 = .ok (.invokevirtual 31, 3) := by decide +kernel
theorem dX3_readClaim_41 : decode cX3_readClaim 41 = .ok (.ifCond .ne 5, 3) := by decide +kernel
theorem dX3_readClaim_44 : decode cX3_readClaim 44 = .ok (.iconst 0, 1) := by decide +kernel
theorem dX3_readClaim_45 : decode cX3_readClaim 45 = .ok (.ireturn, 1) := by decide +kernel
theorem dX3_readClaim_46 : decode cX3_readClaim 46 = .ok (.aload_n 0, 1) := by decide +kernel
theorem dX3_readClaim_47 : decode cX3_readClaim 47 = .ok (.invokevirtual 77, 3) := by decide +kernel
theorem dX3_readClaim_50 : decode cX3_readClaim 50 = .ok (.istore 4, 2) := by decide +kernel
theorem dX3_readClaim_52 : decode cX3_readClaim 52 = .ok (.iload 4, 2) := by decide +kernel
theorem dX3_readClaim_54 : decode cX3_readClaim 54 = .ok (.ifCond .ge 5, 3) := by decide +kernel
theorem dX3_readClaim_57 : decode cX3_readClaim 57 = .ok (.iconst 0, 1) := by decide +kernel
theorem dX3_readClaim_58 : decode cX3_readClaim 58 = .ok (.ireturn, 1) := by decide +kernel
theorem dX3_readClaim_59 : decode cX3_readClaim 59 = .ok (.aload_n 1, 1) := by decide +kernel
theorem dX3_readClaim_60 : decode cX3_readClaim 60 = .ok (.iload_n 2, 1) := by decide +kernel
theorem dX3_readClaim_61 : decode cX3_readClaim 61 = .ok (.iload_n 3, 1) := by decide +kernel
theorem dX3_readClaim_62 : decode cX3_readClaim 62 = .ok (.iload 4, 2) := by decide +kernel
theorem dX3_readClaim_64 : decode cX3_readClaim 64 = .ok (.invokevirtual 80, 3) := by decide +kernel
theorem dX3_readClaim_67 : decode cX3_readClaim 67 = .ok (.iconst 1, 1) := by decide +kernel
theorem dX3_readClaim_68 : decode cX3_readClaim 68 = .ok (.ireturn, 1) := by decide +kernel
set_option maxRecDepth 20000 in
theorem ggX3_readWorth_X3_readDigit : GoodIn wsX3_readWorth wsX3_readDigit := goodIn_r _ [8, 1, 9, 10, 11, 7, 12, 2, 3, 13, 14, 15, 16, 17, 18] (by decide +kernel) (by decide +kernel)
set_option maxRecDepth 20000 in
theorem gX3_readWorth_X3_readDigit : GoodIn wsX3_readWorth (wsV RX3 27 RX3 yX3_readDigit wsX3_readDigit) := goodIn_app (goodIn_of _ (by decide +kernel)) ggX3_readWorth_X3_readDigit
set_option maxRecDepth 20000 in
theorem ggX3_readWorth_X6_isWithin : GoodIn wsX3_readWorth wsX6_isWithin := goodIn_r _ [15] (by decide +kernel) (by decide +kernel)
set_option maxRecDepth 20000 in
theorem gX3_readWorth_X6_isWithin_n84 : GoodIn wsX3_readWorth (wsX6_isWithin) := ggX3_readWorth_X6_isWithin
theorem dX3_readWorth_0 : decode cX3_readWorth 0 = .ok (.aload_n 0, 1) := by decide +kernel
theorem dX3_readWorth_1 : decode cX3_readWorth 1 = .ok (.iconst 0, 1) := by decide +kernel
theorem dX3_readWorth_2 : decode cX3_readWorth 2 = .ok (.bipush 9, 2) := by decide +kernel
theorem dX3_readWorth_4 : decode cX3_readWorth 4 = .ok (.invokevirtual 27, 3) := by decide +kernel
theorem dX3_readWorth_7 : decode cX3_readWorth 7 = .ok (.istore_n 1, 1) := by decide +kernel
theorem dX3_readWorth_8 : decode cX3_readWorth 8 = .ok (.iload_n 1, 1) := by decide +kernel
theorem dX3_readWorth_9 : decode cX3_readWorth 9 = .ok (.ifCond .ge 5, 3) := by decide +kernel
theorem dX3_readWorth_12 : decode cX3_readWorth 12 = .ok (.iconst (-1), 1) := by decide +kernel
theorem dX3_readWorth_13 : decode cX3_readWorth 13 = .ok (.ireturn, 1) := by decide +kernel
theorem dX3_readWorth_14 : decode cX3_readWorth 14 = .ok (.aload_n 0, 1) := by decide +kernel
theorem dX3_readWorth_15 : decode cX3_readWorth 15 = .ok (.getfield 19, 3) := by decide +kernel
theorem dX3_readWorth_18 : decode cX3_readWorth 18 = .ok (.iconst 1, 1) := by decide +kernel
theorem dX3_readWorth_19 : decode cX3_readWorth 19 = .ok (.isub, 1) := by decide +kernel
theorem dX3_readWorth_20 : decode cX3_readWorth 20 = .ok (.istore_n 2, 1) := by decide +kernel
theorem dX3_readWorth_21 : decode cX3_readWorth 21 = .ok (.aload_n 0, 1) := by decide +kernel
theorem dX3_readWorth_22 : decode cX3_readWorth 22 = .ok (.getfield 19, 3) := by decide +kernel
theorem dX3_readWorth_25 : decode cX3_readWorth 25 = .ok (.aload_n 0, 1) := by decide +kernel
theorem dX3_readWorth_26 : decode cX3_readWorth 26 = .ok (.getfield 15, 3) := by decide +kernel
theorem dX3_readWorth_29 : decode cX3_readWorth 29 = .ok (.if_icmp .ge 50, 3) := by decide +kernel
theorem dX3_readWorth_32 : decode cX3_readWorth 32 = .ok (.aload_n 0, 1) := by decide +kernel
theorem dX3_readWorth_33 : decode cX3_readWorth 33 = .ok (.getfield 9, 3) := by decide +kernel
theorem dX3_readWorth_36 : decode cX3_readWorth 36 = .ok (.aload_n 0, 1) := by decide +kernel
theorem dX3_readWorth_37 : decode cX3_readWorth 37 = .ok (.getfield 19, 3) := by decide +kernel
theorem dX3_readWorth_40 : decode cX3_readWorth 40 = .ok (.iaload, 1) := by decide +kernel
theorem dX3_readWorth_41 : decode cX3_readWorth 41 = .ok (.bipush 48, 2) := by decide +kernel
theorem dX3_readWorth_43 : decode cX3_readWorth 43 = .ok (.bipush 57, 2) := by decide +kernel
theorem dX3_readWorth_45 : decode cX3_readWorth 45 = .ok (.invokestatic 84, 3) := by decide +kernel
theorem dX3_readWorth_48 : decode cX3_readWorth 48 = .ok (.ifCond .eq 31, 3) := by decide +kernel
theorem dX3_readWorth_51 : decode cX3_readWorth 51 = .ok (.iload_n 1, 1) := by decide +kernel
theorem dX3_readWorth_52 : decode cX3_readWorth 52 = .ok (.bipush 10, 2) := by decide +kernel
theorem dX3_readWorth_54 : decode cX3_readWorth 54 = .ok (.imul, 1) := by decide +kernel
theorem dX3_readWorth_55 : decode cX3_readWorth 55 = .ok (.aload_n 0, 1) := by decide +kernel
theorem dX3_readWorth_56 : decode cX3_readWorth 56 = .ok (.getfield 9, 3) := by decide +kernel
theorem dX3_readWorth_59 : decode cX3_readWorth 59 = .ok (.aload_n 0, 1) := by decide +kernel
theorem dX3_readWorth_60 : decode cX3_readWorth 60 = .ok (.getfield 19, 3) := by decide +kernel
theorem dX3_readWorth_63 : decode cX3_readWorth 63 = .ok (.iaload, 1) := by decide +kernel
theorem dX3_readWorth_64 : decode cX3_readWorth 64 = .ok (.iadd, 1) := by decide +kernel
theorem dX3_readWorth_65 : decode cX3_readWorth 65 = .ok (.bipush 48, 2) := by decide +kernel
theorem dX3_readWorth_67 : decode cX3_readWorth 67 = .ok (.isub, 1) := by decide +kernel
theorem dX3_readWorth_68 : decode cX3_readWorth 68 = .ok (.istore_n 1, 1) := by decide +kernel
theorem dX3_readWorth_69 : decode cX3_readWorth 69 = .ok (.aload_n 0, 1) := by decide +kernel
theorem dX3_readWorth_70 : decode cX3_readWorth 70 = .ok (.dup, 1) := by decide +kernel
theorem dX3_readWorth_71 : decode cX3_readWorth 71 = .ok (.getfield 19, 3) := by decide +kernel
theorem dX3_readWorth_74 : decode cX3_readWorth 74 = .ok (.iconst 1, 1) := by decide +kernel
theorem dX3_readWorth_75 : decode cX3_readWorth 75 = .ok (.iadd, 1) := by decide +kernel
theorem dX3_readWorth_76 : decode cX3_readWorth 76 = .ok (.putfield 19, 3) := by decide +kernel
theorem dX3_readWorth_79 : decode cX3_readWorth 79 = .ok (.iload_n 1, 1) := by decide +kernel
theorem dX3_readWorth_80 : decode cX3_readWorth 80 = .ok (.iconst 1, 1) := by decide +kernel
theorem dX3_readWorth_81 : decode cX3_readWorth 81 = .ok (.if_icmp .ge 10, 3) := by decide +kernel
theorem dX3_readWorth_84 : decode cX3_readWorth 84 = .ok (.aload_n 0, 1) := by decide +kernel
theorem dX3_readWorth_85 : decode cX3_readWorth 85 = .ok (.iload_n 2, 1) := by decide +kernel
theorem dX3_readWorth_86 : decode cX3_readWorth 86 = .ok (.putfield 19, 3) := by decide +kernel
theorem dX3_readWorth_89 : decode cX3_readWorth 89 = .ok (.iconst (-1), 1) := by decide +kernel
theorem dX3_readWorth_90 : decode cX3_readWorth 90 = .ok (.ireturn, 1) := by decide +kernel
theorem dX3_readWorth_91 : decode cX3_readWorth 91 = .ok (.iload_n 1, 1) := by decide +kernel
theorem dX3_readWorth_92 : decode cX3_readWorth 92 = .ok (.ireturn, 1) := by decide +kernel
theorem dX3_look_0 : decode cX3_look 0 = .ok (.aload_n 0, 1) := by decide +kernel
theorem dX3_look_1 : decode cX3_look 1 = .ok (.getfield 19, 3) := by decide +kernel
theorem dX3_look_4 : decode cX3_look 4 = .ok (.aload_n 0, 1) := by decide +kernel
theorem dX3_look_5 : decode cX3_look 5 = .ok (.getfield 15, 3) := by decide +kernel
theorem dX3_look_8 : decode cX3_look 8 = .ok (.if_icmp .ge 30, 3) := by decide +kernel
theorem dX3_look_11 : decode cX3_look 11 = .ok (.aload_n 0, 1) := by decide +kernel
theorem dX3_look_12 : decode cX3_look 12 = .ok (.getfield 9, 3) := by decide +kernel
theorem dX3_look_15 : decode cX3_look 15 = .ok (.aload_n 0, 1) := by decide +kernel
theorem dX3_look_16 : decode cX3_look 16 = .ok (.getfield 19, 3) := by decide +kernel
theorem dX3_look_19 : decode cX3_look 19 = .ok (.iaload, 1) := by decide +kernel
theorem dX3_look_20 : decode cX3_look 20 = .ok (.bipush 32, 2) := by decide +kernel
theorem dX3_look_22 : decode cX3_look 22 = .ok (.if_icmp .ne 16, 3) := by decide +kernel
theorem dX3_look_25 : decode cX3_look 25 = .ok (.aload_n 0, 1) := by decide +kernel
theorem dX3_look_26 : decode cX3_look 26 = .ok (.dup, 1) := by decide +kernel
theorem dX3_look_27 : decode cX3_look 27 = .ok (.getfield 19, 3) := by decide +kernel
theorem dX3_look_30 : decode cX3_look 30 = .ok (.iconst 1, 1) := by decide +kernel
theorem dX3_look_31 : decode cX3_look 31 = .ok (.iadd, 1) := by decide +kernel
theorem dX3_look_32 : decode cX3_look 32 = .ok (.putfield 19, 3) := by decide +kernel
theorem dX3_look_35 : decode cX3_look 35 = .ok (.goto (-35), 3) := by decide +kernel
theorem dX3_look_38 : decode cX3_look 38 = .ok (.aload_n 0, 1) := by decide +kernel
theorem dX3_look_39 : decode cX3_look 39 = .ok (.getfield 19, 3) := by decide +kernel
theorem dX3_look_42 : decode cX3_look 42 = .ok (.aload_n 0, 1) := by decide +kernel
theorem dX3_look_43 : decode cX3_look 43 = .ok (.getfield 15, 3) := by decide +kernel
theorem dX3_look_46 : decode cX3_look 46 = .ok (.if_icmp .ge 15, 3) := by decide +kernel
theorem dX3_look_49 : decode cX3_look 49 = .ok (.aload_n 0, 1) := by decide +kernel
theorem dX3_look_50 : decode cX3_look 50 = .ok (.getfield 9, 3) := by decide +kernel
theorem dX3_look_53 : decode cX3_look 53 = .ok (.aload_n 0, 1) := by decide +kernel
theorem dX3_look_54 : decode cX3_look 54 = .ok (.getfield 19, 3) := by decide +kernel
theorem dX3_look_57 : decode cX3_look 57 = .ok (.iaload, 1) := by decide +kernel
theorem dX3_look_58 : decode cX3_look 58 = .ok (.goto 4, 3) := by decide +kernel
theorem dX3_look_61 : decode cX3_look 61 = .ok (.iconst (-1), 1) := by decide +kernel
theorem dX3_look_62 : decode cX3_look 62 = .ok (.ireturn, 1) := by decide +kernel
set_option maxRecDepth 20000 in
theorem ggX3_accepts_X3_look : GoodIn wsX3_accepts wsX3_look := goodIn_r _ [6, 1, 7, 8, 9, 10, 11] (by decide +kernel) (by decide +kernel)
set_option maxRecDepth 20000 in
theorem gX3_accepts_X3_look : GoodIn wsX3_accepts (wsV RX3 52 RX3 yX3_look wsX3_look) := goodIn_app (goodIn_of _ (by decide +kernel)) ggX3_accepts_X3_look
theorem dX3_accepts_0 : decode cX3_accepts 0 = .ok (.aload_n 0, 1) := by decide +kernel
theorem dX3_accepts_1 : decode cX3_accepts 1 = .ok (.invokevirtual 52, 3) := by decide +kernel
theorem dX3_accepts_4 : decode cX3_accepts 4 = .ok (.iload_n 1, 1) := by decide +kernel
theorem dX3_accepts_5 : decode cX3_accepts 5 = .ok (.if_icmp .eq 5, 3) := by decide +kernel
theorem dX3_accepts_8 : decode cX3_accepts 8 = .ok (.iconst 0, 1) := by decide +kernel
theorem dX3_accepts_9 : decode cX3_accepts 9 = .ok (.ireturn, 1) := by decide +kernel
theorem dX3_accepts_10 : decode cX3_accepts 10 = .ok (.aload_n 0, 1) := by decide +kernel
theorem dX3_accepts_11 : decode cX3_accepts 11 = .ok (.dup, 1) := by decide +kernel
theorem dX3_accepts_12 : decode cX3_accepts 12 = .ok (.getfield 19, 3) := by decide +kernel
theorem dX3_accepts_15 : decode cX3_accepts 15 = .ok (.iconst 1, 1) := by decide +kernel
theorem dX3_accepts_16 : decode cX3_accepts 16 = .ok (.iadd, 1) := by decide +kernel
theorem dX3_accepts_17 : decode cX3_accepts 17 = .ok (.putfield 19, 3) := by decide +kernel
theorem dX3_accepts_20 : decode cX3_accepts 20 = .ok (.iconst 1, 1) := by decide +kernel
theorem dX3_accepts_21 : decode cX3_accepts 21 = .ok (.ireturn, 1) := by decide +kernel
set_option maxRecDepth 20000 in
theorem ggX3_readDigit_X3_look : GoodIn wsX3_readDigit wsX3_look := goodIn_r _ [6, 1, 7, 8, 12, 13, 14] (by decide +kernel) (by decide +kernel)
set_option maxRecDepth 20000 in
theorem gX3_readDigit_X3_look : GoodIn wsX3_readDigit (wsV RX3 52 RX3 yX3_look wsX3_look) := goodIn_app (goodIn_of _ (by decide +kernel)) ggX3_readDigit_X3_look
set_option maxRecDepth 20000 in
theorem ggX3_readDigit_X6_isWithin : GoodIn wsX3_readDigit wsX6_isWithin := goodIn_r _ [11] (by decide +kernel) (by decide +kernel)
set_option maxRecDepth 20000 in
theorem gX3_readDigit_X6_isWithin_n84 : GoodIn wsX3_readDigit (wsX6_isWithin) := ggX3_readDigit_X6_isWithin
theorem dX3_readDigit_0 : decode cX3_readDigit 0 = .ok (.aload_n 0, 1) := by decide +kernel
theorem dX3_readDigit_1 : decode cX3_readDigit 1 = .ok (.invokevirtual 52, 3) := by decide +kernel
theorem dX3_readDigit_4 : decode cX3_readDigit 4 = .ok (.bipush 48, 2) := by decide +kernel
theorem dX3_readDigit_6 : decode cX3_readDigit 6 = .ok (.isub, 1) := by decide +kernel
theorem dX3_readDigit_7 : decode cX3_readDigit 7 = .ok (.istore_n 3, 1) := by decide +kernel
theorem dX3_readDigit_8 : decode cX3_readDigit 8 = .ok (.iload_n 3, 1) := by decide +kernel
theorem dX3_readDigit_9 : decode cX3_readDigit 9 = .ok (.iload_n 1, 1) := by decide +kernel
theorem dX3_readDigit_10 : decode cX3_readDigit 10 = .ok (.iload_n 2, 1) := by decide +kernel
theorem dX3_readDigit_11 : decode cX3_readDigit 11 = .ok (.invokestatic 84, 3) := by decide +kernel
theorem dX3_readDigit_14 : decode cX3_readDigit 14 = .ok (.ifCond .ne 5, 3) := by decide +kernel
theorem dX3_readDigit_17 : decode cX3_readDigit 17 = .ok (.iconst (-1), 1) := by decide +kernel
theorem dX3_readDigit_18 : decode cX3_readDigit 18 = .ok (.ireturn, 1) := by decide +kernel
theorem dX3_readDigit_19 : decode cX3_readDigit 19 = .ok (.aload_n 0, 1) := by decide +kernel
theorem dX3_readDigit_20 : decode cX3_readDigit 20 = .ok (.dup, 1) := by decide +kernel
theorem dX3_readDigit_21 : decode cX3_readDigit 21 = .ok (.getfield 19, 3) := by decide +kernel
theorem dX3_readDigit_24 : decode cX3_readDigit 24 = .ok (.iconst 1, 1) := by decide +kernel
theorem dX3_readDigit_25 : decode cX3_readDigit 25 = .ok (.iadd, 1) := by decide +kernel
theorem dX3_readDigit_26 : decode cX3_readDigit 26 = .ok (.putfield 19, 3) := by decide +kernel
theorem dX3_readDigit_29 : decode cX3_readDigit 29 = .ok (.iload_n 3, 1) := by decide +kernel
theorem dX3_readDigit_30 : decode cX3_readDigit 30 = .ok (.ireturn, 1) := by decide +kernel
theorem dX4_init_0 : decode cX4_init 0 = .ok (.aload_n 0, 1) := by decide +kernel
theorem dX4_init_1 : decode cX4_init 1 = .ok (.invokespecial 3, 3) := by decide +kernel
theorem dX4_init_4 : decode cX4_init 4 = .ok (.aload_n 0, 1) := by decide +kernel
theorem dX4_init_5 : decode cX4_init 5 = .ok (.iconst 0, 1) := by decide +kernel
theorem dX4_init_6 : decode cX4_init 6 = .ok (.putfield 9, 3) := by decide +kernel
theorem dX4_init_9 : decode cX4_init 9 = .ok (.aload_n 0, 1) := by decide +kernel
theorem dX4_init_10 : decode cX4_init 10 = .ok (.iconst 0, 1) := by decide +kernel
theorem dX4_init_11 : decode cX4_init 11 = .ok (.putfield 15, 3) := by decide +kernel
theorem dX4_init_14 : decode cX4_init 14 = .ok (.aload_n 0, 1) := by decide +kernel
theorem dX4_init_15 : decode cX4_init 15 = .ok (.iconst 0, 1) := by decide +kernel
theorem dX4_init_16 : decode cX4_init 16 = .ok (.putfield 19, 3) := by decide +kernel
theorem dX4_init_19 : decode cX4_init 19 = .ok (.aload_n 0, 1) := by decide +kernel
theorem dX4_init_20 : decode cX4_init 20 = .ok (.bipush 24, 2) := by decide +kernel
theorem dX4_init_22 : decode cX4_init 22 = .ok (.newarray .long, 2) := by decide +kernel
theorem dX4_init_24 : decode cX4_init 24 = .ok (.putfield 22, 3) := by decide +kernel
theorem dX4_init_27 : decode cX4_init 27 = .ok (.return_, 1) := by decide +kernel
theorem dX4_begin_0 : decode cX4_begin 0 = .ok (.aload_n 0, 1) := by decide +kernel
theorem dX4_begin_1 : decode cX4_begin 1 = .ok (.iconst 1, 1) := by decide +kernel
theorem dX4_begin_2 : decode cX4_begin 2 = .ok (.putfield 9, 3) := by decide +kernel
theorem dX4_begin_5 : decode cX4_begin 5 = .ok (.aload_n 0, 1) := by decide +kernel
theorem dX4_begin_6 : decode cX4_begin 6 = .ok (.iload_n 1, 1) := by decide +kernel
theorem dX4_begin_7 : decode cX4_begin 7 = .ok (.putfield 15, 3) := by decide +kernel
theorem dX4_begin_10 : decode cX4_begin 10 = .ok (.aload_n 0, 1) := by decide +kernel
theorem dX4_begin_11 : decode cX4_begin 11 = .ok (.iload_n 2, 1) := by decide +kernel
theorem dX4_begin_12 : decode cX4_begin 12 = .ok (.putfield 19, 3) := by decide +kernel
theorem dX4_begin_15 : decode cX4_begin 15 = .ok (.iconst 0, 1) := by decide +kernel
theorem dX4_begin_16 : decode cX4_begin 16 = .ok (.istore_n 3, 1) := by decide +kernel
theorem dX4_begin_17 : decode cX4_begin 17 = .ok (.iload_n 3, 1) := by decide +kernel
theorem dX4_begin_18 : decode cX4_begin 18 = .ok (.bipush 24, 2) := by decide +kernel
theorem dX4_begin_20 : decode cX4_begin 20 = .ok (.if_icmp .ge 16, 3) := by decide +kernel
theorem dX4_begin_23 : decode cX4_begin 23 = .ok (.aload_n 0, 1) := by decide +kernel
theorem dX4_begin_24 : decode cX4_begin 24 = .ok (.getfield 22, 3) := by decide +kernel
theorem dX4_begin_27 : decode cX4_begin 27 = .ok (.iload_n 3, 1) := by decide +kernel
theorem dX4_begin_28 : decode cX4_begin 28 = .ok (.lconst 0, 1) := by decide +kernel
theorem dX4_begin_29 : decode cX4_begin 29 = .ok (.lastore, 1) := by decide +kernel
theorem dX4_begin_30 : decode cX4_begin 30 = .ok (.iinc 3 1, 3) := by decide +kernel
theorem dX4_begin_33 : decode cX4_begin 33 = .ok (.goto (-16), 3) := by decide +kernel
theorem dX4_begin_36 : decode cX4_begin 36 = .ok (.return_, 1) := by decide +kernel
theorem dX4_hasItems_0 : decode cX4_hasItems 0 = .ok (.iload_n 2, 1) := by decide +kernel
theorem dX4_hasItems_1 : decode cX4_hasItems 1 = .ok (.ifCond .lt 29, 3) := by decide +kernel
theorem dX4_hasItems_4 : decode cX4_hasItems 4 = .ok (.iload_n 2, 1) := by decide +kernel
theorem dX4_hasItems_5 : decode cX4_hasItems 5 = .ok (.aload_n 0, 1) := by decide +kernel
theorem dX4_hasItems_6 : decode cX4_hasItems 6 = .ok (.getfield 19, 3) := by decide +kernel
theorem dX4_hasItems_9 : decode cX4_hasItems 9 = .ok (.if_icmp .gt 21, 3) := by decide +kernel
theorem dX4_hasItems_12 : decode cX4_hasItems 12 = .ok (.iload_n 1, 1) := by decide +kernel
theorem dX4_hasItems_13 : decode cX4_hasItems 13 = .ok (.ifCond .lt 17, 3) := by decide +kernel
theorem dX4_hasItems_16 : decode cX4_hasItems 16 = .ok (.iload_n 1, 1) := by decide +kernel
theorem dX4_hasItems_17 : decode cX4_hasItems 17 = .ok (.aload_n 0, 1) := by decide +kernel
theorem dX4_hasItems_18 : decode cX4_hasItems 18 = .ok (.getfield 19, 3) := by decide +kernel
theorem dX4_hasItems_21 : decode cX4_hasItems 21 = .ok (.iload_n 2, 1) := by decide +kernel
theorem dX4_hasItems_22 : decode cX4_hasItems 22 = .ok (.isub, 1) := by decide +kernel
theorem dX4_hasItems_23 : decode cX4_hasItems 23 = .ok (.if_icmp .gt 7, 3) := by decide +kernel
theorem dX4_hasItems_26 : decode cX4_hasItems 26 = .ok (.iconst 1, 1) := by decide +kernel
theorem dX4_hasItems_27 : decode cX4_hasItems 27 = .ok (.goto 4, 3) := by decide +kernel
theorem dX4_hasItems_30 : decode cX4_hasItems 30 = .ok (.iconst 0, 1) := by decide +kernel
theorem dX4_hasItems_31 : decode cX4_hasItems 31 = .ok (.ireturn, 1) := by decide +kernel
set_option maxRecDepth 20000 in
theorem ggX4_refusal_X4_hasItems : GoodIn wsX4_refusal wsX4_hasItems := goodIn_r _ [7, 8, 9, 10, 11, 12] (by decide +kernel) (by decide +kernel)
set_option maxRecDepth 20000 in
theorem gX4_refusal_X4_hasItems : GoodIn wsX4_refusal (wsV RX4 26 RX4 yX4_hasItems wsX4_hasItems) := goodIn_app (goodIn_of _ (by decide +kernel)) ggX4_refusal_X4_hasItems
theorem dX4_refusal_0 : decode cX4_refusal 0 = .ok (.aload_n 0, 1) := by decide +kernel
theorem dX4_refusal_1 : decode cX4_refusal 1 = .ok (.getfield 9, 3) := by decide +kernel
theorem dX4_refusal_4 : decode cX4_refusal 4 = .ok (.ifCond .ne 6, 3) := by decide +kernel
theorem dX4_refusal_7 : decode cX4_refusal 7 = .ok (.bipush (-11), 2) := by decide +kernel
theorem dX4_refusal_9 : decode cX4_refusal 9 = .ok (.ireturn, 1) := by decide +kernel
theorem dX4_refusal_10 : decode cX4_refusal 10 = .ok (.aload_n 0, 1) := by decide +kernel
theorem dX4_refusal_11 : decode cX4_refusal 11 = .ok (.getfield 15, 3) := by decide +kernel
theorem dX4_refusal_14 : decode cX4_refusal 14 = .ok (.iload_n 1, 1) := by decide +kernel
theorem dX4_refusal_15 : decode cX4_refusal 15 = .ok (.if_icmp .eq 6, 3) := by decide +kernel
theorem dX4_refusal_18 : decode cX4_refusal 18 = .ok (.bipush (-12), 2) := by decide +kernel
theorem dX4_refusal_20 : decode cX4_refusal 20 = .ok (.ireturn, 1) := by decide +kernel
theorem dX4_refusal_21 : decode cX4_refusal 21 = .ok (.aload_n 0, 1) := by decide +kernel
theorem dX4_refusal_22 : decode cX4_refusal 22 = .ok (.iload_n 2, 1) := by decide +kernel
theorem dX4_refusal_23 : decode cX4_refusal 23 = .ok (.iload_n 3, 1) := by decide +kernel
theorem dX4_refusal_24 : decode cX4_refusal 24 = .ok (.invokevirtual 26, 3) := by decide +kernel
theorem dX4_refusal_27 : decode cX4_refusal 27 = .ok (.ifCond .eq 7, 3) := by decide +kernel
theorem dX4_refusal_30 : decode cX4_refusal 30 = .ok (.iconst 0, 1) := by decide +kernel
theorem dX4_refusal_31 : decode cX4_refusal 31 = .ok (.goto 5, 3) := by decide +kernel
theorem dX4_refusal_34 : decode cX4_refusal 34 = .ok (.bipush (-13), 2) := by decide +kernel
theorem dX4_refusal_36 : decode cX4_refusal 36 = .ok (.ireturn, 1) := by decide +kernel
theorem dX4_put_0 : decode cX4_put 0 = .ok (.aload_n 0, 1) := by decide +kernel
theorem dX4_put_1 : decode cX4_put 1 = .ok (.getfield 15, 3) := by decide +kernel
theorem dX4_put_4 : decode cX4_put 4 = .ok (.tableswitch 66 0 2 #[28, 41, 54], 28) := by decide +kernel
theorem dX4_put_32 : decode cX4_put 32 = .ok (.aload_n 0, 1) := by decide +kernel
theorem dX4_put_33 : decode cX4_put 33 = .ok (.getfield 22, 3) := by decide +kernel
theorem dX4_put_36 : decode cX4_put 36 = .ok (.iload_n 1, 1) := by decide +kernel
theorem dX4_put_37 : decode cX4_put 37 = .ok (.lload_n 2, 1) := by decide +kernel
theorem dX4_put_38 : decode cX4_put 38 = .ok (.l2i, 1) := by decide +kernel
theorem dX4_put_39 : decode cX4_put 39 = .ok (.i2b, 1) := by decide +kernel
theorem dX4_put_40 : decode cX4_put 40 = .ok (.i2l, 1) := by decide +kernel
theorem dX4_put_41 : decode cX4_put 41 = .ok (.lastore, 1) := by decide +kernel
theorem dX4_put_42 : decode cX4_put 42 = .ok (.goto 35, 3) := by decide +kernel
theorem dX4_put_45 : decode cX4_put 45 = .ok (.aload_n 0, 1) := by decide +kernel
theorem dX4_put_46 : decode cX4_put 46 = .ok (.getfield 22, 3) := by decide +kernel
theorem dX4_put_49 : decode cX4_put 49 = .ok (.iload_n 1, 1) := by decide +kernel
theorem dX4_put_50 : decode cX4_put 50 = .ok (.lload_n 2, 1) := by decide +kernel
theorem dX4_put_51 : decode cX4_put 51 = .ok (.l2i, 1) := by decide +kernel
theorem dX4_put_52 : decode cX4_put 52 = .ok (.i2s, 1) := by decide +kernel
theorem dX4_put_53 : decode cX4_put 53 = .ok (.i2l, 1) := by decide +kernel
theorem dX4_put_54 : decode cX4_put 54 = .ok (.lastore, 1) := by decide +kernel
theorem dX4_put_55 : decode cX4_put 55 = .ok (.goto 22, 3) := by decide +kernel
theorem dX4_put_58 : decode cX4_put 58 = .ok (.aload_n 0, 1) := by decide +kernel
theorem dX4_put_59 : decode cX4_put 59 = .ok (.getfield 22, 3) := by decide +kernel
theorem dX4_put_62 : decode cX4_put 62 = .ok (.iload_n 1, 1) := by decide +kernel
theorem dX4_put_63 : decode cX4_put 63 = .ok (.lload_n 2, 1) := by decide +kernel
theorem dX4_put_64 : decode cX4_put 64 = .ok (.l2i, 1) := by decide +kernel
theorem dX4_put_65 : decode cX4_put 65 = .ok (.i2l, 1) := by decide +kernel
theorem dX4_put_66 : decode cX4_put 66 = .ok (.lastore, 1) := by decide +kernel
theorem dX4_put_67 : decode cX4_put 67 = .ok (.goto 10, 3) := by decide +kernel
theorem dX4_put_70 : decode cX4_put 70 = .ok (.aload_n 0, 1) := by decide +kernel
theorem dX4_put_71 : decode cX4_put 71 = .ok (.getfield 22, 3) := by decide +kernel
theorem dX4_put_74 : decode cX4_put 74 = .ok (.iload_n 1, 1) := by decide +kernel
theorem dX4_put_75 : decode cX4_put 75 = .ok (.lload_n 2, 1) := by decide +kernel
theorem dX4_put_76 : decode cX4_put 76 = .ok (.lastore, 1) := by decide +kernel
theorem dX4_put_77 : decode cX4_put 77 = .ok (.return_, 1) := by decide +kernel
theorem dX4_fieldAt_0 : decode cX4_fieldAt 0 = .ok (.aload_n 0, 1) := by decide +kernel
theorem dX4_fieldAt_1 : decode cX4_fieldAt 1 = .ok (.getfield 22, 3) := by decide +kernel
theorem dX4_fieldAt_4 : decode cX4_fieldAt 4 = .ok (.iload_n 1, 1) := by decide +kernel
theorem dX4_fieldAt_5 : decode cX4_fieldAt 5 = .ok (.laload, 1) := by decide +kernel
theorem dX4_fieldAt_6 : decode cX4_fieldAt 6 = .ok (.lstore_n 2, 1) := by decide +kernel
theorem dX4_fieldAt_7 : decode cX4_fieldAt 7 = .ok (.lload_n 2, 1) := by decide +kernel
theorem dX4_fieldAt_8 : decode cX4_fieldAt 8 = .ok (.lconst 0, 1) := by decide +kernel
theorem dX4_fieldAt_9 : decode cX4_fieldAt 9 = .ok (.lcmp, 1) := by decide +kernel
theorem dX4_fieldAt_10 : decode cX4_fieldAt 10 = .ok (.ifCond .lt 16, 3) := by decide +kernel
theorem dX4_fieldAt_13 : decode cX4_fieldAt 13 = .ok (.lload_n 2, 1) := by decide +kernel
theorem dX4_fieldAt_14 : decode cX4_fieldAt 14 = .ok (.ldc2_w 30, 3) := by decide +kernel
theorem dX4_fieldAt_17 : decode cX4_fieldAt 17 = .ok (.lcmp, 1) := by decide +kernel
theorem dX4_fieldAt_18 : decode cX4_fieldAt 18 = .ok (.ifCond .gt 8, 3) := by decide +kernel
theorem dX4_fieldAt_21 : decode cX4_fieldAt 21 = .ok (.lload_n 2, 1) := by decide +kernel
theorem dX4_fieldAt_22 : decode cX4_fieldAt 22 = .ok (.l2i, 1) := by decide +kernel
theorem dX4_fieldAt_23 : decode cX4_fieldAt 23 = .ok (.goto 4, 3) := by decide +kernel
theorem dX4_fieldAt_26 : decode cX4_fieldAt 26 = .ok (.iconst (-1), 1) := by decide +kernel
theorem dX4_fieldAt_27 : decode cX4_fieldAt 27 = .ok (.ireturn, 1) := by decide +kernel
set_option maxRecDepth 20000 in
theorem ggX5_init_X0_init : GoodIn wsX5_init wsX0_init := goodIn_r _ [17, 18, 2, 3, 19, 20, 28, 29] (by decide +kernel) (by decide +kernel)
set_option maxRecDepth 20000 in
theorem gX5_init_X0_init_n35 : GoodIn wsX5_init (wsX0_init) := ggX5_init_X0_init
theorem dX5_init_0 : decode cX5_init 0 = .ok (.aload_n 0, 1) := by decide +kernel
theorem dX5_init_1 : decode cX5_init 1 = .ok (.invokespecial 3, 3) := by decide +kernel
theorem dX5_init_4 : decode cX5_init 4 = .ok (.aload_n 0, 1) := by decide +kernel
theorem dX5_init_5 : decode cX5_init 5 = .ok (.bipush 7, 2) := by decide +kernel
theorem dX5_init_7 : decode cX5_init 7 = .ok (.newarray .int, 2) := by decide +kernel
theorem dX5_init_9 : decode cX5_init 9 = .ok (.putfield 9, 3) := by decide +kernel
theorem dX5_init_12 : decode cX5_init 12 = .ok (.aload_n 0, 1) := by decide +kernel
theorem dX5_init_13 : decode cX5_init 13 = .ok (.bipush 7, 2) := by decide +kernel
theorem dX5_init_15 : decode cX5_init 15 = .ok (.newarray .int, 2) := by decide +kernel
theorem dX5_init_17 : decode cX5_init 17 = .ok (.putfield 15, 3) := by decide +kernel
theorem dX5_init_20 : decode cX5_init 20 = .ok (.aload_n 0, 1) := by decide +kernel
theorem dX5_init_21 : decode cX5_init 21 = .ok (.bipush 10, 2) := by decide +kernel
theorem dX5_init_23 : decode cX5_init 23 = .ok (.putfield 18, 3) := by decide +kernel
theorem dX5_init_26 : decode cX5_init 26 = .ok (.aload_n 0, 1) := by decide +kernel
theorem dX5_init_27 : decode cX5_init 27 = .ok (.bipush 7, 2) := by decide +kernel
theorem dX5_init_29 : decode cX5_init 29 = .ok (.newarray .long, 2) := by decide +kernel
theorem dX5_init_31 : decode cX5_init 31 = .ok (.putfield 22, 3) := by decide +kernel
theorem dX5_init_34 : decode cX5_init 34 = .ok (.aload_n 0, 1) := by decide +kernel
theorem dX5_init_35 : decode cX5_init 35 = .ok (.bipush 7, 2) := by decide +kernel
theorem dX5_init_37 : decode cX5_init 37 = .ok (.newarray .long, 2) := by decide +kernel
theorem dX5_init_39 : decode cX5_init 39 = .ok (.putfield 26, 3) := by decide +kernel
theorem dX5_init_42 : decode cX5_init 42 = .ok (.aload_n 0, 1) := by decide +kernel
theorem dX5_init_43 : decode cX5_init 43 = .ok (.lconst 1, 1) := by decide +kernel
theorem dX5_init_44 : decode cX5_init 44 = .ok (.putfield 29, 3) := by decide +kernel
theorem dX5_init_47 : decode cX5_init 47 = .ok (.aload_n 0, 1) := by decide +kernel
theorem dX5_init_48 : decode cX5_init 48 = .ok (.new 33, 3) := by decide +kernel
theorem dX5_init_51 : decode cX5_init 51 = .ok (.dup, 1) := by decide +kernel
theorem dX5_init_52 : decode cX5_init 52 = .ok (.invokespecial 35, 3) := by decide +kernel
theorem dX5_init_55 : decode cX5_init 55 = .ok (.putfield 36, 3) := by decide +kernel
theorem dX5_init_58 : decode cX5_init 58 = .ok (.return_, 1) := by decide +kernel
set_option maxRecDepth 20000 in
theorem ggX5_learn_X1_onFrom : GoodIn wsX5_learn wsX1_onFrom := goodIn_r _ [8, 9, 10, 11, 12, 13, 14, 15, 16, 17, 7, 18, 19, 20, 21, 38, 39, 40, 41, 42, 43, 44, 45, 46, 47, 48, 49, 50] (by decide +kernel) (by decide +kernel)
set_option maxRecDepth 20000 in
theorem gX5_learn_X1_onFrom : GoodIn wsX5_learn (wsV RX5 40 RX1 yX1_onFrom wsX1_onFrom) := goodIn_app (goodIn_of _ (by decide +kernel)) ggX5_learn_X1_onFrom
set_option maxRecDepth 20000 in
theorem ggX5_learn_X1_backFrom : GoodIn wsX5_learn wsX1_backFrom := goodIn_r _ [25, 9, 26, 27, 28, 14, 29, 30, 5, 6, 7, 8, 10, 11, 12, 13, 15, 16, 17, 18, 19, 20, 21, 38, 39, 40, 41, 42, 43, 44, 45, 46, 47, 48, 49, 50] (by decide +kernel) (by decide +kernel)
set_option maxRecDepth 20000 in
theorem gX5_learn_X1_backFrom : GoodIn wsX5_learn (wsV RX5 46 RX1 yX1_backFrom wsX1_backFrom) := goodIn_app (goodIn_of _ (by decide +kernel)) ggX5_learn_X1_backFrom
theorem dX5_learn_0 : decode cX5_learn 0 = .ok (.aload_n 0, 1) := by decide +kernel
theorem dX5_learn_1 : decode cX5_learn 1 = .ok (.bipush 10, 2) := by decide +kernel
theorem dX5_learn_3 : decode cX5_learn 3 = .ok (.putfield 18, 3) := by decide +kernel
theorem dX5_learn_6 : decode cX5_learn 6 = .ok (.iconst 0, 1) := by decide +kernel
theorem dX5_learn_7 : decode cX5_learn 7 = .ok (.istore_n 2, 1) := by decide +kernel
theorem dX5_learn_8 : decode cX5_learn 8 = .ok (.iload_n 2, 1) := by decide +kernel
theorem dX5_learn_9 : decode cX5_learn 9 = .ok (.bipush 7, 2) := by decide +kernel
theorem dX5_learn_11 : decode cX5_learn 11 = .ok (.if_icmp .ge 31, 3) := by decide +kernel
theorem dX5_learn_14 : decode cX5_learn 14 = .ok (.aload_n 0, 1) := by decide +kernel
theorem dX5_learn_15 : decode cX5_learn 15 = .ok (.getfield 9, 3) := by decide +kernel
theorem dX5_learn_18 : decode cX5_learn 18 = .ok (.iload_n 2, 1) := by decide +kernel
theorem dX5_learn_19 : decode cX5_learn 19 = .ok (.aload_n 1, 1) := by decide +kernel
theorem dX5_learn_20 : decode cX5_learn 20 = .ok (.iload_n 2, 1) := by decide +kernel
theorem dX5_learn_21 : decode cX5_learn 21 = .ok (.invokevirtual 40, 3) := by decide +kernel
theorem dX5_learn_24 : decode cX5_learn 24 = .ok (.iastore, 1) := by decide +kernel
theorem dX5_learn_25 : decode cX5_learn 25 = .ok (.aload_n 0, 1) := by decide +kernel
theorem dX5_learn_26 : decode cX5_learn 26 = .ok (.getfield 15, 3) := by decide +kernel
theorem dX5_learn_29 : decode cX5_learn 29 = .ok (.iload_n 2, 1) := by decide +kernel
theorem dX5_learn_30 : decode cX5_learn 30 = .ok (.aload_n 1, 1) := by decide +kernel
theorem dX5_learn_31 : decode cX5_learn 31 = .ok (.iload_n 2, 1) := by decide +kernel
theorem dX5_learn_32 : decode cX5_learn 32 = .ok (.invokevirtual 46, 3) := by decide +kernel
theorem dX5_learn_35 : decode cX5_learn 35 = .ok (.iastore, 1) := by decide +kernel
theorem dX5_learn_36 : decode cX5_learn 36 = .ok (.iinc 2 1, 3) := by decide +kernel
theorem dX5_learn_39 : decode cX5_learn 39 = .ok (.goto (-31), 3) := by decide +kernel
theorem dX5_learn_42 : decode cX5_learn 42 = .ok (.return_, 1) := by decide +kernel
theorem dX5_fallAsleep_0 : decode cX5_fallAsleep 0 = .ok (.aload_n 0, 1) := by decide +kernel
theorem dX5_fallAsleep_1 : decode cX5_fallAsleep 1 = .ok (.bipush 100, 2) := by decide +kernel
theorem dX5_fallAsleep_3 : decode cX5_fallAsleep 3 = .ok (.putfield 18, 3) := by decide +kernel
theorem dX5_fallAsleep_6 : decode cX5_fallAsleep 6 = .ok (.iconst 0, 1) := by decide +kernel
theorem dX5_fallAsleep_7 : decode cX5_fallAsleep 7 = .ok (.istore_n 2, 1) := by decide +kernel
theorem dX5_fallAsleep_8 : decode cX5_fallAsleep 8 = .ok (.iload_n 2, 1) := by decide +kernel
theorem dX5_fallAsleep_9 : decode cX5_fallAsleep 9 = .ok (.bipush 7, 2) := by decide +kernel
theorem dX5_fallAsleep_11 : decode cX5_fallAsleep 11 = .ok (.if_icmp .ge 35, 3) := by decide +kernel
theorem dX5_fallAsleep_14 : decode cX5_fallAsleep 14 = .ok (.aload_n 0, 1) := by decide +kernel
theorem dX5_fallAsleep_15 : decode cX5_fallAsleep 15 = .ok (.getfield 9, 3) := by decide +kernel
theorem dX5_fallAsleep_18 : decode cX5_fallAsleep 18 = .ok (.iload_n 2, 1) := by decide +kernel
theorem dX5_fallAsleep_19 : decode cX5_fallAsleep 19 = .ok (.dup2, 1) := by decide +kernel
theorem dX5_fallAsleep_20 : decode cX5_fallAsleep 20 = .ok (.iaload, 1) := by decide +kernel
theorem dX5_fallAsleep_21 : decode cX5_fallAsleep 21 = .ok (.bipush 10, 2) := by decide +kernel
theorem dX5_fallAsleep_23 : decode cX5_fallAsleep 23 = .ok (.iload_n 1, 1) := by decide +kernel
theorem dX5_fallAsleep_24 : decode cX5_fallAsleep 24 = .ok (.isub, 1) := by decide +kernel
theorem dX5_fallAsleep_25 : decode cX5_fallAsleep 25 = .ok (.imul, 1) := by decide +kernel
theorem dX5_fallAsleep_26 : decode cX5_fallAsleep 26 = .ok (.iastore, 1) := by decide +kernel
theorem dX5_fallAsleep_27 : decode cX5_fallAsleep 27 = .ok (.aload_n 0, 1) := by decide +kernel
theorem dX5_fallAsleep_28 : decode cX5_fallAsleep 28 = .ok (.getfield 15, 3) := by decide +kernel
theorem dX5_fallAsleep_31 : decode cX5_fallAsleep 31 = .ok (.iload_n 2, 1) := by decide +kernel
theorem dX5_fallAsleep_32 : decode cX5_fallAsleep 32 = .ok (.dup2, 1) := by decide +kernel
theorem dX5_fallAsleep_33 : decode cX5_fallAsleep 33 = .ok (.iaload, 1) := by decide +kernel
theorem dX5_fallAsleep_34 : decode cX5_fallAsleep 34 = .ok (.bipush 10, 2) := by decide +kernel
theorem dX5_fallAsleep_36 : decode cX5_fallAsleep 36 = .ok (.iload_n 1, 1) := by decide +kernel
theorem dX5_fallAsleep_37 : decode cX5_fallAsleep 37 = .ok (.isub, 1) := by decide +kernel
theorem dX5_fallAsleep_38 : decode cX5_fallAsleep 38 = .ok (.imul, 1) := by decide +kernel
theorem dX5_fallAsleep_39 : decode cX5_fallAsleep 39 = .ok (.iastore, 1) := by decide +kernel
theorem dX5_fallAsleep_40 : decode cX5_fallAsleep 40 = .ok (.iinc 2 1, 3) := by decide +kernel
theorem dX5_fallAsleep_43 : decode cX5_fallAsleep 43 = .ok (.goto (-35), 3) := by decide +kernel
theorem dX5_fallAsleep_46 : decode cX5_fallAsleep 46 = .ok (.return_, 1) := by decide +kernel
set_option maxRecDepth 20000 in
theorem ggX5_weight_X6_isField : GoodIn wsX5_weight wsX6_isField := goodIn_r _ [6, 7, 8, 5, 9] (by decide +kernel) (by decide +kernel)
set_option maxRecDepth 20000 in
theorem gX5_weight_X6_isField_n49 : GoodIn wsX5_weight (wsX6_isField) := ggX5_weight_X6_isField
theorem dX5_weight_0 : decode cX5_weight 0 = .ok (.iload_n 1, 1) := by decide +kernel
theorem dX5_weight_1 : decode cX5_weight 1 = .ok (.invokestatic 49, 3) := by decide +kernel
theorem dX5_weight_4 : decode cX5_weight 4 = .ok (.ifCond .eq 10, 3) := by decide +kernel
theorem dX5_weight_7 : decode cX5_weight 7 = .ok (.iload_n 2, 1) := by decide +kernel
theorem dX5_weight_8 : decode cX5_weight 8 = .ok (.invokestatic 49, 3) := by decide +kernel
theorem dX5_weight_11 : decode cX5_weight 11 = .ok (.ifCond .ne 5, 3) := by decide +kernel
theorem dX5_weight_14 : decode cX5_weight 14 = .ok (.iconst 0, 1) := by decide +kernel
theorem dX5_weight_15 : decode cX5_weight 15 = .ok (.ireturn, 1) := by decide +kernel
theorem dX5_weight_16 : decode cX5_weight 16 = .ok (.iload_n 2, 1) := by decide +kernel
theorem dX5_weight_17 : decode cX5_weight 17 = .ok (.iload_n 1, 1) := by decide +kernel
theorem dX5_weight_18 : decode cX5_weight 18 = .ok (.if_icmp .ne 22, 3) := by decide +kernel
theorem dX5_weight_21 : decode cX5_weight 21 = .ok (.aload_n 0, 1) := by decide +kernel
theorem dX5_weight_22 : decode cX5_weight 22 = .ok (.getfield 18, 3) := by decide +kernel
theorem dX5_weight_25 : decode cX5_weight 25 = .ok (.aload_n 0, 1) := by decide +kernel
theorem dX5_weight_26 : decode cX5_weight 26 = .ok (.getfield 9, 3) := by decide +kernel
theorem dX5_weight_29 : decode cX5_weight 29 = .ok (.iload_n 1, 1) := by decide +kernel
theorem dX5_weight_30 : decode cX5_weight 30 = .ok (.iaload, 1) := by decide +kernel
theorem dX5_weight_31 : decode cX5_weight 31 = .ok (.isub, 1) := by decide +kernel
theorem dX5_weight_32 : decode cX5_weight 32 = .ok (.aload_n 0, 1) := by decide +kernel
theorem dX5_weight_33 : decode cX5_weight 33 = .ok (.getfield 15, 3) := by decide +kernel
theorem dX5_weight_36 : decode cX5_weight 36 = .ok (.iload_n 1, 1) := by decide +kernel
theorem dX5_weight_37 : decode cX5_weight 37 = .ok (.iaload, 1) := by decide +kernel
theorem dX5_weight_38 : decode cX5_weight 38 = .ok (.isub, 1) := by decide +kernel
theorem dX5_weight_39 : decode cX5_weight 39 = .ok (.ireturn, 1) := by decide +kernel
theorem dX5_weight_40 : decode cX5_weight 40 = .ok (.iload_n 2, 1) := by decide +kernel
theorem dX5_weight_41 : decode cX5_weight 41 = .ok (.iload_n 1, 1) := by decide +kernel
theorem dX5_weight_42 : decode cX5_weight 42 = .ok (.iconst 1, 1) := by decide +kernel
theorem dX5_weight_43 : decode cX5_weight 43 = .ok (.iadd, 1) := by decide +kernel
theorem dX5_weight_44 : decode cX5_weight 44 = .ok (.if_icmp .ne 10, 3) := by decide +kernel
theorem dX5_weight_47 : decode cX5_weight 47 = .ok (.aload_n 0, 1) := by decide +kernel
theorem dX5_weight_48 : decode cX5_weight 48 = .ok (.getfield 9, 3) := by decide +kernel
theorem dX5_weight_51 : decode cX5_weight 51 = .ok (.iload_n 1, 1) := by decide +kernel
theorem dX5_weight_52 : decode cX5_weight 52 = .ok (.iaload, 1) := by decide +kernel
theorem dX5_weight_53 : decode cX5_weight 53 = .ok (.ireturn, 1) := by decide +kernel
theorem dX5_weight_54 : decode cX5_weight 54 = .ok (.iload_n 2, 1) := by decide +kernel
theorem dX5_weight_55 : decode cX5_weight 55 = .ok (.iload_n 1, 1) := by decide +kernel
theorem dX5_weight_56 : decode cX5_weight 56 = .ok (.iconst 1, 1) := by decide +kernel
theorem dX5_weight_57 : decode cX5_weight 57 = .ok (.isub, 1) := by decide +kernel
theorem dX5_weight_58 : decode cX5_weight 58 = .ok (.if_icmp .ne 12, 3) := by decide +kernel
theorem dX5_weight_61 : decode cX5_weight 61 = .ok (.aload_n 0, 1) := by decide +kernel
theorem dX5_weight_62 : decode cX5_weight 62 = .ok (.getfield 15, 3) := by decide +kernel
theorem dX5_weight_65 : decode cX5_weight 65 = .ok (.iload_n 1, 1) := by decide +kernel
theorem dX5_weight_66 : decode cX5_weight 66 = .ok (.iaload, 1) := by decide +kernel
theorem dX5_weight_67 : decode cX5_weight 67 = .ok (.goto 4, 3) := by decide +kernel
theorem dX5_weight_70 : decode cX5_weight 70 = .ok (.iconst 0, 1) := by decide +kernel
theorem dX5_weight_71 : decode cX5_weight 71 = .ok (.ireturn, 1) := by decide +kernel
set_option maxRecDepth 20000 in
theorem ggX5_spread_X5_spreadOneDay : GoodIn wsX5_spread wsX5_spreadOneDay := goodIn_r _ [8, 9, 1, 10, 11, 12, 13, 14, 15, 16, 17, 18, 7, 19, 2, 20, 21, 22, 23, 24, 25, 28, 29, 30, 31, 32, 33, 34] (by decide +kernel) (by decide +kernel)
set_option maxRecDepth 20000 in
theorem gX5_spread_X5_spreadOneDay : GoodIn wsX5_spread (wsV RX5 53 RX5 yX5_spreadOneDay wsX5_spreadOneDay) := goodIn_app (goodIn_of _ (by decide +kernel)) ggX5_spread_X5_spreadOneDay
set_option maxRecDepth 20000 in
theorem ggX5_spread_X6_power : GoodIn wsX5_spread wsX6_power := goodIn_r _ [27] (by decide +kernel) (by decide +kernel)
set_option maxRecDepth 20000 in
theorem gX5_spread_X6_power_n56 : GoodIn wsX5_spread (wsX6_power) := ggX5_spread_X6_power
theorem dX5_spread_0 : decode cX5_spread 0 = .ok (.iconst 0, 1) := by decide +kernel
theorem dX5_spread_1 : decode cX5_spread 1 = .ok (.istore_n 3, 1) := by decide +kernel
theorem dX5_spread_2 : decode cX5_spread 2 = .ok (.iload_n 3, 1) := by decide +kernel
theorem dX5_spread_3 : decode cX5_spread 3 = .ok (.bipush 7, 2) := by decide +kernel
theorem dX5_spread_5 : decode cX5_spread 5 = .ok (.if_icmp .ge 25, 3) := by decide +kernel
theorem dX5_spread_8 : decode cX5_spread 8 = .ok (.aload_n 0, 1) := by decide +kernel
theorem dX5_spread_9 : decode cX5_spread 9 = .ok (.getfield 22, 3) := by decide +kernel
theorem dX5_spread_12 : decode cX5_spread 12 = .ok (.iload_n 3, 1) := by decide +kernel
theorem dX5_spread_13 : decode cX5_spread 13 = .ok (.iload_n 3, 1) := by decide +kernel
theorem dX5_spread_14 : decode cX5_spread 14 = .ok (.iload_n 1, 1) := by decide +kernel
theorem dX5_spread_15 : decode cX5_spread 15 = .ok (.if_icmp .ne 7, 3) := by decide +kernel
theorem dX5_spread_18 : decode cX5_spread 18 = .ok (.lconst 1, 1) := by decide +kernel
theorem dX5_spread_19 : decode cX5_spread 19 = .ok (.goto 4, 3) := by decide +kernel
theorem dX5_spread_22 : decode cX5_spread 22 = .ok (.lconst 0, 1) := by decide +kernel
theorem dX5_spread_23 : decode cX5_spread 23 = .ok (.lastore, 1) := by decide +kernel
theorem dX5_spread_24 : decode cX5_spread 24 = .ok (.iinc 3 1, 3) := by decide +kernel
theorem dX5_spread_27 : decode cX5_spread 27 = .ok (.goto (-25), 3) := by decide +kernel
theorem dX5_spread_30 : decode cX5_spread 30 = .ok (.iconst 0, 1) := by decide +kernel
theorem dX5_spread_31 : decode cX5_spread 31 = .ok (.istore_n 3, 1) := by decide +kernel
theorem dX5_spread_32 : decode cX5_spread 32 = .ok (.iload_n 3, 1) := by decide +kernel
theorem dX5_spread_33 : decode cX5_spread 33 = .ok (.iload_n 2, 1) := by decide +kernel
theorem dX5_spread_34 : decode cX5_spread 34 = .ok (.if_icmp .ge 13, 3) := by decide +kernel
theorem dX5_spread_37 : decode cX5_spread 37 = .ok (.aload_n 0, 1) := by decide +kernel
theorem dX5_spread_38 : decode cX5_spread 38 = .ok (.invokevirtual 53, 3) := by decide +kernel
theorem dX5_spread_41 : decode cX5_spread 41 = .ok (.iinc 3 1, 3) := by decide +kernel
theorem dX5_spread_44 : decode cX5_spread 44 = .ok (.goto (-12), 3) := by decide +kernel
theorem dX5_spread_47 : decode cX5_spread 47 = .ok (.aload_n 0, 1) := by decide +kernel
theorem dX5_spread_48 : decode cX5_spread 48 = .ok (.aload_n 0, 1) := by decide +kernel
theorem dX5_spread_49 : decode cX5_spread 49 = .ok (.getfield 18, 3) := by decide +kernel
theorem dX5_spread_52 : decode cX5_spread 52 = .ok (.i2l, 1) := by decide +kernel
theorem dX5_spread_53 : decode cX5_spread 53 = .ok (.iload_n 2, 1) := by decide +kernel
theorem dX5_spread_54 : decode cX5_spread 54 = .ok (.invokestatic 56, 3) := by decide +kernel
theorem dX5_spread_57 : decode cX5_spread 57 = .ok (.putfield 29, 3) := by decide +kernel
theorem dX5_spread_60 : decode cX5_spread 60 = .ok (.return_, 1) := by decide +kernel
set_option maxRecDepth 20000 in
theorem ggX5_spreadOneDay_X5_weight : GoodIn wsX5_spreadOneDay wsX5_weight := goodIn_r _ [13, 14, 3, 4, 15, 16, 17, 18, 19, 20, 21, 22, 23, 24, 25, 26, 27] (by decide +kernel) (by decide +kernel)
set_option maxRecDepth 20000 in
theorem gX5_spreadOneDay_X5_weight : GoodIn wsX5_spreadOneDay (wsV RX5 60 RX5 yX5_weight wsX5_weight) := goodIn_app (goodIn_of _ (by decide +kernel)) ggX5_spreadOneDay_X5_weight
theorem dX5_spreadOneDay_0 : decode cX5_spreadOneDay 0 = .ok (.iconst 0, 1) := by decide +kernel
theorem dX5_spreadOneDay_1 : decode cX5_spreadOneDay 1 = .ok (.istore_n 1, 1) := by decide +kernel
theorem dX5_spreadOneDay_2 : decode cX5_spreadOneDay 2 = .ok (.iload_n 1, 1) := by decide +kernel
theorem dX5_spreadOneDay_3 : decode cX5_spreadOneDay 3 = .ok (.bipush 7, 2) := by decide +kernel
theorem dX5_spreadOneDay_5 : decode cX5_spreadOneDay 5 = .ok (.if_icmp .ge 93, 3) := by decide +kernel
theorem dX5_spreadOneDay_8 : decode cX5_spreadOneDay 8 = .ok (.aload_n 0, 1) := by decide +kernel
theorem dX5_spreadOneDay_9 : decode cX5_spreadOneDay 9 = .ok (.getfield 26, 3) := by decide +kernel
theorem dX5_spreadOneDay_12 : decode cX5_spreadOneDay 12 = .ok (.iload_n 1, 1) := by decide +kernel
theorem dX5_spreadOneDay_13 : decode cX5_spreadOneDay 13 = .ok (.aload_n 0, 1) := by decide +kernel
theorem dX5_spreadOneDay_14 : decode cX5_spreadOneDay 14 = .ok (.getfield 22, 3) := by decide +kernel
theorem dX5_spreadOneDay_17 : decode cX5_spreadOneDay 17 = .ok (.iload_n 1, 1) := by decide +kernel
theorem dX5_spreadOneDay_18 : decode cX5_spreadOneDay 18 = .ok (.laload, 1) := by decide +kernel
theorem dX5_spreadOneDay_19 : decode cX5_spreadOneDay 19 = .ok (.aload_n 0, 1) := by decide +kernel
theorem dX5_spreadOneDay_20 : decode cX5_spreadOneDay 20 = .ok (.iload_n 1, 1) := by decide +kernel
theorem dX5_spreadOneDay_21 : decode cX5_spreadOneDay 21 = .ok (.iload_n 1, 1) := by decide +kernel
theorem dX5_spreadOneDay_22 : decode cX5_spreadOneDay 22 = .ok (.invokevirtual 60, 3) := by decide +kernel
theorem dX5_spreadOneDay_25 : decode cX5_spreadOneDay 25 = .ok (.i2l, 1) := by decide +kernel
theorem dX5_spreadOneDay_26 : decode cX5_spreadOneDay 26 = .ok (.lmul, 1) := by decide +kernel
theorem dX5_spreadOneDay_27 : decode cX5_spreadOneDay 27 = .ok (.lastore, 1) := by decide +kernel
theorem dX5_spreadOneDay_28 : decode cX5_spreadOneDay 28 = .ok (.iload_n 1, 1) := by decide +kernel
theorem dX5_spreadOneDay_29 : decode cX5_spreadOneDay 29 = .ok (.ifCond .le 30, 3) := by decide +kernel
theorem dX5_spreadOneDay_32 : decode cX5_spreadOneDay 32 = .ok (.aload_n 0, 1) := by decide +kernel
theorem dX5_spreadOneDay_33 : decode cX5_spreadOneDay 33 = .ok (.getfield 26, 3) := by decide +kernel
theorem dX5_spreadOneDay_36 : decode cX5_spreadOneDay 36 = .ok (.iload_n 1, 1) := by decide +kernel
theorem dX5_spreadOneDay_37 : decode cX5_spreadOneDay 37 = .ok (.dup2, 1) := by decide +kernel
theorem dX5_spreadOneDay_38 : decode cX5_spreadOneDay 38 = .ok (.laload, 1) := by decide +kernel
theorem dX5_spreadOneDay_39 : decode cX5_spreadOneDay 39 = .ok (.aload_n 0, 1) := by decide +kernel
theorem dX5_spreadOneDay_40 : decode cX5_spreadOneDay 40 = .ok (.getfield 22, 3) := by decide +kernel
theorem dX5_spreadOneDay_43 : decode cX5_spreadOneDay 43 = .ok (.iload_n 1, 1) := by decide +kernel
theorem dX5_spreadOneDay_44 : decode cX5_spreadOneDay 44 = .ok (.iconst 1, 1) := by decide +kernel
theorem dX5_spreadOneDay_45 : decode cX5_spreadOneDay 45 = .ok (.isub, 1) := by decide +kernel
theorem dX5_spreadOneDay_46 : decode cX5_spreadOneDay 46 = .ok (.laload, 1) := by decide +kernel
theorem dX5_spreadOneDay_47 : decode cX5_spreadOneDay 47 = .ok (.aload_n 0, 1) := by decide +kernel
theorem dX5_spreadOneDay_48 : decode cX5_spreadOneDay 48 = .ok (.getfield 9, 3) := by decide +kernel
theorem dX5_spreadOneDay_51 : decode cX5_spreadOneDay 51 = .ok (.iload_n 1, 1) := by decide +kernel
theorem dX5_spreadOneDay_52 : decode cX5_spreadOneDay 52 = .ok (.iconst 1, 1) := by decide +kernel
theorem dX5_spreadOneDay_53 : decode cX5_spreadOneDay 53 = .ok (.isub, 1) := by decide +kernel
theorem dX5_spreadOneDay_54 : decode cX5_spreadOneDay 54 = .ok (.iaload, 1) := by decide +kernel
theorem dX5_spreadOneDay_55 : decode cX5_spreadOneDay 55 = .ok (.i2l, 1) := by decide +kernel
theorem dX5_spreadOneDay_56 : decode cX5_spreadOneDay 56 = .ok (.lmul, 1) := by decide +kernel
theorem dX5_spreadOneDay_57 : decode cX5_spreadOneDay 57 = .ok (.ladd, 1) := by decide +kernel
theorem dX5_spreadOneDay_58 : decode cX5_spreadOneDay 58 = .ok (.lastore, 1) := by decide +kernel
theorem dX5_spreadOneDay_59 : decode cX5_spreadOneDay 59 = .ok (.iload_n 1, 1) := by decide +kernel
theorem dX5_spreadOneDay_60 : decode cX5_spreadOneDay 60 = .ok (.bipush 6, 2) := by decide +kernel
theorem dX5_spreadOneDay_62 : decode cX5_spreadOneDay 62 = .ok (.if_icmp .ge 30, 3) := by decide +kernel
theorem dX5_spreadOneDay_65 : decode cX5_spreadOneDay 65 = .ok (.aload_n 0, 1) := by decide +kernel
theorem dX5_spreadOneDay_66 : decode cX5_spreadOneDay 66 = .ok (.getfield 26, 3) := by decide +kernel
theorem dX5_spreadOneDay_69 : decode cX5_spreadOneDay 69 = .ok (.iload_n 1, 1) := by decide +kernel
theorem dX5_spreadOneDay_70 : decode cX5_spreadOneDay 70 = .ok (.dup2, 1) := by decide +kernel
theorem dX5_spreadOneDay_71 : decode cX5_spreadOneDay 71 = .ok (.laload, 1) := by decide +kernel
theorem dX5_spreadOneDay_72 : decode cX5_spreadOneDay 72 = .ok (.aload_n 0, 1) := by decide +kernel
theorem dX5_spreadOneDay_73 : decode cX5_spreadOneDay 73 = .ok (.getfield 22, 3) := by decide +kernel
theorem dX5_spreadOneDay_76 : decode cX5_spreadOneDay 76 = .ok (.iload_n 1, 1) := by decide +kernel
theorem dX5_spreadOneDay_77 : decode cX5_spreadOneDay 77 = .ok (.iconst 1, 1) := by decide +kernel
theorem dX5_spreadOneDay_78 : decode cX5_spreadOneDay 78 = .ok (.iadd, 1) := by decide +kernel
theorem dX5_spreadOneDay_79 : decode cX5_spreadOneDay 79 = .ok (.laload, 1) := by decide +kernel
theorem dX5_spreadOneDay_80 : decode cX5_spreadOneDay 80 = .ok (.aload_n 0, 1) := by decide +kernel
theorem dX5_spreadOneDay_81 : decode cX5_spreadOneDay 81 = .ok (.getfield 15, 3) := by decide +kernel
theorem dX5_spreadOneDay_84 : decode cX5_spreadOneDay 84 = .ok (.iload_n 1, 1) := by decide +kernel
theorem dX5_spreadOneDay_85 : decode cX5_spreadOneDay 85 = .ok (.iconst 1, 1) := by decide +kernel
theorem dX5_spreadOneDay_86 : decode cX5_spreadOneDay 86 = .ok (.iadd, 1) := by decide +kernel
theorem dX5_spreadOneDay_87 : decode cX5_spreadOneDay 87 = .ok (.iaload, 1) := by decide +kernel
theorem dX5_spreadOneDay_88 : decode cX5_spreadOneDay 88 = .ok (.i2l, 1) := by decide +kernel
theorem dX5_spreadOneDay_89 : decode cX5_spreadOneDay 89 = .ok (.lmul, 1) := by decide +kernel
theorem dX5_spreadOneDay_90 : decode cX5_spreadOneDay 90 = .ok (.ladd, 1) := by decide +kernel
theorem dX5_spreadOneDay_91 : decode cX5_spreadOneDay 91 = .ok (.lastore, 1) := by decide +kernel
theorem dX5_spreadOneDay_92 : decode cX5_spreadOneDay 92 = .ok (.iinc 1 1, 3) := by decide +kernel
theorem dX5_spreadOneDay_95 : decode cX5_spreadOneDay 95 = .ok (.goto (-93), 3) := by decide +kernel
theorem dX5_spreadOneDay_98 : decode cX5_spreadOneDay 98 = .ok (.aload_n 0, 1) := by decide +kernel
theorem dX5_spreadOneDay_99 : decode cX5_spreadOneDay 99 = .ok (.getfield 26, 3) := by decide +kernel
theorem dX5_spreadOneDay_102 : decode cX5_spreadOneDay 102 = .ok (.iconst 0, 1) := by decide +kernel
theorem dX5_spreadOneDay_103 : decode cX5_spreadOneDay 103 = .ok (.aload_n 0, 1) := by decide +kernel
theorem dX5_spreadOneDay_104 : decode cX5_spreadOneDay 104 = .ok (.getfield 22, 3) := by decide +kernel
theorem dX5_spreadOneDay_107 : decode cX5_spreadOneDay 107 = .ok (.iconst 0, 1) := by decide +kernel
theorem dX5_spreadOneDay_108 : decode cX5_spreadOneDay 108 = .ok (.bipush 7, 2) := by decide +kernel
theorem dX5_spreadOneDay_110 : decode cX5_spreadOneDay 110 = .ok (.invokestatic 64, 3) := by decide +kernel
theorem dX5_spreadOneDay_113 : decode cX5_spreadOneDay 113 = .ok (.return_, 1) := by decide +kernel
theorem dX5_isLikelyBy_0 : decode cX5_isLikelyBy 0 = .ok (.aload_n 0, 1) := by decide +kernel
theorem dX5_isLikelyBy_1 : decode cX5_isLikelyBy 1 = .ok (.getfield 22, 3) := by decide +kernel
theorem dX5_isLikelyBy_4 : decode cX5_isLikelyBy 4 = .ok (.iload_n 1, 1) := by decide +kernel
theorem dX5_isLikelyBy_5 : decode cX5_isLikelyBy 5 = .ok (.laload, 1) := by decide +kernel
theorem dX5_isLikelyBy_6 : decode cX5_isLikelyBy 6 = .ok (.ldc2_w 70, 3) := by decide +kernel
theorem dX5_isLikelyBy_9 : decode cX5_isLikelyBy 9 = .ok (.lmul, 1) := by decide +kernel
theorem dX5_isLikelyBy_10 : decode cX5_isLikelyBy 10 = .ok (.aload_n 0, 1) := by decide +kernel
theorem dX5_isLikelyBy_11 : decode cX5_isLikelyBy 11 = .ok (.getfield 29, 3) := by decide +kernel
theorem dX5_isLikelyBy_14 : decode cX5_isLikelyBy 14 = .ok (.iload_n 2, 1) := by decide +kernel
theorem dX5_isLikelyBy_15 : decode cX5_isLikelyBy 15 = .ok (.i2l, 1) := by decide +kernel
theorem dX5_isLikelyBy_16 : decode cX5_isLikelyBy 16 = .ok (.lmul, 1) := by decide +kernel
theorem dX5_isLikelyBy_17 : decode cX5_isLikelyBy 17 = .ok (.lcmp, 1) := by decide +kernel
theorem dX5_isLikelyBy_18 : decode cX5_isLikelyBy 18 = .ok (.ifCond .lt 7, 3) := by decide +kernel
theorem dX5_isLikelyBy_21 : decode cX5_isLikelyBy 21 = .ok (.iconst 1, 1) := by decide +kernel
theorem dX5_isLikelyBy_22 : decode cX5_isLikelyBy 22 = .ok (.goto 4, 3) := by decide +kernel
theorem dX5_isLikelyBy_25 : decode cX5_isLikelyBy 25 = .ok (.iconst 0, 1) := by decide +kernel
theorem dX5_isLikelyBy_26 : decode cX5_isLikelyBy 26 = .ok (.ireturn, 1) := by decide +kernel
set_option maxRecDepth 20000 in
theorem ggX5_average_X0_become : GoodIn wsX5_average wsX0_become := goodIn_r _ [11, 12, 13, 14, 15, 10, 16, 29, 30] (by decide +kernel) (by decide +kernel)
set_option maxRecDepth 20000 in
theorem gX5_average_X0_become : GoodIn wsX5_average (wsV RX5 72 RX0 yX0_become wsX0_become) := goodIn_app (goodIn_of _ (by decide +kernel)) ggX5_average_X0_become
set_option maxRecDepth 20000 in
theorem ggX5_average_X0_add : GoodIn wsX5_average wsX0_add := goodIn_r _ [20, 12, 13, 21, 8, 9, 10, 11, 14, 15, 16, 29, 30] (by decide +kernel) (by decide +kernel)
set_option maxRecDepth 20000 in
theorem gX5_average_X0_add : GoodIn wsX5_average (wsV RX5 82 RX0 yX0_add wsX0_add) := goodIn_app (goodIn_of _ (by decide +kernel)) ggX5_average_X0_add
theorem dX5_average_0 : decode cX5_average 0 = .ok (.aload_n 3, 1) := by decide +kernel
theorem dX5_average_1 : decode cX5_average 1 = .ok (.lconst 0, 1) := by decide +kernel
theorem dX5_average_2 : decode cX5_average 2 = .ok (.lconst 1, 1) := by decide +kernel
theorem dX5_average_3 : decode cX5_average 3 = .ok (.invokevirtual 72, 3) := by decide +kernel
theorem dX5_average_6 : decode cX5_average 6 = .ok (.aload_n 0, 1) := by decide +kernel
theorem dX5_average_7 : decode cX5_average 7 = .ok (.getfield 36, 3) := by decide +kernel
theorem dX5_average_10 : decode cX5_average 10 = .ok (.lconst 0, 1) := by decide +kernel
theorem dX5_average_11 : decode cX5_average 11 = .ok (.lconst 1, 1) := by decide +kernel
theorem dX5_average_12 : decode cX5_average 12 = .ok (.invokevirtual 72, 3) := by decide +kernel
theorem dX5_average_15 : decode cX5_average 15 = .ok (.iconst 0, 1) := by decide +kernel
theorem dX5_average_16 : decode cX5_average 16 = .ok (.istore 4, 2) := by decide +kernel
theorem dX5_average_18 : decode cX5_average 18 = .ok (.iload 4, 2) := by decide +kernel
theorem dX5_average_20 : decode cX5_average 20 = .ok (.iload_n 2, 1) := by decide +kernel
theorem dX5_average_21 : decode cX5_average 21 = .ok (.if_icmp .ge 76, 3) := by decide +kernel
theorem dX5_average_24 : decode cX5_average 24 = .ok (.aload_n 0, 1) := by decide +kernel
theorem dX5_average_25 : decode cX5_average 25 = .ok (.getfield 36, 3) := by decide +kernel
theorem dX5_average_28 : decode cX5_average 28 = .ok (.aload_n 0, 1) := by decide +kernel
theorem dX5_average_29 : decode cX5_average 29 = .ok (.getfield 18, 3) := by decide +kernel
theorem dX5_average_32 : decode cX5_average 32 = .ok (.i2l, 1) := by decide +kernel
theorem dX5_average_33 : decode cX5_average 33 = .ok (.aload_n 0, 1) := by decide +kernel
theorem dX5_average_34 : decode cX5_average 34 = .ok (.getfield 36, 3) := by decide +kernel
theorem dX5_average_37 : decode cX5_average 37 = .ok (.getfield 76, 3) := by decide +kernel
theorem dX5_average_40 : decode cX5_average 40 = .ok (.lmul, 1) := by decide +kernel
theorem dX5_average_41 : decode cX5_average 41 = .ok (.aload_n 0, 1) := by decide +kernel
theorem dX5_average_42 : decode cX5_average 42 = .ok (.getfield 15, 3) := by decide +kernel
theorem dX5_average_45 : decode cX5_average 45 = .ok (.iload 4, 2) := by decide +kernel
theorem dX5_average_47 : decode cX5_average 47 = .ok (.iaload, 1) := by decide +kernel
theorem dX5_average_48 : decode cX5_average 48 = .ok (.i2l, 1) := by decide +kernel
theorem dX5_average_49 : decode cX5_average 49 = .ok (.aload_n 0, 1) := by decide +kernel
theorem dX5_average_50 : decode cX5_average 50 = .ok (.getfield 36, 3) := by decide +kernel
theorem dX5_average_53 : decode cX5_average 53 = .ok (.getfield 79, 3) := by decide +kernel
theorem dX5_average_56 : decode cX5_average 56 = .ok (.lmul, 1) := by decide +kernel
theorem dX5_average_57 : decode cX5_average 57 = .ok (.ladd, 1) := by decide +kernel
theorem dX5_average_58 : decode cX5_average 58 = .ok (.aload_n 0, 1) := by decide +kernel
theorem dX5_average_59 : decode cX5_average 59 = .ok (.getfield 9, 3) := by decide +kernel
theorem dX5_average_62 : decode cX5_average 62 = .ok (.iload 4, 2) := by decide +kernel
theorem dX5_average_64 : decode cX5_average 64 = .ok (.iaload, 1) := by decide +kernel
theorem dX5_average_65 : decode cX5_average 65 = .ok (.i2l, 1) := by decide +kernel
theorem dX5_average_66 : decode cX5_average 66 = .ok (.aload_n 0, 1) := by decide +kernel
theorem dX5_average_67 : decode cX5_average 67 = .ok (.getfield 36, 3) := by decide +kernel
theorem dX5_average_70 : decode cX5_average 70 = .ok (.getfield 76, 3) := by decide +kernel
theorem dX5_average_73 : decode cX5_average 73 = .ok (.lmul, 1) := by decide +kernel
theorem dX5_average_74 : decode cX5_average 74 = .ok (.invokevirtual 72, 3) := by decide +kernel
theorem dX5_average_77 : decode cX5_average 77 = .ok (.iload 4, 2) := by decide +kernel
theorem dX5_average_79 : decode cX5_average 79 = .ok (.iload_n 1, 1) := by decide +kernel
theorem dX5_average_80 : decode cX5_average 80 = .ok (.if_icmp .lt 11, 3) := by decide +kernel
theorem dX5_average_83 : decode cX5_average 83 = .ok (.aload_n 3, 1) := by decide +kernel
theorem dX5_average_84 : decode cX5_average 84 = .ok (.aload_n 0, 1) := by decide +kernel
theorem dX5_average_85 : decode cX5_average 85 = .ok (.getfield 36, 3) := by decide +kernel
theorem dX5_average_88 : decode cX5_average 88 = .ok (.invokevirtual 82, 3) := by decide +kernel
theorem dX5_average_91 : decode cX5_average 91 = .ok (.iinc 4 1, 3) := by decide +kernel
theorem dX5_average_94 : decode cX5_average 94 = .ok (.goto (-76), 3) := by decide +kernel
theorem dX5_average_97 : decode cX5_average 97 = .ok (.return_, 1) := by decide +kernel
end
section
set_option maxRecDepth 20000 in
theorem ggX6_init_X1_init : GoodIn wsX6_init wsX1_init := goodIn_r _ [30, 31, 2, 3, 32, 33, 34, 35, 36, 37, 38, 39, 40, 41, 42, 43, 44, 45, 46, 47, 48, 49, 50, 51, 82, 83, 84, 85, 86, 87, 88, 89, 115, 116, 117, 118, 119] (by decide +kernel) (by decide +kernel)
set_option maxRecDepth 20000 in
theorem gX6_init_X1_init : GoodIn wsX6_init (wsX1_init) := ggX6_init_X1_init
set_option maxRecDepth 20000 in
theorem ggX6_init_X5_init : GoodIn wsX6_init wsX5_init := goodIn_r _ [53, 54, 2, 3, 32, 55, 56, 57, 58, 59, 60, 61, 62, 15, 16, 63, 64, 65, 66, 67, 68, 99, 100, 101, 102, 103, 104, 105, 106, 107] (by decide +kernel) (by decide +kernel)
set_option maxRecDepth 20000 in
theorem gX6_init_X5_init_n24 : GoodIn wsX6_init (wsX5_init) := ggX6_init_X5_init
set_option maxRecDepth 20000 in
theorem ggX6_init_X0_init : GoodIn wsX6_init wsX0_init := goodIn_r _ [65, 66, 2, 3, 67, 68, 106, 107] (by decide +kernel) (by decide +kernel)
set_option maxRecDepth 20000 in
theorem gX6_init_X0_init_n31 : GoodIn wsX6_init (wsX0_init) := ggX6_init_X0_init
set_option maxRecDepth 20000 in
theorem ggX6_init_X3_init : GoodIn wsX6_init wsX3_init := goodIn_r _ [70, 71, 2, 3, 32, 72, 73, 74, 108, 109, 110] (by decide +kernel) (by decide +kernel)
set_option maxRecDepth 20000 in
theorem gX6_init_X3_init_n41 : GoodIn wsX6_init (wsX3_init) := ggX6_init_X3_init
set_option maxRecDepth 20000 in
theorem ggX6_init_X4_init : GoodIn wsX6_init wsX4_init := goodIn_r _ [76, 77, 2, 3, 78, 79, 80, 58, 81, 111, 112, 113, 114] (by decide +kernel) (by decide +kernel)
set_option maxRecDepth 20000 in
theorem gX6_init_X4_init_n52 : GoodIn wsX6_init (wsX4_init) := ggX6_init_X4_init
theorem dX6_init_0 : decode cX6_init 0 = .ok (.aload_n 0, 1) := by decide +kernel
theorem dX6_init_1 : decode cX6_init 1 = .ok (.invokespecial 1, 3) := by decide +kernel
theorem dX6_init_4 : decode cX6_init 4 = .ok (.aload_n 0, 1) := by decide +kernel
theorem dX6_init_5 : decode cX6_init 5 = .ok (.new 7, 3) := by decide +kernel
theorem dX6_init_8 : decode cX6_init 8 = .ok (.dup, 1) := by decide +kernel
theorem dX6_init_9 : decode cX6_init 9 = .ok (.invokespecial 9, 3) := by decide +kernel
theorem dX6_init_12 : decode cX6_init 12 = .ok (.putfield 10, 3) := by decide +kernel
theorem dX6_init_15 : decode cX6_init 15 = .ok (.aload_n 0, 1) := by decide +kernel
theorem dX6_init_16 : decode cX6_init 16 = .ok (.new 7, 3) := by decide +kernel
theorem dX6_init_19 : decode cX6_init 19 = .ok (.dup, 1) := by decide +kernel
theorem dX6_init_20 : decode cX6_init 20 = .ok (.invokespecial 9, 3) := by decide +kernel
theorem dX6_init_23 : decode cX6_init 23 = .ok (.putfield 16, 3) := by decide +kernel
theorem dX6_init_26 : decode cX6_init 26 = .ok (.aload_n 0, 1) := by decide +kernel
theorem dX6_init_27 : decode cX6_init 27 = .ok (.new 7, 3) := by decide +kernel
theorem dX6_init_30 : decode cX6_init 30 = .ok (.dup, 1) := by decide +kernel
theorem dX6_init_31 : decode cX6_init 31 = .ok (.invokespecial 9, 3) := by decide +kernel
theorem dX6_init_34 : decode cX6_init 34 = .ok (.putfield 19, 3) := by decide +kernel
theorem dX6_init_37 : decode cX6_init 37 = .ok (.aload_n 0, 1) := by decide +kernel
theorem dX6_init_38 : decode cX6_init 38 = .ok (.new 22, 3) := by decide +kernel
theorem dX6_init_41 : decode cX6_init 41 = .ok (.dup, 1) := by decide +kernel
theorem dX6_init_42 : decode cX6_init 42 = .ok (.invokespecial 24, 3) := by decide +kernel
theorem dX6_init_45 : decode cX6_init 45 = .ok (.putfield 25, 3) := by decide +kernel
theorem dX6_init_48 : decode cX6_init 48 = .ok (.aload_n 0, 1) := by decide +kernel
theorem dX6_init_49 : decode cX6_init 49 = .ok (.new 29, 3) := by decide +kernel
theorem dX6_init_52 : decode cX6_init 52 = .ok (.dup, 1) := by decide +kernel
theorem dX6_init_53 : decode cX6_init 53 = .ok (.invokespecial 31, 3) := by decide +kernel
theorem dX6_init_56 : decode cX6_init 56 = .ok (.putfield 32, 3) := by decide +kernel
theorem dX6_init_59 : decode cX6_init 59 = .ok (.aload_n 0, 1) := by decide +kernel
theorem dX6_init_60 : decode cX6_init 60 = .ok (.new 29, 3) := by decide +kernel
theorem dX6_init_63 : decode cX6_init 63 = .ok (.dup, 1) := by decide +kernel
theorem dX6_init_64 : decode cX6_init 64 = .ok (.invokespecial 31, 3) := by decide +kernel
theorem dX6_init_67 : decode cX6_init 67 = .ok (.putfield 36, 3) := by decide +kernel
theorem dX6_init_70 : decode cX6_init 70 = .ok (.aload_n 0, 1) := by decide +kernel
theorem dX6_init_71 : decode cX6_init 71 = .ok (.new 39, 3) := by decide +kernel
theorem dX6_init_74 : decode cX6_init 74 = .ok (.dup, 1) := by decide +kernel
theorem dX6_init_75 : decode cX6_init 75 = .ok (.invokespecial 41, 3) := by decide +kernel
theorem dX6_init_78 : decode cX6_init 78 = .ok (.putfield 42, 3) := by decide +kernel
theorem dX6_init_81 : decode cX6_init 81 = .ok (.aload_n 0, 1) := by decide +kernel
theorem dX6_init_82 : decode cX6_init 82 = .ok (.iconst 4, 1) := by decide +kernel
theorem dX6_init_83 : decode cX6_init 83 = .ok (.anewarray 46, 3) := by decide +kernel
theorem dX6_init_86 : decode cX6_init 86 = .ok (.putfield 48, 3) := by decide +kernel
theorem dX6_init_89 : decode cX6_init 89 = .ok (.iconst 0, 1) := by decide +kernel
theorem dX6_init_90 : decode cX6_init 90 = .ok (.istore_n 1, 1) := by decide +kernel
theorem dX6_init_91 : decode cX6_init 91 = .ok (.iload_n 1, 1) := by decide +kernel
theorem dX6_init_92 : decode cX6_init 92 = .ok (.iconst 4, 1) := by decide +kernel
theorem dX6_init_93 : decode cX6_init 93 = .ok (.if_icmp .ge 22, 3) := by decide +kernel
theorem dX6_init_96 : decode cX6_init 96 = .ok (.aload_n 0, 1) := by decide +kernel
theorem dX6_init_97 : decode cX6_init 97 = .ok (.getfield 48, 3) := by decide +kernel
theorem dX6_init_100 : decode cX6_init 100 = .ok (.iload_n 1, 1) := by decide +kernel
theorem dX6_init_101 : decode cX6_init 101 = .ok (.new 46, 3) := by decide +kernel
theorem dX6_init_104 : decode cX6_init 104 = .ok (.dup, 1) := by decide +kernel
theorem dX6_init_105 : decode cX6_init 105 = .ok (.invokespecial 52, 3) := by decide +kernel
theorem dX6_init_108 : decode cX6_init 108 = .ok (.aastore, 1) := by decide +kernel
theorem dX6_init_109 : decode cX6_init 109 = .ok (.iinc 1 1, 3) := by decide +kernel
theorem dX6_init_112 : decode cX6_init 112 = .ok (.goto (-21), 3) := by decide +kernel
theorem dX6_init_115 : decode cX6_init 115 = .ok (.aload_n 0, 1) := by decide +kernel
theorem dX6_init_116 : decode cX6_init 116 = .ok (.iconst 0, 1) := by decide +kernel
theorem dX6_init_117 : decode cX6_init 117 = .ok (.putfield 53, 3) := by decide +kernel
theorem dX6_init_120 : decode cX6_init 120 = .ok (.return_, 1) := by decide +kernel
set_option maxRecDepth 20000 in
theorem ggX6_field_X6_isField : GoodIn wsX6_field wsX6_isField := goodIn_r _ [6, 7, 8, 5, 9] (by decide +kernel) (by decide +kernel)
set_option maxRecDepth 20000 in
theorem gX6_field_X6_isField : GoodIn wsX6_field (va_wsS RX6 57 yX6_isField wsX6_isField) := goodIn_app (goodIn_of _ (by decide +kernel)) ggX6_field_X6_isField
set_option maxRecDepth 20000 in
theorem ggX6_field_X6_isWithin : GoodIn wsX6_field wsX6_isWithin := goodIn_r _ [9] (by decide +kernel) (by decide +kernel)
set_option maxRecDepth 20000 in
theorem gX6_field_X6_isWithin : GoodIn wsX6_field (va_wsS RX6 61 yX6_isWithin wsX6_isWithin) := goodIn_app (goodIn_of _ (by decide +kernel)) ggX6_field_X6_isWithin
set_option maxRecDepth 20000 in
theorem ggX6_field_X1_forget : GoodIn wsX6_field wsX1_forget := goodIn_r _ [14, 15, 25, 26, 27, 28, 29, 30, 31, 32] (by decide +kernel) (by decide +kernel)
set_option maxRecDepth 20000 in
theorem gX6_field_X1_forget : GoodIn wsX6_field (wsV RX6 69 RX1 yX1_forget wsX1_forget) := goodIn_app (goodIn_of _ (by decide +kernel)) ggX6_field_X1_forget
theorem dX6_field_0 : decode cX6_field 0 = .ok (.iload_n 1, 1) := by decide +kernel
theorem dX6_field_1 : decode cX6_field 1 = .ok (.invokestatic 57, 3) := by decide +kernel
theorem dX6_field_4 : decode cX6_field 4 = .ok (.ifCond .eq 12, 3) := by decide +kernel
theorem dX6_field_7 : decode cX6_field 7 = .ok (.iload_n 2, 1) := by decide +kernel
theorem dX6_field_8 : decode cX6_field 8 = .ok (.iconst 0, 1) := by decide +kernel
theorem dX6_field_9 : decode cX6_field 9 = .ok (.iconst 4, 1) := by decide +kernel
theorem dX6_field_10 : decode cX6_field 10 = .ok (.invokestatic 61, 3) := by decide +kernel
theorem dX6_field_13 : decode cX6_field 13 = .ok (.ifCond .ne 5, 3) := by decide +kernel
theorem dX6_field_16 : decode cX6_field 16 = .ok (.iconst (-1), 1) := by decide +kernel
theorem dX6_field_17 : decode cX6_field 17 = .ok (.ireturn, 1) := by decide +kernel
theorem dX6_field_18 : decode cX6_field 18 = .ok (.aload_n 0, 1) := by decide +kernel
theorem dX6_field_19 : decode cX6_field 19 = .ok (.getfield 10, 3) := by decide +kernel
theorem dX6_field_22 : decode cX6_field 22 = .ok (.getfield 65, 3) := by decide +kernel
theorem dX6_field_25 : decode cX6_field 25 = .ok (.iload_n 1, 1) := by decide +kernel
theorem dX6_field_26 : decode cX6_field 26 = .ok (.iaload, 1) := by decide +kernel
theorem dX6_field_27 : decode cX6_field 27 = .ok (.istore_n 3, 1) := by decide +kernel
theorem dX6_field_28 : decode cX6_field 28 = .ok (.aload_n 0, 1) := by decide +kernel
theorem dX6_field_29 : decode cX6_field 29 = .ok (.getfield 10, 3) := by decide +kernel
theorem dX6_field_32 : decode cX6_field 32 = .ok (.getfield 65, 3) := by decide +kernel
theorem dX6_field_35 : decode cX6_field 35 = .ok (.iload_n 1, 1) := by decide +kernel
theorem dX6_field_36 : decode cX6_field 36 = .ok (.iload_n 2, 1) := by decide +kernel
theorem dX6_field_37 : decode cX6_field 37 = .ok (.iastore, 1) := by decide +kernel
theorem dX6_field_38 : decode cX6_field 38 = .ok (.aload_n 0, 1) := by decide +kernel
theorem dX6_field_39 : decode cX6_field 39 = .ok (.getfield 10, 3) := by decide +kernel
theorem dX6_field_42 : decode cX6_field 42 = .ok (.invokevirtual 69, 3) := by decide +kernel
theorem dX6_field_45 : decode cX6_field 45 = .ok (.iload_n 3, 1) := by decide +kernel
theorem dX6_field_46 : decode cX6_field 46 = .ok (.ireturn, 1) := by decide +kernel
set_option maxRecDepth 20000 in
theorem ggX6_claim_X6_isField : GoodIn wsX6_claim wsX6_isField := goodIn_r _ [6, 7, 8, 5, 9] (by decide +kernel) (by decide +kernel)
set_option maxRecDepth 20000 in
theorem gX6_claim_X6_isField : GoodIn wsX6_claim (va_wsS RX6 57 yX6_isField wsX6_isField) := goodIn_app (goodIn_of _ (by decide +kernel)) ggX6_claim_X6_isField
set_option maxRecDepth 20000 in
theorem ggX6_claim_X6_isWithin : GoodIn wsX6_claim wsX6_isWithin := goodIn_r _ [9] (by decide +kernel) (by decide +kernel)
set_option maxRecDepth 20000 in
theorem gX6_claim_X6_isWithin : GoodIn wsX6_claim (va_wsS RX6 61 yX6_isWithin wsX6_isWithin) := goodIn_app (goodIn_of _ (by decide +kernel)) ggX6_claim_X6_isWithin
set_option maxRecDepth 20000 in
theorem ggX6_claim_X1_addClaim : GoodIn wsX6_claim wsX1_addClaim := goodIn_r _ [14, 15, 16, 17, 18, 33, 34, 35, 36, 37, 38, 39, 40] (by decide +kernel) (by decide +kernel)
set_option maxRecDepth 20000 in
theorem gX6_claim_X1_addClaim : GoodIn wsX6_claim (wsV RX6 76 RX1 yX1_addClaim wsX1_addClaim) := goodIn_app (goodIn_of _ (by decide +kernel)) ggX6_claim_X1_addClaim
set_option maxRecDepth 20000 in
theorem ggX6_claim_X1_forget : GoodIn wsX6_claim wsX1_forget := goodIn_r _ [22, 23, 33, 34, 35, 36, 37, 38, 39, 40] (by decide +kernel) (by decide +kernel)
set_option maxRecDepth 20000 in
theorem gX6_claim_X1_forget : GoodIn wsX6_claim (wsV RX6 69 RX1 yX1_forget wsX1_forget) := goodIn_app (goodIn_of _ (by decide +kernel)) ggX6_claim_X1_forget
theorem dX6_claim_0 : decode cX6_claim 0 = .ok (.iload_n 1, 1) := by decide +kernel
theorem dX6_claim_1 : decode cX6_claim 1 = .ok (.invokestatic 57, 3) := by decide +kernel
theorem dX6_claim_4 : decode cX6_claim 4 = .ok (.ifCond .eq 23, 3) := by decide +kernel
theorem dX6_claim_7 : decode cX6_claim 7 = .ok (.iload_n 2, 1) := by decide +kernel
theorem dX6_claim_8 : decode cX6_claim 8 = .ok (.iload_n 1, 1) := by decide +kernel
theorem dX6_claim_9 : decode cX6_claim 9 = .ok (.bipush 6, 2) := by decide +kernel
theorem dX6_claim_11 : decode cX6_claim 11 = .ok (.invokestatic 61, 3) := by decide +kernel
theorem dX6_claim_14 : decode cX6_claim 14 = .ok (.ifCond .eq 13, 3) := by decide +kernel
theorem dX6_claim_17 : decode cX6_claim 17 = .ok (.iload_n 3, 1) := by decide +kernel
theorem dX6_claim_18 : decode cX6_claim 18 = .ok (.iconst 1, 1) := by decide +kernel
theorem dX6_claim_19 : decode cX6_claim 19 = .ok (.bipush 99, 2) := by decide +kernel
theorem dX6_claim_21 : decode cX6_claim 21 = .ok (.invokestatic 61, 3) := by decide +kernel
theorem dX6_claim_24 : decode cX6_claim 24 = .ok (.ifCond .ne 5, 3) := by decide +kernel
theorem dX6_claim_27 : decode cX6_claim 27 = .ok (.iconst (-1), 1) := by decide +kernel
theorem dX6_claim_28 : decode cX6_claim 28 = .ok (.ireturn, 1) := by decide +kernel
theorem dX6_claim_29 : decode cX6_claim 29 = .ok (.aload_n 0, 1) := by decide +kernel
theorem dX6_claim_30 : decode cX6_claim 30 = .ok (.getfield 10, 3) := by decide +kernel
theorem dX6_claim_33 : decode cX6_claim 33 = .ok (.getfield 72, 3) := by decide +kernel
theorem dX6_claim_36 : decode cX6_claim 36 = .ok (.iconst 5, 1) := by decide +kernel
theorem dX6_claim_37 : decode cX6_claim 37 = .ok (.if_icmp .lt 6, 3) := by decide +kernel
theorem dX6_claim_40 : decode cX6_claim 40 = .ok (.bipush (-3), 2) := by decide +kernel
theorem dX6_claim_42 : decode cX6_claim 42 = .ok (.ireturn, 1) := by decide +kernel
theorem dX6_claim_43 : decode cX6_claim 43 = .ok (.aload_n 0, 1) := by decide +kernel
theorem dX6_claim_44 : decode cX6_claim 44 = .ok (.getfield 10, 3) := by decide +kernel
theorem dX6_claim_47 : decode cX6_claim 47 = .ok (.iload_n 1, 1) := by decide +kernel
theorem dX6_claim_48 : decode cX6_claim 48 = .ok (.iload_n 2, 1) := by decide +kernel
theorem dX6_claim_49 : decode cX6_claim 49 = .ok (.iload_n 3, 1) := by decide +kernel
theorem dX6_claim_50 : decode cX6_claim 50 = .ok (.invokevirtual 76, 3) := by decide +kernel
theorem dX6_claim_53 : decode cX6_claim 53 = .ok (.aload_n 0, 1) := by decide +kernel
theorem dX6_claim_54 : decode cX6_claim 54 = .ok (.getfield 10, 3) := by decide +kernel
theorem dX6_claim_57 : decode cX6_claim 57 = .ok (.invokevirtual 69, 3) := by decide +kernel
theorem dX6_claim_60 : decode cX6_claim 60 = .ok (.aload_n 0, 1) := by decide +kernel
theorem dX6_claim_61 : decode cX6_claim 61 = .ok (.getfield 10, 3) := by decide +kernel
theorem dX6_claim_64 : decode cX6_claim 64 = .ok (.getfield 72, 3) := by decide +kernel
theorem dX6_claim_67 : decode cX6_claim 67 = .ok (.iconst 1, 1) := by decide +kernel
theorem dX6_claim_68 : decode cX6_claim 68 = .ok (.isub, 1) := by decide +kernel
theorem dX6_claim_69 : decode cX6_claim 69 = .ok (.ireturn, 1) := by decide +kernel
set_option maxRecDepth 20000 in
theorem ggX6_of_X6_isField : GoodIn wsX6_of wsX6_isField := goodIn_r _ [9, 10, 11, 8, 12] (by decide +kernel) (by decide +kernel)
set_option maxRecDepth 20000 in
theorem gX6_of_X6_isField : GoodIn wsX6_of (va_wsS RX6 57 yX6_isField wsX6_isField) := goodIn_app (goodIn_of _ (by decide +kernel)) ggX6_of_X6_isField
set_option maxRecDepth 20000 in
theorem ggX6_of_X1_onFrom : GoodIn wsX6_of wsX1_onFrom := goodIn_r _ [17, 18, 19, 20, 21, 22, 23, 24, 25, 26, 16, 27, 28, 29, 30, 49, 50, 51, 52, 53, 54, 55, 56, 57, 58, 59, 60, 61] (by decide +kernel) (by decide +kernel)
set_option maxRecDepth 20000 in
theorem gX6_of_X1_onFrom : GoodIn wsX6_of (wsV RX6 92 RX1 yX1_onFrom wsX1_onFrom) := goodIn_app (goodIn_of _ (by decide +kernel)) ggX6_of_X1_onFrom
set_option maxRecDepth 20000 in
theorem ggX6_of_X1_backFrom : GoodIn wsX6_of wsX1_backFrom := goodIn_r _ [34, 18, 35, 36, 37, 23, 38, 39, 14, 15, 16, 17, 19, 20, 21, 22, 24, 25, 26, 27, 28, 29, 30, 49, 50, 51, 52, 53, 54, 55, 56, 57, 58, 59, 60, 61] (by decide +kernel) (by decide +kernel)
set_option maxRecDepth 20000 in
theorem gX6_of_X1_backFrom : GoodIn wsX6_of (wsV RX6 96 RX1 yX1_backFrom wsX1_backFrom) := goodIn_app (goodIn_of _ (by decide +kernel)) ggX6_of_X1_backFrom
theorem dX6_of_0 : decode cX6_of 0 = .ok (.iload_n 1, 1) := by decide +kernel
theorem dX6_of_1 : decode cX6_of 1 = .ok (.invokestatic 57, 3) := by decide +kernel
theorem dX6_of_4 : decode cX6_of 4 = .ok (.ifCond .ne 5, 3) := by decide +kernel
theorem dX6_of_7 : decode cX6_of 7 = .ok (.iconst (-1), 1) := by decide +kernel
theorem dX6_of_8 : decode cX6_of 8 = .ok (.ireturn, 1) := by decide +kernel
theorem dX6_of_9 : decode cX6_of 9 = .ok (.iload_n 2, 1) := by decide +kernel
theorem dX6_of_10 : decode cX6_of 10 = .ok (.tableswitch 88 0 4 #[34, 44, 57, 70, 79], 34) := by decide +kernel
theorem dX6_of_44 : decode cX6_of 44 = .ok (.aload_n 0, 1) := by decide +kernel
theorem dX6_of_45 : decode cX6_of 45 = .ok (.getfield 10, 3) := by decide +kernel
theorem dX6_of_48 : decode cX6_of 48 = .ok (.getfield 65, 3) := by decide +kernel
theorem dX6_of_51 : decode cX6_of 51 = .ok (.iload_n 1, 1) := by decide +kernel
theorem dX6_of_52 : decode cX6_of 52 = .ok (.iaload, 1) := by decide +kernel
theorem dX6_of_53 : decode cX6_of 53 = .ok (.ireturn, 1) := by decide +kernel
theorem dX6_of_54 : decode cX6_of 54 = .ok (.aload_n 0, 1) := by decide +kernel
theorem dX6_of_55 : decode cX6_of 55 = .ok (.getfield 10, 3) := by decide +kernel
theorem dX6_of_58 : decode cX6_of 58 = .ok (.getfield 80, 3) := by decide +kernel
theorem dX6_of_61 : decode cX6_of 61 = .ok (.getfield 84, 3) := by decide +kernel
theorem dX6_of_64 : decode cX6_of 64 = .ok (.iload_n 1, 1) := by decide +kernel
theorem dX6_of_65 : decode cX6_of 65 = .ok (.iaload, 1) := by decide +kernel
theorem dX6_of_66 : decode cX6_of 66 = .ok (.ireturn, 1) := by decide +kernel
theorem dX6_of_67 : decode cX6_of 67 = .ok (.aload_n 0, 1) := by decide +kernel
theorem dX6_of_68 : decode cX6_of 68 = .ok (.getfield 10, 3) := by decide +kernel
theorem dX6_of_71 : decode cX6_of 71 = .ok (.getfield 80, 3) := by decide +kernel
theorem dX6_of_74 : decode cX6_of 74 = .ok (.getfield 89, 3) := by decide +kernel
theorem dX6_of_77 : decode cX6_of 77 = .ok (.iload_n 1, 1) := by decide +kernel
theorem dX6_of_78 : decode cX6_of 78 = .ok (.iaload, 1) := by decide +kernel
theorem dX6_of_79 : decode cX6_of 79 = .ok (.ireturn, 1) := by decide +kernel
theorem dX6_of_80 : decode cX6_of 80 = .ok (.aload_n 0, 1) := by decide +kernel
theorem dX6_of_81 : decode cX6_of 81 = .ok (.getfield 10, 3) := by decide +kernel
theorem dX6_of_84 : decode cX6_of 84 = .ok (.iload_n 1, 1) := by decide +kernel
theorem dX6_of_85 : decode cX6_of 85 = .ok (.invokevirtual 92, 3) := by decide +kernel
theorem dX6_of_88 : decode cX6_of 88 = .ok (.ireturn, 1) := by decide +kernel
theorem dX6_of_89 : decode cX6_of 89 = .ok (.aload_n 0, 1) := by decide +kernel
theorem dX6_of_90 : decode cX6_of 90 = .ok (.getfield 10, 3) := by decide +kernel
theorem dX6_of_93 : decode cX6_of 93 = .ok (.iload_n 1, 1) := by decide +kernel
theorem dX6_of_94 : decode cX6_of 94 = .ok (.invokevirtual 96, 3) := by decide +kernel
theorem dX6_of_97 : decode cX6_of 97 = .ok (.ireturn, 1) := by decide +kernel
theorem dX6_of_98 : decode cX6_of 98 = .ok (.iconst (-1), 1) := by decide +kernel
theorem dX6_of_99 : decode cX6_of 99 = .ok (.ireturn, 1) := by decide +kernel
set_option maxRecDepth 20000 in
theorem ggX6_at_X6_isClaim : GoodIn wsX6_at wsX6_isClaim := goodIn_r _ [9, 1, 10, 11, 12, 8, 13, 14, 15, 16, 17, 18, 19, 20, 21, 22, 23, 24, 25, 26, 27, 28, 29, 30] (by decide +kernel) (by decide +kernel)
set_option maxRecDepth 20000 in
theorem gX6_at_X6_isClaim : GoodIn wsX6_at (wsV RX6 99 RX6 yX6_isClaim wsX6_isClaim) := goodIn_app (goodIn_of _ (by decide +kernel)) ggX6_at_X6_isClaim
theorem dX6_at_0 : decode cX6_at 0 = .ok (.aload_n 0, 1) := by decide +kernel
theorem dX6_at_1 : decode cX6_at 1 = .ok (.iload_n 1, 1) := by decide +kernel
theorem dX6_at_2 : decode cX6_at 2 = .ok (.invokevirtual 99, 3) := by decide +kernel
theorem dX6_at_5 : decode cX6_at 5 = .ok (.ifCond .ne 5, 3) := by decide +kernel
theorem dX6_at_8 : decode cX6_at 8 = .ok (.iconst (-1), 1) := by decide +kernel
theorem dX6_at_9 : decode cX6_at 9 = .ok (.ireturn, 1) := by decide +kernel
theorem dX6_at_10 : decode cX6_at 10 = .ok (.iload_n 2, 1) := by decide +kernel
theorem dX6_at_11 : decode cX6_at 11 = .ok (.tableswitch 55 0 2 #[25, 35, 45], 25) := by decide +kernel
theorem dX6_at_36 : decode cX6_at 36 = .ok (.aload_n 0, 1) := by decide +kernel
theorem dX6_at_37 : decode cX6_at 37 = .ok (.getfield 10, 3) := by decide +kernel
theorem dX6_at_40 : decode cX6_at 40 = .ok (.getfield 102, 3) := by decide +kernel
theorem dX6_at_43 : decode cX6_at 43 = .ok (.iload_n 1, 1) := by decide +kernel
theorem dX6_at_44 : decode cX6_at 44 = .ok (.iaload, 1) := by decide +kernel
theorem dX6_at_45 : decode cX6_at 45 = .ok (.ireturn, 1) := by decide +kernel
theorem dX6_at_46 : decode cX6_at 46 = .ok (.aload_n 0, 1) := by decide +kernel
theorem dX6_at_47 : decode cX6_at 47 = .ok (.getfield 10, 3) := by decide +kernel
theorem dX6_at_50 : decode cX6_at 50 = .ok (.getfield 105, 3) := by decide +kernel
theorem dX6_at_53 : decode cX6_at 53 = .ok (.iload_n 1, 1) := by decide +kernel
theorem dX6_at_54 : decode cX6_at 54 = .ok (.iaload, 1) := by decide +kernel
theorem dX6_at_55 : decode cX6_at 55 = .ok (.ireturn, 1) := by decide +kernel
theorem dX6_at_56 : decode cX6_at 56 = .ok (.aload_n 0, 1) := by decide +kernel
theorem dX6_at_57 : decode cX6_at 57 = .ok (.getfield 10, 3) := by decide +kernel
theorem dX6_at_60 : decode cX6_at 60 = .ok (.getfield 108, 3) := by decide +kernel
theorem dX6_at_63 : decode cX6_at 63 = .ok (.iload_n 1, 1) := by decide +kernel
theorem dX6_at_64 : decode cX6_at 64 = .ok (.iaload, 1) := by decide +kernel
theorem dX6_at_65 : decode cX6_at 65 = .ok (.ireturn, 1) := by decide +kernel
theorem dX6_at_66 : decode cX6_at 66 = .ok (.iconst (-1), 1) := by decide +kernel
theorem dX6_at_67 : decode cX6_at 67 = .ok (.ireturn, 1) := by decide +kernel
set_option maxRecDepth 20000 in
theorem ggX6_type_X6_isWithin : GoodIn wsX6_type wsX6_isWithin := goodIn_r _ [6] (by decide +kernel) (by decide +kernel)
set_option maxRecDepth 20000 in
theorem gX6_type_X6_isWithin : GoodIn wsX6_type (va_wsS RX6 61 yX6_isWithin wsX6_isWithin) := goodIn_app (goodIn_of _ (by decide +kernel)) ggX6_type_X6_isWithin
set_option maxRecDepth 20000 in
theorem ggX6_type_X3_add : GoodIn wsX6_type wsX3_add := goodIn_r _ [11, 12, 13, 23, 24, 25] (by decide +kernel) (by decide +kernel)
set_option maxRecDepth 20000 in
theorem gX6_type_X3_add : GoodIn wsX6_type (wsV RX6 111 RX3 yX3_add wsX3_add) := goodIn_app (goodIn_of _ (by decide +kernel)) ggX6_type_X3_add
theorem dX6_type_0 : decode cX6_type 0 = .ok (.iload_n 1, 1) := by decide +kernel
theorem dX6_type_1 : decode cX6_type 1 = .ok (.bipush 32, 2) := by decide +kernel
theorem dX6_type_3 : decode cX6_type 3 = .ok (.bipush 126, 2) := by decide +kernel
theorem dX6_type_5 : decode cX6_type 5 = .ok (.invokestatic 61, 3) := by decide +kernel
theorem dX6_type_8 : decode cX6_type 8 = .ok (.ifCond .ne 5, 3) := by decide +kernel
theorem dX6_type_11 : decode cX6_type 11 = .ok (.iconst (-1), 1) := by decide +kernel
theorem dX6_type_12 : decode cX6_type 12 = .ok (.ireturn, 1) := by decide +kernel
theorem dX6_type_13 : decode cX6_type 13 = .ok (.aload_n 0, 1) := by decide +kernel
theorem dX6_type_14 : decode cX6_type 14 = .ok (.getfield 42, 3) := by decide +kernel
theorem dX6_type_17 : decode cX6_type 17 = .ok (.iload_n 1, 1) := by decide +kernel
theorem dX6_type_18 : decode cX6_type 18 = .ok (.invokevirtual 111, 3) := by decide +kernel
theorem dX6_type_21 : decode cX6_type 21 = .ok (.ifCond .eq 13, 3) := by decide +kernel
theorem dX6_type_24 : decode cX6_type 24 = .ok (.aload_n 0, 1) := by decide +kernel
theorem dX6_type_25 : decode cX6_type 25 = .ok (.getfield 42, 3) := by decide +kernel
theorem dX6_type_28 : decode cX6_type 28 = .ok (.getfield 114, 3) := by decide +kernel
theorem dX6_type_31 : decode cX6_type 31 = .ok (.goto 5, 3) := by decide +kernel
theorem dX6_type_34 : decode cX6_type 34 = .ok (.bipush (-3), 2) := by decide +kernel
theorem dX6_type_36 : decode cX6_type 36 = .ok (.ireturn, 1) := by decide +kernel
set_option maxRecDepth 20000 in
theorem ggX6_valley_X1_takeGround : GoodIn wsX6_valley wsX1_takeGround := goodIn_r _ [12, 13, 14, 15, 16, 17, 18, 19, 20, 21, 22, 23, 24, 25, 26, 27, 28, 29, 115, 116, 117, 118, 119, 120, 121, 122, 123, 124, 125, 126, 127] (by decide +kernel) (by decide +kernel)
set_option maxRecDepth 20000 in
theorem gX6_valley_X1_takeGround : GoodIn wsX6_valley (wsV RX6 117 RX1 yX1_takeGround wsX1_takeGround) := goodIn_app (goodIn_of _ (by decide +kernel)) ggX6_valley_X1_takeGround
set_option maxRecDepth 20000 in
theorem ggX6_valley_X3_readValley : GoodIn wsX6_valley wsX3_readValley := goodIn_r _ [34, 35, 36, 37, 38, 39, 40, 41, 33, 42, 43, 44, 45, 46, 47, 48, 49, 50, 51, 52, 53, 54, 55, 56, 57, 58, 59, 60, 61, 62, 63, 64, 65, 66, 67, 68, 69, 70, 71, 72, 73, 74, 75, 76, 77, 78, 79, 80, 81, 82, 83, 84, 11, 85, 86, 87, 88, 89, 112, 113, 114, 115, 116, 117, 118, 119, 120, 121, 122, 123, 124, 125, 126, 127] (by decide +kernel) (by decide +kernel)
set_option maxRecDepth 20000 in
theorem gX6_valley_X3_readValley : GoodIn wsX6_valley (wsV RX6 121 RX3 yX3_readValley wsX3_readValley) := goodIn_app (goodIn_of _ (by decide +kernel)) ggX6_valley_X3_readValley
set_option maxRecDepth 20000 in
theorem ggX6_valley_X3_clear : GoodIn wsX6_valley wsX3_clear := goodIn_r _ [93, 47, 112, 113, 114] (by decide +kernel) (by decide +kernel)
set_option maxRecDepth 20000 in
theorem gX6_valley_X3_clear : GoodIn wsX6_valley (wsV RX6 128 RX3 yX3_clear wsX3_clear) := goodIn_app (goodIn_of _ (by decide +kernel)) ggX6_valley_X3_clear
set_option maxRecDepth 20000 in
theorem ggX6_valley_X1_takeClaims : GoodIn wsX6_valley wsX1_takeClaims := goodIn_r _ [97, 86, 14, 15, 16, 17, 88, 89, 87, 115, 116, 117, 118, 119, 120, 121, 122] (by decide +kernel) (by decide +kernel)
set_option maxRecDepth 20000 in
theorem gX6_valley_X1_takeClaims : GoodIn wsX6_valley (wsV RX6 131 RX1 yX1_takeClaims wsX1_takeClaims) := goodIn_app (goodIn_of _ (by decide +kernel)) ggX6_valley_X1_takeClaims
set_option maxRecDepth 20000 in
theorem ggX6_valley_X1_forget : GoodIn wsX6_valley wsX1_forget := goodIn_r _ [101, 102, 115, 116, 117, 118, 119, 120, 121, 122] (by decide +kernel) (by decide +kernel)
set_option maxRecDepth 20000 in
theorem gX6_valley_X1_forget : GoodIn wsX6_valley (wsV RX6 69 RX1 yX1_forget wsX1_forget) := goodIn_app (goodIn_of _ (by decide +kernel)) ggX6_valley_X1_forget
theorem dX6_valley_0 : decode cX6_valley 0 = .ok (.aload_n 0, 1) := by decide +kernel
theorem dX6_valley_1 : decode cX6_valley 1 = .ok (.getfield 19, 3) := by decide +kernel
theorem dX6_valley_4 : decode cX6_valley 4 = .ok (.aload_n 0, 1) := by decide +kernel
theorem dX6_valley_5 : decode cX6_valley 5 = .ok (.getfield 10, 3) := by decide +kernel
theorem dX6_valley_8 : decode cX6_valley 8 = .ok (.invokevirtual 117, 3) := by decide +kernel
theorem dX6_valley_11 : decode cX6_valley 11 = .ok (.aload_n 0, 1) := by decide +kernel
theorem dX6_valley_12 : decode cX6_valley 12 = .ok (.getfield 42, 3) := by decide +kernel
theorem dX6_valley_15 : decode cX6_valley 15 = .ok (.aload_n 0, 1) := by decide +kernel
theorem dX6_valley_16 : decode cX6_valley 16 = .ok (.getfield 19, 3) := by decide +kernel
theorem dX6_valley_19 : decode cX6_valley 19 = .ok (.invokevirtual 121, 3) := by decide +kernel
theorem dX6_valley_22 : decode cX6_valley 22 = .ok (.istore_n 1, 1) := by decide +kernel
theorem dX6_valley_23 : decode cX6_valley 23 = .ok (.bipush (-20), 2) := by decide +kernel
theorem dX6_valley_25 : decode cX6_valley 25 = .ok (.aload_n 0, 1) := by decide +kernel
theorem dX6_valley_26 : decode cX6_valley 26 = .ok (.getfield 42, 3) := by decide +kernel
theorem dX6_valley_29 : decode cX6_valley 29 = .ok (.getfield 125, 3) := by decide +kernel
theorem dX6_valley_32 : decode cX6_valley 32 = .ok (.isub, 1) := by decide +kernel
theorem dX6_valley_33 : decode cX6_valley 33 = .ok (.istore_n 2, 1) := by decide +kernel
theorem dX6_valley_34 : decode cX6_valley 34 = .ok (.aload_n 0, 1) := by decide +kernel
theorem dX6_valley_35 : decode cX6_valley 35 = .ok (.getfield 42, 3) := by decide +kernel
theorem dX6_valley_38 : decode cX6_valley 38 = .ok (.invokevirtual 128, 3) := by decide +kernel
theorem dX6_valley_41 : decode cX6_valley 41 = .ok (.iload_n 1, 1) := by decide +kernel
theorem dX6_valley_42 : decode cX6_valley 42 = .ok (.ifCond .ne 5, 3) := by decide +kernel
theorem dX6_valley_45 : decode cX6_valley 45 = .ok (.iload_n 2, 1) := by decide +kernel
theorem dX6_valley_46 : decode cX6_valley 46 = .ok (.ireturn, 1) := by decide +kernel
theorem dX6_valley_47 : decode cX6_valley 47 = .ok (.aload_n 0, 1) := by decide +kernel
theorem dX6_valley_48 : decode cX6_valley 48 = .ok (.getfield 10, 3) := by decide +kernel
theorem dX6_valley_51 : decode cX6_valley 51 = .ok (.aload_n 0, 1) := by decide +kernel
theorem dX6_valley_52 : decode cX6_valley 52 = .ok (.getfield 19, 3) := by decide +kernel
theorem dX6_valley_55 : decode cX6_valley 55 = .ok (.invokevirtual 117, 3) := by decide +kernel
theorem dX6_valley_58 : decode cX6_valley 58 = .ok (.aload_n 0, 1) := by decide +kernel
theorem dX6_valley_59 : decode cX6_valley 59 = .ok (.getfield 10, 3) := by decide +kernel
theorem dX6_valley_62 : decode cX6_valley 62 = .ok (.aload_n 0, 1) := by decide +kernel
theorem dX6_valley_63 : decode cX6_valley 63 = .ok (.getfield 19, 3) := by decide +kernel
theorem dX6_valley_66 : decode cX6_valley 66 = .ok (.invokevirtual 131, 3) := by decide +kernel
theorem dX6_valley_69 : decode cX6_valley 69 = .ok (.aload_n 0, 1) := by decide +kernel
theorem dX6_valley_70 : decode cX6_valley 70 = .ok (.getfield 10, 3) := by decide +kernel
theorem dX6_valley_73 : decode cX6_valley 73 = .ok (.getfield 80, 3) := by decide +kernel
theorem dX6_valley_76 : decode cX6_valley 76 = .ok (.iconst 0, 1) := by decide +kernel
theorem dX6_valley_77 : decode cX6_valley 77 = .ok (.putfield 134, 3) := by decide +kernel
theorem dX6_valley_80 : decode cX6_valley 80 = .ok (.aload_n 0, 1) := by decide +kernel
theorem dX6_valley_81 : decode cX6_valley 81 = .ok (.getfield 10, 3) := by decide +kernel
theorem dX6_valley_84 : decode cX6_valley 84 = .ok (.invokevirtual 69, 3) := by decide +kernel
theorem dX6_valley_87 : decode cX6_valley 87 = .ok (.aload_n 0, 1) := by decide +kernel
theorem dX6_valley_88 : decode cX6_valley 88 = .ok (.getfield 10, 3) := by decide +kernel
theorem dX6_valley_91 : decode cX6_valley 91 = .ok (.getfield 72, 3) := by decide +kernel
theorem dX6_valley_94 : decode cX6_valley 94 = .ok (.ireturn, 1) := by decide +kernel
set_option maxRecDepth 20000 in
theorem ggX6_count_X6_sum : GoodIn wsX6_count wsX6_sum := goodIn_r _ [12] (by decide +kernel) (by decide +kernel)
set_option maxRecDepth 20000 in
theorem gX6_count_X6_sum : GoodIn wsX6_count (va_wsS RX6 140 yX6_sum wsX6_sum) := goodIn_app (goodIn_of _ (by decide +kernel)) ggX6_count_X6_sum
set_option maxRecDepth 20000 in
theorem ggX6_count_X1_claimsOn : GoodIn wsX6_count wsX1_claimsOn := goodIn_r _ [17, 18, 19, 20, 21, 11, 22, 32, 33, 34, 35, 36, 37, 38, 39] (by decide +kernel) (by decide +kernel)
set_option maxRecDepth 20000 in
theorem gX6_count_X1_claimsOn : GoodIn wsX6_count (wsV RX6 144 RX1 yX1_claimsOn wsX1_claimsOn) := goodIn_app (goodIn_of _ (by decide +kernel)) ggX6_count_X1_claimsOn
theorem dX6_count_0 : decode cX6_count 0 = .ok (.iload_n 1, 1) := by decide +kernel
theorem dX6_count_1 : decode cX6_count 1 = .ok (.tableswitch 127 0 6 #[43, 51, 62, 73, 87, 101, 119], 43) := by decide +kernel
theorem dX6_count_44 : decode cX6_count 44 = .ok (.aload_n 0, 1) := by decide +kernel
theorem dX6_count_45 : decode cX6_count 45 = .ok (.getfield 10, 3) := by decide +kernel
theorem dX6_count_48 : decode cX6_count 48 = .ok (.getfield 72, 3) := by decide +kernel
theorem dX6_count_51 : decode cX6_count 51 = .ok (.ireturn, 1) := by decide +kernel
theorem dX6_count_52 : decode cX6_count 52 = .ok (.aload_n 0, 1) := by decide +kernel
theorem dX6_count_53 : decode cX6_count 53 = .ok (.getfield 10, 3) := by decide +kernel
theorem dX6_count_56 : decode cX6_count 56 = .ok (.getfield 80, 3) := by decide +kernel
theorem dX6_count_59 : decode cX6_count 59 = .ok (.getfield 137, 3) := by decide +kernel
theorem dX6_count_62 : decode cX6_count 62 = .ok (.ireturn, 1) := by decide +kernel
theorem dX6_count_63 : decode cX6_count 63 = .ok (.aload_n 0, 1) := by decide +kernel
theorem dX6_count_64 : decode cX6_count 64 = .ok (.getfield 10, 3) := by decide +kernel
theorem dX6_count_67 : decode cX6_count 67 = .ok (.getfield 80, 3) := by decide +kernel
theorem dX6_count_70 : decode cX6_count 70 = .ok (.getfield 134, 3) := by decide +kernel
theorem dX6_count_73 : decode cX6_count 73 = .ok (.ireturn, 1) := by decide +kernel
theorem dX6_count_74 : decode cX6_count 74 = .ok (.aload_n 0, 1) := by decide +kernel
theorem dX6_count_75 : decode cX6_count 75 = .ok (.getfield 10, 3) := by decide +kernel
theorem dX6_count_78 : decode cX6_count 78 = .ok (.getfield 80, 3) := by decide +kernel
theorem dX6_count_81 : decode cX6_count 81 = .ok (.getfield 84, 3) := by decide +kernel
theorem dX6_count_84 : decode cX6_count 84 = .ok (.invokestatic 140, 3) := by decide +kernel
theorem dX6_count_87 : decode cX6_count 87 = .ok (.ireturn, 1) := by decide +kernel
theorem dX6_count_88 : decode cX6_count 88 = .ok (.aload_n 0, 1) := by decide +kernel
theorem dX6_count_89 : decode cX6_count 89 = .ok (.getfield 10, 3) := by decide +kernel
theorem dX6_count_92 : decode cX6_count 92 = .ok (.getfield 80, 3) := by decide +kernel
theorem dX6_count_95 : decode cX6_count 95 = .ok (.getfield 89, 3) := by decide +kernel
theorem dX6_count_98 : decode cX6_count 98 = .ok (.invokestatic 140, 3) := by decide +kernel
theorem dX6_count_101 : decode cX6_count 101 = .ok (.ireturn, 1) := by decide +kernel
theorem dX6_count_102 : decode cX6_count 102 = .ok (.aload_n 0, 1) := by decide +kernel
theorem dX6_count_103 : decode cX6_count 103 = .ok (.getfield 10, 3) := by decide +kernel
theorem dX6_count_106 : decode cX6_count 106 = .ok (.aload_n 0, 1) := by decide +kernel
theorem dX6_count_107 : decode cX6_count 107 = .ok (.getfield 10, 3) := by decide +kernel
theorem dX6_count_110 : decode cX6_count 110 = .ok (.getfield 80, 3) := by decide +kernel
theorem dX6_count_113 : decode cX6_count 113 = .ok (.getfield 137, 3) := by decide +kernel
theorem dX6_count_116 : decode cX6_count 116 = .ok (.invokevirtual 144, 3) := by decide +kernel
theorem dX6_count_119 : decode cX6_count 119 = .ok (.ireturn, 1) := by decide +kernel
theorem dX6_count_120 : decode cX6_count 120 = .ok (.aload_n 0, 1) := by decide +kernel
theorem dX6_count_121 : decode cX6_count 121 = .ok (.getfield 10, 3) := by decide +kernel
theorem dX6_count_124 : decode cX6_count 124 = .ok (.getfield 147, 3) := by decide +kernel
theorem dX6_count_127 : decode cX6_count 127 = .ok (.ireturn, 1) := by decide +kernel
theorem dX6_count_128 : decode cX6_count 128 = .ok (.iconst (-1), 1) := by decide +kernel
theorem dX6_count_129 : decode cX6_count 129 = .ok (.ireturn, 1) := by decide +kernel
set_option maxRecDepth 20000 in
theorem ggX6_days_X6_isWithin : GoodIn wsX6_days wsX6_isWithin := goodIn_r _ [8] (by decide +kernel) (by decide +kernel)
set_option maxRecDepth 20000 in
theorem gX6_days_X6_isWithin : GoodIn wsX6_days (va_wsS RX6 61 yX6_isWithin wsX6_isWithin) := goodIn_app (goodIn_of _ (by decide +kernel)) ggX6_days_X6_isWithin
set_option maxRecDepth 20000 in
theorem ggX6_days_X1_remember : GoodIn wsX6_days wsX1_remember := goodIn_r _ [13, 14, 15, 16, 17, 18, 19, 12, 20, 21, 22, 23, 24, 25, 26, 27, 28, 29, 30, 31, 32, 33, 34, 78, 79, 80, 81, 82, 83, 84, 85, 86, 87, 88, 89, 90] (by decide +kernel) (by decide +kernel)
set_option maxRecDepth 20000 in
theorem gX6_days_X1_remember : GoodIn wsX6_days (wsV RX6 150 RX1 yX1_remember wsX1_remember) := goodIn_app (goodIn_of _ (by decide +kernel)) ggX6_days_X1_remember
set_option maxRecDepth 20000 in
theorem ggX6_days_X1_passDay : GoodIn wsX6_days wsX1_passDay := goodIn_r _ [38, 16, 39, 40, 41, 42, 43, 44, 45, 46, 47, 48, 49, 50, 51, 52, 12, 53, 54, 55, 56, 57, 58, 59, 60, 61, 62, 63, 64, 65, 66, 67, 68, 78, 79, 80, 81, 82, 83, 84, 85, 86, 87, 88, 89, 90] (by decide +kernel) (by decide +kernel)
set_option maxRecDepth 20000 in
theorem gX6_days_X1_passDay : GoodIn wsX6_days (wsV RX6 153 RX1 yX1_passDay wsX1_passDay) := goodIn_app (goodIn_of _ (by decide +kernel)) ggX6_days_X1_passDay
theorem dX6_days_0 : decode cX6_days 0 = .ok (.iload_n 1, 1) := by decide +kernel
theorem dX6_days_1 : decode cX6_days 1 = .ok (.iconst 1, 1) := by decide +kernel
theorem dX6_days_2 : decode cX6_days 2 = .ok (.bipush 40, 2) := by decide +kernel
theorem dX6_days_4 : decode cX6_days 4 = .ok (.invokestatic 61, 3) := by decide +kernel
theorem dX6_days_7 : decode cX6_days 7 = .ok (.ifCond .ne 5, 3) := by decide +kernel
theorem dX6_days_10 : decode cX6_days 10 = .ok (.iconst (-1), 1) := by decide +kernel
theorem dX6_days_11 : decode cX6_days 11 = .ok (.ireturn, 1) := by decide +kernel
theorem dX6_days_12 : decode cX6_days 12 = .ok (.aload_n 0, 1) := by decide +kernel
theorem dX6_days_13 : decode cX6_days 13 = .ok (.getfield 10, 3) := by decide +kernel
theorem dX6_days_16 : decode cX6_days 16 = .ok (.getfield 80, 3) := by decide +kernel
theorem dX6_days_19 : decode cX6_days 19 = .ok (.getfield 134, 3) := by decide +kernel
theorem dX6_days_22 : decode cX6_days 22 = .ok (.sipush 9999, 3) := by decide +kernel
theorem dX6_days_25 : decode cX6_days 25 = .ok (.iload_n 1, 1) := by decide +kernel
theorem dX6_days_26 : decode cX6_days 26 = .ok (.isub, 1) := by decide +kernel
theorem dX6_days_27 : decode cX6_days 27 = .ok (.if_icmp .le 6, 3) := by decide +kernel
theorem dX6_days_30 : decode cX6_days 30 = .ok (.bipush (-3), 2) := by decide +kernel
theorem dX6_days_32 : decode cX6_days 32 = .ok (.ireturn, 1) := by decide +kernel
theorem dX6_days_33 : decode cX6_days 33 = .ok (.iconst 0, 1) := by decide +kernel
theorem dX6_days_34 : decode cX6_days 34 = .ok (.istore_n 2, 1) := by decide +kernel
theorem dX6_days_35 : decode cX6_days 35 = .ok (.iload_n 2, 1) := by decide +kernel
theorem dX6_days_36 : decode cX6_days 36 = .ok (.iload_n 1, 1) := by decide +kernel
theorem dX6_days_37 : decode cX6_days 37 = .ok (.if_icmp .ge 23, 3) := by decide +kernel
theorem dX6_days_40 : decode cX6_days 40 = .ok (.aload_n 0, 1) := by decide +kernel
theorem dX6_days_41 : decode cX6_days 41 = .ok (.getfield 10, 3) := by decide +kernel
theorem dX6_days_44 : decode cX6_days 44 = .ok (.invokevirtual 150, 3) := by decide +kernel
theorem dX6_days_47 : decode cX6_days 47 = .ok (.aload_n 0, 1) := by decide +kernel
theorem dX6_days_48 : decode cX6_days 48 = .ok (.getfield 10, 3) := by decide +kernel
theorem dX6_days_51 : decode cX6_days 51 = .ok (.invokevirtual 153, 3) := by decide +kernel
theorem dX6_days_54 : decode cX6_days 54 = .ok (.iinc 2 1, 3) := by decide +kernel
theorem dX6_days_57 : decode cX6_days 57 = .ok (.goto (-22), 3) := by decide +kernel
theorem dX6_days_60 : decode cX6_days 60 = .ok (.aload_n 0, 1) := by decide +kernel
theorem dX6_days_61 : decode cX6_days 61 = .ok (.getfield 10, 3) := by decide +kernel
theorem dX6_days_64 : decode cX6_days 64 = .ok (.getfield 80, 3) := by decide +kernel
theorem dX6_days_67 : decode cX6_days 67 = .ok (.getfield 137, 3) := by decide +kernel
theorem dX6_days_70 : decode cX6_days 70 = .ok (.ireturn, 1) := by decide +kernel
set_option maxRecDepth 20000 in
theorem ggX6_carry_X6_isField : GoodIn wsX6_carry wsX6_isField := goodIn_r _ [7, 8, 9, 6, 10] (by decide +kernel) (by decide +kernel)
set_option maxRecDepth 20000 in
theorem gX6_carry_X6_isField : GoodIn wsX6_carry (va_wsS RX6 57 yX6_isField wsX6_isField) := goodIn_app (goodIn_of _ (by decide +kernel)) ggX6_carry_X6_isField
set_option maxRecDepth 20000 in
theorem ggX6_carry_X1_remember : GoodIn wsX6_carry wsX1_remember := goodIn_r _ [15, 16, 17, 18, 19, 20, 21, 14, 22, 23, 24, 25, 26, 27, 28, 29, 30, 31, 32, 33, 34, 35, 36, 46, 47, 48, 49, 50, 51, 52, 53, 54, 55, 56, 57, 58] (by decide +kernel) (by decide +kernel)
set_option maxRecDepth 20000 in
theorem gX6_carry_X1_remember : GoodIn wsX6_carry (wsV RX6 150 RX1 yX1_remember wsX1_remember) := goodIn_app (goodIn_of _ (by decide +kernel)) ggX6_carry_X1_remember
theorem dX6_carry_0 : decode cX6_carry 0 = .ok (.iload_n 1, 1) := by decide +kernel
theorem dX6_carry_1 : decode cX6_carry 1 = .ok (.invokestatic 57, 3) := by decide +kernel
theorem dX6_carry_4 : decode cX6_carry 4 = .ok (.ifCond .ne 5, 3) := by decide +kernel
theorem dX6_carry_7 : decode cX6_carry 7 = .ok (.iconst (-1), 1) := by decide +kernel
theorem dX6_carry_8 : decode cX6_carry 8 = .ok (.ireturn, 1) := by decide +kernel
theorem dX6_carry_9 : decode cX6_carry 9 = .ok (.aload_n 0, 1) := by decide +kernel
theorem dX6_carry_10 : decode cX6_carry 10 = .ok (.getfield 10, 3) := by decide +kernel
theorem dX6_carry_13 : decode cX6_carry 13 = .ok (.getfield 80, 3) := by decide +kernel
theorem dX6_carry_16 : decode cX6_carry 16 = .ok (.getfield 137, 3) := by decide +kernel
theorem dX6_carry_19 : decode cX6_carry 19 = .ok (.istore_n 2, 1) := by decide +kernel
theorem dX6_carry_20 : decode cX6_carry 20 = .ok (.iload_n 2, 1) := by decide +kernel
theorem dX6_carry_21 : decode cX6_carry 21 = .ok (.iload_n 1, 1) := by decide +kernel
theorem dX6_carry_22 : decode cX6_carry 22 = .ok (.if_icmp .ne 6, 3) := by decide +kernel
theorem dX6_carry_25 : decode cX6_carry 25 = .ok (.bipush (-2), 2) := by decide +kernel
theorem dX6_carry_27 : decode cX6_carry 27 = .ok (.ireturn, 1) := by decide +kernel
theorem dX6_carry_28 : decode cX6_carry 28 = .ok (.aload_n 0, 1) := by decide +kernel
theorem dX6_carry_29 : decode cX6_carry 29 = .ok (.getfield 10, 3) := by decide +kernel
theorem dX6_carry_32 : decode cX6_carry 32 = .ok (.invokevirtual 150, 3) := by decide +kernel
theorem dX6_carry_35 : decode cX6_carry 35 = .ok (.aload_n 0, 1) := by decide +kernel
theorem dX6_carry_36 : decode cX6_carry 36 = .ok (.getfield 10, 3) := by decide +kernel
theorem dX6_carry_39 : decode cX6_carry 39 = .ok (.getfield 80, 3) := by decide +kernel
theorem dX6_carry_42 : decode cX6_carry 42 = .ok (.iload_n 1, 1) := by decide +kernel
theorem dX6_carry_43 : decode cX6_carry 43 = .ok (.putfield 137, 3) := by decide +kernel
theorem dX6_carry_46 : decode cX6_carry 46 = .ok (.iload_n 2, 1) := by decide +kernel
theorem dX6_carry_47 : decode cX6_carry 47 = .ok (.ireturn, 1) := by decide +kernel
set_option maxRecDepth 20000 in
theorem ggX6_lettuce_X6_isField : GoodIn wsX6_lettuce wsX6_isField := goodIn_r _ [11, 12, 13, 10, 14] (by decide +kernel) (by decide +kernel)
set_option maxRecDepth 20000 in
theorem gX6_lettuce_X6_isField : GoodIn wsX6_lettuce (va_wsS RX6 57 yX6_isField wsX6_isField) := goodIn_app (goodIn_of _ (by decide +kernel)) ggX6_lettuce_X6_isField
set_option maxRecDepth 20000 in
theorem ggX6_lettuce_X6_isWithin : GoodIn wsX6_lettuce wsX6_isWithin := goodIn_r _ [14] (by decide +kernel) (by decide +kernel)
set_option maxRecDepth 20000 in
theorem gX6_lettuce_X6_isWithin : GoodIn wsX6_lettuce (va_wsS RX6 61 yX6_isWithin wsX6_isWithin) := goodIn_app (goodIn_of _ (by decide +kernel)) ggX6_lettuce_X6_isWithin
set_option maxRecDepth 20000 in
theorem ggX6_lettuce_X1_remember : GoodIn wsX6_lettuce wsX1_remember := goodIn_r _ [19, 20, 21, 22, 23, 24, 25, 18, 26, 27, 28, 29, 30, 31, 32, 33, 34, 35, 36, 37, 38, 39, 40, 50, 51, 52, 53, 54, 55, 56, 57, 58, 59, 60, 61, 62] (by decide +kernel) (by decide +kernel)
set_option maxRecDepth 20000 in
theorem gX6_lettuce_X1_remember : GoodIn wsX6_lettuce (wsV RX6 150 RX1 yX1_remember wsX1_remember) := goodIn_app (goodIn_of _ (by decide +kernel)) ggX6_lettuce_X1_remember
theorem dX6_lettuce_0 : decode cX6_lettuce 0 = .ok (.iload_n 1, 1) := by decide +kernel
theorem dX6_lettuce_1 : decode cX6_lettuce 1 = .ok (.invokestatic 57, 3) := by decide +kernel
theorem dX6_lettuce_4 : decode cX6_lettuce 4 = .ok (.ifCond .eq 13, 3) := by decide +kernel
theorem dX6_lettuce_7 : decode cX6_lettuce 7 = .ok (.iload_n 2, 1) := by decide +kernel
theorem dX6_lettuce_8 : decode cX6_lettuce 8 = .ok (.iconst 1, 1) := by decide +kernel
theorem dX6_lettuce_9 : decode cX6_lettuce 9 = .ok (.bipush 9, 2) := by decide +kernel
theorem dX6_lettuce_11 : decode cX6_lettuce 11 = .ok (.invokestatic 61, 3) := by decide +kernel
theorem dX6_lettuce_14 : decode cX6_lettuce 14 = .ok (.ifCond .ne 5, 3) := by decide +kernel
theorem dX6_lettuce_17 : decode cX6_lettuce 17 = .ok (.iconst (-1), 1) := by decide +kernel
theorem dX6_lettuce_18 : decode cX6_lettuce 18 = .ok (.ireturn, 1) := by decide +kernel
theorem dX6_lettuce_19 : decode cX6_lettuce 19 = .ok (.aload_n 0, 1) := by decide +kernel
theorem dX6_lettuce_20 : decode cX6_lettuce 20 = .ok (.getfield 10, 3) := by decide +kernel
theorem dX6_lettuce_23 : decode cX6_lettuce 23 = .ok (.getfield 80, 3) := by decide +kernel
theorem dX6_lettuce_26 : decode cX6_lettuce 26 = .ok (.getfield 84, 3) := by decide +kernel
theorem dX6_lettuce_29 : decode cX6_lettuce 29 = .ok (.iload_n 1, 1) := by decide +kernel
theorem dX6_lettuce_30 : decode cX6_lettuce 30 = .ok (.iaload, 1) := by decide +kernel
theorem dX6_lettuce_31 : decode cX6_lettuce 31 = .ok (.bipush 9, 2) := by decide +kernel
theorem dX6_lettuce_33 : decode cX6_lettuce 33 = .ok (.if_icmp .lt 6, 3) := by decide +kernel
theorem dX6_lettuce_36 : decode cX6_lettuce 36 = .ok (.bipush (-2), 2) := by decide +kernel
theorem dX6_lettuce_38 : decode cX6_lettuce 38 = .ok (.ireturn, 1) := by decide +kernel
theorem dX6_lettuce_39 : decode cX6_lettuce 39 = .ok (.aload_n 0, 1) := by decide +kernel
theorem dX6_lettuce_40 : decode cX6_lettuce 40 = .ok (.getfield 10, 3) := by decide +kernel
theorem dX6_lettuce_43 : decode cX6_lettuce 43 = .ok (.invokevirtual 150, 3) := by decide +kernel
theorem dX6_lettuce_46 : decode cX6_lettuce 46 = .ok (.aload_n 0, 1) := by decide +kernel
theorem dX6_lettuce_47 : decode cX6_lettuce 47 = .ok (.getfield 10, 3) := by decide +kernel
theorem dX6_lettuce_50 : decode cX6_lettuce 50 = .ok (.getfield 80, 3) := by decide +kernel
theorem dX6_lettuce_53 : decode cX6_lettuce 53 = .ok (.getfield 84, 3) := by decide +kernel
theorem dX6_lettuce_56 : decode cX6_lettuce 56 = .ok (.iload_n 1, 1) := by decide +kernel
theorem dX6_lettuce_57 : decode cX6_lettuce 57 = .ok (.bipush 9, 2) := by decide +kernel
theorem dX6_lettuce_59 : decode cX6_lettuce 59 = .ok (.aload_n 0, 1) := by decide +kernel
theorem dX6_lettuce_60 : decode cX6_lettuce 60 = .ok (.getfield 10, 3) := by decide +kernel
theorem dX6_lettuce_63 : decode cX6_lettuce 63 = .ok (.getfield 80, 3) := by decide +kernel
theorem dX6_lettuce_66 : decode cX6_lettuce 66 = .ok (.getfield 84, 3) := by decide +kernel
theorem dX6_lettuce_69 : decode cX6_lettuce 69 = .ok (.iload_n 1, 1) := by decide +kernel
theorem dX6_lettuce_70 : decode cX6_lettuce 70 = .ok (.iaload, 1) := by decide +kernel
theorem dX6_lettuce_71 : decode cX6_lettuce 71 = .ok (.iload_n 2, 1) := by decide +kernel
theorem dX6_lettuce_72 : decode cX6_lettuce 72 = .ok (.iadd, 1) := by decide +kernel
theorem dX6_lettuce_73 : decode cX6_lettuce 73 = .ok (.invokestatic 156, 3) := by decide +kernel
theorem dX6_lettuce_76 : decode cX6_lettuce 76 = .ok (.iastore, 1) := by decide +kernel
theorem dX6_lettuce_77 : decode cX6_lettuce 77 = .ok (.aload_n 0, 1) := by decide +kernel
theorem dX6_lettuce_78 : decode cX6_lettuce 78 = .ok (.getfield 10, 3) := by decide +kernel
theorem dX6_lettuce_81 : decode cX6_lettuce 81 = .ok (.getfield 80, 3) := by decide +kernel
theorem dX6_lettuce_84 : decode cX6_lettuce 84 = .ok (.getfield 84, 3) := by decide +kernel
theorem dX6_lettuce_87 : decode cX6_lettuce 87 = .ok (.iload_n 1, 1) := by decide +kernel
theorem dX6_lettuce_88 : decode cX6_lettuce 88 = .ok (.iaload, 1) := by decide +kernel
theorem dX6_lettuce_89 : decode cX6_lettuce 89 = .ok (.ireturn, 1) := by decide +kernel
set_option maxRecDepth 20000 in
theorem ggX6_lay_X6_isField : GoodIn wsX6_lay wsX6_isField := goodIn_r _ [7, 8, 9, 6, 10] (by decide +kernel) (by decide +kernel)
set_option maxRecDepth 20000 in
theorem gX6_lay_X6_isField : GoodIn wsX6_lay (va_wsS RX6 57 yX6_isField wsX6_isField) := goodIn_app (goodIn_of _ (by decide +kernel)) ggX6_lay_X6_isField
set_option maxRecDepth 20000 in
theorem ggX6_lay_X6_isWithin : GoodIn wsX6_lay wsX6_isWithin := goodIn_r _ [10] (by decide +kernel) (by decide +kernel)
set_option maxRecDepth 20000 in
theorem gX6_lay_X6_isWithin : GoodIn wsX6_lay (va_wsS RX6 61 yX6_isWithin wsX6_isWithin) := goodIn_app (goodIn_of _ (by decide +kernel)) ggX6_lay_X6_isWithin
set_option maxRecDepth 20000 in
theorem ggX6_lay_X1_remember : GoodIn wsX6_lay wsX1_remember := goodIn_r _ [15, 16, 17, 18, 19, 20, 21, 14, 22, 23, 24, 25, 26, 27, 28, 29, 30, 31, 32, 33, 34, 35, 36, 46, 47, 48, 49, 50, 51, 52, 53, 54, 55, 56, 57, 58] (by decide +kernel) (by decide +kernel)
set_option maxRecDepth 20000 in
theorem gX6_lay_X1_remember : GoodIn wsX6_lay (wsV RX6 150 RX1 yX1_remember wsX1_remember) := goodIn_app (goodIn_of _ (by decide +kernel)) ggX6_lay_X1_remember
theorem dX6_lay_0 : decode cX6_lay 0 = .ok (.iload_n 1, 1) := by decide +kernel
theorem dX6_lay_1 : decode cX6_lay 1 = .ok (.invokestatic 57, 3) := by decide +kernel
theorem dX6_lay_4 : decode cX6_lay 4 = .ok (.ifCond .eq 12, 3) := by decide +kernel
theorem dX6_lay_7 : decode cX6_lay 7 = .ok (.iload_n 2, 1) := by decide +kernel
theorem dX6_lay_8 : decode cX6_lay 8 = .ok (.iconst 0, 1) := by decide +kernel
theorem dX6_lay_9 : decode cX6_lay 9 = .ok (.iconst 4, 1) := by decide +kernel
theorem dX6_lay_10 : decode cX6_lay 10 = .ok (.invokestatic 61, 3) := by decide +kernel
theorem dX6_lay_13 : decode cX6_lay 13 = .ok (.ifCond .ne 5, 3) := by decide +kernel
theorem dX6_lay_16 : decode cX6_lay 16 = .ok (.iconst (-1), 1) := by decide +kernel
theorem dX6_lay_17 : decode cX6_lay 17 = .ok (.ireturn, 1) := by decide +kernel
theorem dX6_lay_18 : decode cX6_lay 18 = .ok (.aload_n 0, 1) := by decide +kernel
theorem dX6_lay_19 : decode cX6_lay 19 = .ok (.getfield 10, 3) := by decide +kernel
theorem dX6_lay_22 : decode cX6_lay 22 = .ok (.getfield 80, 3) := by decide +kernel
theorem dX6_lay_25 : decode cX6_lay 25 = .ok (.getfield 89, 3) := by decide +kernel
theorem dX6_lay_28 : decode cX6_lay 28 = .ok (.iload_n 1, 1) := by decide +kernel
theorem dX6_lay_29 : decode cX6_lay 29 = .ok (.iaload, 1) := by decide +kernel
theorem dX6_lay_30 : decode cX6_lay 30 = .ok (.istore_n 3, 1) := by decide +kernel
theorem dX6_lay_31 : decode cX6_lay 31 = .ok (.iload_n 3, 1) := by decide +kernel
theorem dX6_lay_32 : decode cX6_lay 32 = .ok (.iload_n 2, 1) := by decide +kernel
theorem dX6_lay_33 : decode cX6_lay 33 = .ok (.if_icmp .ne 6, 3) := by decide +kernel
theorem dX6_lay_36 : decode cX6_lay 36 = .ok (.bipush (-2), 2) := by decide +kernel
theorem dX6_lay_38 : decode cX6_lay 38 = .ok (.ireturn, 1) := by decide +kernel
theorem dX6_lay_39 : decode cX6_lay 39 = .ok (.aload_n 0, 1) := by decide +kernel
theorem dX6_lay_40 : decode cX6_lay 40 = .ok (.getfield 10, 3) := by decide +kernel
theorem dX6_lay_43 : decode cX6_lay 43 = .ok (.invokevirtual 150, 3) := by decide +kernel
theorem dX6_lay_46 : decode cX6_lay 46 = .ok (.aload_n 0, 1) := by decide +kernel
theorem dX6_lay_47 : decode cX6_lay 47 = .ok (.getfield 10, 3) := by decide +kernel
theorem dX6_lay_50 : decode cX6_lay 50 = .ok (.getfield 80, 3) := by decide +kernel
theorem dX6_lay_53 : decode cX6_lay 53 = .ok (.getfield 89, 3) := by decide +kernel
theorem dX6_lay_56 : decode cX6_lay 56 = .ok (.iload_n 1, 1) := by decide +kernel
theorem dX6_lay_57 : decode cX6_lay 57 = .ok (.iload_n 2, 1) := by decide +kernel
theorem dX6_lay_58 : decode cX6_lay 58 = .ok (.iastore, 1) := by decide +kernel
theorem dX6_lay_59 : decode cX6_lay 59 = .ok (.iload_n 3, 1) := by decide +kernel
theorem dX6_lay_60 : decode cX6_lay 60 = .ok (.ireturn, 1) := by decide +kernel
set_option maxRecDepth 20000 in
theorem ggX6_undo_X1_recall : GoodIn wsX6_undo wsX1_recall := goodIn_r _ [7, 8, 9, 10, 11, 12, 13, 14, 15, 16, 17, 18, 19, 20, 21, 22, 23, 24, 34, 35, 36, 37, 38, 39, 40, 41, 42, 43, 44, 45, 46] (by decide +kernel) (by decide +kernel)
set_option maxRecDepth 20000 in
theorem gX6_undo_X1_recall : GoodIn wsX6_undo (wsV RX6 162 RX1 yX1_recall wsX1_recall) := goodIn_app (goodIn_of _ (by decide +kernel)) ggX6_undo_X1_recall
theorem dX6_undo_0 : decode cX6_undo 0 = .ok (.aload_n 0, 1) := by decide +kernel
theorem dX6_undo_1 : decode cX6_undo 1 = .ok (.getfield 10, 3) := by decide +kernel
theorem dX6_undo_4 : decode cX6_undo 4 = .ok (.getfield 147, 3) := by decide +kernel
theorem dX6_undo_7 : decode cX6_undo 7 = .ok (.iconst 1, 1) := by decide +kernel
theorem dX6_undo_8 : decode cX6_undo 8 = .ok (.if_icmp .ge 6, 3) := by decide +kernel
theorem dX6_undo_11 : decode cX6_undo 11 = .ok (.bipush (-4), 2) := by decide +kernel
theorem dX6_undo_13 : decode cX6_undo 13 = .ok (.ireturn, 1) := by decide +kernel
theorem dX6_undo_14 : decode cX6_undo 14 = .ok (.aload_n 0, 1) := by decide +kernel
theorem dX6_undo_15 : decode cX6_undo 15 = .ok (.getfield 10, 3) := by decide +kernel
theorem dX6_undo_18 : decode cX6_undo 18 = .ok (.invokevirtual 162, 3) := by decide +kernel
theorem dX6_undo_21 : decode cX6_undo 21 = .ok (.aload_n 0, 1) := by decide +kernel
theorem dX6_undo_22 : decode cX6_undo 22 = .ok (.getfield 10, 3) := by decide +kernel
theorem dX6_undo_25 : decode cX6_undo 25 = .ok (.getfield 147, 3) := by decide +kernel
theorem dX6_undo_28 : decode cX6_undo 28 = .ok (.ireturn, 1) := by decide +kernel
theorem dX6_seed_0 : decode cX6_seed 0 = .ok (.iload_n 1, 1) := by decide +kernel
theorem dX6_seed_1 : decode cX6_seed 1 = .ok (.ifCond .ge 5, 3) := by decide +kernel
theorem dX6_seed_4 : decode cX6_seed 4 = .ok (.iconst (-1), 1) := by decide +kernel
theorem dX6_seed_5 : decode cX6_seed 5 = .ok (.ireturn, 1) := by decide +kernel
theorem dX6_seed_6 : decode cX6_seed 6 = .ok (.aload_n 0, 1) := by decide +kernel
theorem dX6_seed_7 : decode cX6_seed 7 = .ok (.getfield 10, 3) := by decide +kernel
theorem dX6_seed_10 : decode cX6_seed 10 = .ok (.getfield 80, 3) := by decide +kernel
theorem dX6_seed_13 : decode cX6_seed 13 = .ok (.getfield 165, 3) := by decide +kernel
theorem dX6_seed_16 : decode cX6_seed 16 = .ok (.istore_n 2, 1) := by decide +kernel
theorem dX6_seed_17 : decode cX6_seed 17 = .ok (.aload_n 0, 1) := by decide +kernel
theorem dX6_seed_18 : decode cX6_seed 18 = .ok (.getfield 10, 3) := by decide +kernel
theorem dX6_seed_21 : decode cX6_seed 21 = .ok (.getfield 80, 3) := by decide +kernel
theorem dX6_seed_24 : decode cX6_seed 24 = .ok (.iload_n 1, 1) := by decide +kernel
theorem dX6_seed_25 : decode cX6_seed 25 = .ok (.putfield 165, 3) := by decide +kernel
theorem dX6_seed_28 : decode cX6_seed 28 = .ok (.iload_n 2, 1) := by decide +kernel
theorem dX6_seed_29 : decode cX6_seed 29 = .ok (.ireturn, 1) := by decide +kernel
set_option maxRecDepth 20000 in
theorem ggX6_chance_X6_isField : GoodIn wsX6_chance wsX6_isField := goodIn_r _ [9, 10, 11, 8, 12] (by decide +kernel) (by decide +kernel)
set_option maxRecDepth 20000 in
theorem gX6_chance_X6_isField : GoodIn wsX6_chance (va_wsS RX6 57 yX6_isField wsX6_isField) := goodIn_app (goodIn_of _ (by decide +kernel)) ggX6_chance_X6_isField
set_option maxRecDepth 20000 in
theorem ggX6_chance_X6_isForetold : GoodIn wsX6_chance wsX6_isForetold := goodIn_r _ [15, 10, 11, 8, 12] (by decide +kernel) (by decide +kernel)
set_option maxRecDepth 20000 in
theorem gX6_chance_X6_isForetold : GoodIn wsX6_chance (va_wsS RX6 168 yX6_isForetold wsX6_isForetold) := goodIn_app (goodIn_of _ (by decide +kernel)) ggX6_chance_X6_isForetold
set_option maxRecDepth 20000 in
theorem ggX6_chance_X6_isWithin : GoodIn wsX6_chance wsX6_isWithin := goodIn_r _ [12] (by decide +kernel) (by decide +kernel)
set_option maxRecDepth 20000 in
theorem gX6_chance_X6_isWithin : GoodIn wsX6_chance (va_wsS RX6 61 yX6_isWithin wsX6_isWithin) := goodIn_app (goodIn_of _ (by decide +kernel)) ggX6_chance_X6_isWithin
set_option maxRecDepth 20000 in
theorem ggX6_chance_X6_foretell : GoodIn wsX6_chance wsX6_foretell := goodIn_r _ [19, 3, 20, 21, 22, 23, 24, 25, 26, 27, 28, 29, 30, 31, 32, 33, 34, 35, 36, 37, 38, 39, 40, 41, 42, 43, 44, 45, 46, 47, 48, 49, 50, 51, 52, 53, 54, 55, 56, 57, 58, 59, 60, 61, 62, 63, 64, 65, 66, 67, 68, 69, 70, 71, 72, 73, 74, 75, 7, 8, 9, 10, 11, 12, 76, 77, 92, 93, 94, 95, 96, 97, 98, 99, 100, 108, 109, 110, 111, 112, 113, 114, 115, 116, 117, 118, 119, 120, 101, 102, 103, 104, 105, 106, 107] (by decide +kernel) (by decide +kernel)
set_option maxRecDepth 20000 in
theorem gX6_chance_X6_foretell : GoodIn wsX6_chance (wsV RX6 171 RX6 yX6_foretell wsX6_foretell) := goodIn_app (goodIn_of _ (by decide +kernel)) ggX6_chance_X6_foretell
set_option maxRecDepth 20000 in
theorem ggX6_chance_X0_become : GoodIn wsX6_chance wsX0_become := goodIn_r _ [82, 83, 84, 85, 86, 81, 87, 121, 122] (by decide +kernel) (by decide +kernel)
set_option maxRecDepth 20000 in
theorem gX6_chance_X0_become : GoodIn wsX6_chance (wsV RX6 183 RX0 yX0_become wsX0_become) := goodIn_app (goodIn_of _ (by decide +kernel)) ggX6_chance_X0_become
set_option maxRecDepth 20000 in
theorem ggX6_chance_X0_told : GoodIn wsX6_chance wsX0_told := goodIn_r _ [91, 83, 84, 121, 122] (by decide +kernel) (by decide +kernel)
set_option maxRecDepth 20000 in
theorem gX6_chance_X0_told : GoodIn wsX6_chance (wsV RX6 187 RX0 yX0_told wsX0_told) := goodIn_app (goodIn_of _ (by decide +kernel)) ggX6_chance_X0_told
theorem dX6_chance_0 : decode cX6_chance 0 = .ok (.iload_n 1, 1) := by decide +kernel
theorem dX6_chance_1 : decode cX6_chance 1 = .ok (.invokestatic 57, 3) := by decide +kernel
theorem dX6_chance_4 : decode cX6_chance 4 = .ok (.ifCond .eq 19, 3) := by decide +kernel
theorem dX6_chance_7 : decode cX6_chance 7 = .ok (.iload_n 2, 1) := by decide +kernel
theorem dX6_chance_8 : decode cX6_chance 8 = .ok (.invokestatic 168, 3) := by decide +kernel
theorem dX6_chance_11 : decode cX6_chance 11 = .ok (.ifCond .eq 12, 3) := by decide +kernel
theorem dX6_chance_14 : decode cX6_chance 14 = .ok (.iload_n 3, 1) := by decide +kernel
theorem dX6_chance_15 : decode cX6_chance 15 = .ok (.iconst 0, 1) := by decide +kernel
theorem dX6_chance_16 : decode cX6_chance 16 = .ok (.iconst 1, 1) := by decide +kernel
theorem dX6_chance_17 : decode cX6_chance 17 = .ok (.invokestatic 61, 3) := by decide +kernel
theorem dX6_chance_20 : decode cX6_chance 20 = .ok (.ifCond .ne 5, 3) := by decide +kernel
theorem dX6_chance_23 : decode cX6_chance 23 = .ok (.iconst (-1), 1) := by decide +kernel
theorem dX6_chance_24 : decode cX6_chance 24 = .ok (.ireturn, 1) := by decide +kernel
theorem dX6_chance_25 : decode cX6_chance 25 = .ok (.aload_n 0, 1) := by decide +kernel
theorem dX6_chance_26 : decode cX6_chance 26 = .ok (.aload_n 0, 1) := by decide +kernel
theorem dX6_chance_27 : decode cX6_chance 27 = .ok (.getfield 10, 3) := by decide +kernel
theorem dX6_chance_30 : decode cX6_chance 30 = .ok (.iload_n 2, 1) := by decide +kernel
theorem dX6_chance_31 : decode cX6_chance 31 = .ok (.invokevirtual 171, 3) := by decide +kernel
theorem dX6_chance_34 : decode cX6_chance 34 = .ok (.aload_n 0, 1) := by decide +kernel
theorem dX6_chance_35 : decode cX6_chance 35 = .ok (.getfield 32, 3) := by decide +kernel
theorem dX6_chance_38 : decode cX6_chance 38 = .ok (.aload_n 0, 1) := by decide +kernel
theorem dX6_chance_39 : decode cX6_chance 39 = .ok (.getfield 25, 3) := by decide +kernel
theorem dX6_chance_42 : decode cX6_chance 42 = .ok (.getfield 175, 3) := by decide +kernel
theorem dX6_chance_45 : decode cX6_chance 45 = .ok (.iload_n 1, 1) := by decide +kernel
theorem dX6_chance_46 : decode cX6_chance 46 = .ok (.laload, 1) := by decide +kernel
theorem dX6_chance_47 : decode cX6_chance 47 = .ok (.aload_n 0, 1) := by decide +kernel
theorem dX6_chance_48 : decode cX6_chance 48 = .ok (.getfield 25, 3) := by decide +kernel
theorem dX6_chance_51 : decode cX6_chance 51 = .ok (.getfield 179, 3) := by decide +kernel
theorem dX6_chance_54 : decode cX6_chance 54 = .ok (.invokevirtual 183, 3) := by decide +kernel
theorem dX6_chance_57 : decode cX6_chance 57 = .ok (.aload_n 0, 1) := by decide +kernel
theorem dX6_chance_58 : decode cX6_chance 58 = .ok (.getfield 32, 3) := by decide +kernel
theorem dX6_chance_61 : decode cX6_chance 61 = .ok (.iload_n 3, 1) := by decide +kernel
theorem dX6_chance_62 : decode cX6_chance 62 = .ok (.invokevirtual 187, 3) := by decide +kernel
theorem dX6_chance_65 : decode cX6_chance 65 = .ok (.l2i, 1) := by decide +kernel
theorem dX6_chance_66 : decode cX6_chance 66 = .ok (.ireturn, 1) := by decide +kernel
set_option maxRecDepth 20000 in
theorem ggX6_likely_X6_isForetold : GoodIn wsX6_likely wsX6_isForetold := goodIn_r _ [7, 8, 9, 6, 10] (by decide +kernel) (by decide +kernel)
set_option maxRecDepth 20000 in
theorem gX6_likely_X6_isForetold : GoodIn wsX6_likely (va_wsS RX6 168 yX6_isForetold wsX6_isForetold) := goodIn_app (goodIn_of _ (by decide +kernel)) ggX6_likely_X6_isForetold
set_option maxRecDepth 20000 in
theorem ggX6_likely_X6_foretell : GoodIn wsX6_likely wsX6_foretell := goodIn_r _ [14, 2, 15, 16, 17, 18, 19, 20, 21, 22, 23, 24, 25, 26, 27, 28, 29, 30, 31, 32, 33, 34, 35, 36, 37, 38, 39, 40, 41, 42, 43, 44, 45, 46, 47, 48, 49, 50, 51, 52, 53, 54, 55, 56, 57, 58, 59, 60, 61, 62, 63, 64, 65, 66, 67, 68, 69, 70, 71, 6, 72, 8, 9, 10, 73, 74, 75, 76, 77, 78, 79, 80, 81, 82, 83, 91, 92, 93, 94, 95, 96, 97, 98, 99, 100, 101, 102, 103, 84, 85, 86, 87, 88, 89, 90] (by decide +kernel) (by decide +kernel)
set_option maxRecDepth 20000 in
theorem gX6_likely_X6_foretell : GoodIn wsX6_likely (wsV RX6 171 RX6 yX6_foretell wsX6_foretell) := goodIn_app (goodIn_of _ (by decide +kernel)) ggX6_likely_X6_foretell
theorem dX6_likely_0 : decode cX6_likely 0 = .ok (.iload_n 1, 1) := by decide +kernel
theorem dX6_likely_1 : decode cX6_likely 1 = .ok (.invokestatic 168, 3) := by decide +kernel
theorem dX6_likely_4 : decode cX6_likely 4 = .ok (.ifCond .ne 5, 3) := by decide +kernel
theorem dX6_likely_7 : decode cX6_likely 7 = .ok (.iconst (-1), 1) := by decide +kernel
theorem dX6_likely_8 : decode cX6_likely 8 = .ok (.ireturn, 1) := by decide +kernel
theorem dX6_likely_9 : decode cX6_likely 9 = .ok (.aload_n 0, 1) := by decide +kernel
theorem dX6_likely_10 : decode cX6_likely 10 = .ok (.aload_n 0, 1) := by decide +kernel
theorem dX6_likely_11 : decode cX6_likely 11 = .ok (.getfield 10, 3) := by decide +kernel
theorem dX6_likely_14 : decode cX6_likely 14 = .ok (.iload_n 1, 1) := by decide +kernel
theorem dX6_likely_15 : decode cX6_likely 15 = .ok (.invokevirtual 171, 3) := by decide +kernel
theorem dX6_likely_18 : decode cX6_likely 18 = .ok (.iconst 0, 1) := by decide +kernel
theorem dX6_likely_19 : decode cX6_likely 19 = .ok (.istore_n 2, 1) := by decide +kernel
theorem dX6_likely_20 : decode cX6_likely 20 = .ok (.iconst 1, 1) := by decide +kernel
theorem dX6_likely_21 : decode cX6_likely 21 = .ok (.istore_n 3, 1) := by decide +kernel
theorem dX6_likely_22 : decode cX6_likely 22 = .ok (.iload_n 3, 1) := by decide +kernel
theorem dX6_likely_23 : decode cX6_likely 23 = .ok (.bipush 7, 2) := by decide +kernel
theorem dX6_likely_25 : decode cX6_likely 25 = .ok (.if_icmp .ge 33, 3) := by decide +kernel
theorem dX6_likely_28 : decode cX6_likely 28 = .ok (.aload_n 0, 1) := by decide +kernel
theorem dX6_likely_29 : decode cX6_likely 29 = .ok (.getfield 25, 3) := by decide +kernel
theorem dX6_likely_32 : decode cX6_likely 32 = .ok (.getfield 175, 3) := by decide +kernel
theorem dX6_likely_35 : decode cX6_likely 35 = .ok (.iload_n 3, 1) := by decide +kernel
theorem dX6_likely_36 : decode cX6_likely 36 = .ok (.laload, 1) := by decide +kernel
theorem dX6_likely_37 : decode cX6_likely 37 = .ok (.aload_n 0, 1) := by decide +kernel
theorem dX6_likely_38 : decode cX6_likely 38 = .ok (.getfield 25, 3) := by decide +kernel
theorem dX6_likely_41 : decode cX6_likely 41 = .ok (.getfield 175, 3) := by decide +kernel
theorem dX6_likely_44 : decode cX6_likely 44 = .ok (.iload_n 2, 1) := by decide +kernel
theorem dX6_likely_45 : decode cX6_likely 45 = .ok (.laload, 1) := by decide +kernel
theorem dX6_likely_46 : decode cX6_likely 46 = .ok (.lcmp, 1) := by decide +kernel
theorem dX6_likely_47 : decode cX6_likely 47 = .ok (.ifCond .le 5, 3) := by decide +kernel
theorem dX6_likely_50 : decode cX6_likely 50 = .ok (.iload_n 3, 1) := by decide +kernel
theorem dX6_likely_51 : decode cX6_likely 51 = .ok (.istore_n 2, 1) := by decide +kernel
theorem dX6_likely_52 : decode cX6_likely 52 = .ok (.iinc 3 1, 3) := by decide +kernel
theorem dX6_likely_55 : decode cX6_likely 55 = .ok (.goto (-33), 3) := by decide +kernel
theorem dX6_likely_58 : decode cX6_likely 58 = .ok (.iload_n 2, 1) := by decide +kernel
theorem dX6_likely_59 : decode cX6_likely 59 = .ok (.ireturn, 1) := by decide +kernel
set_option maxRecDepth 20000 in
theorem ggX6_mean_X6_isAhead : GoodIn wsX6_mean wsX6_isAhead := goodIn_r _ [11, 3, 4, 5, 12, 13, 10, 14, 76, 77, 78, 79, 80, 81, 82, 83, 84, 85, 86, 87, 88, 89, 90, 91, 92, 93, 94, 95, 96, 97] (by decide +kernel) (by decide +kernel)
set_option maxRecDepth 20000 in
theorem gX6_mean_X6_isAhead : GoodIn wsX6_mean (wsV RX6 191 RX6 yX6_isAhead wsX6_isAhead) := goodIn_app (goodIn_of _ (by decide +kernel)) ggX6_mean_X6_isAhead
set_option maxRecDepth 20000 in
theorem ggX6_mean_X6_isWithin : GoodIn wsX6_mean wsX6_isWithin := goodIn_r _ [14] (by decide +kernel) (by decide +kernel)
set_option maxRecDepth 20000 in
theorem gX6_mean_X6_isWithin : GoodIn wsX6_mean (va_wsS RX6 61 yX6_isWithin wsX6_isWithin) := goodIn_app (goodIn_of _ (by decide +kernel)) ggX6_mean_X6_isWithin
set_option maxRecDepth 20000 in
theorem ggX6_mean_X5_learn : GoodIn wsX6_mean wsX5_learn := goodIn_r _ [19, 20, 21, 22, 23, 24, 25, 26, 27, 28, 29, 30, 31, 32, 33, 34, 35, 36, 37, 38, 39, 40, 41, 42, 43, 44, 45, 46, 47, 48, 49, 98, 99, 100, 101, 102, 103, 104, 85, 86, 87, 88, 89, 90, 91, 92, 93, 94, 95, 96, 97] (by decide +kernel) (by decide +kernel)
set_option maxRecDepth 20000 in
theorem gX6_mean_X5_learn : GoodIn wsX6_mean (wsV RX6 196 RX5 yX5_learn wsX5_learn) := goodIn_app (goodIn_of _ (by decide +kernel)) ggX6_mean_X5_learn
set_option maxRecDepth 20000 in
theorem ggX6_mean_X5_average : GoodIn wsX6_mean wsX5_average := goodIn_r _ [53, 54, 20, 55, 22, 56, 21, 57, 58, 59, 60, 61, 62, 63, 64, 65, 66, 67, 68, 69, 70, 71, 98, 99, 100, 101, 102, 103, 104, 105, 106] (by decide +kernel) (by decide +kernel)
set_option maxRecDepth 20000 in
theorem gX6_mean_X5_average : GoodIn wsX6_mean (wsV RX6 199 RX5 yX5_average wsX5_average) := goodIn_app (goodIn_of _ (by decide +kernel)) ggX6_mean_X5_average
set_option maxRecDepth 20000 in
theorem ggX6_mean_X0_told : GoodIn wsX6_mean wsX0_told := goodIn_r _ [75, 62, 63, 105, 106] (by decide +kernel) (by decide +kernel)
set_option maxRecDepth 20000 in
theorem gX6_mean_X0_told : GoodIn wsX6_mean (wsV RX6 187 RX0 yX0_told wsX0_told) := goodIn_app (goodIn_of _ (by decide +kernel)) ggX6_mean_X0_told
theorem dX6_mean_0 : decode cX6_mean 0 = .ok (.aload_n 0, 1) := by decide +kernel
theorem dX6_mean_1 : decode cX6_mean 1 = .ok (.iload_n 1, 1) := by decide +kernel
theorem dX6_mean_2 : decode cX6_mean 2 = .ok (.invokevirtual 191, 3) := by decide +kernel
theorem dX6_mean_5 : decode cX6_mean 5 = .ok (.ifCond .eq 12, 3) := by decide +kernel
theorem dX6_mean_8 : decode cX6_mean 8 = .ok (.iload_n 2, 1) := by decide +kernel
theorem dX6_mean_9 : decode cX6_mean 9 = .ok (.iconst 0, 1) := by decide +kernel
theorem dX6_mean_10 : decode cX6_mean 10 = .ok (.iconst 1, 1) := by decide +kernel
theorem dX6_mean_11 : decode cX6_mean 11 = .ok (.invokestatic 61, 3) := by decide +kernel
theorem dX6_mean_14 : decode cX6_mean 14 = .ok (.ifCond .ne 7, 3) := by decide +kernel
theorem dX6_mean_17 : decode cX6_mean 17 = .ok (.ldc2_w 194, 3) := by decide +kernel
theorem dX6_mean_20 : decode cX6_mean 20 = .ok (.lreturn, 1) := by decide +kernel
theorem dX6_mean_21 : decode cX6_mean 21 = .ok (.aload_n 0, 1) := by decide +kernel
theorem dX6_mean_22 : decode cX6_mean 22 = .ok (.getfield 25, 3) := by decide +kernel
theorem dX6_mean_25 : decode cX6_mean 25 = .ok (.aload_n 0, 1) := by decide +kernel
theorem dX6_mean_26 : decode cX6_mean 26 = .ok (.getfield 10, 3) := by decide +kernel
theorem dX6_mean_29 : decode cX6_mean 29 = .ok (.invokevirtual 196, 3) := by decide +kernel
theorem dX6_mean_32 : decode cX6_mean 32 = .ok (.aload_n 0, 1) := by decide +kernel
theorem dX6_mean_33 : decode cX6_mean 33 = .ok (.getfield 25, 3) := by decide +kernel
theorem dX6_mean_36 : decode cX6_mean 36 = .ok (.aload_n 0, 1) := by decide +kernel
theorem dX6_mean_37 : decode cX6_mean 37 = .ok (.getfield 10, 3) := by decide +kernel
theorem dX6_mean_40 : decode cX6_mean 40 = .ok (.getfield 80, 3) := by decide +kernel
theorem dX6_mean_43 : decode cX6_mean 43 = .ok (.getfield 137, 3) := by decide +kernel
theorem dX6_mean_46 : decode cX6_mean 46 = .ok (.iload_n 1, 1) := by decide +kernel
theorem dX6_mean_47 : decode cX6_mean 47 = .ok (.aload_n 0, 1) := by decide +kernel
theorem dX6_mean_48 : decode cX6_mean 48 = .ok (.getfield 32, 3) := by decide +kernel
theorem dX6_mean_51 : decode cX6_mean 51 = .ok (.invokevirtual 199, 3) := by decide +kernel
theorem dX6_mean_54 : decode cX6_mean 54 = .ok (.aload_n 0, 1) := by decide +kernel
theorem dX6_mean_55 : decode cX6_mean 55 = .ok (.getfield 32, 3) := by decide +kernel
theorem dX6_mean_58 : decode cX6_mean 58 = .ok (.iload_n 2, 1) := by decide +kernel
theorem dX6_mean_59 : decode cX6_mean 59 = .ok (.invokevirtual 187, 3) := by decide +kernel
theorem dX6_mean_62 : decode cX6_mean 62 = .ok (.lreturn, 1) := by decide +kernel
set_option maxRecDepth 20000 in
theorem ggX6_right_X6_isClaim : GoodIn wsX6_right wsX6_isClaim := goodIn_r _ [13, 1, 14, 15, 16, 12, 17, 103, 104, 105, 106, 107, 108, 109, 110, 111, 112, 113, 114, 115, 116, 117, 118, 119] (by decide +kernel) (by decide +kernel)
set_option maxRecDepth 20000 in
theorem gX6_right_X6_isClaim : GoodIn wsX6_right (wsV RX6 99 RX6 yX6_isClaim wsX6_isClaim) := goodIn_app (goodIn_of _ (by decide +kernel)) ggX6_right_X6_isClaim
set_option maxRecDepth 20000 in
theorem ggX6_right_X6_isForetold : GoodIn wsX6_right wsX6_isForetold := goodIn_r _ [20, 15, 16, 12, 17] (by decide +kernel) (by decide +kernel)
set_option maxRecDepth 20000 in
theorem gX6_right_X6_isForetold : GoodIn wsX6_right (va_wsS RX6 168 yX6_isForetold wsX6_isForetold) := goodIn_app (goodIn_of _ (by decide +kernel)) ggX6_right_X6_isForetold
set_option maxRecDepth 20000 in
theorem ggX6_right_X6_isWithin : GoodIn wsX6_right wsX6_isWithin := goodIn_r _ [17] (by decide +kernel) (by decide +kernel)
set_option maxRecDepth 20000 in
theorem gX6_right_X6_isWithin : GoodIn wsX6_right (va_wsS RX6 61 yX6_isWithin wsX6_isWithin) := goodIn_app (goodIn_of _ (by decide +kernel)) ggX6_right_X6_isWithin
set_option maxRecDepth 20000 in
theorem ggX6_right_X6_foretell : GoodIn wsX6_right wsX6_foretell := goodIn_r _ [24, 4, 25, 26, 27, 28, 29, 30, 31, 32, 33, 34, 35, 36, 37, 38, 39, 40, 41, 42, 43, 44, 45, 46, 47, 48, 49, 50, 51, 52, 53, 54, 55, 56, 57, 58, 59, 60, 61, 62, 63, 64, 65, 66, 67, 68, 69, 70, 71, 72, 73, 74, 75, 76, 77, 78, 79, 80, 81, 12, 82, 15, 16, 17, 83, 84, 103, 104, 105, 106, 107, 108, 109, 110, 111, 112, 113, 114, 115, 116, 117, 118, 119, 127, 128, 129, 130, 131, 120, 121, 122, 123, 124, 125, 126] (by decide +kernel) (by decide +kernel)
set_option maxRecDepth 20000 in
theorem gX6_right_X6_foretell : GoodIn wsX6_right (wsV RX6 171 RX6 yX6_foretell wsX6_foretell) := goodIn_app (goodIn_of _ (by decide +kernel)) ggX6_right_X6_foretell
set_option maxRecDepth 20000 in
theorem ggX6_right_X0_become : GoodIn wsX6_right wsX0_become := goodIn_r _ [89, 90, 91, 92, 93, 88, 94, 132, 133] (by decide +kernel) (by decide +kernel)
set_option maxRecDepth 20000 in
theorem gX6_right_X0_become : GoodIn wsX6_right (wsV RX6 183 RX0 yX0_become wsX0_become) := goodIn_app (goodIn_of _ (by decide +kernel)) ggX6_right_X0_become
set_option maxRecDepth 20000 in
theorem ggX6_right_X0_partOf : GoodIn wsX6_right wsX0_partOf := goodIn_r _ [98, 91, 90, 132, 133] (by decide +kernel) (by decide +kernel)
set_option maxRecDepth 20000 in
theorem gX6_right_X0_partOf : GoodIn wsX6_right (wsV RX6 203 RX0 yX0_partOf wsX0_partOf) := goodIn_app (goodIn_of _ (by decide +kernel)) ggX6_right_X0_partOf
set_option maxRecDepth 20000 in
theorem ggX6_right_X0_told : GoodIn wsX6_right wsX0_told := goodIn_r _ [102, 90, 91, 132, 133] (by decide +kernel) (by decide +kernel)
set_option maxRecDepth 20000 in
theorem gX6_right_X0_told : GoodIn wsX6_right (wsV RX6 187 RX0 yX0_told wsX0_told) := goodIn_app (goodIn_of _ (by decide +kernel)) ggX6_right_X0_told
theorem dX6_right_0 : decode cX6_right 0 = .ok (.aload_n 0, 1) := by decide +kernel
theorem dX6_right_1 : decode cX6_right 1 = .ok (.iload_n 1, 1) := by decide +kernel
theorem dX6_right_2 : decode cX6_right 2 = .ok (.invokevirtual 99, 3) := by decide +kernel
theorem dX6_right_5 : decode cX6_right 5 = .ok (.ifCond .eq 19, 3) := by decide +kernel
theorem dX6_right_8 : decode cX6_right 8 = .ok (.iload_n 2, 1) := by decide +kernel
theorem dX6_right_9 : decode cX6_right 9 = .ok (.invokestatic 168, 3) := by decide +kernel
theorem dX6_right_12 : decode cX6_right 12 = .ok (.ifCond .eq 12, 3) := by decide +kernel
theorem dX6_right_15 : decode cX6_right 15 = .ok (.iload_n 3, 1) := by decide +kernel
theorem dX6_right_16 : decode cX6_right 16 = .ok (.iconst 0, 1) := by decide +kernel
theorem dX6_right_17 : decode cX6_right 17 = .ok (.iconst 2, 1) := by decide +kernel
theorem dX6_right_18 : decode cX6_right 18 = .ok (.invokestatic 61, 3) := by decide +kernel
theorem dX6_right_21 : decode cX6_right 21 = .ok (.ifCond .ne 5, 3) := by decide +kernel
theorem dX6_right_24 : decode cX6_right 24 = .ok (.iconst (-1), 1) := by decide +kernel
theorem dX6_right_25 : decode cX6_right 25 = .ok (.ireturn, 1) := by decide +kernel
theorem dX6_right_26 : decode cX6_right 26 = .ok (.aload_n 0, 1) := by decide +kernel
theorem dX6_right_27 : decode cX6_right 27 = .ok (.aload_n 0, 1) := by decide +kernel
theorem dX6_right_28 : decode cX6_right 28 = .ok (.getfield 10, 3) := by decide +kernel
theorem dX6_right_31 : decode cX6_right 31 = .ok (.iload_n 2, 1) := by decide +kernel
theorem dX6_right_32 : decode cX6_right 32 = .ok (.invokevirtual 171, 3) := by decide +kernel
theorem dX6_right_35 : decode cX6_right 35 = .ok (.lconst 0, 1) := by decide +kernel
theorem dX6_right_36 : decode cX6_right 36 = .ok (.lstore 4, 2) := by decide +kernel
theorem dX6_right_38 : decode cX6_right 38 = .ok (.aload_n 0, 1) := by decide +kernel
theorem dX6_right_39 : decode cX6_right 39 = .ok (.getfield 10, 3) := by decide +kernel
theorem dX6_right_42 : decode cX6_right 42 = .ok (.getfield 102, 3) := by decide +kernel
theorem dX6_right_45 : decode cX6_right 45 = .ok (.iload_n 1, 1) := by decide +kernel
theorem dX6_right_46 : decode cX6_right 46 = .ok (.iaload, 1) := by decide +kernel
theorem dX6_right_47 : decode cX6_right 47 = .ok (.istore 6, 2) := by decide +kernel
theorem dX6_right_49 : decode cX6_right 49 = .ok (.iload 6, 2) := by decide +kernel
theorem dX6_right_51 : decode cX6_right 51 = .ok (.aload_n 0, 1) := by decide +kernel
theorem dX6_right_52 : decode cX6_right 52 = .ok (.getfield 10, 3) := by decide +kernel
theorem dX6_right_55 : decode cX6_right 55 = .ok (.getfield 105, 3) := by decide +kernel
theorem dX6_right_58 : decode cX6_right 58 = .ok (.iload_n 1, 1) := by decide +kernel
theorem dX6_right_59 : decode cX6_right 59 = .ok (.iaload, 1) := by decide +kernel
theorem dX6_right_60 : decode cX6_right 60 = .ok (.if_icmp .gt 24, 3) := by decide +kernel
theorem dX6_right_63 : decode cX6_right 63 = .ok (.lload 4, 2) := by decide +kernel
theorem dX6_right_65 : decode cX6_right 65 = .ok (.aload_n 0, 1) := by decide +kernel
theorem dX6_right_66 : decode cX6_right 66 = .ok (.getfield 25, 3) := by decide +kernel
theorem dX6_right_69 : decode cX6_right 69 = .ok (.getfield 175, 3) := by decide +kernel
theorem dX6_right_72 : decode cX6_right 72 = .ok (.iload 6, 2) := by decide +kernel
theorem dX6_right_74 : decode cX6_right 74 = .ok (.laload, 1) := by decide +kernel
theorem dX6_right_75 : decode cX6_right 75 = .ok (.ladd, 1) := by decide +kernel
theorem dX6_right_76 : decode cX6_right 76 = .ok (.lstore 4, 2) := by decide +kernel
theorem dX6_right_78 : decode cX6_right 78 = .ok (.iinc 6 1, 3) := by decide +kernel
theorem dX6_right_81 : decode cX6_right 81 = .ok (.goto (-32), 3) := by decide +kernel
theorem dX6_right_84 : decode cX6_right 84 = .ok (.aload_n 0, 1) := by decide +kernel
theorem dX6_right_85 : decode cX6_right 85 = .ok (.getfield 32, 3) := by decide +kernel
theorem dX6_right_88 : decode cX6_right 88 = .ok (.lload 4, 2) := by decide +kernel
theorem dX6_right_90 : decode cX6_right 90 = .ok (.aload_n 0, 1) := by decide +kernel
theorem dX6_right_91 : decode cX6_right 91 = .ok (.getfield 25, 3) := by decide +kernel
theorem dX6_right_94 : decode cX6_right 94 = .ok (.getfield 179, 3) := by decide +kernel
theorem dX6_right_97 : decode cX6_right 97 = .ok (.invokevirtual 183, 3) := by decide +kernel
theorem dX6_right_100 : decode cX6_right 100 = .ok (.iload_n 3, 1) := by decide +kernel
theorem dX6_right_101 : decode cX6_right 101 = .ok (.iconst 2, 1) := by decide +kernel
theorem dX6_right_102 : decode cX6_right 102 = .ok (.if_icmp .ne 23, 3) := by decide +kernel
theorem dX6_right_105 : decode cX6_right 105 = .ok (.aload_n 0, 1) := by decide +kernel
theorem dX6_right_106 : decode cX6_right 106 = .ok (.getfield 32, 3) := by decide +kernel
theorem dX6_right_109 : decode cX6_right 109 = .ok (.aload_n 0, 1) := by decide +kernel
theorem dX6_right_110 : decode cX6_right 110 = .ok (.getfield 10, 3) := by decide +kernel
theorem dX6_right_113 : decode cX6_right 113 = .ok (.getfield 108, 3) := by decide +kernel
theorem dX6_right_116 : decode cX6_right 116 = .ok (.iload_n 1, 1) := by decide +kernel
theorem dX6_right_117 : decode cX6_right 117 = .ok (.iaload, 1) := by decide +kernel
theorem dX6_right_118 : decode cX6_right 118 = .ok (.i2l, 1) := by decide +kernel
theorem dX6_right_119 : decode cX6_right 119 = .ok (.invokevirtual 203, 3) := by decide +kernel
theorem dX6_right_122 : decode cX6_right 122 = .ok (.goto 11, 3) := by decide +kernel
theorem dX6_right_125 : decode cX6_right 125 = .ok (.aload_n 0, 1) := by decide +kernel
theorem dX6_right_126 : decode cX6_right 126 = .ok (.getfield 32, 3) := by decide +kernel
theorem dX6_right_129 : decode cX6_right 129 = .ok (.iload_n 3, 1) := by decide +kernel
theorem dX6_right_130 : decode cX6_right 130 = .ok (.invokevirtual 187, 3) := by decide +kernel
theorem dX6_right_133 : decode cX6_right 133 = .ok (.l2i, 1) := by decide +kernel
theorem dX6_right_134 : decode cX6_right 134 = .ok (.ireturn, 1) := by decide +kernel
set_option maxRecDepth 20000 in
theorem ggX6_sure_X6_isForetold : GoodIn wsX6_sure wsX6_isForetold := goodIn_r _ [7, 8, 9, 6, 10] (by decide +kernel) (by decide +kernel)
set_option maxRecDepth 20000 in
theorem gX6_sure_X6_isForetold : GoodIn wsX6_sure (va_wsS RX6 168 yX6_isForetold wsX6_isForetold) := goodIn_app (goodIn_of _ (by decide +kernel)) ggX6_sure_X6_isForetold
set_option maxRecDepth 20000 in
theorem ggX6_sure_X6_foretell : GoodIn wsX6_sure wsX6_foretell := goodIn_r _ [14, 2, 15, 16, 17, 18, 19, 20, 21, 22, 23, 24, 25, 26, 27, 28, 29, 30, 31, 32, 33, 34, 35, 36, 37, 38, 39, 40, 41, 42, 43, 44, 45, 46, 47, 48, 49, 50, 51, 52, 53, 54, 55, 56, 57, 58, 59, 60, 61, 62, 63, 64, 65, 66, 67, 68, 69, 70, 71, 6, 72, 8, 9, 10, 73, 74, 75, 76, 77, 78, 79, 80, 81, 82, 83, 91, 92, 93, 94, 95, 96, 97, 98, 99, 100, 101, 102, 103, 84, 85, 86, 87, 88, 89, 90] (by decide +kernel) (by decide +kernel)
set_option maxRecDepth 20000 in
theorem gX6_sure_X6_foretell : GoodIn wsX6_sure (wsV RX6 171 RX6 yX6_foretell wsX6_foretell) := goodIn_app (goodIn_of _ (by decide +kernel)) ggX6_sure_X6_foretell
theorem dX6_sure_0 : decode cX6_sure 0 = .ok (.iload_n 1, 1) := by decide +kernel
theorem dX6_sure_1 : decode cX6_sure 1 = .ok (.invokestatic 168, 3) := by decide +kernel
theorem dX6_sure_4 : decode cX6_sure 4 = .ok (.ifCond .ne 5, 3) := by decide +kernel
theorem dX6_sure_7 : decode cX6_sure 7 = .ok (.iconst (-1), 1) := by decide +kernel
theorem dX6_sure_8 : decode cX6_sure 8 = .ok (.ireturn, 1) := by decide +kernel
theorem dX6_sure_9 : decode cX6_sure 9 = .ok (.aload_n 0, 1) := by decide +kernel
theorem dX6_sure_10 : decode cX6_sure 10 = .ok (.aload_n 0, 1) := by decide +kernel
theorem dX6_sure_11 : decode cX6_sure 11 = .ok (.getfield 10, 3) := by decide +kernel
theorem dX6_sure_14 : decode cX6_sure 14 = .ok (.iload_n 1, 1) := by decide +kernel
theorem dX6_sure_15 : decode cX6_sure 15 = .ok (.invokevirtual 171, 3) := by decide +kernel
theorem dX6_sure_18 : decode cX6_sure 18 = .ok (.iconst 0, 1) := by decide +kernel
theorem dX6_sure_19 : decode cX6_sure 19 = .ok (.istore_n 2, 1) := by decide +kernel
theorem dX6_sure_20 : decode cX6_sure 20 = .ok (.iconst 0, 1) := by decide +kernel
theorem dX6_sure_21 : decode cX6_sure 21 = .ok (.istore_n 3, 1) := by decide +kernel
theorem dX6_sure_22 : decode cX6_sure 22 = .ok (.iload_n 3, 1) := by decide +kernel
theorem dX6_sure_23 : decode cX6_sure 23 = .ok (.bipush 7, 2) := by decide +kernel
theorem dX6_sure_25 : decode cX6_sure 25 = .ok (.if_icmp .ge 29, 3) := by decide +kernel
theorem dX6_sure_28 : decode cX6_sure 28 = .ok (.aload_n 0, 1) := by decide +kernel
theorem dX6_sure_29 : decode cX6_sure 29 = .ok (.getfield 25, 3) := by decide +kernel
theorem dX6_sure_32 : decode cX6_sure 32 = .ok (.getfield 175, 3) := by decide +kernel
theorem dX6_sure_35 : decode cX6_sure 35 = .ok (.iload_n 3, 1) := by decide +kernel
theorem dX6_sure_36 : decode cX6_sure 36 = .ok (.laload, 1) := by decide +kernel
theorem dX6_sure_37 : decode cX6_sure 37 = .ok (.lconst 0, 1) := by decide +kernel
theorem dX6_sure_38 : decode cX6_sure 38 = .ok (.lcmp, 1) := by decide +kernel
theorem dX6_sure_39 : decode cX6_sure 39 = .ok (.ifCond .le 9, 3) := by decide +kernel
theorem dX6_sure_42 : decode cX6_sure 42 = .ok (.iload_n 2, 1) := by decide +kernel
theorem dX6_sure_43 : decode cX6_sure 43 = .ok (.iconst 1, 1) := by decide +kernel
theorem dX6_sure_44 : decode cX6_sure 44 = .ok (.iload_n 3, 1) := by decide +kernel
theorem dX6_sure_45 : decode cX6_sure 45 = .ok (.ishl, 1) := by decide +kernel
theorem dX6_sure_46 : decode cX6_sure 46 = .ok (.ior, 1) := by decide +kernel
theorem dX6_sure_47 : decode cX6_sure 47 = .ok (.istore_n 2, 1) := by decide +kernel
theorem dX6_sure_48 : decode cX6_sure 48 = .ok (.iinc 3 1, 3) := by decide +kernel
theorem dX6_sure_51 : decode cX6_sure 51 = .ok (.goto (-29), 3) := by decide +kernel
theorem dX6_sure_54 : decode cX6_sure 54 = .ok (.iload_n 2, 1) := by decide +kernel
theorem dX6_sure_55 : decode cX6_sure 55 = .ok (.ireturn, 1) := by decide +kernel
set_option maxRecDepth 20000 in
theorem ggX6_down_X6_isAhead : GoodIn wsX6_down wsX6_isAhead := goodIn_r _ [7, 8, 9, 10, 11, 12, 6, 13, 109, 110, 111, 112, 113, 114, 115, 116, 117, 118, 119, 120, 121, 122, 123, 124, 125, 126, 127, 128, 129, 130] (by decide +kernel) (by decide +kernel)
set_option maxRecDepth 20000 in
theorem gX6_down_X6_isAhead : GoodIn wsX6_down (wsV RX6 191 RX6 yX6_isAhead wsX6_isAhead) := goodIn_app (goodIn_of _ (by decide +kernel)) ggX6_down_X6_isAhead
set_option maxRecDepth 20000 in
theorem ggX6_down_X6_isWithin : GoodIn wsX6_down wsX6_isWithin := goodIn_r _ [13] (by decide +kernel) (by decide +kernel)
set_option maxRecDepth 20000 in
theorem gX6_down_X6_isWithin : GoodIn wsX6_down (va_wsS RX6 61 yX6_isWithin wsX6_isWithin) := goodIn_app (goodIn_of _ (by decide +kernel)) ggX6_down_X6_isWithin
set_option maxRecDepth 20000 in
theorem ggX6_down_X6_hedgeToOpen : GoodIn wsX6_down wsX6_hedgeToOpen := goodIn_r _ [17, 18, 8, 9, 19, 20, 10, 21, 2, 22, 23, 24, 25, 26, 27, 28, 29, 30, 31, 32, 33, 34, 35, 36, 37, 38, 39, 40, 41, 42, 43, 44, 45, 46, 47, 48, 49, 50, 51, 52, 53, 54, 55, 56, 57, 58, 59, 60, 61, 62, 63, 64, 65, 66, 67, 68, 69, 70, 71, 72, 73, 74, 75, 76, 77, 78, 79, 80, 81, 82, 83, 84, 85, 86, 87, 88, 89, 90, 91, 92, 93, 94, 95, 96, 97, 98, 99, 100, 101, 102, 103, 104, 109, 110, 111, 112, 113, 114, 115, 116, 117, 118, 119, 120, 121, 122, 123, 124, 125, 126, 127, 128, 129, 130, 131, 132, 133, 134, 135, 136, 137, 138, 139] (by decide +kernel) (by decide +kernel)
set_option maxRecDepth 20000 in
theorem gX6_down_X6_hedgeToOpen : GoodIn wsX6_down (wsV RX6 207 RX6 yX6_hedgeToOpen wsX6_hedgeToOpen) := goodIn_app (goodIn_of _ (by decide +kernel)) ggX6_down_X6_hedgeToOpen
set_option maxRecDepth 20000 in
theorem ggX6_down_X0_told : GoodIn wsX6_down wsX0_told := goodIn_r _ [108, 90, 91, 131, 132] (by decide +kernel) (by decide +kernel)
set_option maxRecDepth 20000 in
theorem gX6_down_X0_told : GoodIn wsX6_down (wsV RX6 187 RX0 yX0_told wsX0_told) := goodIn_app (goodIn_of _ (by decide +kernel)) ggX6_down_X0_told
theorem dX6_down_0 : decode cX6_down 0 = .ok (.aload_n 0, 1) := by decide +kernel
theorem dX6_down_1 : decode cX6_down 1 = .ok (.iload_n 1, 1) := by decide +kernel
theorem dX6_down_2 : decode cX6_down 2 = .ok (.invokevirtual 191, 3) := by decide +kernel
theorem dX6_down_5 : decode cX6_down 5 = .ok (.ifCond .eq 12, 3) := by decide +kernel
theorem dX6_down_8 : decode cX6_down 8 = .ok (.iload_n 2, 1) := by decide +kernel
theorem dX6_down_9 : decode cX6_down 9 = .ok (.iconst 0, 1) := by decide +kernel
theorem dX6_down_10 : decode cX6_down 10 = .ok (.iconst 2, 1) := by decide +kernel
theorem dX6_down_11 : decode cX6_down 11 = .ok (.invokestatic 61, 3) := by decide +kernel
theorem dX6_down_14 : decode cX6_down 14 = .ok (.ifCond .ne 7, 3) := by decide +kernel
theorem dX6_down_17 : decode cX6_down 17 = .ok (.ldc2_w 194, 3) := by decide +kernel
theorem dX6_down_20 : decode cX6_down 20 = .ok (.lreturn, 1) := by decide +kernel
theorem dX6_down_21 : decode cX6_down 21 = .ok (.aload_n 0, 1) := by decide +kernel
theorem dX6_down_22 : decode cX6_down 22 = .ok (.iload_n 1, 1) := by decide +kernel
theorem dX6_down_23 : decode cX6_down 23 = .ok (.invokevirtual 207, 3) := by decide +kernel
theorem dX6_down_26 : decode cX6_down 26 = .ok (.istore_n 3, 1) := by decide +kernel
theorem dX6_down_27 : decode cX6_down 27 = .ok (.iload_n 2, 1) := by decide +kernel
theorem dX6_down_28 : decode cX6_down 28 = .ok (.ifCond .ne 8, 3) := by decide +kernel
theorem dX6_down_31 : decode cX6_down 31 = .ok (.iload_n 3, 1) := by decide +kernel
theorem dX6_down_32 : decode cX6_down 32 = .ok (.i2l, 1) := by decide +kernel
theorem dX6_down_33 : decode cX6_down 33 = .ok (.goto 13, 3) := by decide +kernel
theorem dX6_down_36 : decode cX6_down 36 = .ok (.aload_n 0, 1) := by decide +kernel
theorem dX6_down_37 : decode cX6_down 37 = .ok (.getfield 32, 3) := by decide +kernel
theorem dX6_down_40 : decode cX6_down 40 = .ok (.iload_n 2, 1) := by decide +kernel
theorem dX6_down_41 : decode cX6_down 41 = .ok (.iconst 1, 1) := by decide +kernel
theorem dX6_down_42 : decode cX6_down 42 = .ok (.isub, 1) := by decide +kernel
theorem dX6_down_43 : decode cX6_down 43 = .ok (.invokevirtual 187, 3) := by decide +kernel
theorem dX6_down_46 : decode cX6_down 46 = .ok (.lreturn, 1) := by decide +kernel
set_option maxRecDepth 20000 in
theorem ggX6_keep_X6_isWithin : GoodIn wsX6_keep wsX6_isWithin := goodIn_r _ [10] (by decide +kernel) (by decide +kernel)
set_option maxRecDepth 20000 in
theorem gX6_keep_X6_isWithin : GoodIn wsX6_keep (va_wsS RX6 61 yX6_isWithin wsX6_isWithin) := goodIn_app (goodIn_of _ (by decide +kernel)) ggX6_keep_X6_isWithin
set_option maxRecDepth 20000 in
theorem ggX6_keep_X1_takeGround : GoodIn wsX6_keep wsX1_takeGround := goodIn_r _ [15, 16, 17, 18, 19, 20, 21, 22, 23, 24, 25, 26, 27, 28, 29, 30, 31, 32, 103, 104, 105, 106, 107, 108, 109, 110, 111, 112, 113, 114, 115] (by decide +kernel) (by decide +kernel)
set_option maxRecDepth 20000 in
theorem gX6_keep_X1_takeGround : GoodIn wsX6_keep (wsV RX6 117 RX1 yX1_takeGround wsX1_takeGround) := goodIn_app (goodIn_of _ (by decide +kernel)) ggX6_keep_X1_takeGround
set_option maxRecDepth 20000 in
theorem ggX6_keep_X6_foretell : GoodIn wsX6_keep wsX6_foretell := goodIn_r _ [36, 6, 2, 3, 37, 38, 39, 40, 41, 42, 43, 44, 45, 46, 47, 14, 48, 21, 49, 16, 50, 51, 52, 53, 54, 55, 56, 57, 58, 59, 60, 61, 62, 63, 64, 65, 66, 67, 68, 69, 70, 71, 72, 73, 74, 75, 76, 77, 78, 79, 80, 18, 19, 20, 81, 82, 83, 84, 85, 9, 86, 7, 8, 10, 87, 88, 94, 95, 96, 97, 98, 99, 100, 101, 102, 103, 104, 105, 106, 107, 108, 109, 110, 111, 112, 113, 114, 115, 116, 117, 118, 119, 120, 121, 122] (by decide +kernel) (by decide +kernel)
set_option maxRecDepth 20000 in
theorem gX6_keep_X6_foretell : GoodIn wsX6_keep (wsV RX6 171 RX6 yX6_foretell wsX6_foretell) := goodIn_app (goodIn_of _ (by decide +kernel)) ggX6_keep_X6_foretell
set_option maxRecDepth 20000 in
theorem ggX6_keep_X5_isLikelyBy : GoodIn wsX6_keep wsX5_isLikelyBy := goodIn_r _ [92, 73, 93, 74, 116, 117, 118, 119, 120, 121, 122] (by decide +kernel) (by decide +kernel)
set_option maxRecDepth 20000 in
theorem gX6_keep_X5_isLikelyBy : GoodIn wsX6_keep (wsV RX6 210 RX5 yX5_isLikelyBy wsX5_isLikelyBy) := goodIn_app (goodIn_of _ (by decide +kernel)) ggX6_keep_X5_isLikelyBy
theorem dX6_keep_0 : decode cX6_keep 0 = .ok (.iload_n 1, 1) := by decide +kernel
theorem dX6_keep_1 : decode cX6_keep 1 = .ok (.iconst 1, 1) := by decide +kernel
theorem dX6_keep_2 : decode cX6_keep 2 = .ok (.bipush 9, 2) := by decide +kernel
theorem dX6_keep_4 : decode cX6_keep 4 = .ok (.invokestatic 61, 3) := by decide +kernel
theorem dX6_keep_7 : decode cX6_keep 7 = .ok (.ifCond .eq 13, 3) := by decide +kernel
theorem dX6_keep_10 : decode cX6_keep 10 = .ok (.iload_n 2, 1) := by decide +kernel
theorem dX6_keep_11 : decode cX6_keep 11 = .ok (.iconst 0, 1) := by decide +kernel
theorem dX6_keep_12 : decode cX6_keep 12 = .ok (.bipush 100, 2) := by decide +kernel
theorem dX6_keep_14 : decode cX6_keep 14 = .ok (.invokestatic 61, 3) := by decide +kernel
theorem dX6_keep_17 : decode cX6_keep 17 = .ok (.ifCond .ne 5, 3) := by decide +kernel
theorem dX6_keep_20 : decode cX6_keep 20 = .ok (.iconst (-1), 1) := by decide +kernel
theorem dX6_keep_21 : decode cX6_keep 21 = .ok (.ireturn, 1) := by decide +kernel
theorem dX6_keep_22 : decode cX6_keep 22 = .ok (.aload_n 0, 1) := by decide +kernel
theorem dX6_keep_23 : decode cX6_keep 23 = .ok (.getfield 10, 3) := by decide +kernel
theorem dX6_keep_26 : decode cX6_keep 26 = .ok (.getfield 80, 3) := by decide +kernel
theorem dX6_keep_29 : decode cX6_keep 29 = .ok (.getfield 137, 3) := by decide +kernel
theorem dX6_keep_32 : decode cX6_keep 32 = .ok (.istore_n 3, 1) := by decide +kernel
theorem dX6_keep_33 : decode cX6_keep 33 = .ok (.aload_n 0, 1) := by decide +kernel
theorem dX6_keep_34 : decode cX6_keep 34 = .ok (.getfield 19, 3) := by decide +kernel
theorem dX6_keep_37 : decode cX6_keep 37 = .ok (.aload_n 0, 1) := by decide +kernel
theorem dX6_keep_38 : decode cX6_keep 38 = .ok (.getfield 10, 3) := by decide +kernel
theorem dX6_keep_41 : decode cX6_keep 41 = .ok (.invokevirtual 117, 3) := by decide +kernel
theorem dX6_keep_44 : decode cX6_keep 44 = .ok (.iconst 0, 1) := by decide +kernel
theorem dX6_keep_45 : decode cX6_keep 45 = .ok (.istore 4, 2) := by decide +kernel
theorem dX6_keep_47 : decode cX6_keep 47 = .ok (.iload 4, 2) := by decide +kernel
theorem dX6_keep_49 : decode cX6_keep 49 = .ok (.bipush 9, 2) := by decide +kernel
theorem dX6_keep_51 : decode cX6_keep 51 = .ok (.if_icmp .gt 47, 3) := by decide +kernel
theorem dX6_keep_54 : decode cX6_keep 54 = .ok (.aload_n 0, 1) := by decide +kernel
theorem dX6_keep_55 : decode cX6_keep 55 = .ok (.getfield 19, 3) := by decide +kernel
theorem dX6_keep_58 : decode cX6_keep 58 = .ok (.getfield 80, 3) := by decide +kernel
theorem dX6_keep_61 : decode cX6_keep 61 = .ok (.getfield 84, 3) := by decide +kernel
theorem dX6_keep_64 : decode cX6_keep 64 = .ok (.iload_n 3, 1) := by decide +kernel
theorem dX6_keep_65 : decode cX6_keep 65 = .ok (.iload 4, 2) := by decide +kernel
theorem dX6_keep_67 : decode cX6_keep 67 = .ok (.iastore, 1) := by decide +kernel
theorem dX6_keep_68 : decode cX6_keep 68 = .ok (.aload_n 0, 1) := by decide +kernel
theorem dX6_keep_69 : decode cX6_keep 69 = .ok (.aload_n 0, 1) := by decide +kernel
theorem dX6_keep_70 : decode cX6_keep 70 = .ok (.getfield 19, 3) := by decide +kernel
theorem dX6_keep_73 : decode cX6_keep 73 = .ok (.iload_n 1, 1) := by decide +kernel
theorem dX6_keep_74 : decode cX6_keep 74 = .ok (.invokevirtual 171, 3) := by decide +kernel
theorem dX6_keep_77 : decode cX6_keep 77 = .ok (.aload_n 0, 1) := by decide +kernel
theorem dX6_keep_78 : decode cX6_keep 78 = .ok (.getfield 25, 3) := by decide +kernel
theorem dX6_keep_81 : decode cX6_keep 81 = .ok (.iload_n 3, 1) := by decide +kernel
theorem dX6_keep_82 : decode cX6_keep 82 = .ok (.iload_n 2, 1) := by decide +kernel
theorem dX6_keep_83 : decode cX6_keep 83 = .ok (.invokevirtual 210, 3) := by decide +kernel
theorem dX6_keep_86 : decode cX6_keep 86 = .ok (.ifCond .eq 6, 3) := by decide +kernel
theorem dX6_keep_89 : decode cX6_keep 89 = .ok (.iload 4, 2) := by decide +kernel
theorem dX6_keep_91 : decode cX6_keep 91 = .ok (.ireturn, 1) := by decide +kernel
theorem dX6_keep_92 : decode cX6_keep 92 = .ok (.iinc 4 1, 3) := by decide +kernel
theorem dX6_keep_95 : decode cX6_keep 95 = .ok (.goto (-48), 3) := by decide +kernel
theorem dX6_keep_98 : decode cX6_keep 98 = .ok (.bipush (-4), 2) := by decide +kernel
theorem dX6_keep_100 : decode cX6_keep 100 = .ok (.ireturn, 1) := by decide +kernel
set_option maxRecDepth 20000 in
theorem ggX6_early_X6_isField : GoodIn wsX6_early wsX6_isField := goodIn_r _ [6, 7, 8, 5, 9] (by decide +kernel) (by decide +kernel)
set_option maxRecDepth 20000 in
theorem gX6_early_X6_isField : GoodIn wsX6_early (va_wsS RX6 57 yX6_isField wsX6_isField) := goodIn_app (goodIn_of _ (by decide +kernel)) ggX6_early_X6_isField
set_option maxRecDepth 20000 in
theorem ggX6_early_X6_isWithin : GoodIn wsX6_early wsX6_isWithin := goodIn_r _ [9] (by decide +kernel) (by decide +kernel)
set_option maxRecDepth 20000 in
theorem gX6_early_X6_isWithin : GoodIn wsX6_early (va_wsS RX6 61 yX6_isWithin wsX6_isWithin) := goodIn_app (goodIn_of _ (by decide +kernel)) ggX6_early_X6_isWithin
set_option maxRecDepth 20000 in
theorem ggX6_early_X6_foretell : GoodIn wsX6_early wsX6_foretell := goodIn_r _ [13, 2, 14, 15, 16, 17, 18, 19, 20, 21, 22, 23, 24, 25, 26, 27, 28, 29, 30, 31, 32, 33, 34, 35, 36, 37, 38, 39, 40, 41, 42, 43, 44, 45, 46, 47, 48, 49, 50, 51, 52, 53, 54, 55, 56, 57, 58, 59, 60, 61, 62, 63, 64, 65, 66, 67, 68, 69, 4, 5, 6, 7, 8, 9, 70, 71, 77, 78, 79, 80, 81, 82, 83, 84, 85, 86, 87, 88, 89, 90, 91, 92, 93, 94, 95, 96, 97, 98, 99, 100, 101, 102, 103, 104, 105] (by decide +kernel) (by decide +kernel)
set_option maxRecDepth 20000 in
theorem gX6_early_X6_foretell : GoodIn wsX6_early (wsV RX6 171 RX6 yX6_foretell wsX6_foretell) := goodIn_app (goodIn_of _ (by decide +kernel)) ggX6_early_X6_foretell
set_option maxRecDepth 20000 in
theorem ggX6_early_X5_isLikelyBy : GoodIn wsX6_early wsX5_isLikelyBy := goodIn_r _ [75, 55, 76, 56, 99, 100, 101, 102, 103, 104, 105] (by decide +kernel) (by decide +kernel)
set_option maxRecDepth 20000 in
theorem gX6_early_X5_isLikelyBy : GoodIn wsX6_early (wsV RX6 210 RX5 yX5_isLikelyBy wsX5_isLikelyBy) := goodIn_app (goodIn_of _ (by decide +kernel)) ggX6_early_X5_isLikelyBy
theorem dX6_early_0 : decode cX6_early 0 = .ok (.iload_n 1, 1) := by decide +kernel
theorem dX6_early_1 : decode cX6_early 1 = .ok (.invokestatic 57, 3) := by decide +kernel
theorem dX6_early_4 : decode cX6_early 4 = .ok (.ifCond .eq 13, 3) := by decide +kernel
theorem dX6_early_7 : decode cX6_early 7 = .ok (.iload_n 2, 1) := by decide +kernel
theorem dX6_early_8 : decode cX6_early 8 = .ok (.iconst 0, 1) := by decide +kernel
theorem dX6_early_9 : decode cX6_early 9 = .ok (.bipush 100, 2) := by decide +kernel
theorem dX6_early_11 : decode cX6_early 11 = .ok (.invokestatic 61, 3) := by decide +kernel
theorem dX6_early_14 : decode cX6_early 14 = .ok (.ifCond .ne 5, 3) := by decide +kernel
theorem dX6_early_17 : decode cX6_early 17 = .ok (.iconst (-1), 1) := by decide +kernel
theorem dX6_early_18 : decode cX6_early 18 = .ok (.ireturn, 1) := by decide +kernel
theorem dX6_early_19 : decode cX6_early 19 = .ok (.iconst 0, 1) := by decide +kernel
theorem dX6_early_20 : decode cX6_early 20 = .ok (.istore_n 3, 1) := by decide +kernel
theorem dX6_early_21 : decode cX6_early 21 = .ok (.iload_n 3, 1) := by decide +kernel
theorem dX6_early_22 : decode cX6_early 22 = .ok (.bipush 9, 2) := by decide +kernel
theorem dX6_early_24 : decode cX6_early 24 = .ok (.if_icmp .gt 32, 3) := by decide +kernel
theorem dX6_early_27 : decode cX6_early 27 = .ok (.aload_n 0, 1) := by decide +kernel
theorem dX6_early_28 : decode cX6_early 28 = .ok (.aload_n 0, 1) := by decide +kernel
theorem dX6_early_29 : decode cX6_early 29 = .ok (.getfield 10, 3) := by decide +kernel
theorem dX6_early_32 : decode cX6_early 32 = .ok (.iload_n 3, 1) := by decide +kernel
theorem dX6_early_33 : decode cX6_early 33 = .ok (.invokevirtual 171, 3) := by decide +kernel
theorem dX6_early_36 : decode cX6_early 36 = .ok (.aload_n 0, 1) := by decide +kernel
theorem dX6_early_37 : decode cX6_early 37 = .ok (.getfield 25, 3) := by decide +kernel
theorem dX6_early_40 : decode cX6_early 40 = .ok (.iload_n 1, 1) := by decide +kernel
theorem dX6_early_41 : decode cX6_early 41 = .ok (.iload_n 2, 1) := by decide +kernel
theorem dX6_early_42 : decode cX6_early 42 = .ok (.invokevirtual 210, 3) := by decide +kernel
theorem dX6_early_45 : decode cX6_early 45 = .ok (.ifCond .eq 5, 3) := by decide +kernel
theorem dX6_early_48 : decode cX6_early 48 = .ok (.iload_n 3, 1) := by decide +kernel
theorem dX6_early_49 : decode cX6_early 49 = .ok (.ireturn, 1) := by decide +kernel
theorem dX6_early_50 : decode cX6_early 50 = .ok (.iinc 3 1, 3) := by decide +kernel
theorem dX6_early_53 : decode cX6_early 53 = .ok (.goto (-32), 3) := by decide +kernel
theorem dX6_early_56 : decode cX6_early 56 = .ok (.bipush (-4), 2) := by decide +kernel
theorem dX6_early_58 : decode cX6_early 58 = .ok (.ireturn, 1) := by decide +kernel
set_option maxRecDepth 20000 in
theorem ggX6_next_X6_isWithin : GoodIn wsX6_next wsX6_isWithin := goodIn_r _ [8] (by decide +kernel) (by decide +kernel)
set_option maxRecDepth 20000 in
theorem gX6_next_X6_isWithin : GoodIn wsX6_next (va_wsS RX6 61 yX6_isWithin wsX6_isWithin) := goodIn_app (goodIn_of _ (by decide +kernel)) ggX6_next_X6_isWithin
set_option maxRecDepth 20000 in
theorem ggX6_next_X1_takeGround : GoodIn wsX6_next wsX1_takeGround := goodIn_r _ [13, 14, 15, 16, 17, 18, 19, 20, 21, 22, 23, 24, 25, 26, 27, 28, 29, 30, 73, 74, 75, 76, 77, 78, 79, 80, 81, 82, 83, 84, 85] (by decide +kernel) (by decide +kernel)
set_option maxRecDepth 20000 in
theorem gX6_next_X1_takeGround : GoodIn wsX6_next (wsV RX6 117 RX1 yX1_takeGround wsX1_takeGround) := goodIn_app (goodIn_of _ (by decide +kernel)) ggX6_next_X1_takeGround
set_option maxRecDepth 20000 in
theorem ggX6_next_X1_passDay : GoodIn wsX6_next wsX1_passDay := goodIn_r _ [34, 19, 35, 36, 37, 38, 39, 40, 41, 42, 43, 44, 45, 46, 47, 48, 12, 49, 14, 50, 51, 52, 53, 54, 55, 56, 57, 58, 59, 60, 61, 62, 63, 73, 74, 75, 76, 77, 78, 79, 80, 81, 82, 83, 84, 85] (by decide +kernel) (by decide +kernel)
set_option maxRecDepth 20000 in
theorem gX6_next_X1_passDay : GoodIn wsX6_next (wsV RX6 153 RX1 yX1_passDay wsX1_passDay) := goodIn_app (goodIn_of _ (by decide +kernel)) ggX6_next_X1_passDay
theorem dX6_next_0 : decode cX6_next 0 = .ok (.iload_n 1, 1) := by decide +kernel
theorem dX6_next_1 : decode cX6_next 1 = .ok (.iconst 0, 1) := by decide +kernel
theorem dX6_next_2 : decode cX6_next 2 = .ok (.bipush 40, 2) := by decide +kernel
theorem dX6_next_4 : decode cX6_next 4 = .ok (.invokestatic 61, 3) := by decide +kernel
theorem dX6_next_7 : decode cX6_next 7 = .ok (.ifCond .ne 5, 3) := by decide +kernel
theorem dX6_next_10 : decode cX6_next 10 = .ok (.iconst (-1), 1) := by decide +kernel
theorem dX6_next_11 : decode cX6_next 11 = .ok (.ireturn, 1) := by decide +kernel
theorem dX6_next_12 : decode cX6_next 12 = .ok (.aload_n 0, 1) := by decide +kernel
theorem dX6_next_13 : decode cX6_next 13 = .ok (.getfield 19, 3) := by decide +kernel
theorem dX6_next_16 : decode cX6_next 16 = .ok (.aload_n 0, 1) := by decide +kernel
theorem dX6_next_17 : decode cX6_next 17 = .ok (.getfield 10, 3) := by decide +kernel
theorem dX6_next_20 : decode cX6_next 20 = .ok (.invokevirtual 117, 3) := by decide +kernel
theorem dX6_next_23 : decode cX6_next 23 = .ok (.iconst 0, 1) := by decide +kernel
theorem dX6_next_24 : decode cX6_next 24 = .ok (.istore_n 2, 1) := by decide +kernel
theorem dX6_next_25 : decode cX6_next 25 = .ok (.iload_n 2, 1) := by decide +kernel
theorem dX6_next_26 : decode cX6_next 26 = .ok (.iload_n 1, 1) := by decide +kernel
theorem dX6_next_27 : decode cX6_next 27 = .ok (.if_icmp .ge 16, 3) := by decide +kernel
theorem dX6_next_30 : decode cX6_next 30 = .ok (.aload_n 0, 1) := by decide +kernel
theorem dX6_next_31 : decode cX6_next 31 = .ok (.getfield 19, 3) := by decide +kernel
theorem dX6_next_34 : decode cX6_next 34 = .ok (.invokevirtual 153, 3) := by decide +kernel
theorem dX6_next_37 : decode cX6_next 37 = .ok (.iinc 2 1, 3) := by decide +kernel
theorem dX6_next_40 : decode cX6_next 40 = .ok (.goto (-15), 3) := by decide +kernel
theorem dX6_next_43 : decode cX6_next 43 = .ok (.aload_n 0, 1) := by decide +kernel
theorem dX6_next_44 : decode cX6_next 44 = .ok (.getfield 19, 3) := by decide +kernel
theorem dX6_next_47 : decode cX6_next 47 = .ok (.getfield 80, 3) := by decide +kernel
theorem dX6_next_50 : decode cX6_next 50 = .ok (.getfield 137, 3) := by decide +kernel
theorem dX6_next_53 : decode cX6_next 53 = .ok (.ireturn, 1) := by decide +kernel
set_option maxRecDepth 20000 in
theorem ggX6_winter_X6_isField : GoodIn wsX6_winter wsX6_isField := goodIn_r _ [11, 12, 13, 10, 14] (by decide +kernel) (by decide +kernel)
set_option maxRecDepth 20000 in
theorem gX6_winter_X6_isField : GoodIn wsX6_winter (va_wsS RX6 57 yX6_isField wsX6_isField) := goodIn_app (goodIn_of _ (by decide +kernel)) ggX6_winter_X6_isField
set_option maxRecDepth 20000 in
theorem ggX6_winter_X6_isWithin : GoodIn wsX6_winter wsX6_isWithin := goodIn_r _ [14] (by decide +kernel) (by decide +kernel)
set_option maxRecDepth 20000 in
theorem gX6_winter_X6_isWithin : GoodIn wsX6_winter (va_wsS RX6 61 yX6_isWithin wsX6_isWithin) := goodIn_app (goodIn_of _ (by decide +kernel)) ggX6_winter_X6_isWithin
set_option maxRecDepth 20000 in
theorem ggX6_winter_X5_learn : GoodIn wsX6_winter wsX5_learn := goodIn_r _ [19, 20, 21, 22, 23, 24, 25, 26, 27, 28, 29, 30, 31, 32, 33, 34, 35, 36, 37, 38, 39, 40, 41, 42, 43, 44, 45, 46, 47, 48, 49, 111, 112, 113, 114, 115, 116, 117, 98, 99, 100, 101, 102, 103, 104, 105, 106, 107, 108, 109, 110] (by decide +kernel) (by decide +kernel)
set_option maxRecDepth 20000 in
theorem gX6_winter_X5_learn : GoodIn wsX6_winter (wsV RX6 196 RX5 yX5_learn wsX5_learn) := goodIn_app (goodIn_of _ (by decide +kernel)) ggX6_winter_X5_learn
set_option maxRecDepth 20000 in
theorem ggX6_winter_X5_fallAsleep : GoodIn wsX6_winter wsX5_fallAsleep := goodIn_r _ [53, 20, 21, 22, 111, 112, 113, 114, 115, 116, 117] (by decide +kernel) (by decide +kernel)
set_option maxRecDepth 20000 in
theorem gX6_winter_X5_fallAsleep : GoodIn wsX6_winter (wsV RX6 214 RX5 yX5_fallAsleep wsX5_fallAsleep) := goodIn_app (goodIn_of _ (by decide +kernel)) ggX6_winter_X5_fallAsleep
set_option maxRecDepth 20000 in
theorem ggX6_winter_X5_spread : GoodIn wsX6_winter wsX5_spread := goodIn_r _ [57, 58, 20, 59, 60, 61, 62, 18, 63, 64, 21, 22, 65, 66, 67, 68, 69, 70, 71, 72, 9, 10, 11, 12, 13, 14, 73, 74, 111, 112, 113, 114, 115, 116, 117] (by decide +kernel) (by decide +kernel)
set_option maxRecDepth 20000 in
theorem gX6_winter_X5_spread : GoodIn wsX6_winter (wsV RX6 218 RX5 yX5_spread wsX5_spread) := goodIn_app (goodIn_of _ (by decide +kernel)) ggX6_winter_X5_spread
set_option maxRecDepth 20000 in
theorem ggX6_winter_X0_become : GoodIn wsX6_winter wsX0_become := goodIn_r _ [79, 80, 81, 82, 83, 78, 84, 118, 119] (by decide +kernel) (by decide +kernel)
set_option maxRecDepth 20000 in
theorem gX6_winter_X0_become : GoodIn wsX6_winter (wsV RX6 183 RX0 yX0_become wsX0_become) := goodIn_app (goodIn_of _ (by decide +kernel)) ggX6_winter_X0_become
set_option maxRecDepth 20000 in
theorem ggX6_winter_X0_told : GoodIn wsX6_winter wsX0_told := goodIn_r _ [88, 80, 81, 118, 119] (by decide +kernel) (by decide +kernel)
set_option maxRecDepth 20000 in
theorem gX6_winter_X0_told : GoodIn wsX6_winter (wsV RX6 187 RX0 yX0_told wsX0_told) := goodIn_app (goodIn_of _ (by decide +kernel)) ggX6_winter_X0_told
theorem dX6_winter_0 : decode cX6_winter 0 = .ok (.iload_n 1, 1) := by decide +kernel
theorem dX6_winter_1 : decode cX6_winter 1 = .ok (.invokestatic 57, 3) := by decide +kernel
theorem dX6_winter_4 : decode cX6_winter 4 = .ok (.ifCond .eq 12, 3) := by decide +kernel
theorem dX6_winter_7 : decode cX6_winter 7 = .ok (.iload_n 2, 1) := by decide +kernel
theorem dX6_winter_8 : decode cX6_winter 8 = .ok (.iconst 0, 1) := by decide +kernel
theorem dX6_winter_9 : decode cX6_winter 9 = .ok (.iconst 4, 1) := by decide +kernel
theorem dX6_winter_10 : decode cX6_winter 10 = .ok (.invokestatic 61, 3) := by decide +kernel
theorem dX6_winter_13 : decode cX6_winter 13 = .ok (.ifCond .ne 5, 3) := by decide +kernel
theorem dX6_winter_16 : decode cX6_winter 16 = .ok (.iconst (-1), 1) := by decide +kernel
theorem dX6_winter_17 : decode cX6_winter 17 = .ok (.ireturn, 1) := by decide +kernel
theorem dX6_winter_18 : decode cX6_winter 18 = .ok (.iload_n 3, 1) := by decide +kernel
theorem dX6_winter_19 : decode cX6_winter 19 = .ok (.iconst 0, 1) := by decide +kernel
theorem dX6_winter_20 : decode cX6_winter 20 = .ok (.bipush 10, 2) := by decide +kernel
theorem dX6_winter_22 : decode cX6_winter 22 = .ok (.invokestatic 61, 3) := by decide +kernel
theorem dX6_winter_25 : decode cX6_winter 25 = .ok (.ifCond .eq 13, 3) := by decide +kernel
theorem dX6_winter_28 : decode cX6_winter 28 = .ok (.iload 4, 2) := by decide +kernel
theorem dX6_winter_30 : decode cX6_winter 30 = .ok (.iconst 0, 1) := by decide +kernel
theorem dX6_winter_31 : decode cX6_winter 31 = .ok (.iconst 1, 1) := by decide +kernel
theorem dX6_winter_32 : decode cX6_winter 32 = .ok (.invokestatic 61, 3) := by decide +kernel
theorem dX6_winter_35 : decode cX6_winter 35 = .ok (.ifCond .ne 5, 3) := by decide +kernel
theorem dX6_winter_38 : decode cX6_winter 38 = .ok (.iconst (-1), 1) := by decide +kernel
theorem dX6_winter_39 : decode cX6_winter 39 = .ok (.ireturn, 1) := by decide +kernel
theorem dX6_winter_40 : decode cX6_winter 40 = .ok (.aload_n 0, 1) := by decide +kernel
theorem dX6_winter_41 : decode cX6_winter 41 = .ok (.getfield 25, 3) := by decide +kernel
theorem dX6_winter_44 : decode cX6_winter 44 = .ok (.aload_n 0, 1) := by decide +kernel
theorem dX6_winter_45 : decode cX6_winter 45 = .ok (.getfield 10, 3) := by decide +kernel
theorem dX6_winter_48 : decode cX6_winter 48 = .ok (.invokevirtual 196, 3) := by decide +kernel
theorem dX6_winter_51 : decode cX6_winter 51 = .ok (.aload_n 0, 1) := by decide +kernel
theorem dX6_winter_52 : decode cX6_winter 52 = .ok (.getfield 25, 3) := by decide +kernel
theorem dX6_winter_55 : decode cX6_winter 55 = .ok (.iload_n 3, 1) := by decide +kernel
theorem dX6_winter_56 : decode cX6_winter 56 = .ok (.invokevirtual 214, 3) := by decide +kernel
theorem dX6_winter_59 : decode cX6_winter 59 = .ok (.aload_n 0, 1) := by decide +kernel
theorem dX6_winter_60 : decode cX6_winter 60 = .ok (.getfield 25, 3) := by decide +kernel
theorem dX6_winter_63 : decode cX6_winter 63 = .ok (.aload_n 0, 1) := by decide +kernel
theorem dX6_winter_64 : decode cX6_winter 64 = .ok (.getfield 10, 3) := by decide +kernel
theorem dX6_winter_67 : decode cX6_winter 67 = .ok (.getfield 80, 3) := by decide +kernel
theorem dX6_winter_70 : decode cX6_winter 70 = .ok (.getfield 137, 3) := by decide +kernel
theorem dX6_winter_73 : decode cX6_winter 73 = .ok (.iload_n 2, 1) := by decide +kernel
theorem dX6_winter_74 : decode cX6_winter 74 = .ok (.invokevirtual 218, 3) := by decide +kernel
theorem dX6_winter_77 : decode cX6_winter 77 = .ok (.aload_n 0, 1) := by decide +kernel
theorem dX6_winter_78 : decode cX6_winter 78 = .ok (.getfield 32, 3) := by decide +kernel
theorem dX6_winter_81 : decode cX6_winter 81 = .ok (.aload_n 0, 1) := by decide +kernel
theorem dX6_winter_82 : decode cX6_winter 82 = .ok (.getfield 25, 3) := by decide +kernel
theorem dX6_winter_85 : decode cX6_winter 85 = .ok (.getfield 175, 3) := by decide +kernel
theorem dX6_winter_88 : decode cX6_winter 88 = .ok (.iload_n 1, 1) := by decide +kernel
theorem dX6_winter_89 : decode cX6_winter 89 = .ok (.laload, 1) := by decide +kernel
theorem dX6_winter_90 : decode cX6_winter 90 = .ok (.aload_n 0, 1) := by decide +kernel
theorem dX6_winter_91 : decode cX6_winter 91 = .ok (.getfield 25, 3) := by decide +kernel
theorem dX6_winter_94 : decode cX6_winter 94 = .ok (.getfield 179, 3) := by decide +kernel
theorem dX6_winter_97 : decode cX6_winter 97 = .ok (.invokevirtual 183, 3) := by decide +kernel
theorem dX6_winter_100 : decode cX6_winter 100 = .ok (.aload_n 0, 1) := by decide +kernel
theorem dX6_winter_101 : decode cX6_winter 101 = .ok (.getfield 32, 3) := by decide +kernel
theorem dX6_winter_104 : decode cX6_winter 104 = .ok (.iload 4, 2) := by decide +kernel
theorem dX6_winter_106 : decode cX6_winter 106 = .ok (.invokevirtual 187, 3) := by decide +kernel
theorem dX6_winter_109 : decode cX6_winter 109 = .ok (.l2i, 1) := by decide +kernel
theorem dX6_winter_110 : decode cX6_winter 110 = .ok (.ireturn, 1) := by decide +kernel
set_option maxRecDepth 20000 in
theorem ggX6_image_X1_takeAll : GoodIn wsX6_image wsX1_takeAll := goodIn_r _ [8, 9, 10, 11, 12, 13, 7, 14, 15, 16, 17, 18, 19, 20, 21, 22, 23, 24, 25, 26, 27, 28, 29, 30, 31, 32, 33, 34, 35, 36, 37, 38, 39, 49, 50, 51, 52, 53, 54, 55, 56, 57, 58, 59, 60, 61] (by decide +kernel) (by decide +kernel)
set_option maxRecDepth 20000 in
theorem gX6_image_X1_takeAll : GoodIn wsX6_image (wsV RX6 222 RX1 yX1_takeAll wsX1_takeAll) := goodIn_app (goodIn_of _ (by decide +kernel)) ggX6_image_X1_takeAll
theorem dX6_image_0 : decode cX6_image 0 = .ok (.aload_n 0, 1) := by decide +kernel
theorem dX6_image_1 : decode cX6_image 1 = .ok (.getfield 16, 3) := by decide +kernel
theorem dX6_image_4 : decode cX6_image 4 = .ok (.aload_n 0, 1) := by decide +kernel
theorem dX6_image_5 : decode cX6_image 5 = .ok (.getfield 10, 3) := by decide +kernel
theorem dX6_image_8 : decode cX6_image 8 = .ok (.invokevirtual 222, 3) := by decide +kernel
theorem dX6_image_11 : decode cX6_image 11 = .ok (.aload_n 0, 1) := by decide +kernel
theorem dX6_image_12 : decode cX6_image 12 = .ok (.iconst 1, 1) := by decide +kernel
theorem dX6_image_13 : decode cX6_image 13 = .ok (.putfield 53, 3) := by decide +kernel
theorem dX6_image_16 : decode cX6_image 16 = .ok (.iconst 1, 1) := by decide +kernel
theorem dX6_image_17 : decode cX6_image 17 = .ok (.ireturn, 1) := by decide +kernel
set_option maxRecDepth 20000 in
theorem ggX6_restore_X1_takeAll : GoodIn wsX6_restore wsX1_takeAll := goodIn_r _ [8, 9, 10, 11, 12, 13, 7, 14, 15, 16, 17, 18, 19, 20, 21, 22, 23, 24, 25, 26, 27, 28, 29, 30, 31, 32, 33, 34, 35, 36, 37, 38, 39, 49, 50, 51, 52, 53, 54, 55, 56, 57, 58, 59, 60, 61] (by decide +kernel) (by decide +kernel)
set_option maxRecDepth 20000 in
theorem gX6_restore_X1_takeAll : GoodIn wsX6_restore (wsV RX6 222 RX1 yX1_takeAll wsX1_takeAll) := goodIn_app (goodIn_of _ (by decide +kernel)) ggX6_restore_X1_takeAll
theorem dX6_restore_0 : decode cX6_restore 0 = .ok (.aload_n 0, 1) := by decide +kernel
theorem dX6_restore_1 : decode cX6_restore 1 = .ok (.getfield 53, 3) := by decide +kernel
theorem dX6_restore_4 : decode cX6_restore 4 = .ok (.ifCond .ne 6, 3) := by decide +kernel
theorem dX6_restore_7 : decode cX6_restore 7 = .ok (.bipush (-4), 2) := by decide +kernel
theorem dX6_restore_9 : decode cX6_restore 9 = .ok (.ireturn, 1) := by decide +kernel
theorem dX6_restore_10 : decode cX6_restore 10 = .ok (.aload_n 0, 1) := by decide +kernel
theorem dX6_restore_11 : decode cX6_restore 11 = .ok (.getfield 10, 3) := by decide +kernel
theorem dX6_restore_14 : decode cX6_restore 14 = .ok (.aload_n 0, 1) := by decide +kernel
theorem dX6_restore_15 : decode cX6_restore 15 = .ok (.getfield 16, 3) := by decide +kernel
theorem dX6_restore_18 : decode cX6_restore 18 = .ok (.invokevirtual 222, 3) := by decide +kernel
theorem dX6_restore_21 : decode cX6_restore 21 = .ok (.iconst 1, 1) := by decide +kernel
theorem dX6_restore_22 : decode cX6_restore 22 = .ok (.ireturn, 1) := by decide +kernel
set_option maxRecDepth 20000 in
theorem ggX6_seen_X6_isSheet : GoodIn wsX6_seen wsX6_isSheet := goodIn_r _ [11, 12, 13, 10, 14] (by decide +kernel) (by decide +kernel)
set_option maxRecDepth 20000 in
theorem gX6_seen_X6_isSheet : GoodIn wsX6_seen (va_wsS RX6 225 yX6_isSheet wsX6_isSheet) := goodIn_app (goodIn_of _ (by decide +kernel)) ggX6_seen_X6_isSheet
set_option maxRecDepth 20000 in
theorem ggX6_seen_X6_isLane : GoodIn wsX6_seen wsX6_isLane := goodIn_r _ [17, 12, 13, 10, 14] (by decide +kernel) (by decide +kernel)
set_option maxRecDepth 20000 in
theorem gX6_seen_X6_isLane : GoodIn wsX6_seen (va_wsS RX6 228 yX6_isLane wsX6_isLane) := goodIn_app (goodIn_of _ (by decide +kernel)) ggX6_seen_X6_isLane
set_option maxRecDepth 20000 in
theorem ggX6_seen_X6_isWithin : GoodIn wsX6_seen wsX6_isWithin := goodIn_r _ [14] (by decide +kernel) (by decide +kernel)
set_option maxRecDepth 20000 in
theorem gX6_seen_X6_isWithin : GoodIn wsX6_seen (va_wsS RX6 61 yX6_isWithin wsX6_isWithin) := goodIn_app (goodIn_of _ (by decide +kernel)) ggX6_seen_X6_isWithin
set_option maxRecDepth 20000 in
theorem ggX6_seen_X4_refusal : GoodIn wsX6_seen wsX4_refusal := goodIn_r _ [22, 23, 24, 25, 26, 27, 21, 28, 29, 124, 125, 126, 127] (by decide +kernel) (by decide +kernel)
set_option maxRecDepth 20000 in
theorem gX6_seen_X4_refusal : GoodIn wsX6_seen (wsV RX6 231 RX4 yX4_refusal wsX4_refusal) := goodIn_app (goodIn_of _ (by decide +kernel)) ggX6_seen_X4_refusal
set_option maxRecDepth 20000 in
theorem ggX6_seen_X5_learn : GoodIn wsX6_seen wsX5_learn := goodIn_r _ [34, 35, 36, 37, 38, 39, 40, 41, 42, 43, 44, 45, 46, 47, 48, 49, 50, 51, 52, 53, 54, 55, 56, 57, 58, 59, 60, 61, 62, 63, 64, 128, 129, 130, 131, 132, 133, 134, 111, 112, 113, 114, 115, 116, 117, 118, 119, 120, 121, 122, 123] (by decide +kernel) (by decide +kernel)
set_option maxRecDepth 20000 in
theorem gX6_seen_X5_learn : GoodIn wsX6_seen (wsV RX6 196 RX5 yX5_learn wsX5_learn) := goodIn_app (goodIn_of _ (by decide +kernel)) ggX6_seen_X5_learn
set_option maxRecDepth 20000 in
theorem ggX6_seen_X6_fieldsBefore : GoodIn wsX6_seen wsX6_fieldsBefore := goodIn_r _ [68, 69, 70, 71, 10, 72, 2, 73, 74, 75, 21, 76, 77, 78, 79, 80, 81, 33, 82, 35, 36, 37, 83, 84, 12, 13, 14, 102, 103, 104, 105, 106, 107, 108, 109, 110, 124, 125, 126, 127, 128, 129, 130, 131, 132, 133, 134] (by decide +kernel) (by decide +kernel)
set_option maxRecDepth 20000 in
theorem gX6_seen_X6_fieldsBefore : GoodIn wsX6_seen (wsV RX6 235 RX6 yX6_fieldsBefore wsX6_fieldsBefore) := goodIn_app (goodIn_of _ (by decide +kernel)) ggX6_seen_X6_fieldsBefore
set_option maxRecDepth 20000 in
theorem ggX6_seen_X6_weightOf : GoodIn wsX6_seen wsX6_weightOf := goodIn_r _ [72, 2, 73, 74, 75, 21, 76, 77, 78, 79, 80, 81, 33, 82, 35, 36, 37, 83, 10, 84, 12, 13, 14, 102, 103, 104, 105, 106, 107, 108, 109, 110, 124, 125, 126, 127, 128, 129, 130, 131, 132, 133, 134] (by decide +kernel) (by decide +kernel)
set_option maxRecDepth 20000 in
theorem gX6_seen_X6_weightOf : GoodIn wsX6_seen (wsV RX6 239 RX6 yX6_weightOf wsX6_weightOf) := goodIn_app (goodIn_of _ (by decide +kernel)) ggX6_seen_X6_weightOf
set_option maxRecDepth 20000 in
theorem ggX6_seen_X6_power : GoodIn wsX6_seen wsX6_power := goodIn_r _ [87] (by decide +kernel) (by decide +kernel)
set_option maxRecDepth 20000 in
theorem gX6_seen_X6_power : GoodIn wsX6_seen (va_wsS RX6 245 yX6_power wsX6_power) := goodIn_app (goodIn_of _ (by decide +kernel)) ggX6_seen_X6_power
set_option maxRecDepth 20000 in
theorem ggX6_seen_X0_become : GoodIn wsX6_seen wsX0_become := goodIn_r _ [92, 93, 94, 95, 96, 91, 97, 135, 136] (by decide +kernel) (by decide +kernel)
set_option maxRecDepth 20000 in
theorem gX6_seen_X0_become : GoodIn wsX6_seen (wsV RX6 183 RX0 yX0_become wsX0_become) := goodIn_app (goodIn_of _ (by decide +kernel)) ggX6_seen_X0_become
set_option maxRecDepth 20000 in
theorem ggX6_seen_X0_told : GoodIn wsX6_seen wsX0_told := goodIn_r _ [101, 93, 94, 135, 136] (by decide +kernel) (by decide +kernel)
set_option maxRecDepth 20000 in
theorem gX6_seen_X0_told : GoodIn wsX6_seen (wsV RX6 187 RX0 yX0_told wsX0_told) := goodIn_app (goodIn_of _ (by decide +kernel)) ggX6_seen_X0_told
theorem dX6_seen_0 : decode cX6_seen 0 = .ok (.iload_n 1, 1) := by decide +kernel
theorem dX6_seen_1 : decode cX6_seen 1 = .ok (.invokestatic 225, 3) := by decide +kernel
theorem dX6_seen_4 : decode cX6_seen 4 = .ok (.ifCond .eq 31, 3) := by decide +kernel
theorem dX6_seen_7 : decode cX6_seen 7 = .ok (.iload_n 2, 1) := by decide +kernel
theorem dX6_seen_8 : decode cX6_seen 8 = .ok (.invokestatic 228, 3) := by decide +kernel
theorem dX6_seen_11 : decode cX6_seen 11 = .ok (.ifCond .eq 24, 3) := by decide +kernel
theorem dX6_seen_14 : decode cX6_seen 14 = .ok (.iload 4, 2) := by decide +kernel
theorem dX6_seen_16 : decode cX6_seen 16 = .ok (.iconst 1, 1) := by decide +kernel
theorem dX6_seen_17 : decode cX6_seen 17 = .ok (.bipush 8, 2) := by decide +kernel
theorem dX6_seen_19 : decode cX6_seen 19 = .ok (.invokestatic 61, 3) := by decide +kernel
theorem dX6_seen_22 : decode cX6_seen 22 = .ok (.ifCond .eq 13, 3) := by decide +kernel
theorem dX6_seen_25 : decode cX6_seen 25 = .ok (.iload 5, 2) := by decide +kernel
theorem dX6_seen_27 : decode cX6_seen 27 = .ok (.iconst 0, 1) := by decide +kernel
theorem dX6_seen_28 : decode cX6_seen 28 = .ok (.iconst 2, 1) := by decide +kernel
theorem dX6_seen_29 : decode cX6_seen 29 = .ok (.invokestatic 61, 3) := by decide +kernel
theorem dX6_seen_32 : decode cX6_seen 32 = .ok (.ifCond .ne 5, 3) := by decide +kernel
theorem dX6_seen_35 : decode cX6_seen 35 = .ok (.iconst (-1), 1) := by decide +kernel
theorem dX6_seen_36 : decode cX6_seen 36 = .ok (.ireturn, 1) := by decide +kernel
theorem dX6_seen_37 : decode cX6_seen 37 = .ok (.aload_n 0, 1) := by decide +kernel
theorem dX6_seen_38 : decode cX6_seen 38 = .ok (.getfield 48, 3) := by decide +kernel
theorem dX6_seen_41 : decode cX6_seen 41 = .ok (.iload_n 1, 1) := by decide +kernel
theorem dX6_seen_42 : decode cX6_seen 42 = .ok (.aaload, 1) := by decide +kernel
theorem dX6_seen_43 : decode cX6_seen 43 = .ok (.astore 6, 2) := by decide +kernel
theorem dX6_seen_45 : decode cX6_seen 45 = .ok (.aload 6, 2) := by decide +kernel
theorem dX6_seen_47 : decode cX6_seen 47 = .ok (.iload_n 2, 1) := by decide +kernel
theorem dX6_seen_48 : decode cX6_seen 48 = .ok (.iload_n 3, 1) := by decide +kernel
theorem dX6_seen_49 : decode cX6_seen 49 = .ok (.iload 4, 2) := by decide +kernel
theorem dX6_seen_51 : decode cX6_seen 51 = .ok (.invokevirtual 231, 3) := by decide +kernel
theorem dX6_seen_54 : decode cX6_seen 54 = .ok (.istore 7, 2) := by decide +kernel
theorem dX6_seen_56 : decode cX6_seen 56 = .ok (.iload 7, 2) := by decide +kernel
theorem dX6_seen_58 : decode cX6_seen 58 = .ok (.ifCond .eq 6, 3) := by decide +kernel
theorem dX6_seen_61 : decode cX6_seen 61 = .ok (.iload 7, 2) := by decide +kernel
theorem dX6_seen_63 : decode cX6_seen 63 = .ok (.ireturn, 1) := by decide +kernel
theorem dX6_seen_64 : decode cX6_seen 64 = .ok (.aload_n 0, 1) := by decide +kernel
theorem dX6_seen_65 : decode cX6_seen 65 = .ok (.getfield 25, 3) := by decide +kernel
theorem dX6_seen_68 : decode cX6_seen 68 = .ok (.aload_n 0, 1) := by decide +kernel
theorem dX6_seen_69 : decode cX6_seen 69 = .ok (.getfield 10, 3) := by decide +kernel
theorem dX6_seen_72 : decode cX6_seen 72 = .ok (.invokevirtual 196, 3) := by decide +kernel
theorem dX6_seen_75 : decode cX6_seen 75 = .ok (.iload 5, 2) := by decide +kernel
theorem dX6_seen_77 : decode cX6_seen 77 = .ok (.iconst 2, 1) := by decide +kernel
theorem dX6_seen_78 : decode cX6_seen 78 = .ok (.if_icmp .ne 13, 3) := by decide +kernel
theorem dX6_seen_81 : decode cX6_seen 81 = .ok (.aload_n 0, 1) := by decide +kernel
theorem dX6_seen_82 : decode cX6_seen 82 = .ok (.aload 6, 2) := by decide +kernel
theorem dX6_seen_84 : decode cX6_seen 84 = .ok (.iload_n 3, 1) := by decide +kernel
theorem dX6_seen_85 : decode cX6_seen 85 = .ok (.iload 4, 2) := by decide +kernel
theorem dX6_seen_87 : decode cX6_seen 87 = .ok (.invokevirtual 235, 3) := by decide +kernel
theorem dX6_seen_90 : decode cX6_seen 90 = .ok (.ireturn, 1) := by decide +kernel
theorem dX6_seen_91 : decode cX6_seen 91 = .ok (.aload_n 0, 1) := by decide +kernel
theorem dX6_seen_92 : decode cX6_seen 92 = .ok (.getfield 32, 3) := by decide +kernel
theorem dX6_seen_95 : decode cX6_seen 95 = .ok (.aload_n 0, 1) := by decide +kernel
theorem dX6_seen_96 : decode cX6_seen 96 = .ok (.aload_n 0, 1) := by decide +kernel
theorem dX6_seen_97 : decode cX6_seen 97 = .ok (.getfield 10, 3) := by decide +kernel
theorem dX6_seen_100 : decode cX6_seen 100 = .ok (.getfield 80, 3) := by decide +kernel
theorem dX6_seen_103 : decode cX6_seen 103 = .ok (.getfield 137, 3) := by decide +kernel
theorem dX6_seen_106 : decode cX6_seen 106 = .ok (.aload 6, 2) := by decide +kernel
theorem dX6_seen_108 : decode cX6_seen 108 = .ok (.iload_n 3, 1) := by decide +kernel
theorem dX6_seen_109 : decode cX6_seen 109 = .ok (.iload 4, 2) := by decide +kernel
theorem dX6_seen_111 : decode cX6_seen 111 = .ok (.invokevirtual 239, 3) := by decide +kernel
theorem dX6_seen_114 : decode cX6_seen 114 = .ok (.ldc2_w 243, 3) := by decide +kernel
theorem dX6_seen_117 : decode cX6_seen 117 = .ok (.iload 4, 2) := by decide +kernel
theorem dX6_seen_119 : decode cX6_seen 119 = .ok (.invokestatic 245, 3) := by decide +kernel
theorem dX6_seen_122 : decode cX6_seen 122 = .ok (.invokevirtual 183, 3) := by decide +kernel
theorem dX6_seen_125 : decode cX6_seen 125 = .ok (.aload_n 0, 1) := by decide +kernel
theorem dX6_seen_126 : decode cX6_seen 126 = .ok (.getfield 32, 3) := by decide +kernel
theorem dX6_seen_129 : decode cX6_seen 129 = .ok (.iload 5, 2) := by decide +kernel
theorem dX6_seen_131 : decode cX6_seen 131 = .ok (.invokevirtual 187, 3) := by decide +kernel
theorem dX6_seen_134 : decode cX6_seen 134 = .ok (.l2i, 1) := by decide +kernel
theorem dX6_seen_135 : decode cX6_seen 135 = .ok (.ireturn, 1) := by decide +kernel
set_option maxRecDepth 20000 in
theorem ggX6_bore_X6_isField : GoodIn wsX6_bore wsX6_isField := goodIn_r _ [5, 6, 7, 4, 8] (by decide +kernel) (by decide +kernel)
set_option maxRecDepth 20000 in
theorem gX6_bore_X6_isField : GoodIn wsX6_bore (va_wsS RX6 57 yX6_isField wsX6_isField) := goodIn_app (goodIn_of _ (by decide +kernel)) ggX6_bore_X6_isField
set_option maxRecDepth 20000 in
theorem ggX6_bore_X6_isSheet : GoodIn wsX6_bore wsX6_isSheet := goodIn_r _ [11, 6, 7, 4, 8] (by decide +kernel) (by decide +kernel)
set_option maxRecDepth 20000 in
theorem gX6_bore_X6_isSheet : GoodIn wsX6_bore (va_wsS RX6 225 yX6_isSheet wsX6_isSheet) := goodIn_app (goodIn_of _ (by decide +kernel)) ggX6_bore_X6_isSheet
set_option maxRecDepth 20000 in
theorem ggX6_bore_X6_isLane : GoodIn wsX6_bore wsX6_isLane := goodIn_r _ [14, 6, 7, 4, 8] (by decide +kernel) (by decide +kernel)
set_option maxRecDepth 20000 in
theorem gX6_bore_X6_isLane : GoodIn wsX6_bore (va_wsS RX6 228 yX6_isLane wsX6_isLane) := goodIn_app (goodIn_of _ (by decide +kernel)) ggX6_bore_X6_isLane
set_option maxRecDepth 20000 in
theorem ggX6_bore_X6_isWithin : GoodIn wsX6_bore wsX6_isWithin := goodIn_r _ [8] (by decide +kernel) (by decide +kernel)
set_option maxRecDepth 20000 in
theorem gX6_bore_X6_isWithin : GoodIn wsX6_bore (va_wsS RX6 61 yX6_isWithin wsX6_isWithin) := goodIn_app (goodIn_of _ (by decide +kernel)) ggX6_bore_X6_isWithin
set_option maxRecDepth 20000 in
theorem ggX6_bore_X4_refusal : GoodIn wsX6_bore wsX4_refusal := goodIn_r _ [19, 20, 21, 22, 23, 24, 18, 25, 26, 115, 116, 117, 118] (by decide +kernel) (by decide +kernel)
set_option maxRecDepth 20000 in
theorem gX6_bore_X4_refusal : GoodIn wsX6_bore (wsV RX6 231 RX4 yX4_refusal wsX4_refusal) := goodIn_app (goodIn_of _ (by decide +kernel)) ggX6_bore_X4_refusal
set_option maxRecDepth 20000 in
theorem ggX6_bore_X6_kindsFor : GoodIn wsX6_bore wsX6_kindsFor := goodIn_r _ [30, 31, 32, 33, 34, 35, 36, 37, 38, 39, 40, 41, 42, 43, 44, 45, 46, 47, 48, 49, 50, 51, 52, 53, 54, 55, 56, 57, 58, 4, 59, 60, 61, 62, 63, 64, 65, 66, 67, 68, 69, 70, 71, 72, 73, 74, 75, 76, 77, 78, 79, 80, 81, 82, 83, 84, 85, 86, 87, 88, 89, 90, 91, 92, 93, 94, 95, 96, 97, 18, 98, 99, 100, 106, 107, 108, 109, 110, 111, 112, 113, 114, 119, 120, 121, 122, 123, 124, 125, 126, 127, 128, 129, 130, 131, 115, 116, 117, 118] (by decide +kernel) (by decide +kernel)
set_option maxRecDepth 20000 in
theorem gX6_bore_X6_kindsFor : GoodIn wsX6_bore (wsV RX6 249 RX6 yX6_kindsFor wsX6_kindsFor) := goodIn_app (goodIn_of _ (by decide +kernel)) ggX6_bore_X6_kindsFor
set_option maxRecDepth 20000 in
theorem ggX6_bore_X6_foodsFor : GoodIn wsX6_bore wsX6_foodsFor := goodIn_r _ [104, 31, 32, 60, 105, 34, 35, 36, 37, 38, 39, 40, 41, 42, 43, 44, 45, 46, 47, 48, 49, 50, 51, 52, 53, 54, 55, 56, 57, 58, 4, 59, 61, 62, 63, 64, 65, 66, 67, 68, 69, 70, 71, 72, 73, 74, 75, 76, 77, 78, 79, 80, 81, 82, 83, 84, 85, 86, 87, 88, 89, 90, 91, 92, 93, 94, 95, 96, 97, 18, 98, 99, 100, 106, 107, 108, 109, 110, 111, 112, 113, 114, 119, 120, 121, 122, 123, 124, 125, 126, 127, 128, 129, 130, 131, 115, 116, 117, 118] (by decide +kernel) (by decide +kernel)
set_option maxRecDepth 20000 in
theorem gX6_bore_X6_foodsFor : GoodIn wsX6_bore (wsV RX6 253 RX6 yX6_foodsFor wsX6_foodsFor) := goodIn_app (goodIn_of _ (by decide +kernel)) ggX6_bore_X6_foodsFor
theorem dX6_bore_0 : decode cX6_bore 0 = .ok (.iload_n 1, 1) := by decide +kernel
theorem dX6_bore_1 : decode cX6_bore 1 = .ok (.invokestatic 57, 3) := by decide +kernel
theorem dX6_bore_4 : decode cX6_bore 4 = .ok (.ifCond .eq 17, 3) := by decide +kernel
theorem dX6_bore_7 : decode cX6_bore 7 = .ok (.iload_n 2, 1) := by decide +kernel
theorem dX6_bore_8 : decode cX6_bore 8 = .ok (.invokestatic 225, 3) := by decide +kernel
theorem dX6_bore_11 : decode cX6_bore 11 = .ok (.ifCond .eq 10, 3) := by decide +kernel
theorem dX6_bore_14 : decode cX6_bore 14 = .ok (.iload_n 3, 1) := by decide +kernel
theorem dX6_bore_15 : decode cX6_bore 15 = .ok (.invokestatic 228, 3) := by decide +kernel
theorem dX6_bore_18 : decode cX6_bore 18 = .ok (.ifCond .ne 5, 3) := by decide +kernel
theorem dX6_bore_21 : decode cX6_bore 21 = .ok (.iconst (-1), 1) := by decide +kernel
theorem dX6_bore_22 : decode cX6_bore 22 = .ok (.ireturn, 1) := by decide +kernel
theorem dX6_bore_23 : decode cX6_bore 23 = .ok (.iload 5, 2) := by decide +kernel
theorem dX6_bore_25 : decode cX6_bore 25 = .ok (.iconst 1, 1) := by decide +kernel
theorem dX6_bore_26 : decode cX6_bore 26 = .ok (.bipush 8, 2) := by decide +kernel
theorem dX6_bore_28 : decode cX6_bore 28 = .ok (.invokestatic 61, 3) := by decide +kernel
theorem dX6_bore_31 : decode cX6_bore 31 = .ok (.ifCond .eq 13, 3) := by decide +kernel
theorem dX6_bore_34 : decode cX6_bore 34 = .ok (.iload 6, 2) := by decide +kernel
theorem dX6_bore_36 : decode cX6_bore 36 = .ok (.iconst 0, 1) := by decide +kernel
theorem dX6_bore_37 : decode cX6_bore 37 = .ok (.iconst 1, 1) := by decide +kernel
theorem dX6_bore_38 : decode cX6_bore 38 = .ok (.invokestatic 61, 3) := by decide +kernel
theorem dX6_bore_41 : decode cX6_bore 41 = .ok (.ifCond .ne 5, 3) := by decide +kernel
theorem dX6_bore_44 : decode cX6_bore 44 = .ok (.iconst (-1), 1) := by decide +kernel
theorem dX6_bore_45 : decode cX6_bore 45 = .ok (.ireturn, 1) := by decide +kernel
theorem dX6_bore_46 : decode cX6_bore 46 = .ok (.aload_n 0, 1) := by decide +kernel
theorem dX6_bore_47 : decode cX6_bore 47 = .ok (.getfield 48, 3) := by decide +kernel
theorem dX6_bore_50 : decode cX6_bore 50 = .ok (.iload_n 2, 1) := by decide +kernel
theorem dX6_bore_51 : decode cX6_bore 51 = .ok (.aaload, 1) := by decide +kernel
theorem dX6_bore_52 : decode cX6_bore 52 = .ok (.astore 7, 2) := by decide +kernel
theorem dX6_bore_54 : decode cX6_bore 54 = .ok (.aload 7, 2) := by decide +kernel
theorem dX6_bore_56 : decode cX6_bore 56 = .ok (.iload_n 3, 1) := by decide +kernel
theorem dX6_bore_57 : decode cX6_bore 57 = .ok (.iload 4, 2) := by decide +kernel
theorem dX6_bore_59 : decode cX6_bore 59 = .ok (.iload 5, 2) := by decide +kernel
theorem dX6_bore_61 : decode cX6_bore 61 = .ok (.invokevirtual 231, 3) := by decide +kernel
theorem dX6_bore_64 : decode cX6_bore 64 = .ok (.istore 8, 2) := by decide +kernel
theorem dX6_bore_66 : decode cX6_bore 66 = .ok (.iload 8, 2) := by decide +kernel
theorem dX6_bore_68 : decode cX6_bore 68 = .ok (.ifCond .eq 6, 3) := by decide +kernel
theorem dX6_bore_71 : decode cX6_bore 71 = .ok (.iload 8, 2) := by decide +kernel
theorem dX6_bore_73 : decode cX6_bore 73 = .ok (.ireturn, 1) := by decide +kernel
theorem dX6_bore_74 : decode cX6_bore 74 = .ok (.iload 6, 2) := by decide +kernel
theorem dX6_bore_76 : decode cX6_bore 76 = .ok (.ifCond .ne 17, 3) := by decide +kernel
theorem dX6_bore_79 : decode cX6_bore 79 = .ok (.aload_n 0, 1) := by decide +kernel
theorem dX6_bore_80 : decode cX6_bore 80 = .ok (.iload_n 1, 1) := by decide +kernel
theorem dX6_bore_81 : decode cX6_bore 81 = .ok (.aload 7, 2) := by decide +kernel
theorem dX6_bore_83 : decode cX6_bore 83 = .ok (.iload 4, 2) := by decide +kernel
theorem dX6_bore_85 : decode cX6_bore 85 = .ok (.iload 5, 2) := by decide +kernel
theorem dX6_bore_87 : decode cX6_bore 87 = .ok (.invokevirtual 249, 3) := by decide +kernel
theorem dX6_bore_90 : decode cX6_bore 90 = .ok (.goto 14, 3) := by decide +kernel
theorem dX6_bore_93 : decode cX6_bore 93 = .ok (.aload_n 0, 1) := by decide +kernel
theorem dX6_bore_94 : decode cX6_bore 94 = .ok (.iload_n 1, 1) := by decide +kernel
theorem dX6_bore_95 : decode cX6_bore 95 = .ok (.aload 7, 2) := by decide +kernel
theorem dX6_bore_97 : decode cX6_bore 97 = .ok (.iload 4, 2) := by decide +kernel
theorem dX6_bore_99 : decode cX6_bore 99 = .ok (.iload 5, 2) := by decide +kernel
theorem dX6_bore_101 : decode cX6_bore 101 = .ok (.invokevirtual 253, 3) := by decide +kernel
theorem dX6_bore_104 : decode cX6_bore 104 = .ok (.ireturn, 1) := by decide +kernel
set_option maxRecDepth 20000 in
theorem ggX6_film_X6_isWithin : GoodIn wsX6_film wsX6_isWithin := goodIn_r _ [9] (by decide +kernel) (by decide +kernel)
set_option maxRecDepth 20000 in
theorem gX6_film_X6_isWithin : GoodIn wsX6_film (va_wsS RX6 61 yX6_isWithin wsX6_isWithin) := goodIn_app (goodIn_of _ (by decide +kernel)) ggX6_film_X6_isWithin
set_option maxRecDepth 20000 in
theorem ggX6_film_X6_isSheet : GoodIn wsX6_film wsX6_isSheet := goodIn_r _ [12, 6, 7, 8, 9] (by decide +kernel) (by decide +kernel)
set_option maxRecDepth 20000 in
theorem gX6_film_X6_isSheet : GoodIn wsX6_film (va_wsS RX6 225 yX6_isSheet wsX6_isSheet) := goodIn_app (goodIn_of _ (by decide +kernel)) ggX6_film_X6_isSheet
set_option maxRecDepth 20000 in
theorem ggX6_film_X6_isLane : GoodIn wsX6_film wsX6_isLane := goodIn_r _ [15, 6, 7, 8, 9] (by decide +kernel) (by decide +kernel)
set_option maxRecDepth 20000 in
theorem gX6_film_X6_isLane : GoodIn wsX6_film (va_wsS RX6 228 yX6_isLane wsX6_isLane) := goodIn_app (goodIn_of _ (by decide +kernel)) ggX6_film_X6_isLane
set_option maxRecDepth 20000 in
theorem ggX6_film_X4_refusal : GoodIn wsX6_film wsX4_refusal := goodIn_r _ [20, 21, 22, 23, 24, 25, 19, 26, 27, 110, 111, 112, 113] (by decide +kernel) (by decide +kernel)
set_option maxRecDepth 20000 in
theorem gX6_film_X4_refusal : GoodIn wsX6_film (wsV RX6 231 RX4 yX4_refusal wsX4_refusal) := goodIn_app (goodIn_of _ (by decide +kernel)) ggX6_film_X4_refusal
set_option maxRecDepth 20000 in
theorem ggX6_film_X1_takeGround : GoodIn wsX6_film wsX1_takeGround := goodIn_r _ [32, 33, 34, 35, 36, 37, 38, 39, 40, 41, 42, 43, 44, 45, 46, 47, 48, 49, 97, 98, 99, 100, 101, 102, 103, 104, 105, 106, 107, 108, 109] (by decide +kernel) (by decide +kernel)
set_option maxRecDepth 20000 in
theorem gX6_film_X1_takeGround : GoodIn wsX6_film (wsV RX6 117 RX1 yX1_takeGround wsX1_takeGround) := goodIn_app (goodIn_of _ (by decide +kernel)) ggX6_film_X1_takeGround
set_option maxRecDepth 20000 in
theorem ggX6_film_X1_passDay : GoodIn wsX6_film wsX1_passDay := goodIn_r _ [53, 38, 54, 55, 56, 57, 58, 59, 60, 61, 62, 63, 64, 65, 66, 67, 31, 68, 33, 69, 70, 71, 72, 73, 74, 75, 76, 77, 78, 79, 80, 81, 82, 97, 98, 99, 100, 101, 102, 103, 104, 105, 106, 107, 108, 109] (by decide +kernel) (by decide +kernel)
set_option maxRecDepth 20000 in
theorem gX6_film_X1_passDay : GoodIn wsX6_film (wsV RX6 153 RX1 yX1_passDay wsX1_passDay) := goodIn_app (goodIn_of _ (by decide +kernel)) ggX6_film_X1_passDay
set_option maxRecDepth 20000 in
theorem ggX6_film_X4_put : GoodIn wsX6_film wsX4_put := goodIn_r _ [86, 22, 87, 110, 111, 112, 113] (by decide +kernel) (by decide +kernel)
set_option maxRecDepth 20000 in
theorem gX6_film_X4_put : GoodIn wsX6_film (wsV RX6 256 RX4 yX4_put wsX4_put) := goodIn_app (goodIn_of _ (by decide +kernel)) ggX6_film_X4_put
theorem dX6_film_0 : decode cX6_film 0 = .ok (.iload_n 1, 1) := by decide +kernel
theorem dX6_film_1 : decode cX6_film 1 = .ok (.iconst 1, 1) := by decide +kernel
theorem dX6_film_2 : decode cX6_film 2 = .ok (.bipush 24, 2) := by decide +kernel
theorem dX6_film_4 : decode cX6_film 4 = .ok (.invokestatic 61, 3) := by decide +kernel
theorem dX6_film_7 : decode cX6_film 7 = .ok (.ifCond .eq 17, 3) := by decide +kernel
theorem dX6_film_10 : decode cX6_film 10 = .ok (.iload_n 2, 1) := by decide +kernel
theorem dX6_film_11 : decode cX6_film 11 = .ok (.invokestatic 225, 3) := by decide +kernel
theorem dX6_film_14 : decode cX6_film 14 = .ok (.ifCond .eq 10, 3) := by decide +kernel
theorem dX6_film_17 : decode cX6_film 17 = .ok (.iload_n 3, 1) := by decide +kernel
theorem dX6_film_18 : decode cX6_film 18 = .ok (.invokestatic 228, 3) := by decide +kernel
theorem dX6_film_21 : decode cX6_film 21 = .ok (.ifCond .ne 5, 3) := by decide +kernel
theorem dX6_film_24 : decode cX6_film 24 = .ok (.iconst (-1), 1) := by decide +kernel
theorem dX6_film_25 : decode cX6_film 25 = .ok (.ireturn, 1) := by decide +kernel
theorem dX6_film_26 : decode cX6_film 26 = .ok (.aload_n 0, 1) := by decide +kernel
theorem dX6_film_27 : decode cX6_film 27 = .ok (.getfield 48, 3) := by decide +kernel
theorem dX6_film_30 : decode cX6_film 30 = .ok (.iload_n 2, 1) := by decide +kernel
theorem dX6_film_31 : decode cX6_film 31 = .ok (.aaload, 1) := by decide +kernel
theorem dX6_film_32 : decode cX6_film 32 = .ok (.astore 5, 2) := by decide +kernel
theorem dX6_film_34 : decode cX6_film 34 = .ok (.aload 5, 2) := by decide +kernel
theorem dX6_film_36 : decode cX6_film 36 = .ok (.iload_n 3, 1) := by decide +kernel
theorem dX6_film_37 : decode cX6_film 37 = .ok (.iload 4, 2) := by decide +kernel
theorem dX6_film_39 : decode cX6_film 39 = .ok (.iload_n 1, 1) := by decide +kernel
theorem dX6_film_40 : decode cX6_film 40 = .ok (.invokevirtual 231, 3) := by decide +kernel
theorem dX6_film_43 : decode cX6_film 43 = .ok (.istore 6, 2) := by decide +kernel
theorem dX6_film_45 : decode cX6_film 45 = .ok (.iload 6, 2) := by decide +kernel
theorem dX6_film_47 : decode cX6_film 47 = .ok (.ifCond .eq 6, 3) := by decide +kernel
theorem dX6_film_50 : decode cX6_film 50 = .ok (.iload 6, 2) := by decide +kernel
theorem dX6_film_52 : decode cX6_film 52 = .ok (.ireturn, 1) := by decide +kernel
theorem dX6_film_53 : decode cX6_film 53 = .ok (.aload_n 0, 1) := by decide +kernel
theorem dX6_film_54 : decode cX6_film 54 = .ok (.getfield 19, 3) := by decide +kernel
theorem dX6_film_57 : decode cX6_film 57 = .ok (.aload_n 0, 1) := by decide +kernel
theorem dX6_film_58 : decode cX6_film 58 = .ok (.getfield 10, 3) := by decide +kernel
theorem dX6_film_61 : decode cX6_film 61 = .ok (.invokevirtual 117, 3) := by decide +kernel
theorem dX6_film_64 : decode cX6_film 64 = .ok (.iconst 0, 1) := by decide +kernel
theorem dX6_film_65 : decode cX6_film 65 = .ok (.istore 7, 2) := by decide +kernel
theorem dX6_film_67 : decode cX6_film 67 = .ok (.iload 7, 2) := by decide +kernel
theorem dX6_film_69 : decode cX6_film 69 = .ok (.iload_n 1, 1) := by decide +kernel
theorem dX6_film_70 : decode cX6_film 70 = .ok (.if_icmp .ge 37, 3) := by decide +kernel
theorem dX6_film_73 : decode cX6_film 73 = .ok (.aload_n 0, 1) := by decide +kernel
theorem dX6_film_74 : decode cX6_film 74 = .ok (.getfield 19, 3) := by decide +kernel
theorem dX6_film_77 : decode cX6_film 77 = .ok (.invokevirtual 153, 3) := by decide +kernel
theorem dX6_film_80 : decode cX6_film 80 = .ok (.aload 5, 2) := by decide +kernel
theorem dX6_film_82 : decode cX6_film 82 = .ok (.iload 4, 2) := by decide +kernel
theorem dX6_film_84 : decode cX6_film 84 = .ok (.iload 7, 2) := by decide +kernel
theorem dX6_film_86 : decode cX6_film 86 = .ok (.iadd, 1) := by decide +kernel
theorem dX6_film_87 : decode cX6_film 87 = .ok (.aload_n 0, 1) := by decide +kernel
theorem dX6_film_88 : decode cX6_film 88 = .ok (.getfield 19, 3) := by decide +kernel
theorem dX6_film_91 : decode cX6_film 91 = .ok (.getfield 80, 3) := by decide +kernel
theorem dX6_film_94 : decode cX6_film 94 = .ok (.getfield 137, 3) := by decide +kernel
theorem dX6_film_97 : decode cX6_film 97 = .ok (.i2l, 1) := by decide +kernel
theorem dX6_film_98 : decode cX6_film 98 = .ok (.invokevirtual 256, 3) := by decide +kernel
theorem dX6_film_101 : decode cX6_film 101 = .ok (.iinc 7 1, 3) := by decide +kernel
theorem dX6_film_104 : decode cX6_film 104 = .ok (.goto (-37), 3) := by decide +kernel
theorem dX6_film_107 : decode cX6_film 107 = .ok (.iload_n 1, 1) := by decide +kernel
theorem dX6_film_108 : decode cX6_film 108 = .ok (.ireturn, 1) := by decide +kernel
set_option maxRecDepth 20000 in
theorem ggX6_sheet_X6_isSheet : GoodIn wsX6_sheet wsX6_isSheet := goodIn_r _ [5, 6, 7, 4, 8] (by decide +kernel) (by decide +kernel)
set_option maxRecDepth 20000 in
theorem gX6_sheet_X6_isSheet : GoodIn wsX6_sheet (va_wsS RX6 225 yX6_isSheet wsX6_isSheet) := goodIn_app (goodIn_of _ (by decide +kernel)) ggX6_sheet_X6_isSheet
set_option maxRecDepth 20000 in
theorem ggX6_sheet_X6_isLane : GoodIn wsX6_sheet wsX6_isLane := goodIn_r _ [11, 6, 7, 4, 8] (by decide +kernel) (by decide +kernel)
set_option maxRecDepth 20000 in
theorem gX6_sheet_X6_isLane : GoodIn wsX6_sheet (va_wsS RX6 228 yX6_isLane wsX6_isLane) := goodIn_app (goodIn_of _ (by decide +kernel)) ggX6_sheet_X6_isLane
set_option maxRecDepth 20000 in
theorem ggX6_sheet_X4_begin : GoodIn wsX6_sheet wsX4_begin := goodIn_r _ [16, 17, 18, 19, 20, 30, 31, 32, 33] (by decide +kernel) (by decide +kernel)
set_option maxRecDepth 20000 in
theorem gX6_sheet_X4_begin : GoodIn wsX6_sheet (wsV RX6 260 RX4 yX4_begin wsX4_begin) := goodIn_app (goodIn_of _ (by decide +kernel)) ggX6_sheet_X4_begin
theorem dX6_sheet_0 : decode cX6_sheet 0 = .ok (.iload_n 1, 1) := by decide +kernel
theorem dX6_sheet_1 : decode cX6_sheet 1 = .ok (.invokestatic 225, 3) := by decide +kernel
theorem dX6_sheet_4 : decode cX6_sheet 4 = .ok (.ifCond .eq 16, 3) := by decide +kernel
theorem dX6_sheet_7 : decode cX6_sheet 7 = .ok (.iload_n 2, 1) := by decide +kernel
theorem dX6_sheet_8 : decode cX6_sheet 8 = .ok (.invokestatic 228, 3) := by decide +kernel
theorem dX6_sheet_11 : decode cX6_sheet 11 = .ok (.ifCond .eq 9, 3) := by decide +kernel
theorem dX6_sheet_14 : decode cX6_sheet 14 = .ok (.iload_n 3, 1) := by decide +kernel
theorem dX6_sheet_15 : decode cX6_sheet 15 = .ok (.bipush 24, 2) := by decide +kernel
theorem dX6_sheet_17 : decode cX6_sheet 17 = .ok (.if_icmp .le 5, 3) := by decide +kernel
theorem dX6_sheet_20 : decode cX6_sheet 20 = .ok (.iconst (-1), 1) := by decide +kernel
theorem dX6_sheet_21 : decode cX6_sheet 21 = .ok (.ireturn, 1) := by decide +kernel
theorem dX6_sheet_22 : decode cX6_sheet 22 = .ok (.iload_n 3, 1) := by decide +kernel
theorem dX6_sheet_23 : decode cX6_sheet 23 = .ok (.ifCond .ge 6, 3) := by decide +kernel
theorem dX6_sheet_26 : decode cX6_sheet 26 = .ok (.bipush (-14), 2) := by decide +kernel
theorem dX6_sheet_28 : decode cX6_sheet 28 = .ok (.ireturn, 1) := by decide +kernel
theorem dX6_sheet_29 : decode cX6_sheet 29 = .ok (.aload_n 0, 1) := by decide +kernel
theorem dX6_sheet_30 : decode cX6_sheet 30 = .ok (.getfield 48, 3) := by decide +kernel
theorem dX6_sheet_33 : decode cX6_sheet 33 = .ok (.iload_n 1, 1) := by decide +kernel
theorem dX6_sheet_34 : decode cX6_sheet 34 = .ok (.aaload, 1) := by decide +kernel
theorem dX6_sheet_35 : decode cX6_sheet 35 = .ok (.iload_n 2, 1) := by decide +kernel
theorem dX6_sheet_36 : decode cX6_sheet 36 = .ok (.iload_n 3, 1) := by decide +kernel
theorem dX6_sheet_37 : decode cX6_sheet 37 = .ok (.invokevirtual 260, 3) := by decide +kernel
theorem dX6_sheet_40 : decode cX6_sheet 40 = .ok (.iload_n 3, 1) := by decide +kernel
theorem dX6_sheet_41 : decode cX6_sheet 41 = .ok (.ireturn, 1) := by decide +kernel
set_option maxRecDepth 20000 in
theorem ggX6_drop_X6_isSheet : GoodIn wsX6_drop wsX6_isSheet := goodIn_r _ [7, 8, 9, 6, 10] (by decide +kernel) (by decide +kernel)
set_option maxRecDepth 20000 in
theorem gX6_drop_X6_isSheet : GoodIn wsX6_drop (va_wsS RX6 225 yX6_isSheet wsX6_isSheet) := goodIn_app (goodIn_of _ (by decide +kernel)) ggX6_drop_X6_isSheet
theorem dX6_drop_0 : decode cX6_drop 0 = .ok (.iload_n 1, 1) := by decide +kernel
theorem dX6_drop_1 : decode cX6_drop 1 = .ok (.invokestatic 225, 3) := by decide +kernel
theorem dX6_drop_4 : decode cX6_drop 4 = .ok (.ifCond .ne 5, 3) := by decide +kernel
theorem dX6_drop_7 : decode cX6_drop 7 = .ok (.iconst (-1), 1) := by decide +kernel
theorem dX6_drop_8 : decode cX6_drop 8 = .ok (.ireturn, 1) := by decide +kernel
theorem dX6_drop_9 : decode cX6_drop 9 = .ok (.aload_n 0, 1) := by decide +kernel
theorem dX6_drop_10 : decode cX6_drop 10 = .ok (.getfield 48, 3) := by decide +kernel
theorem dX6_drop_13 : decode cX6_drop 13 = .ok (.iload_n 1, 1) := by decide +kernel
theorem dX6_drop_14 : decode cX6_drop 14 = .ok (.aaload, 1) := by decide +kernel
theorem dX6_drop_15 : decode cX6_drop 15 = .ok (.astore_n 2, 1) := by decide +kernel
theorem dX6_drop_16 : decode cX6_drop 16 = .ok (.aload_n 2, 1) := by decide +kernel
theorem dX6_drop_17 : decode cX6_drop 17 = .ok (.getfield 263, 3) := by decide +kernel
theorem dX6_drop_20 : decode cX6_drop 20 = .ok (.ifCond .ne 6, 3) := by decide +kernel
theorem dX6_drop_23 : decode cX6_drop 23 = .ok (.bipush (-11), 2) := by decide +kernel
theorem dX6_drop_25 : decode cX6_drop 25 = .ok (.ireturn, 1) := by decide +kernel
theorem dX6_drop_26 : decode cX6_drop 26 = .ok (.aload_n 2, 1) := by decide +kernel
theorem dX6_drop_27 : decode cX6_drop 27 = .ok (.iconst 0, 1) := by decide +kernel
theorem dX6_drop_28 : decode cX6_drop 28 = .ok (.putfield 263, 3) := by decide +kernel
theorem dX6_drop_31 : decode cX6_drop 31 = .ok (.aload_n 2, 1) := by decide +kernel
theorem dX6_drop_32 : decode cX6_drop 32 = .ok (.getfield 266, 3) := by decide +kernel
theorem dX6_drop_35 : decode cX6_drop 35 = .ok (.ireturn, 1) := by decide +kernel
set_option maxRecDepth 20000 in
theorem ggX6_item_X6_isSheet : GoodIn wsX6_item wsX6_isSheet := goodIn_r _ [5, 6, 7, 4, 8] (by decide +kernel) (by decide +kernel)
set_option maxRecDepth 20000 in
theorem gX6_item_X6_isSheet : GoodIn wsX6_item (va_wsS RX6 225 yX6_isSheet wsX6_isSheet) := goodIn_app (goodIn_of _ (by decide +kernel)) ggX6_item_X6_isSheet
set_option maxRecDepth 20000 in
theorem ggX6_item_X6_isLane : GoodIn wsX6_item wsX6_isLane := goodIn_r _ [11, 6, 7, 4, 8] (by decide +kernel) (by decide +kernel)
set_option maxRecDepth 20000 in
theorem gX6_item_X6_isLane : GoodIn wsX6_item (va_wsS RX6 228 yX6_isLane wsX6_isLane) := goodIn_app (goodIn_of _ (by decide +kernel)) ggX6_item_X6_isLane
set_option maxRecDepth 20000 in
theorem ggX6_item_X4_refusal : GoodIn wsX6_item wsX4_refusal := goodIn_r _ [16, 17, 18, 19, 20, 21, 15, 22, 23, 38, 39, 40, 41] (by decide +kernel) (by decide +kernel)
set_option maxRecDepth 20000 in
theorem gX6_item_X4_refusal : GoodIn wsX6_item (wsV RX6 231 RX4 yX4_refusal wsX4_refusal) := goodIn_app (goodIn_of _ (by decide +kernel)) ggX6_item_X4_refusal
set_option maxRecDepth 20000 in
theorem ggX6_item_X4_put : GoodIn wsX6_item wsX4_put := goodIn_r _ [27, 18, 28, 38, 39, 40, 41] (by decide +kernel) (by decide +kernel)
set_option maxRecDepth 20000 in
theorem gX6_item_X4_put : GoodIn wsX6_item (wsV RX6 256 RX4 yX4_put wsX4_put) := goodIn_app (goodIn_of _ (by decide +kernel)) ggX6_item_X4_put
theorem dX6_item_0 : decode cX6_item 0 = .ok (.iload_n 1, 1) := by decide +kernel
theorem dX6_item_1 : decode cX6_item 1 = .ok (.invokestatic 225, 3) := by decide +kernel
theorem dX6_item_4 : decode cX6_item 4 = .ok (.ifCond .eq 10, 3) := by decide +kernel
theorem dX6_item_7 : decode cX6_item 7 = .ok (.iload_n 2, 1) := by decide +kernel
theorem dX6_item_8 : decode cX6_item 8 = .ok (.invokestatic 228, 3) := by decide +kernel
theorem dX6_item_11 : decode cX6_item 11 = .ok (.ifCond .ne 5, 3) := by decide +kernel
theorem dX6_item_14 : decode cX6_item 14 = .ok (.iconst (-1), 1) := by decide +kernel
theorem dX6_item_15 : decode cX6_item 15 = .ok (.ireturn, 1) := by decide +kernel
theorem dX6_item_16 : decode cX6_item 16 = .ok (.aload_n 0, 1) := by decide +kernel
theorem dX6_item_17 : decode cX6_item 17 = .ok (.getfield 48, 3) := by decide +kernel
theorem dX6_item_20 : decode cX6_item 20 = .ok (.iload_n 1, 1) := by decide +kernel
theorem dX6_item_21 : decode cX6_item 21 = .ok (.aaload, 1) := by decide +kernel
theorem dX6_item_22 : decode cX6_item 22 = .ok (.astore 6, 2) := by decide +kernel
theorem dX6_item_24 : decode cX6_item 24 = .ok (.aload 6, 2) := by decide +kernel
theorem dX6_item_26 : decode cX6_item 26 = .ok (.iload_n 2, 1) := by decide +kernel
theorem dX6_item_27 : decode cX6_item 27 = .ok (.iload_n 3, 1) := by decide +kernel
theorem dX6_item_28 : decode cX6_item 28 = .ok (.iconst 1, 1) := by decide +kernel
theorem dX6_item_29 : decode cX6_item 29 = .ok (.invokevirtual 231, 3) := by decide +kernel
theorem dX6_item_32 : decode cX6_item 32 = .ok (.istore 7, 2) := by decide +kernel
theorem dX6_item_34 : decode cX6_item 34 = .ok (.iload 7, 2) := by decide +kernel
theorem dX6_item_36 : decode cX6_item 36 = .ok (.ifCond .eq 6, 3) := by decide +kernel
theorem dX6_item_39 : decode cX6_item 39 = .ok (.iload 7, 2) := by decide +kernel
theorem dX6_item_41 : decode cX6_item 41 = .ok (.ireturn, 1) := by decide +kernel
theorem dX6_item_42 : decode cX6_item 42 = .ok (.aload 6, 2) := by decide +kernel
theorem dX6_item_44 : decode cX6_item 44 = .ok (.iload_n 3, 1) := by decide +kernel
theorem dX6_item_45 : decode cX6_item 45 = .ok (.lload 4, 2) := by decide +kernel
theorem dX6_item_47 : decode cX6_item 47 = .ok (.invokevirtual 256, 3) := by decide +kernel
theorem dX6_item_50 : decode cX6_item 50 = .ok (.iconst 1, 1) := by decide +kernel
theorem dX6_item_51 : decode cX6_item 51 = .ok (.ireturn, 1) := by decide +kernel
set_option maxRecDepth 20000 in
theorem ggX6_copy_X6_isSheet : GoodIn wsX6_copy wsX6_isSheet := goodIn_r _ [12, 13, 14, 11, 15] (by decide +kernel) (by decide +kernel)
set_option maxRecDepth 20000 in
theorem gX6_copy_X6_isSheet : GoodIn wsX6_copy (va_wsS RX6 225 yX6_isSheet wsX6_isSheet) := goodIn_app (goodIn_of _ (by decide +kernel)) ggX6_copy_X6_isSheet
set_option maxRecDepth 20000 in
theorem ggX6_copy_X4_hasItems : GoodIn wsX6_copy wsX4_hasItems := goodIn_r _ [20, 21, 31, 32, 33, 34] (by decide +kernel) (by decide +kernel)
set_option maxRecDepth 20000 in
theorem gX6_copy_X4_hasItems : GoodIn wsX6_copy (wsV RX6 270 RX4 yX4_hasItems wsX4_hasItems) := goodIn_app (goodIn_of _ (by decide +kernel)) ggX6_copy_X4_hasItems
theorem dX6_copy_0 : decode cX6_copy 0 = .ok (.iload_n 1, 1) := by decide +kernel
theorem dX6_copy_1 : decode cX6_copy 1 = .ok (.invokestatic 225, 3) := by decide +kernel
theorem dX6_copy_4 : decode cX6_copy 4 = .ok (.ifCond .eq 10, 3) := by decide +kernel
theorem dX6_copy_7 : decode cX6_copy 7 = .ok (.iload_n 3, 1) := by decide +kernel
theorem dX6_copy_8 : decode cX6_copy 8 = .ok (.invokestatic 225, 3) := by decide +kernel
theorem dX6_copy_11 : decode cX6_copy 11 = .ok (.ifCond .ne 5, 3) := by decide +kernel
theorem dX6_copy_14 : decode cX6_copy 14 = .ok (.iconst (-1), 1) := by decide +kernel
theorem dX6_copy_15 : decode cX6_copy 15 = .ok (.ireturn, 1) := by decide +kernel
theorem dX6_copy_16 : decode cX6_copy 16 = .ok (.aload_n 0, 1) := by decide +kernel
theorem dX6_copy_17 : decode cX6_copy 17 = .ok (.getfield 48, 3) := by decide +kernel
theorem dX6_copy_20 : decode cX6_copy 20 = .ok (.iload_n 1, 1) := by decide +kernel
theorem dX6_copy_21 : decode cX6_copy 21 = .ok (.aaload, 1) := by decide +kernel
theorem dX6_copy_22 : decode cX6_copy 22 = .ok (.astore 6, 2) := by decide +kernel
theorem dX6_copy_24 : decode cX6_copy 24 = .ok (.aload_n 0, 1) := by decide +kernel
theorem dX6_copy_25 : decode cX6_copy 25 = .ok (.getfield 48, 3) := by decide +kernel
theorem dX6_copy_28 : decode cX6_copy 28 = .ok (.iload_n 3, 1) := by decide +kernel
theorem dX6_copy_29 : decode cX6_copy 29 = .ok (.aaload, 1) := by decide +kernel
theorem dX6_copy_30 : decode cX6_copy 30 = .ok (.astore 7, 2) := by decide +kernel
theorem dX6_copy_32 : decode cX6_copy 32 = .ok (.aload 6, 2) := by decide +kernel
theorem dX6_copy_34 : decode cX6_copy 34 = .ok (.getfield 263, 3) := by decide +kernel
theorem dX6_copy_37 : decode cX6_copy 37 = .ok (.ifCond .eq 11, 3) := by decide +kernel
theorem dX6_copy_40 : decode cX6_copy 40 = .ok (.aload 7, 2) := by decide +kernel
theorem dX6_copy_42 : decode cX6_copy 42 = .ok (.getfield 263, 3) := by decide +kernel
theorem dX6_copy_45 : decode cX6_copy 45 = .ok (.ifCond .ne 6, 3) := by decide +kernel
theorem dX6_copy_48 : decode cX6_copy 48 = .ok (.bipush (-11), 2) := by decide +kernel
theorem dX6_copy_50 : decode cX6_copy 50 = .ok (.ireturn, 1) := by decide +kernel
theorem dX6_copy_51 : decode cX6_copy 51 = .ok (.aload 6, 2) := by decide +kernel
theorem dX6_copy_53 : decode cX6_copy 53 = .ok (.getfield 267, 3) := by decide +kernel
theorem dX6_copy_56 : decode cX6_copy 56 = .ok (.aload 7, 2) := by decide +kernel
theorem dX6_copy_58 : decode cX6_copy 58 = .ok (.getfield 267, 3) := by decide +kernel
theorem dX6_copy_61 : decode cX6_copy 61 = .ok (.if_icmp .eq 6, 3) := by decide +kernel
theorem dX6_copy_64 : decode cX6_copy 64 = .ok (.bipush (-12), 2) := by decide +kernel
theorem dX6_copy_66 : decode cX6_copy 66 = .ok (.ireturn, 1) := by decide +kernel
theorem dX6_copy_67 : decode cX6_copy 67 = .ok (.aload 6, 2) := by decide +kernel
theorem dX6_copy_69 : decode cX6_copy 69 = .ok (.iload_n 2, 1) := by decide +kernel
theorem dX6_copy_70 : decode cX6_copy 70 = .ok (.iload 5, 2) := by decide +kernel
theorem dX6_copy_72 : decode cX6_copy 72 = .ok (.invokevirtual 270, 3) := by decide +kernel
theorem dX6_copy_75 : decode cX6_copy 75 = .ok (.ifCond .eq 15, 3) := by decide +kernel
theorem dX6_copy_78 : decode cX6_copy 78 = .ok (.aload 7, 2) := by decide +kernel
theorem dX6_copy_80 : decode cX6_copy 80 = .ok (.iload 4, 2) := by decide +kernel
theorem dX6_copy_82 : decode cX6_copy 82 = .ok (.iload 5, 2) := by decide +kernel
theorem dX6_copy_84 : decode cX6_copy 84 = .ok (.invokevirtual 270, 3) := by decide +kernel
theorem dX6_copy_87 : decode cX6_copy 87 = .ok (.ifCond .ne 6, 3) := by decide +kernel
theorem dX6_copy_90 : decode cX6_copy 90 = .ok (.bipush (-13), 2) := by decide +kernel
theorem dX6_copy_92 : decode cX6_copy 92 = .ok (.ireturn, 1) := by decide +kernel
theorem dX6_copy_93 : decode cX6_copy 93 = .ok (.aload 6, 2) := by decide +kernel
theorem dX6_copy_95 : decode cX6_copy 95 = .ok (.getfield 273, 3) := by decide +kernel
theorem dX6_copy_98 : decode cX6_copy 98 = .ok (.iload_n 2, 1) := by decide +kernel
theorem dX6_copy_99 : decode cX6_copy 99 = .ok (.aload 7, 2) := by decide +kernel
theorem dX6_copy_101 : decode cX6_copy 101 = .ok (.getfield 273, 3) := by decide +kernel
theorem dX6_copy_104 : decode cX6_copy 104 = .ok (.iload 4, 2) := by decide +kernel
theorem dX6_copy_106 : decode cX6_copy 106 = .ok (.iload 5, 2) := by decide +kernel
theorem dX6_copy_108 : decode cX6_copy 108 = .ok (.invokestatic 276, 3) := by decide +kernel
theorem dX6_copy_111 : decode cX6_copy 111 = .ok (.iload 5, 2) := by decide +kernel
theorem dX6_copy_113 : decode cX6_copy 113 = .ok (.ireturn, 1) := by decide +kernel
theorem dX6_isWithin_0 : decode cX6_isWithin 0 = .ok (.iload_n 0, 1) := by decide +kernel
theorem dX6_isWithin_1 : decode cX6_isWithin 1 = .ok (.iload_n 1, 1) := by decide +kernel
theorem dX6_isWithin_2 : decode cX6_isWithin 2 = .ok (.if_icmp .lt 12, 3) := by decide +kernel
theorem dX6_isWithin_5 : decode cX6_isWithin 5 = .ok (.iload_n 0, 1) := by decide +kernel
theorem dX6_isWithin_6 : decode cX6_isWithin 6 = .ok (.iload_n 2, 1) := by decide +kernel
theorem dX6_isWithin_7 : decode cX6_isWithin 7 = .ok (.if_icmp .gt 7, 3) := by decide +kernel
theorem dX6_isWithin_10 : decode cX6_isWithin 10 = .ok (.iconst 1, 1) := by decide +kernel
theorem dX6_isWithin_11 : decode cX6_isWithin 11 = .ok (.goto 4, 3) := by decide +kernel
theorem dX6_isWithin_14 : decode cX6_isWithin 14 = .ok (.iconst 0, 1) := by decide +kernel
theorem dX6_isWithin_15 : decode cX6_isWithin 15 = .ok (.ireturn, 1) := by decide +kernel
set_option maxRecDepth 20000 in
theorem ggX6_isField_X6_isWithin : GoodIn wsX6_isField wsX6_isWithin := goodIn_r _ [4] (by decide +kernel) (by decide +kernel)
set_option maxRecDepth 20000 in
theorem gX6_isField_X6_isWithin : GoodIn wsX6_isField (va_wsS RX6 61 yX6_isWithin wsX6_isWithin) := goodIn_app (goodIn_of _ (by decide +kernel)) ggX6_isField_X6_isWithin
theorem dX6_isField_0 : decode cX6_isField 0 = .ok (.iload_n 0, 1) := by decide +kernel
theorem dX6_isField_1 : decode cX6_isField 1 = .ok (.iconst 0, 1) := by decide +kernel
theorem dX6_isField_2 : decode cX6_isField 2 = .ok (.bipush 6, 2) := by decide +kernel
theorem dX6_isField_4 : decode cX6_isField 4 = .ok (.invokestatic 61, 3) := by decide +kernel
theorem dX6_isField_7 : decode cX6_isField 7 = .ok (.ireturn, 1) := by decide +kernel
set_option maxRecDepth 20000 in
theorem ggX6_isForetold_X6_isWithin : GoodIn wsX6_isForetold wsX6_isWithin := goodIn_r _ [4] (by decide +kernel) (by decide +kernel)
set_option maxRecDepth 20000 in
theorem gX6_isForetold_X6_isWithin : GoodIn wsX6_isForetold (va_wsS RX6 61 yX6_isWithin wsX6_isWithin) := goodIn_app (goodIn_of _ (by decide +kernel)) ggX6_isForetold_X6_isWithin
theorem dX6_isForetold_0 : decode cX6_isForetold 0 = .ok (.iload_n 0, 1) := by decide +kernel
theorem dX6_isForetold_1 : decode cX6_isForetold 1 = .ok (.iconst 0, 1) := by decide +kernel
theorem dX6_isForetold_2 : decode cX6_isForetold 2 = .ok (.bipush 9, 2) := by decide +kernel
theorem dX6_isForetold_4 : decode cX6_isForetold 4 = .ok (.invokestatic 61, 3) := by decide +kernel
theorem dX6_isForetold_7 : decode cX6_isForetold 7 = .ok (.ireturn, 1) := by decide +kernel
set_option maxRecDepth 20000 in
theorem ggX6_isSheet_X6_isWithin : GoodIn wsX6_isSheet wsX6_isWithin := goodIn_r _ [4] (by decide +kernel) (by decide +kernel)
set_option maxRecDepth 20000 in
theorem gX6_isSheet_X6_isWithin : GoodIn wsX6_isSheet (va_wsS RX6 61 yX6_isWithin wsX6_isWithin) := goodIn_app (goodIn_of _ (by decide +kernel)) ggX6_isSheet_X6_isWithin
theorem dX6_isSheet_0 : decode cX6_isSheet 0 = .ok (.iload_n 0, 1) := by decide +kernel
theorem dX6_isSheet_1 : decode cX6_isSheet 1 = .ok (.iconst 0, 1) := by decide +kernel
theorem dX6_isSheet_2 : decode cX6_isSheet 2 = .ok (.iconst 3, 1) := by decide +kernel
theorem dX6_isSheet_3 : decode cX6_isSheet 3 = .ok (.invokestatic 61, 3) := by decide +kernel
theorem dX6_isSheet_6 : decode cX6_isSheet 6 = .ok (.ireturn, 1) := by decide +kernel
set_option maxRecDepth 20000 in
theorem ggX6_isLane_X6_isWithin : GoodIn wsX6_isLane wsX6_isWithin := goodIn_r _ [4] (by decide +kernel) (by decide +kernel)
set_option maxRecDepth 20000 in
theorem gX6_isLane_X6_isWithin : GoodIn wsX6_isLane (va_wsS RX6 61 yX6_isWithin wsX6_isWithin) := goodIn_app (goodIn_of _ (by decide +kernel)) ggX6_isLane_X6_isWithin
theorem dX6_isLane_0 : decode cX6_isLane 0 = .ok (.iload_n 0, 1) := by decide +kernel
theorem dX6_isLane_1 : decode cX6_isLane 1 = .ok (.iconst 0, 1) := by decide +kernel
theorem dX6_isLane_2 : decode cX6_isLane 2 = .ok (.iconst 3, 1) := by decide +kernel
theorem dX6_isLane_3 : decode cX6_isLane 3 = .ok (.invokestatic 61, 3) := by decide +kernel
theorem dX6_isLane_6 : decode cX6_isLane 6 = .ok (.ireturn, 1) := by decide +kernel
set_option maxRecDepth 20000 in
theorem ggX6_isClaim_X6_isWithin : GoodIn wsX6_isClaim wsX6_isWithin := goodIn_r _ [6] (by decide +kernel) (by decide +kernel)
set_option maxRecDepth 20000 in
theorem gX6_isClaim_X6_isWithin : GoodIn wsX6_isClaim (va_wsS RX6 61 yX6_isWithin wsX6_isWithin) := goodIn_app (goodIn_of _ (by decide +kernel)) ggX6_isClaim_X6_isWithin
theorem dX6_isClaim_0 : decode cX6_isClaim 0 = .ok (.iload_n 1, 1) := by decide +kernel
theorem dX6_isClaim_1 : decode cX6_isClaim 1 = .ok (.iconst 0, 1) := by decide +kernel
theorem dX6_isClaim_2 : decode cX6_isClaim 2 = .ok (.aload_n 0, 1) := by decide +kernel
theorem dX6_isClaim_3 : decode cX6_isClaim 3 = .ok (.getfield 10, 3) := by decide +kernel
theorem dX6_isClaim_6 : decode cX6_isClaim 6 = .ok (.getfield 72, 3) := by decide +kernel
theorem dX6_isClaim_9 : decode cX6_isClaim 9 = .ok (.iconst 1, 1) := by decide +kernel
theorem dX6_isClaim_10 : decode cX6_isClaim 10 = .ok (.isub, 1) := by decide +kernel
theorem dX6_isClaim_11 : decode cX6_isClaim 11 = .ok (.invokestatic 61, 3) := by decide +kernel
theorem dX6_isClaim_14 : decode cX6_isClaim 14 = .ok (.ireturn, 1) := by decide +kernel
set_option maxRecDepth 20000 in
theorem ggX6_isAhead_X6_isWithin : GoodIn wsX6_isAhead wsX6_isWithin := goodIn_r _ [7] (by decide +kernel) (by decide +kernel)
set_option maxRecDepth 20000 in
theorem gX6_isAhead_X6_isWithin : GoodIn wsX6_isAhead (va_wsS RX6 61 yX6_isWithin wsX6_isWithin) := goodIn_app (goodIn_of _ (by decide +kernel)) ggX6_isAhead_X6_isWithin
theorem dX6_isAhead_0 : decode cX6_isAhead 0 = .ok (.iload_n 1, 1) := by decide +kernel
theorem dX6_isAhead_1 : decode cX6_isAhead 1 = .ok (.aload_n 0, 1) := by decide +kernel
theorem dX6_isAhead_2 : decode cX6_isAhead 2 = .ok (.getfield 10, 3) := by decide +kernel
theorem dX6_isAhead_5 : decode cX6_isAhead 5 = .ok (.getfield 80, 3) := by decide +kernel
theorem dX6_isAhead_8 : decode cX6_isAhead 8 = .ok (.getfield 137, 3) := by decide +kernel
theorem dX6_isAhead_11 : decode cX6_isAhead 11 = .ok (.bipush 6, 2) := by decide +kernel
theorem dX6_isAhead_13 : decode cX6_isAhead 13 = .ok (.invokestatic 61, 3) := by decide +kernel
theorem dX6_isAhead_16 : decode cX6_isAhead 16 = .ok (.ireturn, 1) := by decide +kernel
theorem dX6_sum_0 : decode cX6_sum 0 = .ok (.iconst 0, 1) := by decide +kernel
theorem dX6_sum_1 : decode cX6_sum 1 = .ok (.istore_n 1, 1) := by decide +kernel
theorem dX6_sum_2 : decode cX6_sum 2 = .ok (.aload_n 0, 1) := by decide +kernel
theorem dX6_sum_3 : decode cX6_sum 3 = .ok (.astore_n 2, 1) := by decide +kernel
theorem dX6_sum_4 : decode cX6_sum 4 = .ok (.aload_n 2, 1) := by decide +kernel
theorem dX6_sum_5 : decode cX6_sum 5 = .ok (.arraylength, 1) := by decide +kernel
theorem dX6_sum_6 : decode cX6_sum 6 = .ok (.istore_n 3, 1) := by decide +kernel
theorem dX6_sum_7 : decode cX6_sum 7 = .ok (.iconst 0, 1) := by decide +kernel
theorem dX6_sum_8 : decode cX6_sum 8 = .ok (.istore 4, 2) := by decide +kernel
theorem dX6_sum_10 : decode cX6_sum 10 = .ok (.iload 4, 2) := by decide +kernel
theorem dX6_sum_12 : decode cX6_sum 12 = .ok (.iload_n 3, 1) := by decide +kernel
theorem dX6_sum_13 : decode cX6_sum 13 = .ok (.if_icmp .ge 20, 3) := by decide +kernel
theorem dX6_sum_16 : decode cX6_sum 16 = .ok (.aload_n 2, 1) := by decide +kernel
theorem dX6_sum_17 : decode cX6_sum 17 = .ok (.iload 4, 2) := by decide +kernel
theorem dX6_sum_19 : decode cX6_sum 19 = .ok (.iaload, 1) := by decide +kernel
theorem dX6_sum_20 : decode cX6_sum 20 = .ok (.istore 5, 2) := by decide +kernel
theorem dX6_sum_22 : decode cX6_sum 22 = .ok (.iload_n 1, 1) := by decide +kernel
theorem dX6_sum_23 : decode cX6_sum 23 = .ok (.iload 5, 2) := by decide +kernel
theorem dX6_sum_25 : decode cX6_sum 25 = .ok (.iadd, 1) := by decide +kernel
theorem dX6_sum_26 : decode cX6_sum 26 = .ok (.istore_n 1, 1) := by decide +kernel
theorem dX6_sum_27 : decode cX6_sum 27 = .ok (.iinc 4 1, 3) := by decide +kernel
theorem dX6_sum_30 : decode cX6_sum 30 = .ok (.goto (-20), 3) := by decide +kernel
theorem dX6_sum_33 : decode cX6_sum 33 = .ok (.iload_n 1, 1) := by decide +kernel
theorem dX6_sum_34 : decode cX6_sum 34 = .ok (.ireturn, 1) := by decide +kernel
theorem dX6_power_0 : decode cX6_power 0 = .ok (.lconst 1, 1) := by decide +kernel
theorem dX6_power_1 : decode cX6_power 1 = .ok (.lstore_n 3, 1) := by decide +kernel
theorem dX6_power_2 : decode cX6_power 2 = .ok (.iconst 0, 1) := by decide +kernel
theorem dX6_power_3 : decode cX6_power 3 = .ok (.istore 5, 2) := by decide +kernel
theorem dX6_power_5 : decode cX6_power 5 = .ok (.iload 5, 2) := by decide +kernel
theorem dX6_power_7 : decode cX6_power 7 = .ok (.iload_n 2, 1) := by decide +kernel
theorem dX6_power_8 : decode cX6_power 8 = .ok (.if_icmp .ge 13, 3) := by decide +kernel
theorem dX6_power_11 : decode cX6_power 11 = .ok (.lload_n 3, 1) := by decide +kernel
theorem dX6_power_12 : decode cX6_power 12 = .ok (.lload_n 0, 1) := by decide +kernel
theorem dX6_power_13 : decode cX6_power 13 = .ok (.lmul, 1) := by decide +kernel
theorem dX6_power_14 : decode cX6_power 14 = .ok (.lstore_n 3, 1) := by decide +kernel
theorem dX6_power_15 : decode cX6_power 15 = .ok (.iinc 5 1, 3) := by decide +kernel
theorem dX6_power_18 : decode cX6_power 18 = .ok (.goto (-13), 3) := by decide +kernel
theorem dX6_power_21 : decode cX6_power 21 = .ok (.lload_n 3, 1) := by decide +kernel
theorem dX6_power_22 : decode cX6_power 22 = .ok (.lreturn, 1) := by decide +kernel
set_option maxRecDepth 20000 in
theorem ggX6_foretell_X5_learn : GoodIn wsX6_foretell wsX5_learn := goodIn_r _ [8, 9, 10, 11, 12, 13, 14, 15, 16, 17, 18, 19, 20, 21, 22, 23, 24, 25, 26, 27, 28, 29, 30, 31, 32, 33, 34, 35, 36, 37, 38, 88, 89, 90, 91, 92, 93, 94, 75, 76, 77, 78, 79, 80, 81, 82, 83, 84, 85, 86, 87] (by decide +kernel) (by decide +kernel)
set_option maxRecDepth 20000 in
theorem gX6_foretell_X5_learn : GoodIn wsX6_foretell (wsV RX6 196 RX5 yX5_learn wsX5_learn) := goodIn_app (goodIn_of _ (by decide +kernel)) ggX6_foretell_X5_learn
set_option maxRecDepth 20000 in
theorem ggX6_foretell_X5_spread : GoodIn wsX6_foretell wsX5_spread := goodIn_r _ [42, 43, 9, 44, 45, 46, 47, 7, 48, 49, 10, 11, 50, 51, 52, 53, 54, 55, 56, 57, 58, 59, 60, 61, 62, 63, 64, 65, 88, 89, 90, 91, 92, 93, 94] (by decide +kernel) (by decide +kernel)
set_option maxRecDepth 20000 in
theorem gX6_foretell_X5_spread : GoodIn wsX6_foretell (wsV RX6 218 RX5 yX5_spread wsX5_spread) := goodIn_app (goodIn_of _ (by decide +kernel)) ggX6_foretell_X5_spread
theorem dX6_foretell_0 : decode cX6_foretell 0 = .ok (.aload_n 0, 1) := by decide +kernel
theorem dX6_foretell_1 : decode cX6_foretell 1 = .ok (.getfield 25, 3) := by decide +kernel
theorem dX6_foretell_4 : decode cX6_foretell 4 = .ok (.aload_n 1, 1) := by decide +kernel
theorem dX6_foretell_5 : decode cX6_foretell 5 = .ok (.invokevirtual 196, 3) := by decide +kernel
theorem dX6_foretell_8 : decode cX6_foretell 8 = .ok (.aload_n 0, 1) := by decide +kernel
theorem dX6_foretell_9 : decode cX6_foretell 9 = .ok (.getfield 25, 3) := by decide +kernel
theorem dX6_foretell_12 : decode cX6_foretell 12 = .ok (.aload_n 1, 1) := by decide +kernel
theorem dX6_foretell_13 : decode cX6_foretell 13 = .ok (.getfield 80, 3) := by decide +kernel
theorem dX6_foretell_16 : decode cX6_foretell 16 = .ok (.getfield 137, 3) := by decide +kernel
theorem dX6_foretell_19 : decode cX6_foretell 19 = .ok (.iload_n 2, 1) := by decide +kernel
theorem dX6_foretell_20 : decode cX6_foretell 20 = .ok (.invokevirtual 218, 3) := by decide +kernel
theorem dX6_foretell_23 : decode cX6_foretell 23 = .ok (.return_, 1) := by decide +kernel
set_option maxRecDepth 20000 in
theorem ggX6_hedgeToOpen_X1_takeGround : GoodIn wsX6_hedgeToOpen wsX1_takeGround := goodIn_r _ [15, 16, 17, 18, 19, 20, 21, 22, 23, 24, 25, 26, 27, 28, 29, 30, 31, 32, 101, 102, 103, 104, 105, 106, 107, 108, 109, 110, 111, 112, 113] (by decide +kernel) (by decide +kernel)
set_option maxRecDepth 20000 in
theorem gX6_hedgeToOpen_X1_takeGround : GoodIn wsX6_hedgeToOpen (wsV RX6 117 RX1 yX1_takeGround wsX1_takeGround) := goodIn_app (goodIn_of _ (by decide +kernel)) ggX6_hedgeToOpen_X1_takeGround
set_option maxRecDepth 20000 in
theorem ggX6_hedgeToOpen_X5_learn : GoodIn wsX6_hedgeToOpen wsX5_learn := goodIn_r _ [37, 38, 39, 40, 41, 42, 43, 14, 44, 21, 45, 16, 46, 47, 48, 49, 50, 51, 52, 53, 54, 55, 56, 57, 58, 59, 60, 61, 62, 63, 64, 116, 117, 118, 119, 120, 121, 122, 101, 102, 103, 104, 105, 106, 107, 108, 109, 110, 111, 112, 113] (by decide +kernel) (by decide +kernel)
set_option maxRecDepth 20000 in
theorem gX6_hedgeToOpen_X5_learn : GoodIn wsX6_hedgeToOpen (wsV RX6 196 RX5 yX5_learn wsX5_learn) := goodIn_app (goodIn_of _ (by decide +kernel)) ggX6_hedgeToOpen_X5_learn
set_option maxRecDepth 20000 in
theorem ggX6_hedgeToOpen_X5_average : GoodIn wsX6_hedgeToOpen wsX5_average := goodIn_r _ [68, 69, 38, 70, 40, 71, 39, 72, 73, 74, 75, 76, 77, 78, 79, 80, 81, 82, 83, 84, 85, 86, 116, 117, 118, 119, 120, 121, 122, 114, 115] (by decide +kernel) (by decide +kernel)
set_option maxRecDepth 20000 in
theorem gX6_hedgeToOpen_X5_average : GoodIn wsX6_hedgeToOpen (wsV RX6 199 RX5 yX5_average wsX5_average) := goodIn_app (goodIn_of _ (by decide +kernel)) ggX6_hedgeToOpen_X5_average
set_option maxRecDepth 20000 in
theorem ggX6_hedgeToOpen_X0_isBelow : GoodIn wsX6_hedgeToOpen wsX0_isBelow := goodIn_r _ [90, 77, 78, 114, 115] (by decide +kernel) (by decide +kernel)
set_option maxRecDepth 20000 in
theorem gX6_hedgeToOpen_X0_isBelow : GoodIn wsX6_hedgeToOpen (wsV RX6 282 RX0 yX0_isBelow wsX0_isBelow) := goodIn_app (goodIn_of _ (by decide +kernel)) ggX6_hedgeToOpen_X0_isBelow
set_option maxRecDepth 20000 in
theorem ggX6_hedgeToOpen_X0_become : GoodIn wsX6_hedgeToOpen wsX0_become := goodIn_r _ [76, 77, 78, 79, 80, 75, 81, 114, 115] (by decide +kernel) (by decide +kernel)
set_option maxRecDepth 20000 in
theorem gX6_hedgeToOpen_X0_become : GoodIn wsX6_hedgeToOpen (wsV RX6 183 RX0 yX0_become wsX0_become) := goodIn_app (goodIn_of _ (by decide +kernel)) ggX6_hedgeToOpen_X0_become
theorem dX6_hedgeToOpen_0 : decode cX6_hedgeToOpen 0 = .ok (.iconst 0, 1) := by decide +kernel
theorem dX6_hedgeToOpen_1 : decode cX6_hedgeToOpen 1 = .ok (.istore_n 2, 1) := by decide +kernel
theorem dX6_hedgeToOpen_2 : decode cX6_hedgeToOpen 2 = .ok (.iconst 0, 1) := by decide +kernel
theorem dX6_hedgeToOpen_3 : decode cX6_hedgeToOpen 3 = .ok (.istore_n 3, 1) := by decide +kernel
theorem dX6_hedgeToOpen_4 : decode cX6_hedgeToOpen 4 = .ok (.iload_n 3, 1) := by decide +kernel
theorem dX6_hedgeToOpen_5 : decode cX6_hedgeToOpen 5 = .ok (.bipush 7, 2) := by decide +kernel
theorem dX6_hedgeToOpen_7 : decode cX6_hedgeToOpen 7 = .ok (.if_icmp .ge 107, 3) := by decide +kernel
theorem dX6_hedgeToOpen_10 : decode cX6_hedgeToOpen 10 = .ok (.aload_n 0, 1) := by decide +kernel
theorem dX6_hedgeToOpen_11 : decode cX6_hedgeToOpen 11 = .ok (.getfield 19, 3) := by decide +kernel
theorem dX6_hedgeToOpen_14 : decode cX6_hedgeToOpen 14 = .ok (.aload_n 0, 1) := by decide +kernel
theorem dX6_hedgeToOpen_15 : decode cX6_hedgeToOpen 15 = .ok (.getfield 10, 3) := by decide +kernel
theorem dX6_hedgeToOpen_18 : decode cX6_hedgeToOpen 18 = .ok (.invokevirtual 117, 3) := by decide +kernel
theorem dX6_hedgeToOpen_21 : decode cX6_hedgeToOpen 21 = .ok (.aload_n 0, 1) := by decide +kernel
theorem dX6_hedgeToOpen_22 : decode cX6_hedgeToOpen 22 = .ok (.getfield 19, 3) := by decide +kernel
theorem dX6_hedgeToOpen_25 : decode cX6_hedgeToOpen 25 = .ok (.getfield 80, 3) := by decide +kernel
theorem dX6_hedgeToOpen_28 : decode cX6_hedgeToOpen 28 = .ok (.getfield 89, 3) := by decide +kernel
theorem dX6_hedgeToOpen_31 : decode cX6_hedgeToOpen 31 = .ok (.iload_n 3, 1) := by decide +kernel
theorem dX6_hedgeToOpen_32 : decode cX6_hedgeToOpen 32 = .ok (.iconst 0, 1) := by decide +kernel
theorem dX6_hedgeToOpen_33 : decode cX6_hedgeToOpen 33 = .ok (.iastore, 1) := by decide +kernel
theorem dX6_hedgeToOpen_34 : decode cX6_hedgeToOpen 34 = .ok (.aload_n 0, 1) := by decide +kernel
theorem dX6_hedgeToOpen_35 : decode cX6_hedgeToOpen 35 = .ok (.getfield 25, 3) := by decide +kernel
theorem dX6_hedgeToOpen_38 : decode cX6_hedgeToOpen 38 = .ok (.aload_n 0, 1) := by decide +kernel
theorem dX6_hedgeToOpen_39 : decode cX6_hedgeToOpen 39 = .ok (.getfield 19, 3) := by decide +kernel
theorem dX6_hedgeToOpen_42 : decode cX6_hedgeToOpen 42 = .ok (.invokevirtual 196, 3) := by decide +kernel
theorem dX6_hedgeToOpen_45 : decode cX6_hedgeToOpen 45 = .ok (.aload_n 0, 1) := by decide +kernel
theorem dX6_hedgeToOpen_46 : decode cX6_hedgeToOpen 46 = .ok (.getfield 25, 3) := by decide +kernel
theorem dX6_hedgeToOpen_49 : decode cX6_hedgeToOpen 49 = .ok (.aload_n 0, 1) := by decide +kernel
theorem dX6_hedgeToOpen_50 : decode cX6_hedgeToOpen 50 = .ok (.getfield 10, 3) := by decide +kernel
theorem dX6_hedgeToOpen_53 : decode cX6_hedgeToOpen 53 = .ok (.getfield 80, 3) := by decide +kernel
theorem dX6_hedgeToOpen_56 : decode cX6_hedgeToOpen 56 = .ok (.getfield 137, 3) := by decide +kernel
theorem dX6_hedgeToOpen_59 : decode cX6_hedgeToOpen 59 = .ok (.iload_n 1, 1) := by decide +kernel
theorem dX6_hedgeToOpen_60 : decode cX6_hedgeToOpen 60 = .ok (.aload_n 0, 1) := by decide +kernel
theorem dX6_hedgeToOpen_61 : decode cX6_hedgeToOpen 61 = .ok (.getfield 36, 3) := by decide +kernel
theorem dX6_hedgeToOpen_64 : decode cX6_hedgeToOpen 64 = .ok (.invokevirtual 199, 3) := by decide +kernel
theorem dX6_hedgeToOpen_67 : decode cX6_hedgeToOpen 67 = .ok (.iload_n 3, 1) := by decide +kernel
theorem dX6_hedgeToOpen_68 : decode cX6_hedgeToOpen 68 = .ok (.ifCond .eq 17, 3) := by decide +kernel
theorem dX6_hedgeToOpen_71 : decode cX6_hedgeToOpen 71 = .ok (.aload_n 0, 1) := by decide +kernel
theorem dX6_hedgeToOpen_72 : decode cX6_hedgeToOpen 72 = .ok (.getfield 36, 3) := by decide +kernel
theorem dX6_hedgeToOpen_75 : decode cX6_hedgeToOpen 75 = .ok (.aload_n 0, 1) := by decide +kernel
theorem dX6_hedgeToOpen_76 : decode cX6_hedgeToOpen 76 = .ok (.getfield 32, 3) := by decide +kernel
theorem dX6_hedgeToOpen_79 : decode cX6_hedgeToOpen 79 = .ok (.invokevirtual 282, 3) := by decide +kernel
theorem dX6_hedgeToOpen_82 : decode cX6_hedgeToOpen 82 = .ok (.ifCond .eq 26, 3) := by decide +kernel
theorem dX6_hedgeToOpen_85 : decode cX6_hedgeToOpen 85 = .ok (.iload_n 3, 1) := by decide +kernel
theorem dX6_hedgeToOpen_86 : decode cX6_hedgeToOpen 86 = .ok (.istore_n 2, 1) := by decide +kernel
theorem dX6_hedgeToOpen_87 : decode cX6_hedgeToOpen 87 = .ok (.aload_n 0, 1) := by decide +kernel
theorem dX6_hedgeToOpen_88 : decode cX6_hedgeToOpen 88 = .ok (.getfield 32, 3) := by decide +kernel
theorem dX6_hedgeToOpen_91 : decode cX6_hedgeToOpen 91 = .ok (.aload_n 0, 1) := by decide +kernel
theorem dX6_hedgeToOpen_92 : decode cX6_hedgeToOpen 92 = .ok (.getfield 36, 3) := by decide +kernel
theorem dX6_hedgeToOpen_95 : decode cX6_hedgeToOpen 95 = .ok (.getfield 286, 3) := by decide +kernel
theorem dX6_hedgeToOpen_98 : decode cX6_hedgeToOpen 98 = .ok (.aload_n 0, 1) := by decide +kernel
theorem dX6_hedgeToOpen_99 : decode cX6_hedgeToOpen 99 = .ok (.getfield 36, 3) := by decide +kernel
theorem dX6_hedgeToOpen_102 : decode cX6_hedgeToOpen 102 = .ok (.getfield 289, 3) := by decide +kernel
theorem dX6_hedgeToOpen_105 : decode cX6_hedgeToOpen 105 = .ok (.invokevirtual 183, 3) := by decide +kernel
theorem dX6_hedgeToOpen_108 : decode cX6_hedgeToOpen 108 = .ok (.iinc 3 1, 3) := by decide +kernel
theorem dX6_hedgeToOpen_111 : decode cX6_hedgeToOpen 111 = .ok (.goto (-107), 3) := by decide +kernel
theorem dX6_hedgeToOpen_114 : decode cX6_hedgeToOpen 114 = .ok (.iload_n 2, 1) := by decide +kernel
theorem dX6_hedgeToOpen_115 : decode cX6_hedgeToOpen 115 = .ok (.ireturn, 1) := by decide +kernel
set_option maxRecDepth 20000 in
theorem ggX6_weightOf_X4_fieldAt : GoodIn wsX6_weightOf wsX4_fieldAt := goodIn_r _ [6, 7, 8, 32, 33, 34, 35] (by decide +kernel) (by decide +kernel)
set_option maxRecDepth 20000 in
theorem gX6_weightOf_X4_fieldAt : GoodIn wsX6_weightOf (wsV RX6 292 RX4 yX4_fieldAt wsX4_fieldAt) := goodIn_app (goodIn_of _ (by decide +kernel)) ggX6_weightOf_X4_fieldAt
set_option maxRecDepth 20000 in
theorem ggX6_weightOf_X5_weight : GoodIn wsX6_weightOf wsX5_weight := goodIn_r _ [13, 14, 15, 16, 17, 18, 19, 20, 21, 22, 36, 37, 38, 39, 40, 41, 42] (by decide +kernel) (by decide +kernel)
set_option maxRecDepth 20000 in
theorem gX6_weightOf_X5_weight : GoodIn wsX6_weightOf (wsV RX6 295 RX5 yX5_weight wsX5_weight) := goodIn_app (goodIn_of _ (by decide +kernel)) ggX6_weightOf_X5_weight
theorem dX6_weightOf_0 : decode cX6_weightOf 0 = .ok (.lconst 1, 1) := by decide +kernel
theorem dX6_weightOf_1 : decode cX6_weightOf 1 = .ok (.lstore 5, 2) := by decide +kernel
theorem dX6_weightOf_3 : decode cX6_weightOf 3 = .ok (.iload_n 1, 1) := by decide +kernel
theorem dX6_weightOf_4 : decode cX6_weightOf 4 = .ok (.istore 7, 2) := by decide +kernel
theorem dX6_weightOf_6 : decode cX6_weightOf 6 = .ok (.iconst 0, 1) := by decide +kernel
theorem dX6_weightOf_7 : decode cX6_weightOf 7 = .ok (.istore 8, 2) := by decide +kernel
theorem dX6_weightOf_9 : decode cX6_weightOf 9 = .ok (.iload 8, 2) := by decide +kernel
theorem dX6_weightOf_11 : decode cX6_weightOf 11 = .ok (.iload 4, 2) := by decide +kernel
theorem dX6_weightOf_13 : decode cX6_weightOf 13 = .ok (.if_icmp .ge 40, 3) := by decide +kernel
theorem dX6_weightOf_16 : decode cX6_weightOf 16 = .ok (.aload_n 2, 1) := by decide +kernel
theorem dX6_weightOf_17 : decode cX6_weightOf 17 = .ok (.iload_n 3, 1) := by decide +kernel
theorem dX6_weightOf_18 : decode cX6_weightOf 18 = .ok (.iload 8, 2) := by decide +kernel
theorem dX6_weightOf_20 : decode cX6_weightOf 20 = .ok (.iadd, 1) := by decide +kernel
theorem dX6_weightOf_21 : decode cX6_weightOf 21 = .ok (.invokevirtual 292, 3) := by decide +kernel
theorem dX6_weightOf_24 : decode cX6_weightOf 24 = .ok (.istore 9, 2) := by decide +kernel
theorem dX6_weightOf_26 : decode cX6_weightOf 26 = .ok (.lload 5, 2) := by decide +kernel
theorem dX6_weightOf_28 : decode cX6_weightOf 28 = .ok (.aload_n 0, 1) := by decide +kernel
theorem dX6_weightOf_29 : decode cX6_weightOf 29 = .ok (.getfield 25, 3) := by decide +kernel
theorem dX6_weightOf_32 : decode cX6_weightOf 32 = .ok (.iload 7, 2) := by decide +kernel
theorem dX6_weightOf_34 : decode cX6_weightOf 34 = .ok (.iload 9, 2) := by decide +kernel
theorem dX6_weightOf_36 : decode cX6_weightOf 36 = .ok (.invokevirtual 295, 3) := by decide +kernel
theorem dX6_weightOf_39 : decode cX6_weightOf 39 = .ok (.i2l, 1) := by decide +kernel
theorem dX6_weightOf_40 : decode cX6_weightOf 40 = .ok (.lmul, 1) := by decide +kernel
theorem dX6_weightOf_41 : decode cX6_weightOf 41 = .ok (.lstore 5, 2) := by decide +kernel
theorem dX6_weightOf_43 : decode cX6_weightOf 43 = .ok (.iload 9, 2) := by decide +kernel
theorem dX6_weightOf_45 : decode cX6_weightOf 45 = .ok (.istore 7, 2) := by decide +kernel
theorem dX6_weightOf_47 : decode cX6_weightOf 47 = .ok (.iinc 8 1, 3) := by decide +kernel
theorem dX6_weightOf_50 : decode cX6_weightOf 50 = .ok (.goto (-41), 3) := by decide +kernel
theorem dX6_weightOf_53 : decode cX6_weightOf 53 = .ok (.lload 5, 2) := by decide +kernel
theorem dX6_weightOf_55 : decode cX6_weightOf 55 = .ok (.lreturn, 1) := by decide +kernel
set_option maxRecDepth 20000 in
theorem ggX6_fieldsBefore_X6_weightOf : GoodIn wsX6_fieldsBefore wsX6_weightOf := goodIn_r _ [5, 6, 7, 8, 9, 10, 11, 12, 13, 14, 15, 16, 17, 18, 19, 20, 21, 22, 4, 23, 24, 25, 26, 27, 28, 29, 30, 31, 32, 33, 34, 35, 36, 37, 38, 39, 40, 41, 42, 43, 44, 45, 46] (by decide +kernel) (by decide +kernel)
set_option maxRecDepth 20000 in
theorem gX6_fieldsBefore_X6_weightOf : GoodIn wsX6_fieldsBefore (wsV RX6 239 RX6 yX6_weightOf wsX6_weightOf) := goodIn_app (goodIn_of _ (by decide +kernel)) ggX6_fieldsBefore_X6_weightOf
theorem dX6_fieldsBefore_0 : decode cX6_fieldsBefore 0 = .ok (.iconst 0, 1) := by decide +kernel
theorem dX6_fieldsBefore_1 : decode cX6_fieldsBefore 1 = .ok (.istore 4, 2) := by decide +kernel
theorem dX6_fieldsBefore_3 : decode cX6_fieldsBefore 3 = .ok (.iconst 0, 1) := by decide +kernel
theorem dX6_fieldsBefore_4 : decode cX6_fieldsBefore 4 = .ok (.istore 5, 2) := by decide +kernel
theorem dX6_fieldsBefore_6 : decode cX6_fieldsBefore 6 = .ok (.iload 5, 2) := by decide +kernel
theorem dX6_fieldsBefore_8 : decode cX6_fieldsBefore 8 = .ok (.bipush 7, 2) := by decide +kernel
theorem dX6_fieldsBefore_10 : decode cX6_fieldsBefore 10 = .ok (.if_icmp .ge 32, 3) := by decide +kernel
theorem dX6_fieldsBefore_13 : decode cX6_fieldsBefore 13 = .ok (.aload_n 0, 1) := by decide +kernel
theorem dX6_fieldsBefore_14 : decode cX6_fieldsBefore 14 = .ok (.iload 5, 2) := by decide +kernel
theorem dX6_fieldsBefore_16 : decode cX6_fieldsBefore 16 = .ok (.aload_n 1, 1) := by decide +kernel
theorem dX6_fieldsBefore_17 : decode cX6_fieldsBefore 17 = .ok (.iload_n 2, 1) := by decide +kernel
theorem dX6_fieldsBefore_18 : decode cX6_fieldsBefore 18 = .ok (.iload_n 3, 1) := by decide +kernel
theorem dX6_fieldsBefore_19 : decode cX6_fieldsBefore 19 = .ok (.invokevirtual 239, 3) := by decide +kernel
theorem dX6_fieldsBefore_22 : decode cX6_fieldsBefore 22 = .ok (.lconst 0, 1) := by decide +kernel
theorem dX6_fieldsBefore_23 : decode cX6_fieldsBefore 23 = .ok (.lcmp, 1) := by decide +kernel
theorem dX6_fieldsBefore_24 : decode cX6_fieldsBefore 24 = .ok (.ifCond .le 12, 3) := by decide +kernel
theorem dX6_fieldsBefore_27 : decode cX6_fieldsBefore 27 = .ok (.iload 4, 2) := by decide +kernel
theorem dX6_fieldsBefore_29 : decode cX6_fieldsBefore 29 = .ok (.iconst 1, 1) := by decide +kernel
theorem dX6_fieldsBefore_30 : decode cX6_fieldsBefore 30 = .ok (.iload 5, 2) := by decide +kernel
theorem dX6_fieldsBefore_32 : decode cX6_fieldsBefore 32 = .ok (.ishl, 1) := by decide +kernel
theorem dX6_fieldsBefore_33 : decode cX6_fieldsBefore 33 = .ok (.ior, 1) := by decide +kernel
theorem dX6_fieldsBefore_34 : decode cX6_fieldsBefore 34 = .ok (.istore 4, 2) := by decide +kernel
theorem dX6_fieldsBefore_36 : decode cX6_fieldsBefore 36 = .ok (.iinc 5 1, 3) := by decide +kernel
theorem dX6_fieldsBefore_39 : decode cX6_fieldsBefore 39 = .ok (.goto (-33), 3) := by decide +kernel
theorem dX6_fieldsBefore_42 : decode cX6_fieldsBefore 42 = .ok (.iload 4, 2) := by decide +kernel
theorem dX6_fieldsBefore_44 : decode cX6_fieldsBefore 44 = .ok (.ireturn, 1) := by decide +kernel
set_option maxRecDepth 20000 in
theorem ggX6_kindsFor_X1_takeGround : GoodIn wsX6_kindsFor wsX1_takeGround := goodIn_r _ [8, 9, 10, 11, 12, 13, 14, 15, 16, 17, 18, 19, 20, 21, 22, 23, 24, 25, 82, 83, 84, 85, 86, 87, 88, 89, 90, 91, 92, 93, 94] (by decide +kernel) (by decide +kernel)
set_option maxRecDepth 20000 in
theorem gX6_kindsFor_X1_takeGround : GoodIn wsX6_kindsFor (wsV RX6 117 RX1 yX1_takeGround wsX1_takeGround) := goodIn_app (goodIn_of _ (by decide +kernel)) ggX6_kindsFor_X1_takeGround
set_option maxRecDepth 20000 in
theorem ggX6_kindsFor_X6_goesAsTold : GoodIn wsX6_kindsFor wsX6_goesAsTold := goodIn_r _ [30, 1, 31, 32, 33, 34, 35, 7, 36, 14, 37, 38, 39, 40, 41, 42, 43, 44, 45, 46, 47, 48, 49, 50, 51, 9, 52, 53, 54, 55, 56, 57, 58, 59, 60, 61, 62, 63, 64, 65, 66, 67, 68, 69, 70, 71, 72, 73, 74, 75, 76, 77, 78, 79, 80, 81, 82, 83, 84, 85, 86, 87, 88, 89, 90, 91, 92, 93, 94, 95, 96, 97, 98] (by decide +kernel) (by decide +kernel)
set_option maxRecDepth 20000 in
theorem gX6_kindsFor_X6_goesAsTold : GoodIn wsX6_kindsFor (wsV RX6 298 RX6 yX6_goesAsTold wsX6_goesAsTold) := goodIn_app (goodIn_of _ (by decide +kernel)) ggX6_kindsFor_X6_goesAsTold
theorem dX6_kindsFor_0 : decode cX6_kindsFor 0 = .ok (.iconst 0, 1) := by decide +kernel
theorem dX6_kindsFor_1 : decode cX6_kindsFor 1 = .ok (.istore 5, 2) := by decide +kernel
theorem dX6_kindsFor_3 : decode cX6_kindsFor 3 = .ok (.iconst 0, 1) := by decide +kernel
theorem dX6_kindsFor_4 : decode cX6_kindsFor 4 = .ok (.istore 6, 2) := by decide +kernel
theorem dX6_kindsFor_6 : decode cX6_kindsFor 6 = .ok (.iload 6, 2) := by decide +kernel
theorem dX6_kindsFor_8 : decode cX6_kindsFor 8 = .ok (.iconst 5, 1) := by decide +kernel
theorem dX6_kindsFor_9 : decode cX6_kindsFor 9 = .ok (.if_icmp .ge 51, 3) := by decide +kernel
theorem dX6_kindsFor_12 : decode cX6_kindsFor 12 = .ok (.aload_n 0, 1) := by decide +kernel
theorem dX6_kindsFor_13 : decode cX6_kindsFor 13 = .ok (.getfield 19, 3) := by decide +kernel
theorem dX6_kindsFor_16 : decode cX6_kindsFor 16 = .ok (.aload_n 0, 1) := by decide +kernel
theorem dX6_kindsFor_17 : decode cX6_kindsFor 17 = .ok (.getfield 10, 3) := by decide +kernel
theorem dX6_kindsFor_20 : decode cX6_kindsFor 20 = .ok (.invokevirtual 117, 3) := by decide +kernel
theorem dX6_kindsFor_23 : decode cX6_kindsFor 23 = .ok (.aload_n 0, 1) := by decide +kernel
theorem dX6_kindsFor_24 : decode cX6_kindsFor 24 = .ok (.getfield 19, 3) := by decide +kernel
theorem dX6_kindsFor_27 : decode cX6_kindsFor 27 = .ok (.getfield 65, 3) := by decide +kernel
theorem dX6_kindsFor_30 : decode cX6_kindsFor 30 = .ok (.iload_n 1, 1) := by decide +kernel
theorem dX6_kindsFor_31 : decode cX6_kindsFor 31 = .ok (.iload 6, 2) := by decide +kernel
theorem dX6_kindsFor_33 : decode cX6_kindsFor 33 = .ok (.iastore, 1) := by decide +kernel
theorem dX6_kindsFor_34 : decode cX6_kindsFor 34 = .ok (.aload_n 0, 1) := by decide +kernel
theorem dX6_kindsFor_35 : decode cX6_kindsFor 35 = .ok (.aload_n 2, 1) := by decide +kernel
theorem dX6_kindsFor_36 : decode cX6_kindsFor 36 = .ok (.iload_n 3, 1) := by decide +kernel
theorem dX6_kindsFor_37 : decode cX6_kindsFor 37 = .ok (.iload 4, 2) := by decide +kernel
theorem dX6_kindsFor_39 : decode cX6_kindsFor 39 = .ok (.invokevirtual 298, 3) := by decide +kernel
theorem dX6_kindsFor_42 : decode cX6_kindsFor 42 = .ok (.ifCond .eq 12, 3) := by decide +kernel
theorem dX6_kindsFor_45 : decode cX6_kindsFor 45 = .ok (.iload 5, 2) := by decide +kernel
theorem dX6_kindsFor_47 : decode cX6_kindsFor 47 = .ok (.iconst 1, 1) := by decide +kernel
theorem dX6_kindsFor_48 : decode cX6_kindsFor 48 = .ok (.iload 6, 2) := by decide +kernel
theorem dX6_kindsFor_50 : decode cX6_kindsFor 50 = .ok (.ishl, 1) := by decide +kernel
theorem dX6_kindsFor_51 : decode cX6_kindsFor 51 = .ok (.ior, 1) := by decide +kernel
theorem dX6_kindsFor_52 : decode cX6_kindsFor 52 = .ok (.istore 5, 2) := by decide +kernel
theorem dX6_kindsFor_54 : decode cX6_kindsFor 54 = .ok (.iinc 6 1, 3) := by decide +kernel
theorem dX6_kindsFor_57 : decode cX6_kindsFor 57 = .ok (.goto (-51), 3) := by decide +kernel
theorem dX6_kindsFor_60 : decode cX6_kindsFor 60 = .ok (.iload 5, 2) := by decide +kernel
theorem dX6_kindsFor_62 : decode cX6_kindsFor 62 = .ok (.ireturn, 1) := by decide +kernel
set_option maxRecDepth 20000 in
theorem ggX6_foodsFor_X1_takeGround : GoodIn wsX6_foodsFor wsX1_takeGround := goodIn_r _ [9, 10, 11, 12, 13, 14, 15, 16, 17, 18, 19, 20, 21, 22, 23, 24, 25, 26, 82, 83, 84, 85, 86, 87, 88, 89, 90, 91, 92, 93, 94] (by decide +kernel) (by decide +kernel)
set_option maxRecDepth 20000 in
theorem gX6_foodsFor_X1_takeGround : GoodIn wsX6_foodsFor (wsV RX6 117 RX1 yX1_takeGround wsX1_takeGround) := goodIn_app (goodIn_of _ (by decide +kernel)) ggX6_foodsFor_X1_takeGround
set_option maxRecDepth 20000 in
theorem ggX6_foodsFor_X6_goesAsTold : GoodIn wsX6_foodsFor wsX6_goesAsTold := goodIn_r _ [31, 1, 3, 32, 33, 34, 35, 8, 36, 15, 37, 38, 39, 40, 41, 42, 43, 44, 45, 46, 47, 48, 49, 50, 51, 10, 52, 53, 54, 55, 56, 57, 58, 59, 60, 61, 62, 63, 64, 65, 66, 67, 68, 69, 70, 71, 72, 73, 74, 75, 76, 77, 78, 79, 80, 81, 82, 83, 84, 85, 86, 87, 88, 89, 90, 91, 92, 93, 94, 95, 96, 97, 98] (by decide +kernel) (by decide +kernel)
set_option maxRecDepth 20000 in
theorem gX6_foodsFor_X6_goesAsTold : GoodIn wsX6_foodsFor (wsV RX6 298 RX6 yX6_goesAsTold wsX6_goesAsTold) := goodIn_app (goodIn_of _ (by decide +kernel)) ggX6_foodsFor_X6_goesAsTold
theorem dX6_foodsFor_0 : decode cX6_foodsFor 0 = .ok (.iconst 0, 1) := by decide +kernel
theorem dX6_foodsFor_1 : decode cX6_foodsFor 1 = .ok (.istore 5, 2) := by decide +kernel
theorem dX6_foodsFor_3 : decode cX6_foodsFor 3 = .ok (.iconst 0, 1) := by decide +kernel
theorem dX6_foodsFor_4 : decode cX6_foodsFor 4 = .ok (.istore 6, 2) := by decide +kernel
theorem dX6_foodsFor_6 : decode cX6_foodsFor 6 = .ok (.iload 6, 2) := by decide +kernel
theorem dX6_foodsFor_8 : decode cX6_foodsFor 8 = .ok (.bipush 9, 2) := by decide +kernel
theorem dX6_foodsFor_10 : decode cX6_foodsFor 10 = .ok (.if_icmp .gt 54, 3) := by decide +kernel
theorem dX6_foodsFor_13 : decode cX6_foodsFor 13 = .ok (.aload_n 0, 1) := by decide +kernel
theorem dX6_foodsFor_14 : decode cX6_foodsFor 14 = .ok (.getfield 19, 3) := by decide +kernel
theorem dX6_foodsFor_17 : decode cX6_foodsFor 17 = .ok (.aload_n 0, 1) := by decide +kernel
theorem dX6_foodsFor_18 : decode cX6_foodsFor 18 = .ok (.getfield 10, 3) := by decide +kernel
theorem dX6_foodsFor_21 : decode cX6_foodsFor 21 = .ok (.invokevirtual 117, 3) := by decide +kernel
theorem dX6_foodsFor_24 : decode cX6_foodsFor 24 = .ok (.aload_n 0, 1) := by decide +kernel
theorem dX6_foodsFor_25 : decode cX6_foodsFor 25 = .ok (.getfield 19, 3) := by decide +kernel
theorem dX6_foodsFor_28 : decode cX6_foodsFor 28 = .ok (.getfield 80, 3) := by decide +kernel
theorem dX6_foodsFor_31 : decode cX6_foodsFor 31 = .ok (.getfield 84, 3) := by decide +kernel
theorem dX6_foodsFor_34 : decode cX6_foodsFor 34 = .ok (.iload_n 1, 1) := by decide +kernel
theorem dX6_foodsFor_35 : decode cX6_foodsFor 35 = .ok (.iload 6, 2) := by decide +kernel
theorem dX6_foodsFor_37 : decode cX6_foodsFor 37 = .ok (.iastore, 1) := by decide +kernel
theorem dX6_foodsFor_38 : decode cX6_foodsFor 38 = .ok (.aload_n 0, 1) := by decide +kernel
theorem dX6_foodsFor_39 : decode cX6_foodsFor 39 = .ok (.aload_n 2, 1) := by decide +kernel
theorem dX6_foodsFor_40 : decode cX6_foodsFor 40 = .ok (.iload_n 3, 1) := by decide +kernel
theorem dX6_foodsFor_41 : decode cX6_foodsFor 41 = .ok (.iload 4, 2) := by decide +kernel
theorem dX6_foodsFor_43 : decode cX6_foodsFor 43 = .ok (.invokevirtual 298, 3) := by decide +kernel
theorem dX6_foodsFor_46 : decode cX6_foodsFor 46 = .ok (.ifCond .eq 12, 3) := by decide +kernel
theorem dX6_foodsFor_49 : decode cX6_foodsFor 49 = .ok (.iload 5, 2) := by decide +kernel
theorem dX6_foodsFor_51 : decode cX6_foodsFor 51 = .ok (.iconst 1, 1) := by decide +kernel
theorem dX6_foodsFor_52 : decode cX6_foodsFor 52 = .ok (.iload 6, 2) := by decide +kernel
theorem dX6_foodsFor_54 : decode cX6_foodsFor 54 = .ok (.ishl, 1) := by decide +kernel
theorem dX6_foodsFor_55 : decode cX6_foodsFor 55 = .ok (.ior, 1) := by decide +kernel
theorem dX6_foodsFor_56 : decode cX6_foodsFor 56 = .ok (.istore 5, 2) := by decide +kernel
theorem dX6_foodsFor_58 : decode cX6_foodsFor 58 = .ok (.iinc 6 1, 3) := by decide +kernel
theorem dX6_foodsFor_61 : decode cX6_foodsFor 61 = .ok (.goto (-55), 3) := by decide +kernel
theorem dX6_foodsFor_64 : decode cX6_foodsFor 64 = .ok (.iload 5, 2) := by decide +kernel
theorem dX6_foodsFor_66 : decode cX6_foodsFor 66 = .ok (.ireturn, 1) := by decide +kernel
set_option maxRecDepth 20000 in
theorem ggX6_goesAsTold_X1_passDay : GoodIn wsX6_goesAsTold wsX1_passDay := goodIn_r _ [8, 9, 10, 11, 12, 13, 14, 15, 16, 17, 18, 19, 20, 21, 22, 23, 7, 24, 25, 26, 27, 28, 29, 30, 31, 32, 33, 34, 35, 36, 37, 38, 39, 56, 57, 58, 59, 60, 61, 62, 63, 64, 65, 66, 67, 68] (by decide +kernel) (by decide +kernel)
set_option maxRecDepth 20000 in
theorem gX6_goesAsTold_X1_passDay : GoodIn wsX6_goesAsTold (wsV RX6 153 RX1 yX1_passDay wsX1_passDay) := goodIn_app (goodIn_of _ (by decide +kernel)) ggX6_goesAsTold_X1_passDay
set_option maxRecDepth 20000 in
theorem ggX6_goesAsTold_X4_fieldAt : GoodIn wsX6_goesAsTold wsX4_fieldAt := goodIn_r _ [44, 45, 46, 69, 70, 71, 72] (by decide +kernel) (by decide +kernel)
set_option maxRecDepth 20000 in
theorem gX6_goesAsTold_X4_fieldAt : GoodIn wsX6_goesAsTold (wsV RX6 292 RX4 yX4_fieldAt wsX4_fieldAt) := goodIn_app (goodIn_of _ (by decide +kernel)) ggX6_goesAsTold_X4_fieldAt
theorem dX6_goesAsTold_0 : decode cX6_goesAsTold 0 = .ok (.iconst 0, 1) := by decide +kernel
theorem dX6_goesAsTold_1 : decode cX6_goesAsTold 1 = .ok (.istore 4, 2) := by decide +kernel
theorem dX6_goesAsTold_3 : decode cX6_goesAsTold 3 = .ok (.iload 4, 2) := by decide +kernel
theorem dX6_goesAsTold_5 : decode cX6_goesAsTold 5 = .ok (.iload_n 3, 1) := by decide +kernel
theorem dX6_goesAsTold_6 : decode cX6_goesAsTold 6 = .ok (.if_icmp .ge 39, 3) := by decide +kernel
theorem dX6_goesAsTold_9 : decode cX6_goesAsTold 9 = .ok (.aload_n 0, 1) := by decide +kernel
theorem dX6_goesAsTold_10 : decode cX6_goesAsTold 10 = .ok (.getfield 19, 3) := by decide +kernel
theorem dX6_goesAsTold_13 : decode cX6_goesAsTold 13 = .ok (.invokevirtual 153, 3) := by decide +kernel
theorem dX6_goesAsTold_16 : decode cX6_goesAsTold 16 = .ok (.aload_n 0, 1) := by decide +kernel
theorem dX6_goesAsTold_17 : decode cX6_goesAsTold 17 = .ok (.getfield 19, 3) := by decide +kernel
theorem dX6_goesAsTold_20 : decode cX6_goesAsTold 20 = .ok (.getfield 80, 3) := by decide +kernel
theorem dX6_goesAsTold_23 : decode cX6_goesAsTold 23 = .ok (.getfield 137, 3) := by decide +kernel
theorem dX6_goesAsTold_26 : decode cX6_goesAsTold 26 = .ok (.aload_n 1, 1) := by decide +kernel
theorem dX6_goesAsTold_27 : decode cX6_goesAsTold 27 = .ok (.iload_n 2, 1) := by decide +kernel
theorem dX6_goesAsTold_28 : decode cX6_goesAsTold 28 = .ok (.iload 4, 2) := by decide +kernel
theorem dX6_goesAsTold_30 : decode cX6_goesAsTold 30 = .ok (.iadd, 1) := by decide +kernel
theorem dX6_goesAsTold_31 : decode cX6_goesAsTold 31 = .ok (.invokevirtual 292, 3) := by decide +kernel
theorem dX6_goesAsTold_34 : decode cX6_goesAsTold 34 = .ok (.if_icmp .eq 5, 3) := by decide +kernel
theorem dX6_goesAsTold_37 : decode cX6_goesAsTold 37 = .ok (.iconst 0, 1) := by decide +kernel
theorem dX6_goesAsTold_38 : decode cX6_goesAsTold 38 = .ok (.ireturn, 1) := by decide +kernel
theorem dX6_goesAsTold_39 : decode cX6_goesAsTold 39 = .ok (.iinc 4 1, 3) := by decide +kernel
theorem dX6_goesAsTold_42 : decode cX6_goesAsTold 42 = .ok (.goto (-39), 3) := by decide +kernel
theorem dX6_goesAsTold_45 : decode cX6_goesAsTold 45 = .ok (.iconst 1, 1) := by decide +kernel
theorem dX6_goesAsTold_46 : decode cX6_goesAsTold 46 = .ok (.ireturn, 1) := by decide +kernel
end
section
theorem dX7_init_0 : decode cX7_init 0 = .ok (.aload_n 0, 1) := by decide +kernel
theorem dX7_init_1 : decode cX7_init 1 = .ok (.invokespecial 1, 3) := by decide +kernel
theorem dX7_init_4 : decode cX7_init 4 = .ok (.aload_n 0, 1) := by decide +kernel
theorem dX7_init_5 : decode cX7_init 5 = .ok (.iconst 4, 1) := by decide +kernel
theorem dX7_init_6 : decode cX7_init 6 = .ok (.newarray .int, 2) := by decide +kernel
theorem dX7_init_8 : decode cX7_init 8 = .ok (.putfield 7, 3) := by decide +kernel
theorem dX7_init_11 : decode cX7_init 11 = .ok (.aload_n 0, 1) := by decide +kernel
theorem dX7_init_12 : decode cX7_init 12 = .ok (.iconst 4, 1) := by decide +kernel
theorem dX7_init_13 : decode cX7_init 13 = .ok (.newarray .int, 2) := by decide +kernel
theorem dX7_init_15 : decode cX7_init 15 = .ok (.putfield 13, 3) := by decide +kernel
theorem dX7_init_18 : decode cX7_init 18 = .ok (.aload_n 0, 1) := by decide +kernel
theorem dX7_init_19 : decode cX7_init 19 = .ok (.bipush 96, 2) := by decide +kernel
theorem dX7_init_21 : decode cX7_init 21 = .ok (.newarray .long, 2) := by decide +kernel
theorem dX7_init_23 : decode cX7_init 23 = .ok (.putfield 16, 3) := by decide +kernel
theorem dX7_init_26 : decode cX7_init 26 = .ok (.aload_n 0, 1) := by decide +kernel
theorem dX7_init_27 : decode cX7_init 27 = .ok (.bipush 80, 2) := by decide +kernel
theorem dX7_init_29 : decode cX7_init 29 = .ok (.newarray .int, 2) := by decide +kernel
theorem dX7_init_31 : decode cX7_init 31 = .ok (.putfield 20, 3) := by decide +kernel
theorem dX7_init_34 : decode cX7_init 34 = .ok (.aload_n 0, 1) := by decide +kernel
theorem dX7_init_35 : decode cX7_init 35 = .ok (.sipush 177, 3) := by decide +kernel
theorem dX7_init_38 : decode cX7_init 38 = .ok (.newarray .int, 2) := by decide +kernel
theorem dX7_init_40 : decode cX7_init 40 = .ok (.putfield 23, 3) := by decide +kernel
theorem dX7_init_43 : decode cX7_init 43 = .ok (.aload_n 0, 1) := by decide +kernel
theorem dX7_init_44 : decode cX7_init 44 = .ok (.sipush 177, 3) := by decide +kernel
theorem dX7_init_47 : decode cX7_init 47 = .ok (.newarray .int, 2) := by decide +kernel
theorem dX7_init_49 : decode cX7_init 49 = .ok (.putfield 26, 3) := by decide +kernel
theorem dX7_init_52 : decode cX7_init 52 = .ok (.aload_n 0, 1) := by decide +kernel
theorem dX7_init_53 : decode cX7_init 53 = .ok (.sipush 177, 3) := by decide +kernel
theorem dX7_init_56 : decode cX7_init 56 = .ok (.newarray .int, 2) := by decide +kernel
theorem dX7_init_58 : decode cX7_init 58 = .ok (.putfield 29, 3) := by decide +kernel
theorem dX7_init_61 : decode cX7_init 61 = .ok (.aload_n 0, 1) := by decide +kernel
theorem dX7_init_62 : decode cX7_init 62 = .ok (.sipush 177, 3) := by decide +kernel
theorem dX7_init_65 : decode cX7_init 65 = .ok (.newarray .int, 2) := by decide +kernel
theorem dX7_init_67 : decode cX7_init 67 = .ok (.putfield 32, 3) := by decide +kernel
theorem dX7_init_70 : decode cX7_init 70 = .ok (.aload_n 0, 1) := by decide +kernel
theorem dX7_init_71 : decode cX7_init 71 = .ok (.bipush 7, 2) := by decide +kernel
theorem dX7_init_73 : decode cX7_init 73 = .ok (.newarray .long, 2) := by decide +kernel
theorem dX7_init_75 : decode cX7_init 75 = .ok (.putfield 35, 3) := by decide +kernel
theorem dX7_init_78 : decode cX7_init 78 = .ok (.aload_n 0, 1) := by decide +kernel
theorem dX7_init_79 : decode cX7_init 79 = .ok (.bipush 7, 2) := by decide +kernel
theorem dX7_init_81 : decode cX7_init 81 = .ok (.newarray .long, 2) := by decide +kernel
theorem dX7_init_83 : decode cX7_init 83 = .ok (.putfield 38, 3) := by decide +kernel
theorem dX7_init_86 : decode cX7_init 86 = .ok (.iconst 0, 1) := by decide +kernel
theorem dX7_init_87 : decode cX7_init 87 = .ok (.istore_n 1, 1) := by decide +kernel
theorem dX7_init_88 : decode cX7_init 88 = .ok (.iload_n 1, 1) := by decide +kernel
theorem dX7_init_89 : decode cX7_init 89 = .ok (.iconst 4, 1) := by decide +kernel
theorem dX7_init_90 : decode cX7_init 90 = .ok (.if_icmp .ge 16, 3) := by decide +kernel
theorem dX7_init_93 : decode cX7_init 93 = .ok (.aload_n 0, 1) := by decide +kernel
theorem dX7_init_94 : decode cX7_init 94 = .ok (.getfield 7, 3) := by decide +kernel
theorem dX7_init_97 : decode cX7_init 97 = .ok (.iload_n 1, 1) := by decide +kernel
theorem dX7_init_98 : decode cX7_init 98 = .ok (.iconst (-1), 1) := by decide +kernel
theorem dX7_init_99 : decode cX7_init 99 = .ok (.iastore, 1) := by decide +kernel
theorem dX7_init_100 : decode cX7_init 100 = .ok (.iinc 1 1, 3) := by decide +kernel
theorem dX7_init_103 : decode cX7_init 103 = .ok (.goto (-15), 3) := by decide +kernel
theorem dX7_init_106 : decode cX7_init 106 = .ok (.aload_n 0, 1) := by decide +kernel
theorem dX7_init_107 : decode cX7_init 107 = .ok (.getfield 23, 3) := by decide +kernel
theorem dX7_init_110 : decode cX7_init 110 = .ok (.iconst 1, 1) := by decide +kernel
theorem dX7_init_111 : decode cX7_init 111 = .ok (.iconst 1, 1) := by decide +kernel
theorem dX7_init_112 : decode cX7_init 112 = .ok (.iastore, 1) := by decide +kernel
theorem dX7_init_113 : decode cX7_init 113 = .ok (.return_, 1) := by decide +kernel
theorem dX7_in_0 : decode cX7_in 0 = .ok (.iload_n 0, 1) := by decide +kernel
theorem dX7_in_1 : decode cX7_in 1 = .ok (.iload_n 1, 1) := by decide +kernel
theorem dX7_in_2 : decode cX7_in 2 = .ok (.if_icmp .lt 12, 3) := by decide +kernel
theorem dX7_in_5 : decode cX7_in 5 = .ok (.iload_n 0, 1) := by decide +kernel
theorem dX7_in_6 : decode cX7_in 6 = .ok (.iload_n 2, 1) := by decide +kernel
theorem dX7_in_7 : decode cX7_in 7 = .ok (.if_icmp .gt 7, 3) := by decide +kernel
theorem dX7_in_10 : decode cX7_in 10 = .ok (.iconst 1, 1) := by decide +kernel
theorem dX7_in_11 : decode cX7_in 11 = .ok (.goto 4, 3) := by decide +kernel
theorem dX7_in_14 : decode cX7_in 14 = .ok (.iconst 0, 1) := by decide +kernel
theorem dX7_in_15 : decode cX7_in 15 = .ok (.ireturn, 1) := by decide +kernel
theorem dX7_bring_0 : decode cX7_bring 0 = .ok (.iconst 0, 1) := by decide +kernel
theorem dX7_bring_1 : decode cX7_bring 1 = .ok (.istore 5, 2) := by decide +kernel
theorem dX7_bring_3 : decode cX7_bring 3 = .ok (.iload 5, 2) := by decide +kernel
theorem dX7_bring_5 : decode cX7_bring 5 = .ok (.iload 4, 2) := by decide +kernel
theorem dX7_bring_7 : decode cX7_bring 7 = .ok (.if_icmp .ge 21, 3) := by decide +kernel
theorem dX7_bring_10 : decode cX7_bring 10 = .ok (.aload_n 2, 1) := by decide +kernel
theorem dX7_bring_11 : decode cX7_bring 11 = .ok (.iload_n 3, 1) := by decide +kernel
theorem dX7_bring_12 : decode cX7_bring 12 = .ok (.iload 5, 2) := by decide +kernel
theorem dX7_bring_14 : decode cX7_bring 14 = .ok (.iadd, 1) := by decide +kernel
theorem dX7_bring_15 : decode cX7_bring 15 = .ok (.aload_n 0, 1) := by decide +kernel
theorem dX7_bring_16 : decode cX7_bring 16 = .ok (.iload_n 1, 1) := by decide +kernel
theorem dX7_bring_17 : decode cX7_bring 17 = .ok (.iload 5, 2) := by decide +kernel
theorem dX7_bring_19 : decode cX7_bring 19 = .ok (.iadd, 1) := by decide +kernel
theorem dX7_bring_20 : decode cX7_bring 20 = .ok (.iaload, 1) := by decide +kernel
theorem dX7_bring_21 : decode cX7_bring 21 = .ok (.iastore, 1) := by decide +kernel
theorem dX7_bring_22 : decode cX7_bring 22 = .ok (.iinc 5 1, 3) := by decide +kernel
theorem dX7_bring_25 : decode cX7_bring 25 = .ok (.goto (-22), 3) := by decide +kernel
theorem dX7_bring_28 : decode cX7_bring 28 = .ok (.return_, 1) := by decide +kernel
set_option maxRecDepth 20000 in
theorem ggX7_isField_X7_in : GoodIn wsX7_isField wsX7_in := goodIn_r _ [4] (by decide +kernel) (by decide +kernel)
set_option maxRecDepth 20000 in
theorem gX7_isField_X7_in : GoodIn wsX7_isField (va_wsS RX7 41 yX7_in wsX7_in) := goodIn_app (goodIn_of _ (by decide +kernel)) ggX7_isField_X7_in
theorem dX7_isField_0 : decode cX7_isField 0 = .ok (.iload_n 0, 1) := by decide +kernel
theorem dX7_isField_1 : decode cX7_isField 1 = .ok (.iconst 0, 1) := by decide +kernel
theorem dX7_isField_2 : decode cX7_isField 2 = .ok (.bipush 6, 2) := by decide +kernel
theorem dX7_isField_4 : decode cX7_isField 4 = .ok (.invokestatic 41, 3) := by decide +kernel
theorem dX7_isField_7 : decode cX7_isField 7 = .ok (.ireturn, 1) := by decide +kernel
set_option maxRecDepth 20000 in
theorem ggX7_isClaim_X7_in : GoodIn wsX7_isClaim wsX7_in := goodIn_r _ [5] (by decide +kernel) (by decide +kernel)
set_option maxRecDepth 20000 in
theorem gX7_isClaim_X7_in : GoodIn wsX7_isClaim (va_wsS RX7 41 yX7_in wsX7_in) := goodIn_app (goodIn_of _ (by decide +kernel)) ggX7_isClaim_X7_in
theorem dX7_isClaim_0 : decode cX7_isClaim 0 = .ok (.iload_n 1, 1) := by decide +kernel
theorem dX7_isClaim_1 : decode cX7_isClaim 1 = .ok (.iconst 0, 1) := by decide +kernel
theorem dX7_isClaim_2 : decode cX7_isClaim 2 = .ok (.aload_n 0, 1) := by decide +kernel
theorem dX7_isClaim_3 : decode cX7_isClaim 3 = .ok (.getfield 23, 3) := by decide +kernel
theorem dX7_isClaim_6 : decode cX7_isClaim 6 = .ok (.bipush 24, 2) := by decide +kernel
theorem dX7_isClaim_8 : decode cX7_isClaim 8 = .ok (.iaload, 1) := by decide +kernel
theorem dX7_isClaim_9 : decode cX7_isClaim 9 = .ok (.iconst 1, 1) := by decide +kernel
theorem dX7_isClaim_10 : decode cX7_isClaim 10 = .ok (.isub, 1) := by decide +kernel
theorem dX7_isClaim_11 : decode cX7_isClaim 11 = .ok (.invokestatic 41, 3) := by decide +kernel
theorem dX7_isClaim_14 : decode cX7_isClaim 14 = .ok (.ireturn, 1) := by decide +kernel
set_option maxRecDepth 20000 in
theorem ggX7_field_X7_isField : GoodIn wsX7_field wsX7_isField := goodIn_r _ [5, 6, 7, 4, 8] (by decide +kernel) (by decide +kernel)
set_option maxRecDepth 20000 in
theorem gX7_field_X7_isField : GoodIn wsX7_field (va_wsS RX7 45 yX7_isField wsX7_isField) := goodIn_app (goodIn_of _ (by decide +kernel)) ggX7_field_X7_isField
set_option maxRecDepth 20000 in
theorem ggX7_field_X7_in : GoodIn wsX7_field wsX7_in := goodIn_r _ [8] (by decide +kernel) (by decide +kernel)
set_option maxRecDepth 20000 in
theorem gX7_field_X7_in : GoodIn wsX7_field (va_wsS RX7 41 yX7_in wsX7_in) := goodIn_app (goodIn_of _ (by decide +kernel)) ggX7_field_X7_in
theorem dX7_field_0 : decode cX7_field 0 = .ok (.iload_n 1, 1) := by decide +kernel
theorem dX7_field_1 : decode cX7_field 1 = .ok (.invokestatic 45, 3) := by decide +kernel
theorem dX7_field_4 : decode cX7_field 4 = .ok (.ifCond .eq 12, 3) := by decide +kernel
theorem dX7_field_7 : decode cX7_field 7 = .ok (.iload_n 2, 1) := by decide +kernel
theorem dX7_field_8 : decode cX7_field 8 = .ok (.iconst 0, 1) := by decide +kernel
theorem dX7_field_9 : decode cX7_field 9 = .ok (.iconst 4, 1) := by decide +kernel
theorem dX7_field_10 : decode cX7_field 10 = .ok (.invokestatic 41, 3) := by decide +kernel
theorem dX7_field_13 : decode cX7_field 13 = .ok (.ifCond .ne 5, 3) := by decide +kernel
theorem dX7_field_16 : decode cX7_field 16 = .ok (.iconst (-1), 1) := by decide +kernel
theorem dX7_field_17 : decode cX7_field 17 = .ok (.ireturn, 1) := by decide +kernel
theorem dX7_field_18 : decode cX7_field 18 = .ok (.aload_n 0, 1) := by decide +kernel
theorem dX7_field_19 : decode cX7_field 19 = .ok (.getfield 23, 3) := by decide +kernel
theorem dX7_field_22 : decode cX7_field 22 = .ok (.bipush 17, 2) := by decide +kernel
theorem dX7_field_24 : decode cX7_field 24 = .ok (.iload_n 1, 1) := by decide +kernel
theorem dX7_field_25 : decode cX7_field 25 = .ok (.iadd, 1) := by decide +kernel
theorem dX7_field_26 : decode cX7_field 26 = .ok (.iaload, 1) := by decide +kernel
theorem dX7_field_27 : decode cX7_field 27 = .ok (.istore_n 3, 1) := by decide +kernel
theorem dX7_field_28 : decode cX7_field 28 = .ok (.aload_n 0, 1) := by decide +kernel
theorem dX7_field_29 : decode cX7_field 29 = .ok (.getfield 23, 3) := by decide +kernel
theorem dX7_field_32 : decode cX7_field 32 = .ok (.bipush 17, 2) := by decide +kernel
theorem dX7_field_34 : decode cX7_field 34 = .ok (.iload_n 1, 1) := by decide +kernel
theorem dX7_field_35 : decode cX7_field 35 = .ok (.iadd, 1) := by decide +kernel
theorem dX7_field_36 : decode cX7_field 36 = .ok (.iload_n 2, 1) := by decide +kernel
theorem dX7_field_37 : decode cX7_field 37 = .ok (.iastore, 1) := by decide +kernel
theorem dX7_field_38 : decode cX7_field 38 = .ok (.aload_n 0, 1) := by decide +kernel
theorem dX7_field_39 : decode cX7_field 39 = .ok (.getfield 23, 3) := by decide +kernel
theorem dX7_field_42 : decode cX7_field 42 = .ok (.bipush 40, 2) := by decide +kernel
theorem dX7_field_44 : decode cX7_field 44 = .ok (.iconst 0, 1) := by decide +kernel
theorem dX7_field_45 : decode cX7_field 45 = .ok (.iastore, 1) := by decide +kernel
theorem dX7_field_46 : decode cX7_field 46 = .ok (.iload_n 3, 1) := by decide +kernel
theorem dX7_field_47 : decode cX7_field 47 = .ok (.ireturn, 1) := by decide +kernel
theorem dX7_addClaim_0 : decode cX7_addClaim 0 = .ok (.aload_n 0, 1) := by decide +kernel
theorem dX7_addClaim_1 : decode cX7_addClaim 1 = .ok (.bipush 24, 2) := by decide +kernel
theorem dX7_addClaim_3 : decode cX7_addClaim 3 = .ok (.iaload, 1) := by decide +kernel
theorem dX7_addClaim_4 : decode cX7_addClaim 4 = .ok (.istore 4, 2) := by decide +kernel
theorem dX7_addClaim_6 : decode cX7_addClaim 6 = .ok (.aload_n 0, 1) := by decide +kernel
theorem dX7_addClaim_7 : decode cX7_addClaim 7 = .ok (.bipush 25, 2) := by decide +kernel
theorem dX7_addClaim_9 : decode cX7_addClaim 9 = .ok (.iload 4, 2) := by decide +kernel
theorem dX7_addClaim_11 : decode cX7_addClaim 11 = .ok (.iadd, 1) := by decide +kernel
theorem dX7_addClaim_12 : decode cX7_addClaim 12 = .ok (.iload_n 1, 1) := by decide +kernel
theorem dX7_addClaim_13 : decode cX7_addClaim 13 = .ok (.iastore, 1) := by decide +kernel
theorem dX7_addClaim_14 : decode cX7_addClaim 14 = .ok (.aload_n 0, 1) := by decide +kernel
theorem dX7_addClaim_15 : decode cX7_addClaim 15 = .ok (.bipush 30, 2) := by decide +kernel
theorem dX7_addClaim_17 : decode cX7_addClaim 17 = .ok (.iload 4, 2) := by decide +kernel
theorem dX7_addClaim_19 : decode cX7_addClaim 19 = .ok (.iadd, 1) := by decide +kernel
theorem dX7_addClaim_20 : decode cX7_addClaim 20 = .ok (.iload_n 2, 1) := by decide +kernel
theorem dX7_addClaim_21 : decode cX7_addClaim 21 = .ok (.iastore, 1) := by decide +kernel
theorem dX7_addClaim_22 : decode cX7_addClaim 22 = .ok (.aload_n 0, 1) := by decide +kernel
theorem dX7_addClaim_23 : decode cX7_addClaim 23 = .ok (.bipush 35, 2) := by decide +kernel
theorem dX7_addClaim_25 : decode cX7_addClaim 25 = .ok (.iload 4, 2) := by decide +kernel
theorem dX7_addClaim_27 : decode cX7_addClaim 27 = .ok (.iadd, 1) := by decide +kernel
theorem dX7_addClaim_28 : decode cX7_addClaim 28 = .ok (.iload_n 3, 1) := by decide +kernel
theorem dX7_addClaim_29 : decode cX7_addClaim 29 = .ok (.iastore, 1) := by decide +kernel
theorem dX7_addClaim_30 : decode cX7_addClaim 30 = .ok (.aload_n 0, 1) := by decide +kernel
theorem dX7_addClaim_31 : decode cX7_addClaim 31 = .ok (.bipush 24, 2) := by decide +kernel
theorem dX7_addClaim_33 : decode cX7_addClaim 33 = .ok (.dup2, 1) := by decide +kernel
theorem dX7_addClaim_34 : decode cX7_addClaim 34 = .ok (.iaload, 1) := by decide +kernel
theorem dX7_addClaim_35 : decode cX7_addClaim 35 = .ok (.iconst 1, 1) := by decide +kernel
theorem dX7_addClaim_36 : decode cX7_addClaim 36 = .ok (.iadd, 1) := by decide +kernel
theorem dX7_addClaim_37 : decode cX7_addClaim 37 = .ok (.iastore, 1) := by decide +kernel
theorem dX7_addClaim_38 : decode cX7_addClaim 38 = .ok (.iload 4, 2) := by decide +kernel
theorem dX7_addClaim_40 : decode cX7_addClaim 40 = .ok (.ireturn, 1) := by decide +kernel
set_option maxRecDepth 20000 in
theorem ggX7_claim_X7_isField : GoodIn wsX7_claim wsX7_isField := goodIn_r _ [5, 6, 7, 4, 8] (by decide +kernel) (by decide +kernel)
set_option maxRecDepth 20000 in
theorem gX7_claim_X7_isField : GoodIn wsX7_claim (va_wsS RX7 45 yX7_isField wsX7_isField) := goodIn_app (goodIn_of _ (by decide +kernel)) ggX7_claim_X7_isField
set_option maxRecDepth 20000 in
theorem ggX7_claim_X7_in : GoodIn wsX7_claim wsX7_in := goodIn_r _ [8] (by decide +kernel) (by decide +kernel)
set_option maxRecDepth 20000 in
theorem gX7_claim_X7_in : GoodIn wsX7_claim (va_wsS RX7 41 yX7_in wsX7_in) := goodIn_app (goodIn_of _ (by decide +kernel)) ggX7_claim_X7_in
set_option maxRecDepth 20000 in
theorem ggX7_claim_X7_addClaim : GoodIn wsX7_claim wsX7_addClaim := goodIn_r _ [11] (by decide +kernel) (by decide +kernel)
set_option maxRecDepth 20000 in
theorem gX7_claim_X7_addClaim : GoodIn wsX7_claim (va_wsS RX7 49 yX7_addClaim wsX7_addClaim) := goodIn_app (goodIn_of _ (by decide +kernel)) ggX7_claim_X7_addClaim
theorem dX7_claim_0 : decode cX7_claim 0 = .ok (.iload_n 1, 1) := by decide +kernel
theorem dX7_claim_1 : decode cX7_claim 1 = .ok (.invokestatic 45, 3) := by decide +kernel
theorem dX7_claim_4 : decode cX7_claim 4 = .ok (.ifCond .eq 23, 3) := by decide +kernel
theorem dX7_claim_7 : decode cX7_claim 7 = .ok (.iload_n 2, 1) := by decide +kernel
theorem dX7_claim_8 : decode cX7_claim 8 = .ok (.iload_n 1, 1) := by decide +kernel
theorem dX7_claim_9 : decode cX7_claim 9 = .ok (.bipush 6, 2) := by decide +kernel
theorem dX7_claim_11 : decode cX7_claim 11 = .ok (.invokestatic 41, 3) := by decide +kernel
theorem dX7_claim_14 : decode cX7_claim 14 = .ok (.ifCond .eq 13, 3) := by decide +kernel
theorem dX7_claim_17 : decode cX7_claim 17 = .ok (.iload_n 3, 1) := by decide +kernel
theorem dX7_claim_18 : decode cX7_claim 18 = .ok (.iconst 1, 1) := by decide +kernel
theorem dX7_claim_19 : decode cX7_claim 19 = .ok (.bipush 99, 2) := by decide +kernel
theorem dX7_claim_21 : decode cX7_claim 21 = .ok (.invokestatic 41, 3) := by decide +kernel
theorem dX7_claim_24 : decode cX7_claim 24 = .ok (.ifCond .ne 5, 3) := by decide +kernel
theorem dX7_claim_27 : decode cX7_claim 27 = .ok (.iconst (-1), 1) := by decide +kernel
theorem dX7_claim_28 : decode cX7_claim 28 = .ok (.ireturn, 1) := by decide +kernel
theorem dX7_claim_29 : decode cX7_claim 29 = .ok (.aload_n 0, 1) := by decide +kernel
theorem dX7_claim_30 : decode cX7_claim 30 = .ok (.getfield 23, 3) := by decide +kernel
theorem dX7_claim_33 : decode cX7_claim 33 = .ok (.bipush 24, 2) := by decide +kernel
theorem dX7_claim_35 : decode cX7_claim 35 = .ok (.iaload, 1) := by decide +kernel
theorem dX7_claim_36 : decode cX7_claim 36 = .ok (.iconst 5, 1) := by decide +kernel
theorem dX7_claim_37 : decode cX7_claim 37 = .ok (.if_icmp .ne 6, 3) := by decide +kernel
theorem dX7_claim_40 : decode cX7_claim 40 = .ok (.bipush (-3), 2) := by decide +kernel
theorem dX7_claim_42 : decode cX7_claim 42 = .ok (.ireturn, 1) := by decide +kernel
theorem dX7_claim_43 : decode cX7_claim 43 = .ok (.aload_n 0, 1) := by decide +kernel
theorem dX7_claim_44 : decode cX7_claim 44 = .ok (.getfield 23, 3) := by decide +kernel
theorem dX7_claim_47 : decode cX7_claim 47 = .ok (.bipush 40, 2) := by decide +kernel
theorem dX7_claim_49 : decode cX7_claim 49 = .ok (.iconst 0, 1) := by decide +kernel
theorem dX7_claim_50 : decode cX7_claim 50 = .ok (.iastore, 1) := by decide +kernel
theorem dX7_claim_51 : decode cX7_claim 51 = .ok (.aload_n 0, 1) := by decide +kernel
theorem dX7_claim_52 : decode cX7_claim 52 = .ok (.getfield 23, 3) := by decide +kernel
theorem dX7_claim_55 : decode cX7_claim 55 = .ok (.iload_n 1, 1) := by decide +kernel
theorem dX7_claim_56 : decode cX7_claim 56 = .ok (.iload_n 2, 1) := by decide +kernel
theorem dX7_claim_57 : decode cX7_claim 57 = .ok (.iload_n 3, 1) := by decide +kernel
theorem dX7_claim_58 : decode cX7_claim 58 = .ok (.invokestatic 49, 3) := by decide +kernel
theorem dX7_claim_61 : decode cX7_claim 61 = .ok (.ireturn, 1) := by decide +kernel
theorem dX7_onOf_0 : decode cX7_onOf 0 = .ok (.aload_n 0, 1) := by decide +kernel
theorem dX7_onOf_1 : decode cX7_onOf 1 = .ok (.iconst 3, 1) := by decide +kernel
theorem dX7_onOf_2 : decode cX7_onOf 2 = .ok (.iload_n 1, 1) := by decide +kernel
theorem dX7_onOf_3 : decode cX7_onOf 3 = .ok (.iadd, 1) := by decide +kernel
theorem dX7_onOf_4 : decode cX7_onOf 4 = .ok (.iaload, 1) := by decide +kernel
theorem dX7_onOf_5 : decode cX7_onOf 5 = .ok (.istore_n 2, 1) := by decide +kernel
theorem dX7_onOf_6 : decode cX7_onOf 6 = .ok (.iconst 5, 1) := by decide +kernel
theorem dX7_onOf_7 : decode cX7_onOf 7 = .ok (.iload_n 2, 1) := by decide +kernel
theorem dX7_onOf_8 : decode cX7_onOf 8 = .ok (.iconst 2, 1) := by decide +kernel
theorem dX7_onOf_9 : decode cX7_onOf 9 = .ok (.idiv, 1) := by decide +kernel
theorem dX7_onOf_10 : decode cX7_onOf 10 = .ok (.isub, 1) := by decide +kernel
theorem dX7_onOf_11 : decode cX7_onOf 11 = .ok (.istore_n 3, 1) := by decide +kernel
theorem dX7_onOf_12 : decode cX7_onOf 12 = .ok (.iload_n 2, 1) := by decide +kernel
theorem dX7_onOf_13 : decode cX7_onOf 13 = .ok (.ifCond .ne 8, 3) := by decide +kernel
theorem dX7_onOf_16 : decode cX7_onOf 16 = .ok (.bipush 7, 2) := by decide +kernel
theorem dX7_onOf_18 : decode cX7_onOf 18 = .ok (.goto 4, 3) := by decide +kernel
theorem dX7_onOf_21 : decode cX7_onOf 21 = .ok (.iconst 5, 1) := by decide +kernel
theorem dX7_onOf_22 : decode cX7_onOf 22 = .ok (.istore 4, 2) := by decide +kernel
theorem dX7_onOf_24 : decode cX7_onOf 24 = .ok (.iload_n 1, 1) := by decide +kernel
theorem dX7_onOf_25 : decode cX7_onOf 25 = .ok (.bipush 6, 2) := by decide +kernel
theorem dX7_onOf_27 : decode cX7_onOf 27 = .ok (.if_icmp .ne 5, 3) := by decide +kernel
theorem dX7_onOf_30 : decode cX7_onOf 30 = .ok (.iconst 0, 1) := by decide +kernel
theorem dX7_onOf_31 : decode cX7_onOf 31 = .ok (.ireturn, 1) := by decide +kernel
theorem dX7_onOf_32 : decode cX7_onOf 32 = .ok (.aload_n 0, 1) := by decide +kernel
theorem dX7_onOf_33 : decode cX7_onOf 33 = .ok (.bipush 17, 2) := by decide +kernel
theorem dX7_onOf_35 : decode cX7_onOf 35 = .ok (.iload_n 1, 1) := by decide +kernel
theorem dX7_onOf_36 : decode cX7_onOf 36 = .ok (.iadd, 1) := by decide +kernel
theorem dX7_onOf_37 : decode cX7_onOf 37 = .ok (.iaload, 1) := by decide +kernel
theorem dX7_onOf_38 : decode cX7_onOf 38 = .ok (.tableswitch 50 0 3 #[30, 32, 34, 37], 30) := by decide +kernel
theorem dX7_onOf_68 : decode cX7_onOf 68 = .ok (.iconst 5, 1) := by decide +kernel
theorem dX7_onOf_69 : decode cX7_onOf 69 = .ok (.ireturn, 1) := by decide +kernel
theorem dX7_onOf_70 : decode cX7_onOf 70 = .ok (.iload_n 3, 1) := by decide +kernel
theorem dX7_onOf_71 : decode cX7_onOf 71 = .ok (.ireturn, 1) := by decide +kernel
theorem dX7_onOf_72 : decode cX7_onOf 72 = .ok (.iload 4, 2) := by decide +kernel
theorem dX7_onOf_74 : decode cX7_onOf 74 = .ok (.ireturn, 1) := by decide +kernel
theorem dX7_onOf_75 : decode cX7_onOf 75 = .ok (.iload_n 3, 1) := by decide +kernel
theorem dX7_onOf_76 : decode cX7_onOf 76 = .ok (.iconst 4, 1) := by decide +kernel
theorem dX7_onOf_77 : decode cX7_onOf 77 = .ok (.if_icmp .le 9, 3) := by decide +kernel
theorem dX7_onOf_80 : decode cX7_onOf 80 = .ok (.iload_n 3, 1) := by decide +kernel
theorem dX7_onOf_81 : decode cX7_onOf 81 = .ok (.iconst 3, 1) := by decide +kernel
theorem dX7_onOf_82 : decode cX7_onOf 82 = .ok (.isub, 1) := by decide +kernel
theorem dX7_onOf_83 : decode cX7_onOf 83 = .ok (.goto 4, 3) := by decide +kernel
theorem dX7_onOf_86 : decode cX7_onOf 86 = .ok (.iconst 1, 1) := by decide +kernel
theorem dX7_onOf_87 : decode cX7_onOf 87 = .ok (.ireturn, 1) := by decide +kernel
theorem dX7_onOf_88 : decode cX7_onOf 88 = .ok (.iload 4, 2) := by decide +kernel
theorem dX7_onOf_90 : decode cX7_onOf 90 = .ok (.iconst 2, 1) := by decide +kernel
theorem dX7_onOf_91 : decode cX7_onOf 91 = .ok (.iadd, 1) := by decide +kernel
theorem dX7_onOf_92 : decode cX7_onOf 92 = .ok (.ireturn, 1) := by decide +kernel
set_option maxRecDepth 20000 in
theorem ggX7_backOf_X7_onOf : GoodIn wsX7_backOf wsX7_onOf := goodIn_r _ [4] (by decide +kernel) (by decide +kernel)
set_option maxRecDepth 20000 in
theorem gX7_backOf_X7_onOf : GoodIn wsX7_backOf (va_wsS RX7 53 yX7_onOf wsX7_onOf) := goodIn_app (goodIn_of _ (by decide +kernel)) ggX7_backOf_X7_onOf
theorem dX7_backOf_0 : decode cX7_backOf 0 = .ok (.bipush 10, 2) := by decide +kernel
theorem dX7_backOf_2 : decode cX7_backOf 2 = .ok (.aload_n 0, 1) := by decide +kernel
theorem dX7_backOf_3 : decode cX7_backOf 3 = .ok (.iload_n 1, 1) := by decide +kernel
theorem dX7_backOf_4 : decode cX7_backOf 4 = .ok (.invokestatic 53, 3) := by decide +kernel
theorem dX7_backOf_7 : decode cX7_backOf 7 = .ok (.isub, 1) := by decide +kernel
theorem dX7_backOf_8 : decode cX7_backOf 8 = .ok (.istore_n 2, 1) := by decide +kernel
theorem dX7_backOf_9 : decode cX7_backOf 9 = .ok (.iload_n 1, 1) := by decide +kernel
theorem dX7_backOf_10 : decode cX7_backOf 10 = .ok (.ifCond .ne 7, 3) := by decide +kernel
theorem dX7_backOf_13 : decode cX7_backOf 13 = .ok (.iconst 0, 1) := by decide +kernel
theorem dX7_backOf_14 : decode cX7_backOf 14 = .ok (.goto 23, 3) := by decide +kernel
theorem dX7_backOf_17 : decode cX7_backOf 17 = .ok (.aload_n 0, 1) := by decide +kernel
theorem dX7_backOf_18 : decode cX7_backOf 18 = .ok (.bipush 10, 2) := by decide +kernel
theorem dX7_backOf_20 : decode cX7_backOf 20 = .ok (.iload_n 1, 1) := by decide +kernel
theorem dX7_backOf_21 : decode cX7_backOf 21 = .ok (.iadd, 1) := by decide +kernel
theorem dX7_backOf_22 : decode cX7_backOf 22 = .ok (.iaload, 1) := by decide +kernel
theorem dX7_backOf_23 : decode cX7_backOf 23 = .ok (.iload_n 2, 1) := by decide +kernel
theorem dX7_backOf_24 : decode cX7_backOf 24 = .ok (.if_icmp .ge 12, 3) := by decide +kernel
theorem dX7_backOf_27 : decode cX7_backOf 27 = .ok (.aload_n 0, 1) := by decide +kernel
theorem dX7_backOf_28 : decode cX7_backOf 28 = .ok (.bipush 10, 2) := by decide +kernel
theorem dX7_backOf_30 : decode cX7_backOf 30 = .ok (.iload_n 1, 1) := by decide +kernel
theorem dX7_backOf_31 : decode cX7_backOf 31 = .ok (.iadd, 1) := by decide +kernel
theorem dX7_backOf_32 : decode cX7_backOf 32 = .ok (.iaload, 1) := by decide +kernel
theorem dX7_backOf_33 : decode cX7_backOf 33 = .ok (.goto 4, 3) := by decide +kernel
theorem dX7_backOf_36 : decode cX7_backOf 36 = .ok (.iload_n 2, 1) := by decide +kernel
theorem dX7_backOf_37 : decode cX7_backOf 37 = .ok (.ireturn, 1) := by decide +kernel
set_option maxRecDepth 20000 in
theorem ggX7_of_X7_isField : GoodIn wsX7_of wsX7_isField := goodIn_r _ [5, 6, 7, 4, 8] (by decide +kernel) (by decide +kernel)
set_option maxRecDepth 20000 in
theorem gX7_of_X7_isField : GoodIn wsX7_of (va_wsS RX7 45 yX7_isField wsX7_isField) := goodIn_app (goodIn_of _ (by decide +kernel)) ggX7_of_X7_isField
set_option maxRecDepth 20000 in
theorem ggX7_of_X7_onOf : GoodIn wsX7_of wsX7_onOf := goodIn_r _ [11] (by decide +kernel) (by decide +kernel)
set_option maxRecDepth 20000 in
theorem gX7_of_X7_onOf : GoodIn wsX7_of (va_wsS RX7 53 yX7_onOf wsX7_onOf) := goodIn_app (goodIn_of _ (by decide +kernel)) ggX7_of_X7_onOf
set_option maxRecDepth 20000 in
theorem ggX7_of_X7_backOf : GoodIn wsX7_of wsX7_backOf := goodIn_r _ [14, 9, 10, 4, 11] (by decide +kernel) (by decide +kernel)
set_option maxRecDepth 20000 in
theorem gX7_of_X7_backOf : GoodIn wsX7_of (va_wsS RX7 57 yX7_backOf wsX7_backOf) := goodIn_app (goodIn_of _ (by decide +kernel)) ggX7_of_X7_backOf
theorem dX7_of_0 : decode cX7_of 0 = .ok (.iload_n 1, 1) := by decide +kernel
theorem dX7_of_1 : decode cX7_of 1 = .ok (.invokestatic 45, 3) := by decide +kernel
theorem dX7_of_4 : decode cX7_of 4 = .ok (.ifCond .ne 5, 3) := by decide +kernel
theorem dX7_of_7 : decode cX7_of 7 = .ok (.iconst (-1), 1) := by decide +kernel
theorem dX7_of_8 : decode cX7_of 8 = .ok (.ireturn, 1) := by decide +kernel
theorem dX7_of_9 : decode cX7_of 9 = .ok (.iload_n 2, 1) := by decide +kernel
theorem dX7_of_10 : decode cX7_of 10 = .ok (.tableswitch 81 0 4 #[34, 44, 53, 63, 72], 34) := by decide +kernel
theorem dX7_of_44 : decode cX7_of 44 = .ok (.aload_n 0, 1) := by decide +kernel
theorem dX7_of_45 : decode cX7_of 45 = .ok (.getfield 23, 3) := by decide +kernel
theorem dX7_of_48 : decode cX7_of 48 = .ok (.bipush 17, 2) := by decide +kernel
theorem dX7_of_50 : decode cX7_of 50 = .ok (.iload_n 1, 1) := by decide +kernel
theorem dX7_of_51 : decode cX7_of 51 = .ok (.iadd, 1) := by decide +kernel
theorem dX7_of_52 : decode cX7_of 52 = .ok (.iaload, 1) := by decide +kernel
theorem dX7_of_53 : decode cX7_of 53 = .ok (.ireturn, 1) := by decide +kernel
theorem dX7_of_54 : decode cX7_of 54 = .ok (.aload_n 0, 1) := by decide +kernel
theorem dX7_of_55 : decode cX7_of 55 = .ok (.getfield 23, 3) := by decide +kernel
theorem dX7_of_58 : decode cX7_of 58 = .ok (.iconst 3, 1) := by decide +kernel
theorem dX7_of_59 : decode cX7_of 59 = .ok (.iload_n 1, 1) := by decide +kernel
theorem dX7_of_60 : decode cX7_of 60 = .ok (.iadd, 1) := by decide +kernel
theorem dX7_of_61 : decode cX7_of 61 = .ok (.iaload, 1) := by decide +kernel
theorem dX7_of_62 : decode cX7_of 62 = .ok (.ireturn, 1) := by decide +kernel
theorem dX7_of_63 : decode cX7_of 63 = .ok (.aload_n 0, 1) := by decide +kernel
theorem dX7_of_64 : decode cX7_of 64 = .ok (.getfield 23, 3) := by decide +kernel
theorem dX7_of_67 : decode cX7_of 67 = .ok (.bipush 10, 2) := by decide +kernel
theorem dX7_of_69 : decode cX7_of 69 = .ok (.iload_n 1, 1) := by decide +kernel
theorem dX7_of_70 : decode cX7_of 70 = .ok (.iadd, 1) := by decide +kernel
theorem dX7_of_71 : decode cX7_of 71 = .ok (.iaload, 1) := by decide +kernel
theorem dX7_of_72 : decode cX7_of 72 = .ok (.ireturn, 1) := by decide +kernel
theorem dX7_of_73 : decode cX7_of 73 = .ok (.aload_n 0, 1) := by decide +kernel
theorem dX7_of_74 : decode cX7_of 74 = .ok (.getfield 23, 3) := by decide +kernel
theorem dX7_of_77 : decode cX7_of 77 = .ok (.iload_n 1, 1) := by decide +kernel
theorem dX7_of_78 : decode cX7_of 78 = .ok (.invokestatic 53, 3) := by decide +kernel
theorem dX7_of_81 : decode cX7_of 81 = .ok (.ireturn, 1) := by decide +kernel
theorem dX7_of_82 : decode cX7_of 82 = .ok (.aload_n 0, 1) := by decide +kernel
theorem dX7_of_83 : decode cX7_of 83 = .ok (.getfield 23, 3) := by decide +kernel
theorem dX7_of_86 : decode cX7_of 86 = .ok (.iload_n 1, 1) := by decide +kernel
theorem dX7_of_87 : decode cX7_of 87 = .ok (.invokestatic 57, 3) := by decide +kernel
theorem dX7_of_90 : decode cX7_of 90 = .ok (.ireturn, 1) := by decide +kernel
theorem dX7_of_91 : decode cX7_of 91 = .ok (.iconst (-1), 1) := by decide +kernel
theorem dX7_of_92 : decode cX7_of 92 = .ok (.ireturn, 1) := by decide +kernel
set_option maxRecDepth 20000 in
theorem ggX7_at_X7_isClaim : GoodIn wsX7_at wsX7_isClaim := goodIn_r _ [6, 1, 7, 8, 5, 9, 10, 11, 12, 13, 14, 15, 16, 17, 18, 19, 20, 21, 22, 23, 24, 25, 26, 27, 28] (by decide +kernel) (by decide +kernel)
set_option maxRecDepth 20000 in
theorem gX7_at_X7_isClaim : GoodIn wsX7_at (wsV RX7 60 RX7 yX7_isClaim wsX7_isClaim) := goodIn_app (goodIn_of _ (by decide +kernel)) ggX7_at_X7_isClaim
theorem dX7_at_0 : decode cX7_at 0 = .ok (.aload_n 0, 1) := by decide +kernel
theorem dX7_at_1 : decode cX7_at 1 = .ok (.iload_n 1, 1) := by decide +kernel
theorem dX7_at_2 : decode cX7_at 2 = .ok (.invokevirtual 60, 3) := by decide +kernel
theorem dX7_at_5 : decode cX7_at 5 = .ok (.ifCond .ne 5, 3) := by decide +kernel
theorem dX7_at_8 : decode cX7_at 8 = .ok (.iconst (-1), 1) := by decide +kernel
theorem dX7_at_9 : decode cX7_at 9 = .ok (.ireturn, 1) := by decide +kernel
theorem dX7_at_10 : decode cX7_at 10 = .ok (.iload_n 2, 1) := by decide +kernel
theorem dX7_at_11 : decode cX7_at 11 = .ok (.ifCond .ne 15, 3) := by decide +kernel
theorem dX7_at_14 : decode cX7_at 14 = .ok (.aload_n 0, 1) := by decide +kernel
theorem dX7_at_15 : decode cX7_at 15 = .ok (.getfield 23, 3) := by decide +kernel
theorem dX7_at_18 : decode cX7_at 18 = .ok (.bipush 25, 2) := by decide +kernel
theorem dX7_at_20 : decode cX7_at 20 = .ok (.iload_n 1, 1) := by decide +kernel
theorem dX7_at_21 : decode cX7_at 21 = .ok (.iadd, 1) := by decide +kernel
theorem dX7_at_22 : decode cX7_at 22 = .ok (.iaload, 1) := by decide +kernel
theorem dX7_at_23 : decode cX7_at 23 = .ok (.goto 38, 3) := by decide +kernel
theorem dX7_at_26 : decode cX7_at 26 = .ok (.iload_n 2, 1) := by decide +kernel
theorem dX7_at_27 : decode cX7_at 27 = .ok (.iconst 1, 1) := by decide +kernel
theorem dX7_at_28 : decode cX7_at 28 = .ok (.if_icmp .ne 15, 3) := by decide +kernel
theorem dX7_at_31 : decode cX7_at 31 = .ok (.aload_n 0, 1) := by decide +kernel
theorem dX7_at_32 : decode cX7_at 32 = .ok (.getfield 23, 3) := by decide +kernel
theorem dX7_at_35 : decode cX7_at 35 = .ok (.bipush 30, 2) := by decide +kernel
theorem dX7_at_37 : decode cX7_at 37 = .ok (.iload_n 1, 1) := by decide +kernel
theorem dX7_at_38 : decode cX7_at 38 = .ok (.iadd, 1) := by decide +kernel
theorem dX7_at_39 : decode cX7_at 39 = .ok (.iaload, 1) := by decide +kernel
theorem dX7_at_40 : decode cX7_at 40 = .ok (.goto 21, 3) := by decide +kernel
theorem dX7_at_43 : decode cX7_at 43 = .ok (.iload_n 2, 1) := by decide +kernel
theorem dX7_at_44 : decode cX7_at 44 = .ok (.iconst 2, 1) := by decide +kernel
theorem dX7_at_45 : decode cX7_at 45 = .ok (.if_icmp .ne 15, 3) := by decide +kernel
theorem dX7_at_48 : decode cX7_at 48 = .ok (.aload_n 0, 1) := by decide +kernel
theorem dX7_at_49 : decode cX7_at 49 = .ok (.getfield 23, 3) := by decide +kernel
theorem dX7_at_52 : decode cX7_at 52 = .ok (.bipush 35, 2) := by decide +kernel
theorem dX7_at_54 : decode cX7_at 54 = .ok (.iload_n 1, 1) := by decide +kernel
theorem dX7_at_55 : decode cX7_at 55 = .ok (.iadd, 1) := by decide +kernel
theorem dX7_at_56 : decode cX7_at 56 = .ok (.iaload, 1) := by decide +kernel
theorem dX7_at_57 : decode cX7_at 57 = .ok (.goto 4, 3) := by decide +kernel
theorem dX7_at_60 : decode cX7_at 60 = .ok (.iconst (-1), 1) := by decide +kernel
theorem dX7_at_61 : decode cX7_at 61 = .ok (.ireturn, 1) := by decide +kernel
set_option maxRecDepth 20000 in
theorem ggX7_type_X7_in : GoodIn wsX7_type wsX7_in := goodIn_r _ [6] (by decide +kernel) (by decide +kernel)
set_option maxRecDepth 20000 in
theorem gX7_type_X7_in : GoodIn wsX7_type (va_wsS RX7 41 yX7_in wsX7_in) := goodIn_app (goodIn_of _ (by decide +kernel)) ggX7_type_X7_in
theorem dX7_type_0 : decode cX7_type 0 = .ok (.iload_n 1, 1) := by decide +kernel
theorem dX7_type_1 : decode cX7_type 1 = .ok (.bipush 32, 2) := by decide +kernel
theorem dX7_type_3 : decode cX7_type 3 = .ok (.bipush 126, 2) := by decide +kernel
theorem dX7_type_5 : decode cX7_type 5 = .ok (.invokestatic 41, 3) := by decide +kernel
theorem dX7_type_8 : decode cX7_type 8 = .ok (.ifCond .ne 5, 3) := by decide +kernel
theorem dX7_type_11 : decode cX7_type 11 = .ok (.iconst (-1), 1) := by decide +kernel
theorem dX7_type_12 : decode cX7_type 12 = .ok (.ireturn, 1) := by decide +kernel
theorem dX7_type_13 : decode cX7_type 13 = .ok (.aload_n 0, 1) := by decide +kernel
theorem dX7_type_14 : decode cX7_type 14 = .ok (.getfield 63, 3) := by decide +kernel
theorem dX7_type_17 : decode cX7_type 17 = .ok (.bipush 80, 2) := by decide +kernel
theorem dX7_type_19 : decode cX7_type 19 = .ok (.if_icmp .ne 6, 3) := by decide +kernel
theorem dX7_type_22 : decode cX7_type 22 = .ok (.bipush (-3), 2) := by decide +kernel
theorem dX7_type_24 : decode cX7_type 24 = .ok (.ireturn, 1) := by decide +kernel
theorem dX7_type_25 : decode cX7_type 25 = .ok (.aload_n 0, 1) := by decide +kernel
theorem dX7_type_26 : decode cX7_type 26 = .ok (.getfield 20, 3) := by decide +kernel
theorem dX7_type_29 : decode cX7_type 29 = .ok (.aload_n 0, 1) := by decide +kernel
theorem dX7_type_30 : decode cX7_type 30 = .ok (.getfield 63, 3) := by decide +kernel
theorem dX7_type_33 : decode cX7_type 33 = .ok (.iload_n 1, 1) := by decide +kernel
theorem dX7_type_34 : decode cX7_type 34 = .ok (.iastore, 1) := by decide +kernel
theorem dX7_type_35 : decode cX7_type 35 = .ok (.aload_n 0, 1) := by decide +kernel
theorem dX7_type_36 : decode cX7_type 36 = .ok (.dup, 1) := by decide +kernel
theorem dX7_type_37 : decode cX7_type 37 = .ok (.getfield 63, 3) := by decide +kernel
theorem dX7_type_40 : decode cX7_type 40 = .ok (.iconst 1, 1) := by decide +kernel
theorem dX7_type_41 : decode cX7_type 41 = .ok (.iadd, 1) := by decide +kernel
theorem dX7_type_42 : decode cX7_type 42 = .ok (.putfield 63, 3) := by decide +kernel
theorem dX7_type_45 : decode cX7_type 45 = .ok (.aload_n 0, 1) := by decide +kernel
theorem dX7_type_46 : decode cX7_type 46 = .ok (.getfield 63, 3) := by decide +kernel
theorem dX7_type_49 : decode cX7_type 49 = .ok (.ireturn, 1) := by decide +kernel
theorem dX7_peek_0 : decode cX7_peek 0 = .ok (.aload_n 0, 1) := by decide +kernel
theorem dX7_peek_1 : decode cX7_peek 1 = .ok (.getfield 67, 3) := by decide +kernel
theorem dX7_peek_4 : decode cX7_peek 4 = .ok (.aload_n 0, 1) := by decide +kernel
theorem dX7_peek_5 : decode cX7_peek 5 = .ok (.getfield 63, 3) := by decide +kernel
theorem dX7_peek_8 : decode cX7_peek 8 = .ok (.if_icmp .ge 30, 3) := by decide +kernel
theorem dX7_peek_11 : decode cX7_peek 11 = .ok (.aload_n 0, 1) := by decide +kernel
theorem dX7_peek_12 : decode cX7_peek 12 = .ok (.getfield 20, 3) := by decide +kernel
theorem dX7_peek_15 : decode cX7_peek 15 = .ok (.aload_n 0, 1) := by decide +kernel
theorem dX7_peek_16 : decode cX7_peek 16 = .ok (.getfield 67, 3) := by decide +kernel
theorem dX7_peek_19 : decode cX7_peek 19 = .ok (.iaload, 1) := by decide +kernel
theorem dX7_peek_20 : decode cX7_peek 20 = .ok (.bipush 32, 2) := by decide +kernel
theorem dX7_peek_22 : decode cX7_peek 22 = .ok (.if_icmp .ne 16, 3) := by decide +kernel
theorem dX7_peek_25 : decode cX7_peek 25 = .ok (.aload_n 0, 1) := by decide +kernel
theorem dX7_peek_26 : decode cX7_peek 26 = .ok (.dup, 1) := by decide +kernel
theorem dX7_peek_27 : decode cX7_peek 27 = .ok (.getfield 67, 3) := by decide +kernel
theorem dX7_peek_30 : decode cX7_peek 30 = .ok (.iconst 1, 1) := by decide +kernel
theorem dX7_peek_31 : decode cX7_peek 31 = .ok (.iadd, 1) := by decide +kernel
theorem dX7_peek_32 : decode cX7_peek 32 = .ok (.putfield 67, 3) := by decide +kernel
theorem dX7_peek_35 : decode cX7_peek 35 = .ok (.goto (-35), 3) := by decide +kernel
theorem dX7_peek_38 : decode cX7_peek 38 = .ok (.aload_n 0, 1) := by decide +kernel
theorem dX7_peek_39 : decode cX7_peek 39 = .ok (.getfield 67, 3) := by decide +kernel
theorem dX7_peek_42 : decode cX7_peek 42 = .ok (.aload_n 0, 1) := by decide +kernel
theorem dX7_peek_43 : decode cX7_peek 43 = .ok (.getfield 63, 3) := by decide +kernel
theorem dX7_peek_46 : decode cX7_peek 46 = .ok (.if_icmp .ge 15, 3) := by decide +kernel
theorem dX7_peek_49 : decode cX7_peek 49 = .ok (.aload_n 0, 1) := by decide +kernel
theorem dX7_peek_50 : decode cX7_peek 50 = .ok (.getfield 20, 3) := by decide +kernel
theorem dX7_peek_53 : decode cX7_peek 53 = .ok (.aload_n 0, 1) := by decide +kernel
theorem dX7_peek_54 : decode cX7_peek 54 = .ok (.getfield 67, 3) := by decide +kernel
theorem dX7_peek_57 : decode cX7_peek 57 = .ok (.iaload, 1) := by decide +kernel
theorem dX7_peek_58 : decode cX7_peek 58 = .ok (.goto 4, 3) := by decide +kernel
theorem dX7_peek_61 : decode cX7_peek 61 = .ok (.iconst 0, 1) := by decide +kernel
theorem dX7_peek_62 : decode cX7_peek 62 = .ok (.ireturn, 1) := by decide +kernel
set_option maxRecDepth 20000 in
theorem ggX7_isSign_X7_peek : GoodIn wsX7_isSign wsX7_peek := goodIn_r _ [6, 1, 7, 8, 9, 10, 11, 12, 13, 14, 15, 16, 17, 18, 19, 20, 21, 22, 23, 24, 25, 26, 27] (by decide +kernel) (by decide +kernel)
set_option maxRecDepth 20000 in
theorem gX7_isSign_X7_peek : GoodIn wsX7_isSign (wsV RX7 70 RX7 yX7_peek wsX7_peek) := goodIn_app (goodIn_of _ (by decide +kernel)) ggX7_isSign_X7_peek
theorem dX7_isSign_0 : decode cX7_isSign 0 = .ok (.aload_n 0, 1) := by decide +kernel
theorem dX7_isSign_1 : decode cX7_isSign 1 = .ok (.invokevirtual 70, 3) := by decide +kernel
theorem dX7_isSign_4 : decode cX7_isSign 4 = .ok (.iload_n 1, 1) := by decide +kernel
theorem dX7_isSign_5 : decode cX7_isSign 5 = .ok (.if_icmp .eq 5, 3) := by decide +kernel
theorem dX7_isSign_8 : decode cX7_isSign 8 = .ok (.iconst 0, 1) := by decide +kernel
theorem dX7_isSign_9 : decode cX7_isSign 9 = .ok (.ireturn, 1) := by decide +kernel
theorem dX7_isSign_10 : decode cX7_isSign 10 = .ok (.aload_n 0, 1) := by decide +kernel
theorem dX7_isSign_11 : decode cX7_isSign 11 = .ok (.dup, 1) := by decide +kernel
theorem dX7_isSign_12 : decode cX7_isSign 12 = .ok (.getfield 67, 3) := by decide +kernel
theorem dX7_isSign_15 : decode cX7_isSign 15 = .ok (.iconst 1, 1) := by decide +kernel
theorem dX7_isSign_16 : decode cX7_isSign 16 = .ok (.iadd, 1) := by decide +kernel
theorem dX7_isSign_17 : decode cX7_isSign 17 = .ok (.putfield 67, 3) := by decide +kernel
theorem dX7_isSign_20 : decode cX7_isSign 20 = .ok (.iconst 1, 1) := by decide +kernel
theorem dX7_isSign_21 : decode cX7_isSign 21 = .ok (.ireturn, 1) := by decide +kernel
set_option maxRecDepth 20000 in
theorem ggX7_isDigit_X7_peek : GoodIn wsX7_isDigit wsX7_peek := goodIn_r _ [7, 2, 8, 9, 13, 14, 15, 16, 17, 18, 19, 20, 21, 22, 23, 24, 25, 26, 27, 28, 29, 30, 31] (by decide +kernel) (by decide +kernel)
set_option maxRecDepth 20000 in
theorem gX7_isDigit_X7_peek : GoodIn wsX7_isDigit (wsV RX7 70 RX7 yX7_peek wsX7_peek) := goodIn_app (goodIn_of _ (by decide +kernel)) ggX7_isDigit_X7_peek
set_option maxRecDepth 20000 in
theorem ggX7_isDigit_X7_in : GoodIn wsX7_isDigit wsX7_in := goodIn_r _ [12] (by decide +kernel) (by decide +kernel)
set_option maxRecDepth 20000 in
theorem gX7_isDigit_X7_in : GoodIn wsX7_isDigit (va_wsS RX7 41 yX7_in wsX7_in) := goodIn_app (goodIn_of _ (by decide +kernel)) ggX7_isDigit_X7_in
theorem dX7_isDigit_0 : decode cX7_isDigit 0 = .ok (.aload_n 0, 1) := by decide +kernel
theorem dX7_isDigit_1 : decode cX7_isDigit 1 = .ok (.aload_n 0, 1) := by decide +kernel
theorem dX7_isDigit_2 : decode cX7_isDigit 2 = .ok (.invokevirtual 70, 3) := by decide +kernel
theorem dX7_isDigit_5 : decode cX7_isDigit 5 = .ok (.bipush 48, 2) := by decide +kernel
theorem dX7_isDigit_7 : decode cX7_isDigit 7 = .ok (.isub, 1) := by decide +kernel
theorem dX7_isDigit_8 : decode cX7_isDigit 8 = .ok (.putfield 74, 3) := by decide +kernel
theorem dX7_isDigit_11 : decode cX7_isDigit 11 = .ok (.aload_n 0, 1) := by decide +kernel
theorem dX7_isDigit_12 : decode cX7_isDigit 12 = .ok (.getfield 74, 3) := by decide +kernel
theorem dX7_isDigit_15 : decode cX7_isDigit 15 = .ok (.iload_n 1, 1) := by decide +kernel
theorem dX7_isDigit_16 : decode cX7_isDigit 16 = .ok (.iload_n 2, 1) := by decide +kernel
theorem dX7_isDigit_17 : decode cX7_isDigit 17 = .ok (.invokestatic 41, 3) := by decide +kernel
theorem dX7_isDigit_20 : decode cX7_isDigit 20 = .ok (.ifCond .ne 5, 3) := by decide +kernel
theorem dX7_isDigit_23 : decode cX7_isDigit 23 = .ok (.iconst 0, 1) := by decide +kernel
theorem dX7_isDigit_24 : decode cX7_isDigit 24 = .ok (.ireturn, 1) := by decide +kernel
theorem dX7_isDigit_25 : decode cX7_isDigit 25 = .ok (.aload_n 0, 1) := by decide +kernel
theorem dX7_isDigit_26 : decode cX7_isDigit 26 = .ok (.dup, 1) := by decide +kernel
theorem dX7_isDigit_27 : decode cX7_isDigit 27 = .ok (.getfield 67, 3) := by decide +kernel
theorem dX7_isDigit_30 : decode cX7_isDigit 30 = .ok (.iconst 1, 1) := by decide +kernel
theorem dX7_isDigit_31 : decode cX7_isDigit 31 = .ok (.iadd, 1) := by decide +kernel
theorem dX7_isDigit_32 : decode cX7_isDigit 32 = .ok (.putfield 67, 3) := by decide +kernel
theorem dX7_isDigit_35 : decode cX7_isDigit 35 = .ok (.iconst 1, 1) := by decide +kernel
theorem dX7_isDigit_36 : decode cX7_isDigit 36 = .ok (.ireturn, 1) := by decide +kernel
set_option maxRecDepth 20000 in
theorem ggX7_isNumber_X7_isDigit : GoodIn wsX7_isNumber wsX7_isDigit := goodIn_r _ [9, 2, 1, 10, 11, 12, 8, 13, 3, 4, 14, 15, 16, 17, 18, 19, 20, 21, 22, 23, 24, 25, 26, 27, 28, 29, 30, 31, 32, 33, 34, 35] (by decide +kernel) (by decide +kernel)
set_option maxRecDepth 20000 in
theorem gX7_isNumber_X7_isDigit : GoodIn wsX7_isNumber (wsV RX7 77 RX7 yX7_isDigit wsX7_isDigit) := goodIn_app (goodIn_of _ (by decide +kernel)) ggX7_isNumber_X7_isDigit
set_option maxRecDepth 20000 in
theorem ggX7_isNumber_X7_in : GoodIn wsX7_isNumber wsX7_in := goodIn_r _ [16] (by decide +kernel) (by decide +kernel)
set_option maxRecDepth 20000 in
theorem gX7_isNumber_X7_in : GoodIn wsX7_isNumber (va_wsS RX7 41 yX7_in wsX7_in) := goodIn_app (goodIn_of _ (by decide +kernel)) ggX7_isNumber_X7_in
theorem dX7_isNumber_0 : decode cX7_isNumber 0 = .ok (.aload_n 0, 1) := by decide +kernel
theorem dX7_isNumber_1 : decode cX7_isNumber 1 = .ok (.iconst 0, 1) := by decide +kernel
theorem dX7_isNumber_2 : decode cX7_isNumber 2 = .ok (.bipush 9, 2) := by decide +kernel
theorem dX7_isNumber_4 : decode cX7_isNumber 4 = .ok (.invokevirtual 77, 3) := by decide +kernel
theorem dX7_isNumber_7 : decode cX7_isNumber 7 = .ok (.ifCond .ne 5, 3) := by decide +kernel
theorem dX7_isNumber_10 : decode cX7_isNumber 10 = .ok (.iconst 0, 1) := by decide +kernel
theorem dX7_isNumber_11 : decode cX7_isNumber 11 = .ok (.ireturn, 1) := by decide +kernel
theorem dX7_isNumber_12 : decode cX7_isNumber 12 = .ok (.aload_n 0, 1) := by decide +kernel
theorem dX7_isNumber_13 : decode cX7_isNumber 13 = .ok (.getfield 67, 3) := by decide +kernel
theorem dX7_isNumber_16 : decode cX7_isNumber 16 = .ok (.iconst 1, 1) := by decide +kernel
theorem dX7_isNumber_17 : decode cX7_isNumber 17 = .ok (.isub, 1) := by decide +kernel
theorem dX7_isNumber_18 : decode cX7_isNumber 18 = .ok (.istore_n 3, 1) := by decide +kernel
theorem dX7_isNumber_19 : decode cX7_isNumber 19 = .ok (.aload_n 0, 1) := by decide +kernel
theorem dX7_isNumber_20 : decode cX7_isNumber 20 = .ok (.getfield 74, 3) := by decide +kernel
theorem dX7_isNumber_23 : decode cX7_isNumber 23 = .ok (.istore 4, 2) := by decide +kernel
theorem dX7_isNumber_25 : decode cX7_isNumber 25 = .ok (.aload_n 0, 1) := by decide +kernel
theorem dX7_isNumber_26 : decode cX7_isNumber 26 = .ok (.getfield 67, 3) := by decide +kernel
theorem dX7_isNumber_29 : decode cX7_isNumber 29 = .ok (.aload_n 0, 1) := by decide +kernel
theorem dX7_isNumber_30 : decode cX7_isNumber 30 = .ok (.getfield 63, 3) := by decide +kernel
theorem dX7_isNumber_33 : decode cX7_isNumber 33 = .ok (.if_icmp .ge 52, 3) := by decide +kernel
theorem dX7_isNumber_36 : decode cX7_isNumber 36 = .ok (.aload_n 0, 1) := by decide +kernel
theorem dX7_isNumber_37 : decode cX7_isNumber 37 = .ok (.getfield 20, 3) := by decide +kernel
theorem dX7_isNumber_40 : decode cX7_isNumber 40 = .ok (.aload_n 0, 1) := by decide +kernel
theorem dX7_isNumber_41 : decode cX7_isNumber 41 = .ok (.getfield 67, 3) := by decide +kernel
theorem dX7_isNumber_44 : decode cX7_isNumber 44 = .ok (.iaload, 1) := by decide +kernel
theorem dX7_isNumber_45 : decode cX7_isNumber 45 = .ok (.bipush 48, 2) := by decide +kernel
theorem dX7_isNumber_47 : decode cX7_isNumber 47 = .ok (.bipush 57, 2) := by decide +kernel
theorem dX7_isNumber_49 : decode cX7_isNumber 49 = .ok (.invokestatic 41, 3) := by decide +kernel
theorem dX7_isNumber_52 : decode cX7_isNumber 52 = .ok (.ifCond .eq 33, 3) := by decide +kernel
theorem dX7_isNumber_55 : decode cX7_isNumber 55 = .ok (.bipush 10, 2) := by decide +kernel
theorem dX7_isNumber_57 : decode cX7_isNumber 57 = .ok (.iload 4, 2) := by decide +kernel
theorem dX7_isNumber_59 : decode cX7_isNumber 59 = .ok (.imul, 1) := by decide +kernel
theorem dX7_isNumber_60 : decode cX7_isNumber 60 = .ok (.aload_n 0, 1) := by decide +kernel
theorem dX7_isNumber_61 : decode cX7_isNumber 61 = .ok (.getfield 20, 3) := by decide +kernel
theorem dX7_isNumber_64 : decode cX7_isNumber 64 = .ok (.aload_n 0, 1) := by decide +kernel
theorem dX7_isNumber_65 : decode cX7_isNumber 65 = .ok (.getfield 67, 3) := by decide +kernel
theorem dX7_isNumber_68 : decode cX7_isNumber 68 = .ok (.iaload, 1) := by decide +kernel
theorem dX7_isNumber_69 : decode cX7_isNumber 69 = .ok (.iadd, 1) := by decide +kernel
theorem dX7_isNumber_70 : decode cX7_isNumber 70 = .ok (.bipush 48, 2) := by decide +kernel
theorem dX7_isNumber_72 : decode cX7_isNumber 72 = .ok (.isub, 1) := by decide +kernel
theorem dX7_isNumber_73 : decode cX7_isNumber 73 = .ok (.istore 4, 2) := by decide +kernel
theorem dX7_isNumber_75 : decode cX7_isNumber 75 = .ok (.aload_n 0, 1) := by decide +kernel
theorem dX7_isNumber_76 : decode cX7_isNumber 76 = .ok (.dup, 1) := by decide +kernel
theorem dX7_isNumber_77 : decode cX7_isNumber 77 = .ok (.getfield 67, 3) := by decide +kernel
theorem dX7_isNumber_80 : decode cX7_isNumber 80 = .ok (.iconst 1, 1) := by decide +kernel
theorem dX7_isNumber_81 : decode cX7_isNumber 81 = .ok (.iadd, 1) := by decide +kernel
theorem dX7_isNumber_82 : decode cX7_isNumber 82 = .ok (.putfield 67, 3) := by decide +kernel
theorem dX7_isNumber_85 : decode cX7_isNumber 85 = .ok (.aload_n 0, 1) := by decide +kernel
theorem dX7_isNumber_86 : decode cX7_isNumber 86 = .ok (.iload 4, 2) := by decide +kernel
theorem dX7_isNumber_88 : decode cX7_isNumber 88 = .ok (.putfield 74, 3) := by decide +kernel
theorem dX7_isNumber_91 : decode cX7_isNumber 91 = .ok (.iload 4, 2) := by decide +kernel
theorem dX7_isNumber_93 : decode cX7_isNumber 93 = .ok (.iload_n 1, 1) := by decide +kernel
theorem dX7_isNumber_94 : decode cX7_isNumber 94 = .ok (.iload_n 2, 1) := by decide +kernel
theorem dX7_isNumber_95 : decode cX7_isNumber 95 = .ok (.invokestatic 41, 3) := by decide +kernel
theorem dX7_isNumber_98 : decode cX7_isNumber 98 = .ok (.ifCond .ne 10, 3) := by decide +kernel
theorem dX7_isNumber_101 : decode cX7_isNumber 101 = .ok (.aload_n 0, 1) := by decide +kernel
theorem dX7_isNumber_102 : decode cX7_isNumber 102 = .ok (.iload_n 3, 1) := by decide +kernel
theorem dX7_isNumber_103 : decode cX7_isNumber 103 = .ok (.putfield 67, 3) := by decide +kernel
theorem dX7_isNumber_106 : decode cX7_isNumber 106 = .ok (.iconst 0, 1) := by decide +kernel
theorem dX7_isNumber_107 : decode cX7_isNumber 107 = .ok (.ireturn, 1) := by decide +kernel
theorem dX7_isNumber_108 : decode cX7_isNumber 108 = .ok (.aload_n 0, 1) := by decide +kernel
theorem dX7_isNumber_109 : decode cX7_isNumber 109 = .ok (.getfield 67, 3) := by decide +kernel
theorem dX7_isNumber_112 : decode cX7_isNumber 112 = .ok (.aload_n 0, 1) := by decide +kernel
theorem dX7_isNumber_113 : decode cX7_isNumber 113 = .ok (.getfield 63, 3) := by decide +kernel
theorem dX7_isNumber_116 : decode cX7_isNumber 116 = .ok (.if_icmp .eq 22, 3) := by decide +kernel
theorem dX7_isNumber_119 : decode cX7_isNumber 119 = .ok (.aload_n 0, 1) := by decide +kernel
theorem dX7_isNumber_120 : decode cX7_isNumber 120 = .ok (.getfield 20, 3) := by decide +kernel
theorem dX7_isNumber_123 : decode cX7_isNumber 123 = .ok (.aload_n 0, 1) := by decide +kernel
theorem dX7_isNumber_124 : decode cX7_isNumber 124 = .ok (.getfield 67, 3) := by decide +kernel
theorem dX7_isNumber_127 : decode cX7_isNumber 127 = .ok (.iaload, 1) := by decide +kernel
theorem dX7_isNumber_128 : decode cX7_isNumber 128 = .ok (.bipush 48, 2) := by decide +kernel
theorem dX7_isNumber_130 : decode cX7_isNumber 130 = .ok (.bipush 57, 2) := by decide +kernel
theorem dX7_isNumber_132 : decode cX7_isNumber 132 = .ok (.invokestatic 41, 3) := by decide +kernel
theorem dX7_isNumber_135 : decode cX7_isNumber 135 = .ok (.ifCond .ne 7, 3) := by decide +kernel
theorem dX7_isNumber_138 : decode cX7_isNumber 138 = .ok (.iconst 1, 1) := by decide +kernel
theorem dX7_isNumber_139 : decode cX7_isNumber 139 = .ok (.goto 4, 3) := by decide +kernel
theorem dX7_isNumber_142 : decode cX7_isNumber 142 = .ok (.iconst 0, 1) := by decide +kernel
theorem dX7_isNumber_143 : decode cX7_isNumber 143 = .ok (.ireturn, 1) := by decide +kernel
theorem dX7_kindBy_0 : decode cX7_kindBy 0 = .ok (.iload_n 0, 1) := by decide +kernel
theorem dX7_kindBy_1 : decode cX7_kindBy 1 = .ok (.bipush 109, 2) := by decide +kernel
theorem dX7_kindBy_3 : decode cX7_kindBy 3 = .ok (.if_icmp .ne 7, 3) := by decide +kernel
theorem dX7_kindBy_6 : decode cX7_kindBy 6 = .ok (.iconst 0, 1) := by decide +kernel
theorem dX7_kindBy_7 : decode cX7_kindBy 7 = .ok (.goto 44, 3) := by decide +kernel
theorem dX7_kindBy_10 : decode cX7_kindBy 10 = .ok (.iload_n 0, 1) := by decide +kernel
theorem dX7_kindBy_11 : decode cX7_kindBy 11 = .ok (.bipush 99, 2) := by decide +kernel
theorem dX7_kindBy_13 : decode cX7_kindBy 13 = .ok (.if_icmp .ne 7, 3) := by decide +kernel
theorem dX7_kindBy_16 : decode cX7_kindBy 16 = .ok (.iconst 1, 1) := by decide +kernel
theorem dX7_kindBy_17 : decode cX7_kindBy 17 = .ok (.goto 34, 3) := by decide +kernel
theorem dX7_kindBy_20 : decode cX7_kindBy 20 = .ok (.iload_n 0, 1) := by decide +kernel
theorem dX7_kindBy_21 : decode cX7_kindBy 21 = .ok (.bipush 115, 2) := by decide +kernel
theorem dX7_kindBy_23 : decode cX7_kindBy 23 = .ok (.if_icmp .ne 7, 3) := by decide +kernel
theorem dX7_kindBy_26 : decode cX7_kindBy 26 = .ok (.iconst 2, 1) := by decide +kernel
theorem dX7_kindBy_27 : decode cX7_kindBy 27 = .ok (.goto 24, 3) := by decide +kernel
theorem dX7_kindBy_30 : decode cX7_kindBy 30 = .ok (.iload_n 0, 1) := by decide +kernel
theorem dX7_kindBy_31 : decode cX7_kindBy 31 = .ok (.bipush 103, 2) := by decide +kernel
theorem dX7_kindBy_33 : decode cX7_kindBy 33 = .ok (.if_icmp .ne 7, 3) := by decide +kernel
theorem dX7_kindBy_36 : decode cX7_kindBy 36 = .ok (.iconst 3, 1) := by decide +kernel
theorem dX7_kindBy_37 : decode cX7_kindBy 37 = .ok (.goto 14, 3) := by decide +kernel
theorem dX7_kindBy_40 : decode cX7_kindBy 40 = .ok (.iload_n 0, 1) := by decide +kernel
theorem dX7_kindBy_41 : decode cX7_kindBy 41 = .ok (.bipush 108, 2) := by decide +kernel
theorem dX7_kindBy_43 : decode cX7_kindBy 43 = .ok (.if_icmp .ne 7, 3) := by decide +kernel
theorem dX7_kindBy_46 : decode cX7_kindBy 46 = .ok (.iconst 4, 1) := by decide +kernel
theorem dX7_kindBy_47 : decode cX7_kindBy 47 = .ok (.goto 4, 3) := by decide +kernel
theorem dX7_kindBy_50 : decode cX7_kindBy 50 = .ok (.iconst (-1), 1) := by decide +kernel
theorem dX7_kindBy_51 : decode cX7_kindBy 51 = .ok (.ireturn, 1) := by decide +kernel
set_option maxRecDepth 20000 in
theorem ggX7_isFieldItem_X7_peek : GoodIn wsX7_isFieldItem wsX7_peek := goodIn_r _ [8, 1, 9, 10, 25, 26, 27, 28, 29, 30, 31, 32, 33, 34, 35, 36, 37, 38, 39, 40, 41, 42, 43] (by decide +kernel) (by decide +kernel)
set_option maxRecDepth 20000 in
theorem gX7_isFieldItem_X7_peek : GoodIn wsX7_isFieldItem (wsV RX7 70 RX7 yX7_peek wsX7_peek) := goodIn_app (goodIn_of _ (by decide +kernel)) ggX7_isFieldItem_X7_peek
set_option maxRecDepth 20000 in
theorem ggX7_isFieldItem_X7_kindBy : GoodIn wsX7_isFieldItem wsX7_kindBy := goodIn_r _ [13] (by decide +kernel) (by decide +kernel)
set_option maxRecDepth 20000 in
theorem gX7_isFieldItem_X7_kindBy : GoodIn wsX7_isFieldItem (va_wsS RX7 81 yX7_kindBy wsX7_kindBy) := goodIn_app (goodIn_of _ (by decide +kernel)) ggX7_isFieldItem_X7_kindBy
set_option maxRecDepth 20000 in
theorem ggX7_isFieldItem_X7_isDigit : GoodIn wsX7_isFieldItem wsX7_isDigit := goodIn_r _ [17, 3, 1, 4, 5, 6, 7, 8, 9, 10, 18, 19, 20, 25, 26, 27, 28, 29, 30, 31, 32, 33, 34, 35, 36, 37, 38, 39, 40, 41, 42, 43] (by decide +kernel) (by decide +kernel)
set_option maxRecDepth 20000 in
theorem gX7_isFieldItem_X7_isDigit : GoodIn wsX7_isFieldItem (wsV RX7 77 RX7 yX7_isDigit wsX7_isDigit) := goodIn_app (goodIn_of _ (by decide +kernel)) ggX7_isFieldItem_X7_isDigit
set_option maxRecDepth 20000 in
theorem ggX7_isFieldItem_X7_isSign : GoodIn wsX7_isFieldItem wsX7_isSign := goodIn_r _ [24, 1, 4, 5, 6, 7, 8, 9, 10, 25, 26, 27, 28, 29, 30, 31, 32, 33, 34, 35, 36, 37, 38, 39, 40, 41, 42, 43] (by decide +kernel) (by decide +kernel)
set_option maxRecDepth 20000 in
theorem gX7_isFieldItem_X7_isSign : GoodIn wsX7_isFieldItem (wsV RX7 85 RX7 yX7_isSign wsX7_isSign) := goodIn_app (goodIn_of _ (by decide +kernel)) ggX7_isFieldItem_X7_isSign
theorem dX7_isFieldItem_0 : decode cX7_isFieldItem 0 = .ok (.aload_n 0, 1) := by decide +kernel
theorem dX7_isFieldItem_1 : decode cX7_isFieldItem 1 = .ok (.invokevirtual 70, 3) := by decide +kernel
theorem dX7_isFieldItem_4 : decode cX7_isFieldItem 4 = .ok (.invokestatic 81, 3) := by decide +kernel
theorem dX7_isFieldItem_7 : decode cX7_isFieldItem 7 = .ok (.istore_n 2, 1) := by decide +kernel
theorem dX7_isFieldItem_8 : decode cX7_isFieldItem 8 = .ok (.iload_n 2, 1) := by decide +kernel
theorem dX7_isFieldItem_9 : decode cX7_isFieldItem 9 = .ok (.ifCond .ge 5, 3) := by decide +kernel
theorem dX7_isFieldItem_12 : decode cX7_isFieldItem 12 = .ok (.iconst 0, 1) := by decide +kernel
theorem dX7_isFieldItem_13 : decode cX7_isFieldItem 13 = .ok (.ireturn, 1) := by decide +kernel
theorem dX7_isFieldItem_14 : decode cX7_isFieldItem 14 = .ok (.aload_n 0, 1) := by decide +kernel
theorem dX7_isFieldItem_15 : decode cX7_isFieldItem 15 = .ok (.dup, 1) := by decide +kernel
theorem dX7_isFieldItem_16 : decode cX7_isFieldItem 16 = .ok (.getfield 67, 3) := by decide +kernel
theorem dX7_isFieldItem_19 : decode cX7_isFieldItem 19 = .ok (.iconst 1, 1) := by decide +kernel
theorem dX7_isFieldItem_20 : decode cX7_isFieldItem 20 = .ok (.iadd, 1) := by decide +kernel
theorem dX7_isFieldItem_21 : decode cX7_isFieldItem 21 = .ok (.putfield 67, 3) := by decide +kernel
theorem dX7_isFieldItem_24 : decode cX7_isFieldItem 24 = .ok (.aload_n 0, 1) := by decide +kernel
theorem dX7_isFieldItem_25 : decode cX7_isFieldItem 25 = .ok (.getfield 29, 3) := by decide +kernel
theorem dX7_isFieldItem_28 : decode cX7_isFieldItem 28 = .ok (.bipush 17, 2) := by decide +kernel
theorem dX7_isFieldItem_30 : decode cX7_isFieldItem 30 = .ok (.iload_n 1, 1) := by decide +kernel
theorem dX7_isFieldItem_31 : decode cX7_isFieldItem 31 = .ok (.iadd, 1) := by decide +kernel
theorem dX7_isFieldItem_32 : decode cX7_isFieldItem 32 = .ok (.iload_n 2, 1) := by decide +kernel
theorem dX7_isFieldItem_33 : decode cX7_isFieldItem 33 = .ok (.iastore, 1) := by decide +kernel
theorem dX7_isFieldItem_34 : decode cX7_isFieldItem 34 = .ok (.aload_n 0, 1) := by decide +kernel
theorem dX7_isFieldItem_35 : decode cX7_isFieldItem 35 = .ok (.getfield 29, 3) := by decide +kernel
theorem dX7_isFieldItem_38 : decode cX7_isFieldItem 38 = .ok (.iconst 3, 1) := by decide +kernel
theorem dX7_isFieldItem_39 : decode cX7_isFieldItem 39 = .ok (.iload_n 1, 1) := by decide +kernel
theorem dX7_isFieldItem_40 : decode cX7_isFieldItem 40 = .ok (.iadd, 1) := by decide +kernel
theorem dX7_isFieldItem_41 : decode cX7_isFieldItem 41 = .ok (.aload_n 0, 1) := by decide +kernel
theorem dX7_isFieldItem_42 : decode cX7_isFieldItem 42 = .ok (.iconst 0, 1) := by decide +kernel
theorem dX7_isFieldItem_43 : decode cX7_isFieldItem 43 = .ok (.bipush 9, 2) := by decide +kernel
theorem dX7_isFieldItem_45 : decode cX7_isFieldItem 45 = .ok (.invokevirtual 77, 3) := by decide +kernel
theorem dX7_isFieldItem_48 : decode cX7_isFieldItem 48 = .ok (.ifCond .eq 10, 3) := by decide +kernel
theorem dX7_isFieldItem_51 : decode cX7_isFieldItem 51 = .ok (.aload_n 0, 1) := by decide +kernel
theorem dX7_isFieldItem_52 : decode cX7_isFieldItem 52 = .ok (.getfield 74, 3) := by decide +kernel
theorem dX7_isFieldItem_55 : decode cX7_isFieldItem 55 = .ok (.goto 4, 3) := by decide +kernel
theorem dX7_isFieldItem_58 : decode cX7_isFieldItem 58 = .ok (.iconst 0, 1) := by decide +kernel
theorem dX7_isFieldItem_59 : decode cX7_isFieldItem 59 = .ok (.iastore, 1) := by decide +kernel
theorem dX7_isFieldItem_60 : decode cX7_isFieldItem 60 = .ok (.aload_n 0, 1) := by decide +kernel
theorem dX7_isFieldItem_61 : decode cX7_isFieldItem 61 = .ok (.bipush 35, 2) := by decide +kernel
theorem dX7_isFieldItem_63 : decode cX7_isFieldItem 63 = .ok (.invokevirtual 85, 3) := by decide +kernel
theorem dX7_isFieldItem_66 : decode cX7_isFieldItem 66 = .ok (.ifCond .eq 27, 3) := by decide +kernel
theorem dX7_isFieldItem_69 : decode cX7_isFieldItem 69 = .ok (.aload_n 0, 1) := by decide +kernel
theorem dX7_isFieldItem_70 : decode cX7_isFieldItem 70 = .ok (.iconst 1, 1) := by decide +kernel
theorem dX7_isFieldItem_71 : decode cX7_isFieldItem 71 = .ok (.iconst 4, 1) := by decide +kernel
theorem dX7_isFieldItem_72 : decode cX7_isFieldItem 72 = .ok (.invokevirtual 77, 3) := by decide +kernel
theorem dX7_isFieldItem_75 : decode cX7_isFieldItem 75 = .ok (.ifCond .ne 5, 3) := by decide +kernel
theorem dX7_isFieldItem_78 : decode cX7_isFieldItem 78 = .ok (.iconst 0, 1) := by decide +kernel
theorem dX7_isFieldItem_79 : decode cX7_isFieldItem 79 = .ok (.ireturn, 1) := by decide +kernel
theorem dX7_isFieldItem_80 : decode cX7_isFieldItem 80 = .ok (.aload_n 0, 1) := by decide +kernel
theorem dX7_isFieldItem_81 : decode cX7_isFieldItem 81 = .ok (.getfield 29, 3) := by decide +kernel
theorem dX7_isFieldItem_84 : decode cX7_isFieldItem 84 = .ok (.bipush 10, 2) := by decide +kernel
theorem dX7_isFieldItem_86 : decode cX7_isFieldItem 86 = .ok (.iload_n 1, 1) := by decide +kernel
theorem dX7_isFieldItem_87 : decode cX7_isFieldItem 87 = .ok (.iadd, 1) := by decide +kernel
theorem dX7_isFieldItem_88 : decode cX7_isFieldItem 88 = .ok (.aload_n 0, 1) := by decide +kernel
theorem dX7_isFieldItem_89 : decode cX7_isFieldItem 89 = .ok (.getfield 74, 3) := by decide +kernel
theorem dX7_isFieldItem_92 : decode cX7_isFieldItem 92 = .ok (.iastore, 1) := by decide +kernel
theorem dX7_isFieldItem_93 : decode cX7_isFieldItem 93 = .ok (.iconst 1, 1) := by decide +kernel
theorem dX7_isFieldItem_94 : decode cX7_isFieldItem 94 = .ok (.ireturn, 1) := by decide +kernel
set_option maxRecDepth 20000 in
theorem ggX7_isClaimItem_X7_isDigit : GoodIn wsX7_isClaimItem wsX7_isDigit := goodIn_r _ [7, 1, 8, 9, 10, 11, 6, 12, 13, 14, 15, 16, 17, 29, 30, 31, 32, 33, 34, 35, 36, 37, 38, 39, 40, 41, 42, 43, 44, 45, 46, 47] (by decide +kernel) (by decide +kernel)
set_option maxRecDepth 20000 in
theorem gX7_isClaimItem_X7_isDigit : GoodIn wsX7_isClaimItem (wsV RX7 77 RX7 yX7_isDigit wsX7_isDigit) := goodIn_app (goodIn_of _ (by decide +kernel)) ggX7_isClaimItem_X7_isDigit
set_option maxRecDepth 20000 in
theorem ggX7_isClaimItem_X7_isSign : GoodIn wsX7_isClaimItem wsX7_isSign := goodIn_r _ [21, 8, 9, 10, 11, 6, 12, 13, 14, 29, 30, 31, 32, 33, 34, 35, 36, 37, 38, 39, 40, 41, 42, 43, 44, 45, 46, 47] (by decide +kernel) (by decide +kernel)
set_option maxRecDepth 20000 in
theorem gX7_isClaimItem_X7_isSign : GoodIn wsX7_isClaimItem (wsV RX7 85 RX7 yX7_isSign wsX7_isSign) := goodIn_app (goodIn_of _ (by decide +kernel)) ggX7_isClaimItem_X7_isSign
set_option maxRecDepth 20000 in
theorem ggX7_isClaimItem_X7_isNumber : GoodIn wsX7_isClaimItem wsX7_isNumber := goodIn_r _ [25, 8, 1, 13, 14, 3, 4, 5, 6, 7, 9, 10, 11, 12, 15, 16, 17, 29, 30, 31, 32, 33, 34, 35, 36, 37, 38, 39, 40, 41, 42, 43, 44, 45, 46, 47] (by decide +kernel) (by decide +kernel)
set_option maxRecDepth 20000 in
theorem gX7_isClaimItem_X7_isNumber : GoodIn wsX7_isClaimItem (wsV RX7 88 RX7 yX7_isNumber wsX7_isNumber) := goodIn_app (goodIn_of _ (by decide +kernel)) ggX7_isClaimItem_X7_isNumber
set_option maxRecDepth 20000 in
theorem ggX7_isClaimItem_X7_addClaim : GoodIn wsX7_isClaimItem wsX7_addClaim := goodIn_r _ [28] (by decide +kernel) (by decide +kernel)
set_option maxRecDepth 20000 in
theorem gX7_isClaimItem_X7_addClaim : GoodIn wsX7_isClaimItem (va_wsS RX7 49 yX7_addClaim wsX7_addClaim) := goodIn_app (goodIn_of _ (by decide +kernel)) ggX7_isClaimItem_X7_addClaim
theorem dX7_isClaimItem_0 : decode cX7_isClaimItem 0 = .ok (.aload_n 0, 1) := by decide +kernel
theorem dX7_isClaimItem_1 : decode cX7_isClaimItem 1 = .ok (.iconst 0, 1) := by decide +kernel
theorem dX7_isClaimItem_2 : decode cX7_isClaimItem 2 = .ok (.bipush 6, 2) := by decide +kernel
theorem dX7_isClaimItem_4 : decode cX7_isClaimItem 4 = .ok (.invokevirtual 77, 3) := by decide +kernel
theorem dX7_isClaimItem_7 : decode cX7_isClaimItem 7 = .ok (.ifCond .ne 5, 3) := by decide +kernel
theorem dX7_isClaimItem_10 : decode cX7_isClaimItem 10 = .ok (.iconst 0, 1) := by decide +kernel
theorem dX7_isClaimItem_11 : decode cX7_isClaimItem 11 = .ok (.ireturn, 1) := by decide +kernel
theorem dX7_isClaimItem_12 : decode cX7_isClaimItem 12 = .ok (.aload_n 0, 1) := by decide +kernel
theorem dX7_isClaimItem_13 : decode cX7_isClaimItem 13 = .ok (.getfield 74, 3) := by decide +kernel
theorem dX7_isClaimItem_16 : decode cX7_isClaimItem 16 = .ok (.istore_n 1, 1) := by decide +kernel
theorem dX7_isClaimItem_17 : decode cX7_isClaimItem 17 = .ok (.aload_n 0, 1) := by decide +kernel
theorem dX7_isClaimItem_18 : decode cX7_isClaimItem 18 = .ok (.bipush 45, 2) := by decide +kernel
theorem dX7_isClaimItem_20 : decode cX7_isClaimItem 20 = .ok (.invokevirtual 85, 3) := by decide +kernel
theorem dX7_isClaimItem_23 : decode cX7_isClaimItem 23 = .ok (.ifCond .eq 13, 3) := by decide +kernel
theorem dX7_isClaimItem_26 : decode cX7_isClaimItem 26 = .ok (.aload_n 0, 1) := by decide +kernel
theorem dX7_isClaimItem_27 : decode cX7_isClaimItem 27 = .ok (.iload_n 1, 1) := by decide +kernel
theorem dX7_isClaimItem_28 : decode cX7_isClaimItem 28 = .ok (.bipush 6, 2) := by decide +kernel
theorem dX7_isClaimItem_30 : decode cX7_isClaimItem 30 = .ok (.invokevirtual 77, 3) := by decide +kernel
theorem dX7_isClaimItem_33 : decode cX7_isClaimItem 33 = .ok (.ifCond .ne 5, 3) := by decide +kernel
theorem dX7_isClaimItem_36 : decode cX7_isClaimItem 36 = .ok (.iconst 0, 1) := by decide +kernel
theorem dX7_isClaimItem_37 : decode cX7_isClaimItem 37 = .ok (.ireturn, 1) := by decide +kernel
theorem dX7_isClaimItem_38 : decode cX7_isClaimItem 38 = .ok (.aload_n 0, 1) := by decide +kernel
theorem dX7_isClaimItem_39 : decode cX7_isClaimItem 39 = .ok (.getfield 74, 3) := by decide +kernel
theorem dX7_isClaimItem_42 : decode cX7_isClaimItem 42 = .ok (.istore_n 2, 1) := by decide +kernel
theorem dX7_isClaimItem_43 : decode cX7_isClaimItem 43 = .ok (.aload_n 0, 1) := by decide +kernel
theorem dX7_isClaimItem_44 : decode cX7_isClaimItem 44 = .ok (.bipush 61, 2) := by decide +kernel
theorem dX7_isClaimItem_46 : decode cX7_isClaimItem 46 = .ok (.invokevirtual 85, 3) := by decide +kernel
theorem dX7_isClaimItem_49 : decode cX7_isClaimItem 49 = .ok (.ifCond .eq 13, 3) := by decide +kernel
theorem dX7_isClaimItem_52 : decode cX7_isClaimItem 52 = .ok (.aload_n 0, 1) := by decide +kernel
theorem dX7_isClaimItem_53 : decode cX7_isClaimItem 53 = .ok (.iconst 1, 1) := by decide +kernel
theorem dX7_isClaimItem_54 : decode cX7_isClaimItem 54 = .ok (.bipush 99, 2) := by decide +kernel
theorem dX7_isClaimItem_56 : decode cX7_isClaimItem 56 = .ok (.invokevirtual 88, 3) := by decide +kernel
theorem dX7_isClaimItem_59 : decode cX7_isClaimItem 59 = .ok (.ifCond .ne 5, 3) := by decide +kernel
theorem dX7_isClaimItem_62 : decode cX7_isClaimItem 62 = .ok (.iconst 0, 1) := by decide +kernel
theorem dX7_isClaimItem_63 : decode cX7_isClaimItem 63 = .ok (.ireturn, 1) := by decide +kernel
theorem dX7_isClaimItem_64 : decode cX7_isClaimItem 64 = .ok (.aload_n 0, 1) := by decide +kernel
theorem dX7_isClaimItem_65 : decode cX7_isClaimItem 65 = .ok (.getfield 29, 3) := by decide +kernel
theorem dX7_isClaimItem_68 : decode cX7_isClaimItem 68 = .ok (.iload_n 1, 1) := by decide +kernel
theorem dX7_isClaimItem_69 : decode cX7_isClaimItem 69 = .ok (.iload_n 2, 1) := by decide +kernel
theorem dX7_isClaimItem_70 : decode cX7_isClaimItem 70 = .ok (.aload_n 0, 1) := by decide +kernel
theorem dX7_isClaimItem_71 : decode cX7_isClaimItem 71 = .ok (.getfield 74, 3) := by decide +kernel
theorem dX7_isClaimItem_74 : decode cX7_isClaimItem 74 = .ok (.invokestatic 49, 3) := by decide +kernel
theorem dX7_isClaimItem_77 : decode cX7_isClaimItem 77 = .ok (.pop, 1) := by decide +kernel
theorem dX7_isClaimItem_78 : decode cX7_isClaimItem 78 = .ok (.iconst 1, 1) := by decide +kernel
theorem dX7_isClaimItem_79 : decode cX7_isClaimItem 79 = .ok (.ireturn, 1) := by decide +kernel
set_option maxRecDepth 20000 in
theorem ggX7_isValley_X7_isDigit : GoodIn wsX7_isValley wsX7_isDigit := goodIn_r _ [7, 2, 8, 9, 10, 11, 6, 12, 13, 14, 15, 16, 17, 40, 41, 42, 43, 44, 45, 46, 47, 48, 49, 50, 51, 52, 53, 54, 55, 56, 57, 58] (by decide +kernel) (by decide +kernel)
set_option maxRecDepth 20000 in
theorem gX7_isValley_X7_isDigit : GoodIn wsX7_isValley (wsV RX7 77 RX7 yX7_isDigit wsX7_isDigit) := goodIn_app (goodIn_of _ (by decide +kernel)) ggX7_isValley_X7_isDigit
set_option maxRecDepth 20000 in
theorem ggX7_isValley_X7_isSign : GoodIn wsX7_isValley wsX7_isSign := goodIn_r _ [21, 8, 9, 10, 11, 6, 12, 13, 14, 40, 41, 42, 43, 44, 45, 46, 47, 48, 49, 50, 51, 52, 53, 54, 55, 56, 57, 58] (by decide +kernel) (by decide +kernel)
set_option maxRecDepth 20000 in
theorem gX7_isValley_X7_isSign : GoodIn wsX7_isValley (wsV RX7 85 RX7 yX7_isSign wsX7_isSign) := goodIn_app (goodIn_of _ (by decide +kernel)) ggX7_isValley_X7_isSign
set_option maxRecDepth 20000 in
theorem ggX7_isValley_X7_isFieldItem : GoodIn wsX7_isValley wsX7_isFieldItem := goodIn_r _ [25, 8, 1, 2, 9, 10, 11, 6, 12, 13, 14, 26, 27, 28, 3, 4, 5, 7, 15, 16, 17, 18, 19, 20, 21, 40, 41, 42, 43, 44, 45, 46, 47, 48, 49, 50, 51, 52, 53, 54, 55, 56, 57, 58] (by decide +kernel) (by decide +kernel)
set_option maxRecDepth 20000 in
theorem gX7_isValley_X7_isFieldItem : GoodIn wsX7_isValley (wsV RX7 91 RX7 yX7_isFieldItem wsX7_isFieldItem) := goodIn_app (goodIn_of _ (by decide +kernel)) ggX7_isValley_X7_isFieldItem
set_option maxRecDepth 20000 in
theorem ggX7_isValley_X7_isClaimItem : GoodIn wsX7_isValley wsX7_isClaimItem := goodIn_r _ [32, 2, 1, 3, 4, 5, 6, 7, 8, 9, 10, 11, 12, 13, 14, 15, 16, 17, 18, 19, 20, 21, 33, 34, 35, 36, 37, 38, 39, 40, 41, 42, 43, 44, 45, 46, 47, 48, 49, 50, 51, 52, 53, 54, 55, 56, 57, 58] (by decide +kernel) (by decide +kernel)
set_option maxRecDepth 20000 in
theorem gX7_isValley_X7_isClaimItem : GoodIn wsX7_isValley (wsV RX7 94 RX7 yX7_isClaimItem wsX7_isClaimItem) := goodIn_app (goodIn_of _ (by decide +kernel)) ggX7_isValley_X7_isClaimItem
set_option maxRecDepth 20000 in
theorem ggX7_isValley_X7_peek : GoodIn wsX7_isValley wsX7_peek := goodIn_r _ [12, 8, 13, 14, 40, 41, 42, 43, 44, 45, 46, 47, 48, 49, 50, 51, 52, 53, 54, 55, 56, 57, 58] (by decide +kernel) (by decide +kernel)
set_option maxRecDepth 20000 in
theorem gX7_isValley_X7_peek : GoodIn wsX7_isValley (wsV RX7 70 RX7 yX7_peek wsX7_peek) := goodIn_app (goodIn_of _ (by decide +kernel)) ggX7_isValley_X7_peek
theorem dX7_isValley_0 : decode cX7_isValley 0 = .ok (.aload_n 0, 1) := by decide +kernel
theorem dX7_isValley_1 : decode cX7_isValley 1 = .ok (.iconst 0, 1) := by decide +kernel
theorem dX7_isValley_2 : decode cX7_isValley 2 = .ok (.bipush 6, 2) := by decide +kernel
theorem dX7_isValley_4 : decode cX7_isValley 4 = .ok (.invokevirtual 77, 3) := by decide +kernel
theorem dX7_isValley_7 : decode cX7_isValley 7 = .ok (.ifCond .ne 5, 3) := by decide +kernel
theorem dX7_isValley_10 : decode cX7_isValley 10 = .ok (.iconst 0, 1) := by decide +kernel
theorem dX7_isValley_11 : decode cX7_isValley 11 = .ok (.ireturn, 1) := by decide +kernel
theorem dX7_isValley_12 : decode cX7_isValley 12 = .ok (.aload_n 0, 1) := by decide +kernel
theorem dX7_isValley_13 : decode cX7_isValley 13 = .ok (.getfield 29, 3) := by decide +kernel
theorem dX7_isValley_16 : decode cX7_isValley 16 = .ok (.iconst 2, 1) := by decide +kernel
theorem dX7_isValley_17 : decode cX7_isValley 17 = .ok (.aload_n 0, 1) := by decide +kernel
theorem dX7_isValley_18 : decode cX7_isValley 18 = .ok (.getfield 74, 3) := by decide +kernel
theorem dX7_isValley_21 : decode cX7_isValley 21 = .ok (.iastore, 1) := by decide +kernel
theorem dX7_isValley_22 : decode cX7_isValley 22 = .ok (.aload_n 0, 1) := by decide +kernel
theorem dX7_isValley_23 : decode cX7_isValley 23 = .ok (.bipush 58, 2) := by decide +kernel
theorem dX7_isValley_25 : decode cX7_isValley 25 = .ok (.invokevirtual 85, 3) := by decide +kernel
theorem dX7_isValley_28 : decode cX7_isValley 28 = .ok (.ifCond .ne 5, 3) := by decide +kernel
theorem dX7_isValley_31 : decode cX7_isValley 31 = .ok (.iconst 0, 1) := by decide +kernel
theorem dX7_isValley_32 : decode cX7_isValley 32 = .ok (.ireturn, 1) := by decide +kernel
theorem dX7_isValley_33 : decode cX7_isValley 33 = .ok (.iconst 0, 1) := by decide +kernel
theorem dX7_isValley_34 : decode cX7_isValley 34 = .ok (.istore_n 1, 1) := by decide +kernel
theorem dX7_isValley_35 : decode cX7_isValley 35 = .ok (.iload_n 1, 1) := by decide +kernel
theorem dX7_isValley_36 : decode cX7_isValley 36 = .ok (.bipush 7, 2) := by decide +kernel
theorem dX7_isValley_38 : decode cX7_isValley 38 = .ok (.if_icmp .ge 19, 3) := by decide +kernel
theorem dX7_isValley_41 : decode cX7_isValley 41 = .ok (.aload_n 0, 1) := by decide +kernel
theorem dX7_isValley_42 : decode cX7_isValley 42 = .ok (.iload_n 1, 1) := by decide +kernel
theorem dX7_isValley_43 : decode cX7_isValley 43 = .ok (.invokevirtual 91, 3) := by decide +kernel
theorem dX7_isValley_46 : decode cX7_isValley 46 = .ok (.ifCond .ne 5, 3) := by decide +kernel
theorem dX7_isValley_49 : decode cX7_isValley 49 = .ok (.iconst 0, 1) := by decide +kernel
theorem dX7_isValley_50 : decode cX7_isValley 50 = .ok (.ireturn, 1) := by decide +kernel
theorem dX7_isValley_51 : decode cX7_isValley 51 = .ok (.iinc 1 1, 3) := by decide +kernel
theorem dX7_isValley_54 : decode cX7_isValley 54 = .ok (.goto (-19), 3) := by decide +kernel
theorem dX7_isValley_57 : decode cX7_isValley 57 = .ok (.aload_n 0, 1) := by decide +kernel
theorem dX7_isValley_58 : decode cX7_isValley 58 = .ok (.bipush 59, 2) := by decide +kernel
theorem dX7_isValley_60 : decode cX7_isValley 60 = .ok (.invokevirtual 85, 3) := by decide +kernel
theorem dX7_isValley_63 : decode cX7_isValley 63 = .ok (.istore_n 1, 1) := by decide +kernel
theorem dX7_isValley_64 : decode cX7_isValley 64 = .ok (.iload_n 1, 1) := by decide +kernel
theorem dX7_isValley_65 : decode cX7_isValley 65 = .ok (.ifCond .eq 41, 3) := by decide +kernel
theorem dX7_isValley_68 : decode cX7_isValley 68 = .ok (.aload_n 0, 1) := by decide +kernel
theorem dX7_isValley_69 : decode cX7_isValley 69 = .ok (.invokevirtual 94, 3) := by decide +kernel
theorem dX7_isValley_72 : decode cX7_isValley 72 = .ok (.ifCond .ne 5, 3) := by decide +kernel
theorem dX7_isValley_75 : decode cX7_isValley 75 = .ok (.iconst 0, 1) := by decide +kernel
theorem dX7_isValley_76 : decode cX7_isValley 76 = .ok (.ireturn, 1) := by decide +kernel
theorem dX7_isValley_77 : decode cX7_isValley 77 = .ok (.aload_n 0, 1) := by decide +kernel
theorem dX7_isValley_78 : decode cX7_isValley 78 = .ok (.getfield 29, 3) := by decide +kernel
theorem dX7_isValley_81 : decode cX7_isValley 81 = .ok (.bipush 24, 2) := by decide +kernel
theorem dX7_isValley_83 : decode cX7_isValley 83 = .ok (.iaload, 1) := by decide +kernel
theorem dX7_isValley_84 : decode cX7_isValley 84 = .ok (.iconst 5, 1) := by decide +kernel
theorem dX7_isValley_85 : decode cX7_isValley 85 = .ok (.if_icmp .ge 16, 3) := by decide +kernel
theorem dX7_isValley_88 : decode cX7_isValley 88 = .ok (.aload_n 0, 1) := by decide +kernel
theorem dX7_isValley_89 : decode cX7_isValley 89 = .ok (.bipush 44, 2) := by decide +kernel
theorem dX7_isValley_91 : decode cX7_isValley 91 = .ok (.invokevirtual 85, 3) := by decide +kernel
theorem dX7_isValley_94 : decode cX7_isValley 94 = .ok (.ifCond .eq 7, 3) := by decide +kernel
theorem dX7_isValley_97 : decode cX7_isValley 97 = .ok (.iconst 1, 1) := by decide +kernel
theorem dX7_isValley_98 : decode cX7_isValley 98 = .ok (.goto 4, 3) := by decide +kernel
theorem dX7_isValley_101 : decode cX7_isValley 101 = .ok (.iconst 0, 1) := by decide +kernel
theorem dX7_isValley_102 : decode cX7_isValley 102 = .ok (.istore_n 1, 1) := by decide +kernel
theorem dX7_isValley_103 : decode cX7_isValley 103 = .ok (.goto (-39), 3) := by decide +kernel
theorem dX7_isValley_106 : decode cX7_isValley 106 = .ok (.aload_n 0, 1) := by decide +kernel
theorem dX7_isValley_107 : decode cX7_isValley 107 = .ok (.invokevirtual 70, 3) := by decide +kernel
theorem dX7_isValley_110 : decode cX7_isValley 110 = .ok (.ifCond .ne 7, 3) := by decide +kernel
theorem dX7_isValley_113 : decode cX7_isValley 113 = .ok (.iconst 1, 1) := by decide +kernel
theorem dX7_isValley_114 : decode cX7_isValley 114 = .ok (.goto 4, 3) := by decide +kernel
theorem dX7_isValley_117 : decode cX7_isValley 117 = .ok (.iconst 0, 1) := by decide +kernel
theorem dX7_isValley_118 : decode cX7_isValley 118 = .ok (.ireturn, 1) := by decide +kernel
set_option maxRecDepth 20000 in
theorem ggX7_valley_X7_isValley : GoodIn wsX7_valley wsX7_isValley := goodIn_r _ [9, 1, 10, 11, 12, 13, 8, 14, 3, 15, 16, 17, 18, 4, 19, 20, 21, 22, 23, 24, 25, 26, 27, 28, 29, 30, 31, 32, 33, 34, 35, 36, 37, 38, 39, 40, 41, 42, 43, 44, 48, 49, 50, 51, 52, 53, 54, 55, 56, 57, 58, 59, 60, 61, 62, 63, 64, 65, 66] (by decide +kernel) (by decide +kernel)
set_option maxRecDepth 20000 in
theorem gX7_valley_X7_isValley : GoodIn wsX7_valley (wsV RX7 98 RX7 yX7_isValley wsX7_isValley) := goodIn_app (goodIn_of _ (by decide +kernel)) ggX7_valley_X7_isValley
set_option maxRecDepth 20000 in
theorem ggX7_valley_X7_bring : GoodIn wsX7_valley wsX7_bring := goodIn_r _ [47] (by decide +kernel) (by decide +kernel)
set_option maxRecDepth 20000 in
theorem gX7_valley_X7_bring : GoodIn wsX7_valley (va_wsS RX7 101 yX7_bring wsX7_bring) := goodIn_app (goodIn_of _ (by decide +kernel)) ggX7_valley_X7_bring
theorem dX7_valley_0 : decode cX7_valley 0 = .ok (.iconst 0, 1) := by decide +kernel
theorem dX7_valley_1 : decode cX7_valley 1 = .ok (.istore_n 1, 1) := by decide +kernel
theorem dX7_valley_2 : decode cX7_valley 2 = .ok (.iload_n 1, 1) := by decide +kernel
theorem dX7_valley_3 : decode cX7_valley 3 = .ok (.sipush 177, 3) := by decide +kernel
theorem dX7_valley_6 : decode cX7_valley 6 = .ok (.if_icmp .ge 16, 3) := by decide +kernel
theorem dX7_valley_9 : decode cX7_valley 9 = .ok (.aload_n 0, 1) := by decide +kernel
theorem dX7_valley_10 : decode cX7_valley 10 = .ok (.getfield 29, 3) := by decide +kernel
theorem dX7_valley_13 : decode cX7_valley 13 = .ok (.iload_n 1, 1) := by decide +kernel
theorem dX7_valley_14 : decode cX7_valley 14 = .ok (.iconst 0, 1) := by decide +kernel
theorem dX7_valley_15 : decode cX7_valley 15 = .ok (.iastore, 1) := by decide +kernel
theorem dX7_valley_16 : decode cX7_valley 16 = .ok (.iinc 1 1, 3) := by decide +kernel
theorem dX7_valley_19 : decode cX7_valley 19 = .ok (.goto (-17), 3) := by decide +kernel
theorem dX7_valley_22 : decode cX7_valley 22 = .ok (.aload_n 0, 1) := by decide +kernel
theorem dX7_valley_23 : decode cX7_valley 23 = .ok (.getfield 29, 3) := by decide +kernel
theorem dX7_valley_26 : decode cX7_valley 26 = .ok (.iconst 1, 1) := by decide +kernel
theorem dX7_valley_27 : decode cX7_valley 27 = .ok (.aload_n 0, 1) := by decide +kernel
theorem dX7_valley_28 : decode cX7_valley 28 = .ok (.getfield 23, 3) := by decide +kernel
theorem dX7_valley_31 : decode cX7_valley 31 = .ok (.iconst 1, 1) := by decide +kernel
theorem dX7_valley_32 : decode cX7_valley 32 = .ok (.iaload, 1) := by decide +kernel
theorem dX7_valley_33 : decode cX7_valley 33 = .ok (.iastore, 1) := by decide +kernel
theorem dX7_valley_34 : decode cX7_valley 34 = .ok (.aload_n 0, 1) := by decide +kernel
theorem dX7_valley_35 : decode cX7_valley 35 = .ok (.iconst 0, 1) := by decide +kernel
theorem dX7_valley_36 : decode cX7_valley 36 = .ok (.putfield 67, 3) := by decide +kernel
theorem dX7_valley_39 : decode cX7_valley 39 = .ok (.aload_n 0, 1) := by decide +kernel
theorem dX7_valley_40 : decode cX7_valley 40 = .ok (.invokevirtual 98, 3) := by decide +kernel
theorem dX7_valley_43 : decode cX7_valley 43 = .ok (.istore_n 1, 1) := by decide +kernel
theorem dX7_valley_44 : decode cX7_valley 44 = .ok (.aload_n 0, 1) := by decide +kernel
theorem dX7_valley_45 : decode cX7_valley 45 = .ok (.iconst 0, 1) := by decide +kernel
theorem dX7_valley_46 : decode cX7_valley 46 = .ok (.putfield 63, 3) := by decide +kernel
theorem dX7_valley_49 : decode cX7_valley 49 = .ok (.iload_n 1, 1) := by decide +kernel
theorem dX7_valley_50 : decode cX7_valley 50 = .ok (.ifCond .ne 11, 3) := by decide +kernel
theorem dX7_valley_53 : decode cX7_valley 53 = .ok (.bipush (-20), 2) := by decide +kernel
theorem dX7_valley_55 : decode cX7_valley 55 = .ok (.aload_n 0, 1) := by decide +kernel
theorem dX7_valley_56 : decode cX7_valley 56 = .ok (.getfield 67, 3) := by decide +kernel
theorem dX7_valley_59 : decode cX7_valley 59 = .ok (.isub, 1) := by decide +kernel
theorem dX7_valley_60 : decode cX7_valley 60 = .ok (.ireturn, 1) := by decide +kernel
theorem dX7_valley_61 : decode cX7_valley 61 = .ok (.aload_n 0, 1) := by decide +kernel
theorem dX7_valley_62 : decode cX7_valley 62 = .ok (.getfield 29, 3) := by decide +kernel
theorem dX7_valley_65 : decode cX7_valley 65 = .ok (.iconst 0, 1) := by decide +kernel
theorem dX7_valley_66 : decode cX7_valley 66 = .ok (.aload_n 0, 1) := by decide +kernel
theorem dX7_valley_67 : decode cX7_valley 67 = .ok (.getfield 23, 3) := by decide +kernel
theorem dX7_valley_70 : decode cX7_valley 70 = .ok (.iconst 0, 1) := by decide +kernel
theorem dX7_valley_71 : decode cX7_valley 71 = .ok (.sipush 177, 3) := by decide +kernel
theorem dX7_valley_74 : decode cX7_valley 74 = .ok (.invokestatic 101, 3) := by decide +kernel
theorem dX7_valley_77 : decode cX7_valley 77 = .ok (.aload_n 0, 1) := by decide +kernel
theorem dX7_valley_78 : decode cX7_valley 78 = .ok (.getfield 23, 3) := by decide +kernel
theorem dX7_valley_81 : decode cX7_valley 81 = .ok (.bipush 24, 2) := by decide +kernel
theorem dX7_valley_83 : decode cX7_valley 83 = .ok (.iaload, 1) := by decide +kernel
theorem dX7_valley_84 : decode cX7_valley 84 = .ok (.ireturn, 1) := by decide +kernel
theorem dX7_sumOf_0 : decode cX7_sumOf 0 = .ok (.iconst 0, 1) := by decide +kernel
theorem dX7_sumOf_1 : decode cX7_sumOf 1 = .ok (.istore_n 2, 1) := by decide +kernel
theorem dX7_sumOf_2 : decode cX7_sumOf 2 = .ok (.iconst 0, 1) := by decide +kernel
theorem dX7_sumOf_3 : decode cX7_sumOf 3 = .ok (.istore_n 3, 1) := by decide +kernel
theorem dX7_sumOf_4 : decode cX7_sumOf 4 = .ok (.iload_n 3, 1) := by decide +kernel
theorem dX7_sumOf_5 : decode cX7_sumOf 5 = .ok (.bipush 7, 2) := by decide +kernel
theorem dX7_sumOf_7 : decode cX7_sumOf 7 = .ok (.if_icmp .ge 17, 3) := by decide +kernel
theorem dX7_sumOf_10 : decode cX7_sumOf 10 = .ok (.iload_n 2, 1) := by decide +kernel
theorem dX7_sumOf_11 : decode cX7_sumOf 11 = .ok (.aload_n 0, 1) := by decide +kernel
theorem dX7_sumOf_12 : decode cX7_sumOf 12 = .ok (.iload_n 1, 1) := by decide +kernel
theorem dX7_sumOf_13 : decode cX7_sumOf 13 = .ok (.iload_n 3, 1) := by decide +kernel
theorem dX7_sumOf_14 : decode cX7_sumOf 14 = .ok (.iadd, 1) := by decide +kernel
theorem dX7_sumOf_15 : decode cX7_sumOf 15 = .ok (.iaload, 1) := by decide +kernel
theorem dX7_sumOf_16 : decode cX7_sumOf 16 = .ok (.iadd, 1) := by decide +kernel
theorem dX7_sumOf_17 : decode cX7_sumOf 17 = .ok (.istore_n 2, 1) := by decide +kernel
theorem dX7_sumOf_18 : decode cX7_sumOf 18 = .ok (.iinc 3 1, 3) := by decide +kernel
theorem dX7_sumOf_21 : decode cX7_sumOf 21 = .ok (.goto (-17), 3) := by decide +kernel
theorem dX7_sumOf_24 : decode cX7_sumOf 24 = .ok (.iload_n 2, 1) := by decide +kernel
theorem dX7_sumOf_25 : decode cX7_sumOf 25 = .ok (.ireturn, 1) := by decide +kernel
set_option maxRecDepth 20000 in
theorem ggX7_claimsHere_X7_in : GoodIn wsX7_claimsHere wsX7_in := goodIn_r _ [5] (by decide +kernel) (by decide +kernel)
set_option maxRecDepth 20000 in
theorem gX7_claimsHere_X7_in : GoodIn wsX7_claimsHere (va_wsS RX7 41 yX7_in wsX7_in) := goodIn_app (goodIn_of _ (by decide +kernel)) ggX7_claimsHere_X7_in
theorem dX7_claimsHere_0 : decode cX7_claimsHere 0 = .ok (.iconst 0, 1) := by decide +kernel
theorem dX7_claimsHere_1 : decode cX7_claimsHere 1 = .ok (.istore_n 1, 1) := by decide +kernel
theorem dX7_claimsHere_2 : decode cX7_claimsHere 2 = .ok (.iconst 0, 1) := by decide +kernel
theorem dX7_claimsHere_3 : decode cX7_claimsHere 3 = .ok (.istore_n 2, 1) := by decide +kernel
theorem dX7_claimsHere_4 : decode cX7_claimsHere 4 = .ok (.iload_n 2, 1) := by decide +kernel
theorem dX7_claimsHere_5 : decode cX7_claimsHere 5 = .ok (.aload_n 0, 1) := by decide +kernel
theorem dX7_claimsHere_6 : decode cX7_claimsHere 6 = .ok (.getfield 23, 3) := by decide +kernel
theorem dX7_claimsHere_9 : decode cX7_claimsHere 9 = .ok (.bipush 24, 2) := by decide +kernel
theorem dX7_claimsHere_11 : decode cX7_claimsHere 11 = .ok (.iaload, 1) := by decide +kernel
theorem dX7_claimsHere_12 : decode cX7_claimsHere 12 = .ok (.if_icmp .ge 49, 3) := by decide +kernel
theorem dX7_claimsHere_15 : decode cX7_claimsHere 15 = .ok (.iload_n 1, 1) := by decide +kernel
theorem dX7_claimsHere_16 : decode cX7_claimsHere 16 = .ok (.aload_n 0, 1) := by decide +kernel
theorem dX7_claimsHere_17 : decode cX7_claimsHere 17 = .ok (.getfield 23, 3) := by decide +kernel
theorem dX7_claimsHere_20 : decode cX7_claimsHere 20 = .ok (.iconst 2, 1) := by decide +kernel
theorem dX7_claimsHere_21 : decode cX7_claimsHere 21 = .ok (.iaload, 1) := by decide +kernel
theorem dX7_claimsHere_22 : decode cX7_claimsHere 22 = .ok (.aload_n 0, 1) := by decide +kernel
theorem dX7_claimsHere_23 : decode cX7_claimsHere 23 = .ok (.getfield 23, 3) := by decide +kernel
theorem dX7_claimsHere_26 : decode cX7_claimsHere 26 = .ok (.bipush 25, 2) := by decide +kernel
theorem dX7_claimsHere_28 : decode cX7_claimsHere 28 = .ok (.iload_n 2, 1) := by decide +kernel
theorem dX7_claimsHere_29 : decode cX7_claimsHere 29 = .ok (.iadd, 1) := by decide +kernel
theorem dX7_claimsHere_30 : decode cX7_claimsHere 30 = .ok (.iaload, 1) := by decide +kernel
theorem dX7_claimsHere_31 : decode cX7_claimsHere 31 = .ok (.aload_n 0, 1) := by decide +kernel
theorem dX7_claimsHere_32 : decode cX7_claimsHere 32 = .ok (.getfield 23, 3) := by decide +kernel
theorem dX7_claimsHere_35 : decode cX7_claimsHere 35 = .ok (.bipush 30, 2) := by decide +kernel
theorem dX7_claimsHere_37 : decode cX7_claimsHere 37 = .ok (.iload_n 2, 1) := by decide +kernel
theorem dX7_claimsHere_38 : decode cX7_claimsHere 38 = .ok (.iadd, 1) := by decide +kernel
theorem dX7_claimsHere_39 : decode cX7_claimsHere 39 = .ok (.iaload, 1) := by decide +kernel
theorem dX7_claimsHere_40 : decode cX7_claimsHere 40 = .ok (.invokestatic 41, 3) := by decide +kernel
theorem dX7_claimsHere_43 : decode cX7_claimsHere 43 = .ok (.ifCond .eq 9, 3) := by decide +kernel
theorem dX7_claimsHere_46 : decode cX7_claimsHere 46 = .ok (.iconst 1, 1) := by decide +kernel
theorem dX7_claimsHere_47 : decode cX7_claimsHere 47 = .ok (.iload_n 2, 1) := by decide +kernel
theorem dX7_claimsHere_48 : decode cX7_claimsHere 48 = .ok (.ishl, 1) := by decide +kernel
theorem dX7_claimsHere_49 : decode cX7_claimsHere 49 = .ok (.goto 4, 3) := by decide +kernel
theorem dX7_claimsHere_52 : decode cX7_claimsHere 52 = .ok (.iconst 0, 1) := by decide +kernel
theorem dX7_claimsHere_53 : decode cX7_claimsHere 53 = .ok (.ior, 1) := by decide +kernel
theorem dX7_claimsHere_54 : decode cX7_claimsHere 54 = .ok (.istore_n 1, 1) := by decide +kernel
theorem dX7_claimsHere_55 : decode cX7_claimsHere 55 = .ok (.iinc 2 1, 3) := by decide +kernel
theorem dX7_claimsHere_58 : decode cX7_claimsHere 58 = .ok (.goto (-54), 3) := by decide +kernel
theorem dX7_claimsHere_61 : decode cX7_claimsHere 61 = .ok (.iload_n 1, 1) := by decide +kernel
theorem dX7_claimsHere_62 : decode cX7_claimsHere 62 = .ok (.ireturn, 1) := by decide +kernel
set_option maxRecDepth 20000 in
theorem ggX7_count_X7_sumOf : GoodIn wsX7_count wsX7_sumOf := goodIn_r _ [5] (by decide +kernel) (by decide +kernel)
set_option maxRecDepth 20000 in
theorem gX7_count_X7_sumOf : GoodIn wsX7_count (va_wsS RX7 105 yX7_sumOf wsX7_sumOf) := goodIn_app (goodIn_of _ (by decide +kernel)) ggX7_count_X7_sumOf
set_option maxRecDepth 20000 in
theorem ggX7_count_X7_claimsHere : GoodIn wsX7_count wsX7_claimsHere := goodIn_r _ [9, 1, 10, 11, 4, 12, 13, 14, 15, 16, 17, 18, 19, 20, 21, 22, 23, 24, 25, 26, 27, 28, 29, 30, 31] (by decide +kernel) (by decide +kernel)
set_option maxRecDepth 20000 in
theorem gX7_count_X7_claimsHere : GoodIn wsX7_count (wsV RX7 108 RX7 yX7_claimsHere wsX7_claimsHere) := goodIn_app (goodIn_of _ (by decide +kernel)) ggX7_count_X7_claimsHere
theorem dX7_count_0 : decode cX7_count 0 = .ok (.iload_n 1, 1) := by decide +kernel
theorem dX7_count_1 : decode cX7_count 1 = .ok (.tableswitch 97 0 6 #[43, 51, 58, 65, 74, 84, 89], 43) := by decide +kernel
theorem dX7_count_44 : decode cX7_count 44 = .ok (.aload_n 0, 1) := by decide +kernel
theorem dX7_count_45 : decode cX7_count 45 = .ok (.getfield 23, 3) := by decide +kernel
theorem dX7_count_48 : decode cX7_count 48 = .ok (.bipush 24, 2) := by decide +kernel
theorem dX7_count_50 : decode cX7_count 50 = .ok (.iaload, 1) := by decide +kernel
theorem dX7_count_51 : decode cX7_count 51 = .ok (.ireturn, 1) := by decide +kernel
theorem dX7_count_52 : decode cX7_count 52 = .ok (.aload_n 0, 1) := by decide +kernel
theorem dX7_count_53 : decode cX7_count 53 = .ok (.getfield 23, 3) := by decide +kernel
theorem dX7_count_56 : decode cX7_count 56 = .ok (.iconst 2, 1) := by decide +kernel
theorem dX7_count_57 : decode cX7_count 57 = .ok (.iaload, 1) := by decide +kernel
theorem dX7_count_58 : decode cX7_count 58 = .ok (.ireturn, 1) := by decide +kernel
theorem dX7_count_59 : decode cX7_count 59 = .ok (.aload_n 0, 1) := by decide +kernel
theorem dX7_count_60 : decode cX7_count 60 = .ok (.getfield 23, 3) := by decide +kernel
theorem dX7_count_63 : decode cX7_count 63 = .ok (.iconst 0, 1) := by decide +kernel
theorem dX7_count_64 : decode cX7_count 64 = .ok (.iaload, 1) := by decide +kernel
theorem dX7_count_65 : decode cX7_count 65 = .ok (.ireturn, 1) := by decide +kernel
theorem dX7_count_66 : decode cX7_count 66 = .ok (.aload_n 0, 1) := by decide +kernel
theorem dX7_count_67 : decode cX7_count 67 = .ok (.getfield 23, 3) := by decide +kernel
theorem dX7_count_70 : decode cX7_count 70 = .ok (.iconst 3, 1) := by decide +kernel
theorem dX7_count_71 : decode cX7_count 71 = .ok (.invokestatic 105, 3) := by decide +kernel
theorem dX7_count_74 : decode cX7_count 74 = .ok (.ireturn, 1) := by decide +kernel
theorem dX7_count_75 : decode cX7_count 75 = .ok (.aload_n 0, 1) := by decide +kernel
theorem dX7_count_76 : decode cX7_count 76 = .ok (.getfield 23, 3) := by decide +kernel
theorem dX7_count_79 : decode cX7_count 79 = .ok (.bipush 10, 2) := by decide +kernel
theorem dX7_count_81 : decode cX7_count 81 = .ok (.invokestatic 105, 3) := by decide +kernel
theorem dX7_count_84 : decode cX7_count 84 = .ok (.ireturn, 1) := by decide +kernel
theorem dX7_count_85 : decode cX7_count 85 = .ok (.aload_n 0, 1) := by decide +kernel
theorem dX7_count_86 : decode cX7_count 86 = .ok (.invokevirtual 108, 3) := by decide +kernel
theorem dX7_count_89 : decode cX7_count 89 = .ok (.ireturn, 1) := by decide +kernel
theorem dX7_count_90 : decode cX7_count 90 = .ok (.aload_n 0, 1) := by decide +kernel
theorem dX7_count_91 : decode cX7_count 91 = .ok (.getfield 23, 3) := by decide +kernel
theorem dX7_count_94 : decode cX7_count 94 = .ok (.bipush 40, 2) := by decide +kernel
theorem dX7_count_96 : decode cX7_count 96 = .ok (.iaload, 1) := by decide +kernel
theorem dX7_count_97 : decode cX7_count 97 = .ok (.ireturn, 1) := by decide +kernel
theorem dX7_count_98 : decode cX7_count 98 = .ok (.iconst (-1), 1) := by decide +kernel
theorem dX7_count_99 : decode cX7_count 99 = .ok (.ireturn, 1) := by decide +kernel
set_option maxRecDepth 20000 in
theorem ggX7_note_X7_bring : GoodIn wsX7_note wsX7_bring := goodIn_r _ [5] (by decide +kernel) (by decide +kernel)
set_option maxRecDepth 20000 in
theorem gX7_note_X7_bring : GoodIn wsX7_note (va_wsS RX7 101 yX7_bring wsX7_bring) := goodIn_app (goodIn_of _ (by decide +kernel)) ggX7_note_X7_bring
theorem dX7_note_0 : decode cX7_note 0 = .ok (.aload_n 0, 1) := by decide +kernel
theorem dX7_note_1 : decode cX7_note 1 = .ok (.getfield 23, 3) := by decide +kernel
theorem dX7_note_4 : decode cX7_note 4 = .ok (.bipush 40, 2) := by decide +kernel
theorem dX7_note_6 : decode cX7_note 6 = .ok (.iaload, 1) := by decide +kernel
theorem dX7_note_7 : decode cX7_note 7 = .ok (.bipush 8, 2) := by decide +kernel
theorem dX7_note_9 : decode cX7_note 9 = .ok (.if_icmp .ne 31, 3) := by decide +kernel
theorem dX7_note_12 : decode cX7_note 12 = .ok (.aload_n 0, 1) := by decide +kernel
theorem dX7_note_13 : decode cX7_note 13 = .ok (.getfield 23, 3) := by decide +kernel
theorem dX7_note_16 : decode cX7_note 16 = .ok (.bipush 58, 2) := by decide +kernel
theorem dX7_note_18 : decode cX7_note 18 = .ok (.aload_n 0, 1) := by decide +kernel
theorem dX7_note_19 : decode cX7_note 19 = .ok (.getfield 23, 3) := by decide +kernel
theorem dX7_note_22 : decode cX7_note 22 = .ok (.bipush 41, 2) := by decide +kernel
theorem dX7_note_24 : decode cX7_note 24 = .ok (.bipush 119, 2) := by decide +kernel
theorem dX7_note_26 : decode cX7_note 26 = .ok (.invokestatic 101, 3) := by decide +kernel
theorem dX7_note_29 : decode cX7_note 29 = .ok (.aload_n 0, 1) := by decide +kernel
theorem dX7_note_30 : decode cX7_note 30 = .ok (.getfield 23, 3) := by decide +kernel
theorem dX7_note_33 : decode cX7_note 33 = .ok (.bipush 40, 2) := by decide +kernel
theorem dX7_note_35 : decode cX7_note 35 = .ok (.dup2, 1) := by decide +kernel
theorem dX7_note_36 : decode cX7_note 36 = .ok (.iaload, 1) := by decide +kernel
theorem dX7_note_37 : decode cX7_note 37 = .ok (.iconst 1, 1) := by decide +kernel
theorem dX7_note_38 : decode cX7_note 38 = .ok (.isub, 1) := by decide +kernel
theorem dX7_note_39 : decode cX7_note 39 = .ok (.iastore, 1) := by decide +kernel
theorem dX7_note_40 : decode cX7_note 40 = .ok (.aload_n 0, 1) := by decide +kernel
theorem dX7_note_41 : decode cX7_note 41 = .ok (.getfield 23, 3) := by decide +kernel
theorem dX7_note_44 : decode cX7_note 44 = .ok (.iconst 0, 1) := by decide +kernel
theorem dX7_note_45 : decode cX7_note 45 = .ok (.aload_n 0, 1) := by decide +kernel
theorem dX7_note_46 : decode cX7_note 46 = .ok (.getfield 23, 3) := by decide +kernel
theorem dX7_note_49 : decode cX7_note 49 = .ok (.bipush 41, 2) := by decide +kernel
theorem dX7_note_51 : decode cX7_note 51 = .ok (.bipush 17, 2) := by decide +kernel
theorem dX7_note_53 : decode cX7_note 53 = .ok (.aload_n 0, 1) := by decide +kernel
theorem dX7_note_54 : decode cX7_note 54 = .ok (.getfield 23, 3) := by decide +kernel
theorem dX7_note_57 : decode cX7_note 57 = .ok (.bipush 40, 2) := by decide +kernel
theorem dX7_note_59 : decode cX7_note 59 = .ok (.iaload, 1) := by decide +kernel
theorem dX7_note_60 : decode cX7_note 60 = .ok (.imul, 1) := by decide +kernel
theorem dX7_note_61 : decode cX7_note 61 = .ok (.iadd, 1) := by decide +kernel
theorem dX7_note_62 : decode cX7_note 62 = .ok (.bipush 17, 2) := by decide +kernel
theorem dX7_note_64 : decode cX7_note 64 = .ok (.invokestatic 101, 3) := by decide +kernel
theorem dX7_note_67 : decode cX7_note 67 = .ok (.aload_n 0, 1) := by decide +kernel
theorem dX7_note_68 : decode cX7_note 68 = .ok (.getfield 23, 3) := by decide +kernel
theorem dX7_note_71 : decode cX7_note 71 = .ok (.bipush 40, 2) := by decide +kernel
theorem dX7_note_73 : decode cX7_note 73 = .ok (.dup2, 1) := by decide +kernel
theorem dX7_note_74 : decode cX7_note 74 = .ok (.iaload, 1) := by decide +kernel
theorem dX7_note_75 : decode cX7_note 75 = .ok (.iconst 1, 1) := by decide +kernel
theorem dX7_note_76 : decode cX7_note 76 = .ok (.iadd, 1) := by decide +kernel
theorem dX7_note_77 : decode cX7_note 77 = .ok (.iastore, 1) := by decide +kernel
theorem dX7_note_78 : decode cX7_note 78 = .ok (.return_, 1) := by decide +kernel
set_option maxRecDepth 20000 in
theorem ggX7_dayIn_X7_onOf : GoodIn wsX7_dayIn wsX7_onOf := goodIn_r _ [8] (by decide +kernel) (by decide +kernel)
set_option maxRecDepth 20000 in
theorem gX7_dayIn_X7_onOf : GoodIn wsX7_dayIn (va_wsS RX7 53 yX7_onOf wsX7_onOf) := goodIn_app (goodIn_of _ (by decide +kernel)) ggX7_dayIn_X7_onOf
set_option maxRecDepth 20000 in
theorem ggX7_dayIn_X7_backOf : GoodIn wsX7_dayIn wsX7_backOf := goodIn_r _ [11, 5, 6, 7, 8] (by decide +kernel) (by decide +kernel)
set_option maxRecDepth 20000 in
theorem gX7_dayIn_X7_backOf : GoodIn wsX7_dayIn (va_wsS RX7 57 yX7_backOf wsX7_backOf) := goodIn_app (goodIn_of _ (by decide +kernel)) ggX7_dayIn_X7_backOf
theorem dX7_dayIn_0 : decode cX7_dayIn 0 = .ok (.aload_n 0, 1) := by decide +kernel
theorem dX7_dayIn_1 : decode cX7_dayIn 1 = .ok (.iconst 1, 1) := by decide +kernel
theorem dX7_dayIn_2 : decode cX7_dayIn 2 = .ok (.aload_n 0, 1) := by decide +kernel
theorem dX7_dayIn_3 : decode cX7_dayIn 3 = .ok (.iconst 1, 1) := by decide +kernel
theorem dX7_dayIn_4 : decode cX7_dayIn 4 = .ok (.iaload, 1) := by decide +kernel
theorem dX7_dayIn_5 : decode cX7_dayIn 5 = .ok (.i2l, 1) := by decide +kernel
theorem dX7_dayIn_6 : decode cX7_dayIn 6 = .ok (.ldc2_w 111, 3) := by decide +kernel
theorem dX7_dayIn_9 : decode cX7_dayIn 9 = .ok (.lmul, 1) := by decide +kernel
theorem dX7_dayIn_10 : decode cX7_dayIn 10 = .ok (.ldc2_w 113, 3) := by decide +kernel
theorem dX7_dayIn_13 : decode cX7_dayIn 13 = .ok (.ladd, 1) := by decide +kernel
theorem dX7_dayIn_14 : decode cX7_dayIn 14 = .ok (.ldc2_w 115, 3) := by decide +kernel
theorem dX7_dayIn_17 : decode cX7_dayIn 17 = .ok (.lrem, 1) := by decide +kernel
theorem dX7_dayIn_18 : decode cX7_dayIn 18 = .ok (.l2i, 1) := by decide +kernel
theorem dX7_dayIn_19 : decode cX7_dayIn 19 = .ok (.iastore, 1) := by decide +kernel
theorem dX7_dayIn_20 : decode cX7_dayIn 20 = .ok (.aload_n 0, 1) := by decide +kernel
theorem dX7_dayIn_21 : decode cX7_dayIn 21 = .ok (.iconst 1, 1) := by decide +kernel
theorem dX7_dayIn_22 : decode cX7_dayIn 22 = .ok (.iaload, 1) := by decide +kernel
theorem dX7_dayIn_23 : decode cX7_dayIn 23 = .ok (.ldc 117, 2) := by decide +kernel
theorem dX7_dayIn_25 : decode cX7_dayIn 25 = .ok (.idiv, 1) := by decide +kernel
theorem dX7_dayIn_26 : decode cX7_dayIn 26 = .ok (.bipush 10, 2) := by decide +kernel
theorem dX7_dayIn_28 : decode cX7_dayIn 28 = .ok (.irem, 1) := by decide +kernel
theorem dX7_dayIn_29 : decode cX7_dayIn 29 = .ok (.istore_n 1, 1) := by decide +kernel
theorem dX7_dayIn_30 : decode cX7_dayIn 30 = .ok (.aload_n 0, 1) := by decide +kernel
theorem dX7_dayIn_31 : decode cX7_dayIn 31 = .ok (.iconst 2, 1) := by decide +kernel
theorem dX7_dayIn_32 : decode cX7_dayIn 32 = .ok (.iaload, 1) := by decide +kernel
theorem dX7_dayIn_33 : decode cX7_dayIn 33 = .ok (.istore_n 2, 1) := by decide +kernel
theorem dX7_dayIn_34 : decode cX7_dayIn 34 = .ok (.aload_n 0, 1) := by decide +kernel
theorem dX7_dayIn_35 : decode cX7_dayIn 35 = .ok (.iload_n 2, 1) := by decide +kernel
theorem dX7_dayIn_36 : decode cX7_dayIn 36 = .ok (.invokestatic 53, 3) := by decide +kernel
theorem dX7_dayIn_39 : decode cX7_dayIn 39 = .ok (.istore_n 3, 1) := by decide +kernel
theorem dX7_dayIn_40 : decode cX7_dayIn 40 = .ok (.iload_n 1, 1) := by decide +kernel
theorem dX7_dayIn_41 : decode cX7_dayIn 41 = .ok (.iload_n 3, 1) := by decide +kernel
theorem dX7_dayIn_42 : decode cX7_dayIn 42 = .ok (.if_icmp .ge 12, 3) := by decide +kernel
theorem dX7_dayIn_45 : decode cX7_dayIn 45 = .ok (.aload_n 0, 1) := by decide +kernel
theorem dX7_dayIn_46 : decode cX7_dayIn 46 = .ok (.iconst 2, 1) := by decide +kernel
theorem dX7_dayIn_47 : decode cX7_dayIn 47 = .ok (.iload_n 2, 1) := by decide +kernel
theorem dX7_dayIn_48 : decode cX7_dayIn 48 = .ok (.iconst 1, 1) := by decide +kernel
theorem dX7_dayIn_49 : decode cX7_dayIn 49 = .ok (.iadd, 1) := by decide +kernel
theorem dX7_dayIn_50 : decode cX7_dayIn 50 = .ok (.iastore, 1) := by decide +kernel
theorem dX7_dayIn_51 : decode cX7_dayIn 51 = .ok (.goto 40, 3) := by decide +kernel
theorem dX7_dayIn_54 : decode cX7_dayIn 54 = .ok (.iload_n 1, 1) := by decide +kernel
theorem dX7_dayIn_55 : decode cX7_dayIn 55 = .ok (.iload_n 3, 1) := by decide +kernel
theorem dX7_dayIn_56 : decode cX7_dayIn 56 = .ok (.aload_n 0, 1) := by decide +kernel
theorem dX7_dayIn_57 : decode cX7_dayIn 57 = .ok (.iload_n 2, 1) := by decide +kernel
theorem dX7_dayIn_58 : decode cX7_dayIn 58 = .ok (.invokestatic 57, 3) := by decide +kernel
theorem dX7_dayIn_61 : decode cX7_dayIn 61 = .ok (.iadd, 1) := by decide +kernel
theorem dX7_dayIn_62 : decode cX7_dayIn 62 = .ok (.if_icmp .ge 12, 3) := by decide +kernel
theorem dX7_dayIn_65 : decode cX7_dayIn 65 = .ok (.aload_n 0, 1) := by decide +kernel
theorem dX7_dayIn_66 : decode cX7_dayIn 66 = .ok (.iconst 2, 1) := by decide +kernel
theorem dX7_dayIn_67 : decode cX7_dayIn 67 = .ok (.iload_n 2, 1) := by decide +kernel
theorem dX7_dayIn_68 : decode cX7_dayIn 68 = .ok (.iconst 1, 1) := by decide +kernel
theorem dX7_dayIn_69 : decode cX7_dayIn 69 = .ok (.isub, 1) := by decide +kernel
theorem dX7_dayIn_70 : decode cX7_dayIn 70 = .ok (.iastore, 1) := by decide +kernel
theorem dX7_dayIn_71 : decode cX7_dayIn 71 = .ok (.goto 20, 3) := by decide +kernel
theorem dX7_dayIn_74 : decode cX7_dayIn 74 = .ok (.aload_n 0, 1) := by decide +kernel
theorem dX7_dayIn_75 : decode cX7_dayIn 75 = .ok (.iconst 3, 1) := by decide +kernel
theorem dX7_dayIn_76 : decode cX7_dayIn 76 = .ok (.iload_n 2, 1) := by decide +kernel
theorem dX7_dayIn_77 : decode cX7_dayIn 77 = .ok (.iadd, 1) := by decide +kernel
theorem dX7_dayIn_78 : decode cX7_dayIn 78 = .ok (.iaload, 1) := by decide +kernel
theorem dX7_dayIn_79 : decode cX7_dayIn 79 = .ok (.ifCond .le 12, 3) := by decide +kernel
theorem dX7_dayIn_82 : decode cX7_dayIn 82 = .ok (.aload_n 0, 1) := by decide +kernel
theorem dX7_dayIn_83 : decode cX7_dayIn 83 = .ok (.iconst 3, 1) := by decide +kernel
theorem dX7_dayIn_84 : decode cX7_dayIn 84 = .ok (.iload_n 2, 1) := by decide +kernel
theorem dX7_dayIn_85 : decode cX7_dayIn 85 = .ok (.iadd, 1) := by decide +kernel
theorem dX7_dayIn_86 : decode cX7_dayIn 86 = .ok (.dup2, 1) := by decide +kernel
theorem dX7_dayIn_87 : decode cX7_dayIn 87 = .ok (.iaload, 1) := by decide +kernel
theorem dX7_dayIn_88 : decode cX7_dayIn 88 = .ok (.iconst 1, 1) := by decide +kernel
theorem dX7_dayIn_89 : decode cX7_dayIn 89 = .ok (.isub, 1) := by decide +kernel
theorem dX7_dayIn_90 : decode cX7_dayIn 90 = .ok (.iastore, 1) := by decide +kernel
theorem dX7_dayIn_91 : decode cX7_dayIn 91 = .ok (.aload_n 0, 1) := by decide +kernel
theorem dX7_dayIn_92 : decode cX7_dayIn 92 = .ok (.iconst 0, 1) := by decide +kernel
theorem dX7_dayIn_93 : decode cX7_dayIn 93 = .ok (.dup2, 1) := by decide +kernel
theorem dX7_dayIn_94 : decode cX7_dayIn 94 = .ok (.iaload, 1) := by decide +kernel
theorem dX7_dayIn_95 : decode cX7_dayIn 95 = .ok (.iconst 1, 1) := by decide +kernel
theorem dX7_dayIn_96 : decode cX7_dayIn 96 = .ok (.iadd, 1) := by decide +kernel
theorem dX7_dayIn_97 : decode cX7_dayIn 97 = .ok (.iastore, 1) := by decide +kernel
theorem dX7_dayIn_98 : decode cX7_dayIn 98 = .ok (.return_, 1) := by decide +kernel
set_option maxRecDepth 20000 in
theorem ggX7_days_X7_in : GoodIn wsX7_days wsX7_in := goodIn_r _ [5] (by decide +kernel) (by decide +kernel)
set_option maxRecDepth 20000 in
theorem gX7_days_X7_in : GoodIn wsX7_days (va_wsS RX7 41 yX7_in wsX7_in) := goodIn_app (goodIn_of _ (by decide +kernel)) ggX7_days_X7_in
set_option maxRecDepth 20000 in
theorem ggX7_days_X7_note : GoodIn wsX7_days wsX7_note := goodIn_r _ [9, 1, 10, 11, 4, 12, 26, 27, 28, 29, 30, 31, 32, 33, 34, 35, 36, 37, 38, 39, 40, 41, 42, 43, 44] (by decide +kernel) (by decide +kernel)
set_option maxRecDepth 20000 in
theorem gX7_days_X7_note : GoodIn wsX7_days (wsV RX7 118 RX7 yX7_note wsX7_note) := goodIn_app (goodIn_of _ (by decide +kernel)) ggX7_days_X7_note
set_option maxRecDepth 20000 in
theorem ggX7_days_X7_dayIn : GoodIn wsX7_days wsX7_dayIn := goodIn_r _ [15, 16, 17, 18, 19, 20, 21, 4, 22, 23, 24, 25] (by decide +kernel) (by decide +kernel)
set_option maxRecDepth 20000 in
theorem gX7_days_X7_dayIn : GoodIn wsX7_days (va_wsS RX7 121 yX7_dayIn wsX7_dayIn) := goodIn_app (goodIn_of _ (by decide +kernel)) ggX7_days_X7_dayIn
theorem dX7_days_0 : decode cX7_days 0 = .ok (.iload_n 1, 1) := by decide +kernel
theorem dX7_days_1 : decode cX7_days 1 = .ok (.iconst 1, 1) := by decide +kernel
theorem dX7_days_2 : decode cX7_days 2 = .ok (.bipush 40, 2) := by decide +kernel
theorem dX7_days_4 : decode cX7_days 4 = .ok (.invokestatic 41, 3) := by decide +kernel
theorem dX7_days_7 : decode cX7_days 7 = .ok (.ifCond .ne 5, 3) := by decide +kernel
theorem dX7_days_10 : decode cX7_days 10 = .ok (.iconst (-1), 1) := by decide +kernel
theorem dX7_days_11 : decode cX7_days 11 = .ok (.ireturn, 1) := by decide +kernel
theorem dX7_days_12 : decode cX7_days 12 = .ok (.aload_n 0, 1) := by decide +kernel
theorem dX7_days_13 : decode cX7_days 13 = .ok (.getfield 23, 3) := by decide +kernel
theorem dX7_days_16 : decode cX7_days 16 = .ok (.iconst 0, 1) := by decide +kernel
theorem dX7_days_17 : decode cX7_days 17 = .ok (.iaload, 1) := by decide +kernel
theorem dX7_days_18 : decode cX7_days 18 = .ok (.iload_n 1, 1) := by decide +kernel
theorem dX7_days_19 : decode cX7_days 19 = .ok (.iadd, 1) := by decide +kernel
theorem dX7_days_20 : decode cX7_days 20 = .ok (.sipush 9999, 3) := by decide +kernel
theorem dX7_days_23 : decode cX7_days 23 = .ok (.if_icmp .le 6, 3) := by decide +kernel
theorem dX7_days_26 : decode cX7_days 26 = .ok (.bipush (-3), 2) := by decide +kernel
theorem dX7_days_28 : decode cX7_days 28 = .ok (.ireturn, 1) := by decide +kernel
theorem dX7_days_29 : decode cX7_days 29 = .ok (.iconst 0, 1) := by decide +kernel
theorem dX7_days_30 : decode cX7_days 30 = .ok (.istore_n 2, 1) := by decide +kernel
theorem dX7_days_31 : decode cX7_days 31 = .ok (.iload_n 2, 1) := by decide +kernel
theorem dX7_days_32 : decode cX7_days 32 = .ok (.iload_n 1, 1) := by decide +kernel
theorem dX7_days_33 : decode cX7_days 33 = .ok (.if_icmp .ge 20, 3) := by decide +kernel
theorem dX7_days_36 : decode cX7_days 36 = .ok (.aload_n 0, 1) := by decide +kernel
theorem dX7_days_37 : decode cX7_days 37 = .ok (.invokevirtual 118, 3) := by decide +kernel
theorem dX7_days_40 : decode cX7_days 40 = .ok (.aload_n 0, 1) := by decide +kernel
theorem dX7_days_41 : decode cX7_days 41 = .ok (.getfield 23, 3) := by decide +kernel
theorem dX7_days_44 : decode cX7_days 44 = .ok (.invokestatic 121, 3) := by decide +kernel
theorem dX7_days_47 : decode cX7_days 47 = .ok (.iinc 2 1, 3) := by decide +kernel
theorem dX7_days_50 : decode cX7_days 50 = .ok (.goto (-19), 3) := by decide +kernel
theorem dX7_days_53 : decode cX7_days 53 = .ok (.aload_n 0, 1) := by decide +kernel
theorem dX7_days_54 : decode cX7_days 54 = .ok (.getfield 23, 3) := by decide +kernel
theorem dX7_days_57 : decode cX7_days 57 = .ok (.iconst 2, 1) := by decide +kernel
theorem dX7_days_58 : decode cX7_days 58 = .ok (.iaload, 1) := by decide +kernel
theorem dX7_days_59 : decode cX7_days 59 = .ok (.ireturn, 1) := by decide +kernel
set_option maxRecDepth 20000 in
theorem ggX7_carry_X7_isField : GoodIn wsX7_carry wsX7_isField := goodIn_r _ [5, 6, 7, 4, 8] (by decide +kernel) (by decide +kernel)
set_option maxRecDepth 20000 in
theorem gX7_carry_X7_isField : GoodIn wsX7_carry (va_wsS RX7 45 yX7_isField wsX7_isField) := goodIn_app (goodIn_of _ (by decide +kernel)) ggX7_carry_X7_isField
set_option maxRecDepth 20000 in
theorem ggX7_carry_X7_note : GoodIn wsX7_carry wsX7_note := goodIn_r _ [12, 1, 13, 14, 4, 15, 16, 17, 18, 19, 20, 21, 22, 23, 24, 25, 26, 27, 28, 29, 30, 31, 32, 33, 34] (by decide +kernel) (by decide +kernel)
set_option maxRecDepth 20000 in
theorem gX7_carry_X7_note : GoodIn wsX7_carry (wsV RX7 118 RX7 yX7_note wsX7_note) := goodIn_app (goodIn_of _ (by decide +kernel)) ggX7_carry_X7_note
theorem dX7_carry_0 : decode cX7_carry 0 = .ok (.iload_n 1, 1) := by decide +kernel
theorem dX7_carry_1 : decode cX7_carry 1 = .ok (.invokestatic 45, 3) := by decide +kernel
theorem dX7_carry_4 : decode cX7_carry 4 = .ok (.ifCond .ne 5, 3) := by decide +kernel
theorem dX7_carry_7 : decode cX7_carry 7 = .ok (.iconst (-1), 1) := by decide +kernel
theorem dX7_carry_8 : decode cX7_carry 8 = .ok (.ireturn, 1) := by decide +kernel
theorem dX7_carry_9 : decode cX7_carry 9 = .ok (.aload_n 0, 1) := by decide +kernel
theorem dX7_carry_10 : decode cX7_carry 10 = .ok (.getfield 23, 3) := by decide +kernel
theorem dX7_carry_13 : decode cX7_carry 13 = .ok (.iconst 2, 1) := by decide +kernel
theorem dX7_carry_14 : decode cX7_carry 14 = .ok (.iaload, 1) := by decide +kernel
theorem dX7_carry_15 : decode cX7_carry 15 = .ok (.istore_n 2, 1) := by decide +kernel
theorem dX7_carry_16 : decode cX7_carry 16 = .ok (.iload_n 2, 1) := by decide +kernel
theorem dX7_carry_17 : decode cX7_carry 17 = .ok (.iload_n 1, 1) := by decide +kernel
theorem dX7_carry_18 : decode cX7_carry 18 = .ok (.if_icmp .ne 6, 3) := by decide +kernel
theorem dX7_carry_21 : decode cX7_carry 21 = .ok (.bipush (-2), 2) := by decide +kernel
theorem dX7_carry_23 : decode cX7_carry 23 = .ok (.ireturn, 1) := by decide +kernel
theorem dX7_carry_24 : decode cX7_carry 24 = .ok (.aload_n 0, 1) := by decide +kernel
theorem dX7_carry_25 : decode cX7_carry 25 = .ok (.invokevirtual 118, 3) := by decide +kernel
theorem dX7_carry_28 : decode cX7_carry 28 = .ok (.aload_n 0, 1) := by decide +kernel
theorem dX7_carry_29 : decode cX7_carry 29 = .ok (.getfield 23, 3) := by decide +kernel
theorem dX7_carry_32 : decode cX7_carry 32 = .ok (.iconst 2, 1) := by decide +kernel
theorem dX7_carry_33 : decode cX7_carry 33 = .ok (.iload_n 1, 1) := by decide +kernel
theorem dX7_carry_34 : decode cX7_carry 34 = .ok (.iastore, 1) := by decide +kernel
theorem dX7_carry_35 : decode cX7_carry 35 = .ok (.iload_n 2, 1) := by decide +kernel
theorem dX7_carry_36 : decode cX7_carry 36 = .ok (.ireturn, 1) := by decide +kernel
set_option maxRecDepth 20000 in
theorem ggX7_lettuce_X7_isField : GoodIn wsX7_lettuce wsX7_isField := goodIn_r _ [5, 6, 7, 4, 8] (by decide +kernel) (by decide +kernel)
set_option maxRecDepth 20000 in
theorem gX7_lettuce_X7_isField : GoodIn wsX7_lettuce (va_wsS RX7 45 yX7_isField wsX7_isField) := goodIn_app (goodIn_of _ (by decide +kernel)) ggX7_lettuce_X7_isField
set_option maxRecDepth 20000 in
theorem ggX7_lettuce_X7_in : GoodIn wsX7_lettuce wsX7_in := goodIn_r _ [8] (by decide +kernel) (by decide +kernel)
set_option maxRecDepth 20000 in
theorem gX7_lettuce_X7_in : GoodIn wsX7_lettuce (va_wsS RX7 41 yX7_in wsX7_in) := goodIn_app (goodIn_of _ (by decide +kernel)) ggX7_lettuce_X7_in
set_option maxRecDepth 20000 in
theorem ggX7_lettuce_X7_note : GoodIn wsX7_lettuce wsX7_note := goodIn_r _ [12, 1, 13, 14, 4, 15, 16, 17, 18, 19, 20, 21, 22, 23, 24, 25, 26, 27, 28, 29, 30, 31, 32, 33, 34] (by decide +kernel) (by decide +kernel)
set_option maxRecDepth 20000 in
theorem gX7_lettuce_X7_note : GoodIn wsX7_lettuce (wsV RX7 118 RX7 yX7_note wsX7_note) := goodIn_app (goodIn_of _ (by decide +kernel)) ggX7_lettuce_X7_note
theorem dX7_lettuce_0 : decode cX7_lettuce 0 = .ok (.iload_n 1, 1) := by decide +kernel
theorem dX7_lettuce_1 : decode cX7_lettuce 1 = .ok (.invokestatic 45, 3) := by decide +kernel
theorem dX7_lettuce_4 : decode cX7_lettuce 4 = .ok (.ifCond .eq 13, 3) := by decide +kernel
theorem dX7_lettuce_7 : decode cX7_lettuce 7 = .ok (.iload_n 2, 1) := by decide +kernel
theorem dX7_lettuce_8 : decode cX7_lettuce 8 = .ok (.iconst 1, 1) := by decide +kernel
theorem dX7_lettuce_9 : decode cX7_lettuce 9 = .ok (.bipush 9, 2) := by decide +kernel
theorem dX7_lettuce_11 : decode cX7_lettuce 11 = .ok (.invokestatic 41, 3) := by decide +kernel
theorem dX7_lettuce_14 : decode cX7_lettuce 14 = .ok (.ifCond .ne 5, 3) := by decide +kernel
theorem dX7_lettuce_17 : decode cX7_lettuce 17 = .ok (.iconst (-1), 1) := by decide +kernel
theorem dX7_lettuce_18 : decode cX7_lettuce 18 = .ok (.ireturn, 1) := by decide +kernel
theorem dX7_lettuce_19 : decode cX7_lettuce 19 = .ok (.aload_n 0, 1) := by decide +kernel
theorem dX7_lettuce_20 : decode cX7_lettuce 20 = .ok (.getfield 23, 3) := by decide +kernel
theorem dX7_lettuce_23 : decode cX7_lettuce 23 = .ok (.iconst 3, 1) := by decide +kernel
theorem dX7_lettuce_24 : decode cX7_lettuce 24 = .ok (.iload_n 1, 1) := by decide +kernel
theorem dX7_lettuce_25 : decode cX7_lettuce 25 = .ok (.iadd, 1) := by decide +kernel
theorem dX7_lettuce_26 : decode cX7_lettuce 26 = .ok (.iaload, 1) := by decide +kernel
theorem dX7_lettuce_27 : decode cX7_lettuce 27 = .ok (.bipush 9, 2) := by decide +kernel
theorem dX7_lettuce_29 : decode cX7_lettuce 29 = .ok (.if_icmp .ne 6, 3) := by decide +kernel
theorem dX7_lettuce_32 : decode cX7_lettuce 32 = .ok (.bipush (-2), 2) := by decide +kernel
theorem dX7_lettuce_34 : decode cX7_lettuce 34 = .ok (.ireturn, 1) := by decide +kernel
theorem dX7_lettuce_35 : decode cX7_lettuce 35 = .ok (.aload_n 0, 1) := by decide +kernel
theorem dX7_lettuce_36 : decode cX7_lettuce 36 = .ok (.invokevirtual 118, 3) := by decide +kernel
theorem dX7_lettuce_39 : decode cX7_lettuce 39 = .ok (.aload_n 0, 1) := by decide +kernel
theorem dX7_lettuce_40 : decode cX7_lettuce 40 = .ok (.getfield 23, 3) := by decide +kernel
theorem dX7_lettuce_43 : decode cX7_lettuce 43 = .ok (.iconst 3, 1) := by decide +kernel
theorem dX7_lettuce_44 : decode cX7_lettuce 44 = .ok (.iload_n 1, 1) := by decide +kernel
theorem dX7_lettuce_45 : decode cX7_lettuce 45 = .ok (.iadd, 1) := by decide +kernel
theorem dX7_lettuce_46 : decode cX7_lettuce 46 = .ok (.aload_n 0, 1) := by decide +kernel
theorem dX7_lettuce_47 : decode cX7_lettuce 47 = .ok (.getfield 23, 3) := by decide +kernel
theorem dX7_lettuce_50 : decode cX7_lettuce 50 = .ok (.iconst 3, 1) := by decide +kernel
theorem dX7_lettuce_51 : decode cX7_lettuce 51 = .ok (.iload_n 1, 1) := by decide +kernel
theorem dX7_lettuce_52 : decode cX7_lettuce 52 = .ok (.iadd, 1) := by decide +kernel
theorem dX7_lettuce_53 : decode cX7_lettuce 53 = .ok (.iaload, 1) := by decide +kernel
theorem dX7_lettuce_54 : decode cX7_lettuce 54 = .ok (.iload_n 2, 1) := by decide +kernel
theorem dX7_lettuce_55 : decode cX7_lettuce 55 = .ok (.iadd, 1) := by decide +kernel
theorem dX7_lettuce_56 : decode cX7_lettuce 56 = .ok (.bipush 9, 2) := by decide +kernel
theorem dX7_lettuce_58 : decode cX7_lettuce 58 = .ok (.if_icmp .le 8, 3) := by decide +kernel
theorem dX7_lettuce_61 : decode cX7_lettuce 61 = .ok (.bipush 9, 2) := by decide +kernel
theorem dX7_lettuce_63 : decode cX7_lettuce 63 = .ok (.goto 13, 3) := by decide +kernel
theorem dX7_lettuce_66 : decode cX7_lettuce 66 = .ok (.aload_n 0, 1) := by decide +kernel
theorem dX7_lettuce_67 : decode cX7_lettuce 67 = .ok (.getfield 23, 3) := by decide +kernel
theorem dX7_lettuce_70 : decode cX7_lettuce 70 = .ok (.iconst 3, 1) := by decide +kernel
theorem dX7_lettuce_71 : decode cX7_lettuce 71 = .ok (.iload_n 1, 1) := by decide +kernel
theorem dX7_lettuce_72 : decode cX7_lettuce 72 = .ok (.iadd, 1) := by decide +kernel
theorem dX7_lettuce_73 : decode cX7_lettuce 73 = .ok (.iaload, 1) := by decide +kernel
theorem dX7_lettuce_74 : decode cX7_lettuce 74 = .ok (.iload_n 2, 1) := by decide +kernel
theorem dX7_lettuce_75 : decode cX7_lettuce 75 = .ok (.iadd, 1) := by decide +kernel
theorem dX7_lettuce_76 : decode cX7_lettuce 76 = .ok (.iastore, 1) := by decide +kernel
theorem dX7_lettuce_77 : decode cX7_lettuce 77 = .ok (.aload_n 0, 1) := by decide +kernel
theorem dX7_lettuce_78 : decode cX7_lettuce 78 = .ok (.getfield 23, 3) := by decide +kernel
theorem dX7_lettuce_81 : decode cX7_lettuce 81 = .ok (.iconst 3, 1) := by decide +kernel
theorem dX7_lettuce_82 : decode cX7_lettuce 82 = .ok (.iload_n 1, 1) := by decide +kernel
theorem dX7_lettuce_83 : decode cX7_lettuce 83 = .ok (.iadd, 1) := by decide +kernel
theorem dX7_lettuce_84 : decode cX7_lettuce 84 = .ok (.iaload, 1) := by decide +kernel
theorem dX7_lettuce_85 : decode cX7_lettuce 85 = .ok (.ireturn, 1) := by decide +kernel
set_option maxRecDepth 20000 in
theorem ggX7_lay_X7_isField : GoodIn wsX7_lay wsX7_isField := goodIn_r _ [5, 6, 7, 4, 8] (by decide +kernel) (by decide +kernel)
set_option maxRecDepth 20000 in
theorem gX7_lay_X7_isField : GoodIn wsX7_lay (va_wsS RX7 45 yX7_isField wsX7_isField) := goodIn_app (goodIn_of _ (by decide +kernel)) ggX7_lay_X7_isField
set_option maxRecDepth 20000 in
theorem ggX7_lay_X7_in : GoodIn wsX7_lay wsX7_in := goodIn_r _ [8] (by decide +kernel) (by decide +kernel)
set_option maxRecDepth 20000 in
theorem gX7_lay_X7_in : GoodIn wsX7_lay (va_wsS RX7 41 yX7_in wsX7_in) := goodIn_app (goodIn_of _ (by decide +kernel)) ggX7_lay_X7_in
set_option maxRecDepth 20000 in
theorem ggX7_lay_X7_note : GoodIn wsX7_lay wsX7_note := goodIn_r _ [12, 1, 13, 14, 4, 15, 16, 17, 18, 19, 20, 21, 22, 23, 24, 25, 26, 27, 28, 29, 30, 31, 32, 33, 34] (by decide +kernel) (by decide +kernel)
set_option maxRecDepth 20000 in
theorem gX7_lay_X7_note : GoodIn wsX7_lay (wsV RX7 118 RX7 yX7_note wsX7_note) := goodIn_app (goodIn_of _ (by decide +kernel)) ggX7_lay_X7_note
theorem dX7_lay_0 : decode cX7_lay 0 = .ok (.iload_n 1, 1) := by decide +kernel
theorem dX7_lay_1 : decode cX7_lay 1 = .ok (.invokestatic 45, 3) := by decide +kernel
theorem dX7_lay_4 : decode cX7_lay 4 = .ok (.ifCond .eq 12, 3) := by decide +kernel
theorem dX7_lay_7 : decode cX7_lay 7 = .ok (.iload_n 2, 1) := by decide +kernel
theorem dX7_lay_8 : decode cX7_lay 8 = .ok (.iconst 0, 1) := by decide +kernel
theorem dX7_lay_9 : decode cX7_lay 9 = .ok (.iconst 4, 1) := by decide +kernel
theorem dX7_lay_10 : decode cX7_lay 10 = .ok (.invokestatic 41, 3) := by decide +kernel
theorem dX7_lay_13 : decode cX7_lay 13 = .ok (.ifCond .ne 5, 3) := by decide +kernel
theorem dX7_lay_16 : decode cX7_lay 16 = .ok (.iconst (-1), 1) := by decide +kernel
theorem dX7_lay_17 : decode cX7_lay 17 = .ok (.ireturn, 1) := by decide +kernel
theorem dX7_lay_18 : decode cX7_lay 18 = .ok (.aload_n 0, 1) := by decide +kernel
theorem dX7_lay_19 : decode cX7_lay 19 = .ok (.getfield 23, 3) := by decide +kernel
theorem dX7_lay_22 : decode cX7_lay 22 = .ok (.bipush 10, 2) := by decide +kernel
theorem dX7_lay_24 : decode cX7_lay 24 = .ok (.iload_n 1, 1) := by decide +kernel
theorem dX7_lay_25 : decode cX7_lay 25 = .ok (.iadd, 1) := by decide +kernel
theorem dX7_lay_26 : decode cX7_lay 26 = .ok (.iaload, 1) := by decide +kernel
theorem dX7_lay_27 : decode cX7_lay 27 = .ok (.istore_n 3, 1) := by decide +kernel
theorem dX7_lay_28 : decode cX7_lay 28 = .ok (.iload_n 3, 1) := by decide +kernel
theorem dX7_lay_29 : decode cX7_lay 29 = .ok (.iload_n 2, 1) := by decide +kernel
theorem dX7_lay_30 : decode cX7_lay 30 = .ok (.if_icmp .ne 6, 3) := by decide +kernel
theorem dX7_lay_33 : decode cX7_lay 33 = .ok (.bipush (-2), 2) := by decide +kernel
theorem dX7_lay_35 : decode cX7_lay 35 = .ok (.ireturn, 1) := by decide +kernel
theorem dX7_lay_36 : decode cX7_lay 36 = .ok (.aload_n 0, 1) := by decide +kernel
theorem dX7_lay_37 : decode cX7_lay 37 = .ok (.invokevirtual 118, 3) := by decide +kernel
theorem dX7_lay_40 : decode cX7_lay 40 = .ok (.aload_n 0, 1) := by decide +kernel
theorem dX7_lay_41 : decode cX7_lay 41 = .ok (.getfield 23, 3) := by decide +kernel
theorem dX7_lay_44 : decode cX7_lay 44 = .ok (.bipush 10, 2) := by decide +kernel
theorem dX7_lay_46 : decode cX7_lay 46 = .ok (.iload_n 1, 1) := by decide +kernel
theorem dX7_lay_47 : decode cX7_lay 47 = .ok (.iadd, 1) := by decide +kernel
theorem dX7_lay_48 : decode cX7_lay 48 = .ok (.iload_n 2, 1) := by decide +kernel
theorem dX7_lay_49 : decode cX7_lay 49 = .ok (.iastore, 1) := by decide +kernel
theorem dX7_lay_50 : decode cX7_lay 50 = .ok (.iload_n 3, 1) := by decide +kernel
theorem dX7_lay_51 : decode cX7_lay 51 = .ok (.ireturn, 1) := by decide +kernel
set_option maxRecDepth 20000 in
theorem ggX7_undo_X7_bring : GoodIn wsX7_undo wsX7_bring := goodIn_r _ [5] (by decide +kernel) (by decide +kernel)
set_option maxRecDepth 20000 in
theorem gX7_undo_X7_bring : GoodIn wsX7_undo (va_wsS RX7 101 yX7_bring wsX7_bring) := goodIn_app (goodIn_of _ (by decide +kernel)) ggX7_undo_X7_bring
theorem dX7_undo_0 : decode cX7_undo 0 = .ok (.aload_n 0, 1) := by decide +kernel
theorem dX7_undo_1 : decode cX7_undo 1 = .ok (.getfield 23, 3) := by decide +kernel
theorem dX7_undo_4 : decode cX7_undo 4 = .ok (.bipush 40, 2) := by decide +kernel
theorem dX7_undo_6 : decode cX7_undo 6 = .ok (.iaload, 1) := by decide +kernel
theorem dX7_undo_7 : decode cX7_undo 7 = .ok (.ifCond .ne 6, 3) := by decide +kernel
theorem dX7_undo_10 : decode cX7_undo 10 = .ok (.bipush (-4), 2) := by decide +kernel
theorem dX7_undo_12 : decode cX7_undo 12 = .ok (.ireturn, 1) := by decide +kernel
theorem dX7_undo_13 : decode cX7_undo 13 = .ok (.aload_n 0, 1) := by decide +kernel
theorem dX7_undo_14 : decode cX7_undo 14 = .ok (.getfield 23, 3) := by decide +kernel
theorem dX7_undo_17 : decode cX7_undo 17 = .ok (.bipush 40, 2) := by decide +kernel
theorem dX7_undo_19 : decode cX7_undo 19 = .ok (.dup2, 1) := by decide +kernel
theorem dX7_undo_20 : decode cX7_undo 20 = .ok (.iaload, 1) := by decide +kernel
theorem dX7_undo_21 : decode cX7_undo 21 = .ok (.iconst 1, 1) := by decide +kernel
theorem dX7_undo_22 : decode cX7_undo 22 = .ok (.isub, 1) := by decide +kernel
theorem dX7_undo_23 : decode cX7_undo 23 = .ok (.iastore, 1) := by decide +kernel
theorem dX7_undo_24 : decode cX7_undo 24 = .ok (.aload_n 0, 1) := by decide +kernel
theorem dX7_undo_25 : decode cX7_undo 25 = .ok (.getfield 23, 3) := by decide +kernel
theorem dX7_undo_28 : decode cX7_undo 28 = .ok (.bipush 41, 2) := by decide +kernel
theorem dX7_undo_30 : decode cX7_undo 30 = .ok (.bipush 17, 2) := by decide +kernel
theorem dX7_undo_32 : decode cX7_undo 32 = .ok (.aload_n 0, 1) := by decide +kernel
theorem dX7_undo_33 : decode cX7_undo 33 = .ok (.getfield 23, 3) := by decide +kernel
theorem dX7_undo_36 : decode cX7_undo 36 = .ok (.bipush 40, 2) := by decide +kernel
theorem dX7_undo_38 : decode cX7_undo 38 = .ok (.iaload, 1) := by decide +kernel
theorem dX7_undo_39 : decode cX7_undo 39 = .ok (.imul, 1) := by decide +kernel
theorem dX7_undo_40 : decode cX7_undo 40 = .ok (.iadd, 1) := by decide +kernel
theorem dX7_undo_41 : decode cX7_undo 41 = .ok (.aload_n 0, 1) := by decide +kernel
theorem dX7_undo_42 : decode cX7_undo 42 = .ok (.getfield 23, 3) := by decide +kernel
theorem dX7_undo_45 : decode cX7_undo 45 = .ok (.iconst 0, 1) := by decide +kernel
theorem dX7_undo_46 : decode cX7_undo 46 = .ok (.bipush 17, 2) := by decide +kernel
theorem dX7_undo_48 : decode cX7_undo 48 = .ok (.invokestatic 101, 3) := by decide +kernel
theorem dX7_undo_51 : decode cX7_undo 51 = .ok (.aload_n 0, 1) := by decide +kernel
theorem dX7_undo_52 : decode cX7_undo 52 = .ok (.getfield 23, 3) := by decide +kernel
theorem dX7_undo_55 : decode cX7_undo 55 = .ok (.bipush 40, 2) := by decide +kernel
theorem dX7_undo_57 : decode cX7_undo 57 = .ok (.iaload, 1) := by decide +kernel
theorem dX7_undo_58 : decode cX7_undo 58 = .ok (.ireturn, 1) := by decide +kernel
theorem dX7_seed_0 : decode cX7_seed 0 = .ok (.iload_n 1, 1) := by decide +kernel
theorem dX7_seed_1 : decode cX7_seed 1 = .ok (.ifCond .ge 5, 3) := by decide +kernel
theorem dX7_seed_4 : decode cX7_seed 4 = .ok (.iconst (-1), 1) := by decide +kernel
theorem dX7_seed_5 : decode cX7_seed 5 = .ok (.ireturn, 1) := by decide +kernel
theorem dX7_seed_6 : decode cX7_seed 6 = .ok (.aload_n 0, 1) := by decide +kernel
theorem dX7_seed_7 : decode cX7_seed 7 = .ok (.getfield 23, 3) := by decide +kernel
theorem dX7_seed_10 : decode cX7_seed 10 = .ok (.iconst 1, 1) := by decide +kernel
theorem dX7_seed_11 : decode cX7_seed 11 = .ok (.iaload, 1) := by decide +kernel
theorem dX7_seed_12 : decode cX7_seed 12 = .ok (.istore_n 2, 1) := by decide +kernel
theorem dX7_seed_13 : decode cX7_seed 13 = .ok (.aload_n 0, 1) := by decide +kernel
theorem dX7_seed_14 : decode cX7_seed 14 = .ok (.getfield 23, 3) := by decide +kernel
theorem dX7_seed_17 : decode cX7_seed 17 = .ok (.iconst 1, 1) := by decide +kernel
theorem dX7_seed_18 : decode cX7_seed 18 = .ok (.iload_n 1, 1) := by decide +kernel
theorem dX7_seed_19 : decode cX7_seed 19 = .ok (.iastore, 1) := by decide +kernel
theorem dX7_seed_20 : decode cX7_seed 20 = .ok (.iload_n 2, 1) := by decide +kernel
theorem dX7_seed_21 : decode cX7_seed 21 = .ok (.ireturn, 1) := by decide +kernel
set_option maxRecDepth 20000 in
theorem ggX7_begin_X7_bring : GoodIn wsX7_begin wsX7_bring := goodIn_r _ [6] (by decide +kernel) (by decide +kernel)
set_option maxRecDepth 20000 in
theorem gX7_begin_X7_bring : GoodIn wsX7_begin (va_wsS RX7 101 yX7_bring wsX7_bring) := goodIn_app (goodIn_of _ (by decide +kernel)) ggX7_begin_X7_bring
theorem dX7_begin_0 : decode cX7_begin 0 = .ok (.aload_n 0, 1) := by decide +kernel
theorem dX7_begin_1 : decode cX7_begin 1 = .ok (.getfield 23, 3) := by decide +kernel
theorem dX7_begin_4 : decode cX7_begin 4 = .ok (.iconst 0, 1) := by decide +kernel
theorem dX7_begin_5 : decode cX7_begin 5 = .ok (.aload_n 0, 1) := by decide +kernel
theorem dX7_begin_6 : decode cX7_begin 6 = .ok (.getfield 26, 3) := by decide +kernel
theorem dX7_begin_9 : decode cX7_begin 9 = .ok (.iconst 0, 1) := by decide +kernel
theorem dX7_begin_10 : decode cX7_begin 10 = .ok (.bipush 40, 2) := by decide +kernel
theorem dX7_begin_12 : decode cX7_begin 12 = .ok (.invokestatic 101, 3) := by decide +kernel
theorem dX7_begin_15 : decode cX7_begin 15 = .ok (.return_, 1) := by decide +kernel
theorem dX7_part_0 : decode cX7_part 0 = .ok (.lload_n 0, 1) := by decide +kernel
theorem dX7_part_1 : decode cX7_part 1 = .ok (.lstore 5, 2) := by decide +kernel
theorem dX7_part_3 : decode cX7_part 3 = .ok (.lload_n 2, 1) := by decide +kernel
theorem dX7_part_4 : decode cX7_part 4 = .ok (.lstore 7, 2) := by decide +kernel
theorem dX7_part_6 : decode cX7_part 6 = .ok (.lload 7, 2) := by decide +kernel
theorem dX7_part_8 : decode cX7_part 8 = .ok (.lconst 0, 1) := by decide +kernel
theorem dX7_part_9 : decode cX7_part 9 = .ok (.lcmp, 1) := by decide +kernel
theorem dX7_part_10 : decode cX7_part 10 = .ok (.ifCond .le 21, 3) := by decide +kernel
theorem dX7_part_13 : decode cX7_part 13 = .ok (.lload 5, 2) := by decide +kernel
theorem dX7_part_15 : decode cX7_part 15 = .ok (.lload 7, 2) := by decide +kernel
theorem dX7_part_17 : decode cX7_part 17 = .ok (.lrem, 1) := by decide +kernel
theorem dX7_part_18 : decode cX7_part 18 = .ok (.lstore 9, 2) := by decide +kernel
theorem dX7_part_20 : decode cX7_part 20 = .ok (.lload 7, 2) := by decide +kernel
theorem dX7_part_22 : decode cX7_part 22 = .ok (.lstore 5, 2) := by decide +kernel
theorem dX7_part_24 : decode cX7_part 24 = .ok (.lload 9, 2) := by decide +kernel
theorem dX7_part_26 : decode cX7_part 26 = .ok (.lstore 7, 2) := by decide +kernel
theorem dX7_part_28 : decode cX7_part 28 = .ok (.goto (-22), 3) := by decide +kernel
theorem dX7_part_31 : decode cX7_part 31 = .ok (.iload 4, 2) := by decide +kernel
theorem dX7_part_33 : decode cX7_part 33 = .ok (.ifCond .ne 7, 3) := by decide +kernel
theorem dX7_part_36 : decode cX7_part 36 = .ok (.lload_n 0, 1) := by decide +kernel
theorem dX7_part_37 : decode cX7_part 37 = .ok (.goto 4, 3) := by decide +kernel
theorem dX7_part_40 : decode cX7_part 40 = .ok (.lload_n 2, 1) := by decide +kernel
theorem dX7_part_41 : decode cX7_part 41 = .ok (.lload 5, 2) := by decide +kernel
theorem dX7_part_43 : decode cX7_part 43 = .ok (.ldiv, 1) := by decide +kernel
theorem dX7_part_44 : decode cX7_part 44 = .ok (.lreturn, 1) := by decide +kernel
set_option maxRecDepth 20000 in
theorem ggX7_layOdds_X7_onOf : GoodIn wsX7_layOdds wsX7_onOf := goodIn_r _ [9] (by decide +kernel) (by decide +kernel)
set_option maxRecDepth 20000 in
theorem gX7_layOdds_X7_onOf : GoodIn wsX7_layOdds (va_wsS RX7 53 yX7_onOf wsX7_onOf) := goodIn_app (goodIn_of _ (by decide +kernel)) ggX7_layOdds_X7_onOf
set_option maxRecDepth 20000 in
theorem ggX7_layOdds_X7_backOf : GoodIn wsX7_layOdds wsX7_backOf := goodIn_r _ [12, 6, 7, 8, 9] (by decide +kernel) (by decide +kernel)
set_option maxRecDepth 20000 in
theorem gX7_layOdds_X7_backOf : GoodIn wsX7_layOdds (va_wsS RX7 57 yX7_backOf wsX7_backOf) := goodIn_app (goodIn_of _ (by decide +kernel)) ggX7_layOdds_X7_backOf
theorem dX7_layOdds_0 : decode cX7_layOdds 0 = .ok (.iconst 0, 1) := by decide +kernel
theorem dX7_layOdds_1 : decode cX7_layOdds 1 = .ok (.istore 5, 2) := by decide +kernel
theorem dX7_layOdds_3 : decode cX7_layOdds 3 = .ok (.iload 5, 2) := by decide +kernel
theorem dX7_layOdds_5 : decode cX7_layOdds 5 = .ok (.bipush 7, 2) := by decide +kernel
theorem dX7_layOdds_7 : decode cX7_layOdds 7 = .ok (.if_icmp .ge 27, 3) := by decide +kernel
theorem dX7_layOdds_10 : decode cX7_layOdds 10 = .ok (.aload_n 0, 1) := by decide +kernel
theorem dX7_layOdds_11 : decode cX7_layOdds 11 = .ok (.getfield 35, 3) := by decide +kernel
theorem dX7_layOdds_14 : decode cX7_layOdds 14 = .ok (.iload 5, 2) := by decide +kernel
theorem dX7_layOdds_16 : decode cX7_layOdds 16 = .ok (.iload 5, 2) := by decide +kernel
theorem dX7_layOdds_18 : decode cX7_layOdds 18 = .ok (.iload_n 2, 1) := by decide +kernel
theorem dX7_layOdds_19 : decode cX7_layOdds 19 = .ok (.if_icmp .ne 7, 3) := by decide +kernel
theorem dX7_layOdds_22 : decode cX7_layOdds 22 = .ok (.lconst 1, 1) := by decide +kernel
theorem dX7_layOdds_23 : decode cX7_layOdds 23 = .ok (.goto 4, 3) := by decide +kernel
theorem dX7_layOdds_26 : decode cX7_layOdds 26 = .ok (.lconst 0, 1) := by decide +kernel
theorem dX7_layOdds_27 : decode cX7_layOdds 27 = .ok (.lastore, 1) := by decide +kernel
theorem dX7_layOdds_28 : decode cX7_layOdds 28 = .ok (.iinc 5 1, 3) := by decide +kernel
theorem dX7_layOdds_31 : decode cX7_layOdds 31 = .ok (.goto (-28), 3) := by decide +kernel
theorem dX7_layOdds_34 : decode cX7_layOdds 34 = .ok (.iload 4, 2) := by decide +kernel
theorem dX7_layOdds_36 : decode cX7_layOdds 36 = .ok (.ifCond .ne 9, 3) := by decide +kernel
theorem dX7_layOdds_39 : decode cX7_layOdds 39 = .ok (.ldc2_w 125, 3) := by decide +kernel
theorem dX7_layOdds_42 : decode cX7_layOdds 42 = .ok (.goto 6, 3) := by decide +kernel
theorem dX7_layOdds_45 : decode cX7_layOdds 45 = .ok (.ldc2_w 127, 3) := by decide +kernel
theorem dX7_layOdds_48 : decode cX7_layOdds 48 = .ok (.lstore 5, 2) := by decide +kernel
theorem dX7_layOdds_50 : decode cX7_layOdds 50 = .ok (.aload_n 0, 1) := by decide +kernel
theorem dX7_layOdds_51 : decode cX7_layOdds 51 = .ok (.lconst 1, 1) := by decide +kernel
theorem dX7_layOdds_52 : decode cX7_layOdds 52 = .ok (.putfield 129, 3) := by decide +kernel
theorem dX7_layOdds_55 : decode cX7_layOdds 55 = .ok (.iconst 0, 1) := by decide +kernel
theorem dX7_layOdds_56 : decode cX7_layOdds 56 = .ok (.istore 7, 2) := by decide +kernel
theorem dX7_layOdds_58 : decode cX7_layOdds 58 = .ok (.iload 7, 2) := by decide +kernel
theorem dX7_layOdds_60 : decode cX7_layOdds 60 = .ok (.iload_n 3, 1) := by decide +kernel
theorem dX7_layOdds_61 : decode cX7_layOdds 61 = .ok (.if_icmp .ge 216, 3) := by decide +kernel
theorem dX7_layOdds_64 : decode cX7_layOdds 64 = .ok (.iconst 0, 1) := by decide +kernel
theorem dX7_layOdds_65 : decode cX7_layOdds 65 = .ok (.istore 8, 2) := by decide +kernel
theorem dX7_layOdds_67 : decode cX7_layOdds 67 = .ok (.iload 8, 2) := by decide +kernel
theorem dX7_layOdds_69 : decode cX7_layOdds 69 = .ok (.bipush 7, 2) := by decide +kernel
theorem dX7_layOdds_71 : decode cX7_layOdds 71 = .ok (.if_icmp .ge 17, 3) := by decide +kernel
theorem dX7_layOdds_74 : decode cX7_layOdds 74 = .ok (.aload_n 0, 1) := by decide +kernel
theorem dX7_layOdds_75 : decode cX7_layOdds 75 = .ok (.getfield 38, 3) := by decide +kernel
theorem dX7_layOdds_78 : decode cX7_layOdds 78 = .ok (.iload 8, 2) := by decide +kernel
theorem dX7_layOdds_80 : decode cX7_layOdds 80 = .ok (.lconst 0, 1) := by decide +kernel
theorem dX7_layOdds_81 : decode cX7_layOdds 81 = .ok (.lastore, 1) := by decide +kernel
theorem dX7_layOdds_82 : decode cX7_layOdds 82 = .ok (.iinc 8 1, 3) := by decide +kernel
theorem dX7_layOdds_85 : decode cX7_layOdds 85 = .ok (.goto (-18), 3) := by decide +kernel
theorem dX7_layOdds_88 : decode cX7_layOdds 88 = .ok (.iconst 0, 1) := by decide +kernel
theorem dX7_layOdds_89 : decode cX7_layOdds 89 = .ok (.istore 8, 2) := by decide +kernel
theorem dX7_layOdds_91 : decode cX7_layOdds 91 = .ok (.iload 8, 2) := by decide +kernel
theorem dX7_layOdds_93 : decode cX7_layOdds 93 = .ok (.bipush 7, 2) := by decide +kernel
theorem dX7_layOdds_95 : decode cX7_layOdds 95 = .ok (.if_icmp .ge 135, 3) := by decide +kernel
theorem dX7_layOdds_98 : decode cX7_layOdds 98 = .ok (.iload 4, 2) := by decide +kernel
theorem dX7_layOdds_100 : decode cX7_layOdds 100 = .ok (.ifCond .ne 7, 3) := by decide +kernel
theorem dX7_layOdds_103 : decode cX7_layOdds 103 = .ok (.iconst 1, 1) := by decide +kernel
theorem dX7_layOdds_104 : decode cX7_layOdds 104 = .ok (.goto 8, 3) := by decide +kernel
theorem dX7_layOdds_107 : decode cX7_layOdds 107 = .ok (.bipush 10, 2) := by decide +kernel
theorem dX7_layOdds_109 : decode cX7_layOdds 109 = .ok (.iload 4, 2) := by decide +kernel
theorem dX7_layOdds_111 : decode cX7_layOdds 111 = .ok (.isub, 1) := by decide +kernel
theorem dX7_layOdds_112 : decode cX7_layOdds 112 = .ok (.istore 9, 2) := by decide +kernel
theorem dX7_layOdds_114 : decode cX7_layOdds 114 = .ok (.iload 9, 2) := by decide +kernel
theorem dX7_layOdds_116 : decode cX7_layOdds 116 = .ok (.i2l, 1) := by decide +kernel
theorem dX7_layOdds_117 : decode cX7_layOdds 117 = .ok (.aload_n 1, 1) := by decide +kernel
theorem dX7_layOdds_118 : decode cX7_layOdds 118 = .ok (.iload 8, 2) := by decide +kernel
theorem dX7_layOdds_120 : decode cX7_layOdds 120 = .ok (.invokestatic 53, 3) := by decide +kernel
theorem dX7_layOdds_123 : decode cX7_layOdds 123 = .ok (.i2l, 1) := by decide +kernel
theorem dX7_layOdds_124 : decode cX7_layOdds 124 = .ok (.lmul, 1) := by decide +kernel
theorem dX7_layOdds_125 : decode cX7_layOdds 125 = .ok (.lstore 10, 2) := by decide +kernel
theorem dX7_layOdds_127 : decode cX7_layOdds 127 = .ok (.iload 9, 2) := by decide +kernel
theorem dX7_layOdds_129 : decode cX7_layOdds 129 = .ok (.i2l, 1) := by decide +kernel
theorem dX7_layOdds_130 : decode cX7_layOdds 130 = .ok (.aload_n 1, 1) := by decide +kernel
theorem dX7_layOdds_131 : decode cX7_layOdds 131 = .ok (.iload 8, 2) := by decide +kernel
theorem dX7_layOdds_133 : decode cX7_layOdds 133 = .ok (.invokestatic 57, 3) := by decide +kernel
theorem dX7_layOdds_136 : decode cX7_layOdds 136 = .ok (.i2l, 1) := by decide +kernel
theorem dX7_layOdds_137 : decode cX7_layOdds 137 = .ok (.lmul, 1) := by decide +kernel
theorem dX7_layOdds_138 : decode cX7_layOdds 138 = .ok (.lstore 12, 2) := by decide +kernel
theorem dX7_layOdds_140 : decode cX7_layOdds 140 = .ok (.aload_n 0, 1) := by decide +kernel
theorem dX7_layOdds_141 : decode cX7_layOdds 141 = .ok (.getfield 38, 3) := by decide +kernel
theorem dX7_layOdds_144 : decode cX7_layOdds 144 = .ok (.iload 8, 2) := by decide +kernel
theorem dX7_layOdds_146 : decode cX7_layOdds 146 = .ok (.dup2, 1) := by decide +kernel
theorem dX7_layOdds_147 : decode cX7_layOdds 147 = .ok (.laload, 1) := by decide +kernel
theorem dX7_layOdds_148 : decode cX7_layOdds 148 = .ok (.aload_n 0, 1) := by decide +kernel
theorem dX7_layOdds_149 : decode cX7_layOdds 149 = .ok (.getfield 35, 3) := by decide +kernel
theorem dX7_layOdds_152 : decode cX7_layOdds 152 = .ok (.iload 8, 2) := by decide +kernel
theorem dX7_layOdds_154 : decode cX7_layOdds 154 = .ok (.laload, 1) := by decide +kernel
theorem dX7_layOdds_155 : decode cX7_layOdds 155 = .ok (.lload 5, 2) := by decide +kernel
theorem dX7_layOdds_157 : decode cX7_layOdds 157 = .ok (.lload 10, 2) := by decide +kernel
theorem dX7_layOdds_159 : decode cX7_layOdds 159 = .ok (.lsub, 1) := by decide +kernel
theorem dX7_layOdds_160 : decode cX7_layOdds 160 = .ok (.lload 12, 2) := by decide +kernel
theorem dX7_layOdds_162 : decode cX7_layOdds 162 = .ok (.lsub, 1) := by decide +kernel
theorem dX7_layOdds_163 : decode cX7_layOdds 163 = .ok (.lmul, 1) := by decide +kernel
theorem dX7_layOdds_164 : decode cX7_layOdds 164 = .ok (.ladd, 1) := by decide +kernel
theorem dX7_layOdds_165 : decode cX7_layOdds 165 = .ok (.lastore, 1) := by decide +kernel
theorem dX7_layOdds_166 : decode cX7_layOdds 166 = .ok (.lload 10, 2) := by decide +kernel
theorem dX7_layOdds_168 : decode cX7_layOdds 168 = .ok (.lconst 0, 1) := by decide +kernel
theorem dX7_layOdds_169 : decode cX7_layOdds 169 = .ok (.lcmp, 1) := by decide +kernel
theorem dX7_layOdds_170 : decode cX7_layOdds 170 = .ok (.ifCond .le 25, 3) := by decide +kernel
theorem dX7_layOdds_173 : decode cX7_layOdds 173 = .ok (.aload_n 0, 1) := by decide +kernel
theorem dX7_layOdds_174 : decode cX7_layOdds 174 = .ok (.getfield 38, 3) := by decide +kernel
theorem dX7_layOdds_177 : decode cX7_layOdds 177 = .ok (.iload 8, 2) := by decide +kernel
theorem dX7_layOdds_179 : decode cX7_layOdds 179 = .ok (.iconst 1, 1) := by decide +kernel
theorem dX7_layOdds_180 : decode cX7_layOdds 180 = .ok (.iadd, 1) := by decide +kernel
theorem dX7_layOdds_181 : decode cX7_layOdds 181 = .ok (.dup2, 1) := by decide +kernel
theorem dX7_layOdds_182 : decode cX7_layOdds 182 = .ok (.laload, 1) := by decide +kernel
theorem dX7_layOdds_183 : decode cX7_layOdds 183 = .ok (.aload_n 0, 1) := by decide +kernel
theorem dX7_layOdds_184 : decode cX7_layOdds 184 = .ok (.getfield 35, 3) := by decide +kernel
theorem dX7_layOdds_187 : decode cX7_layOdds 187 = .ok (.iload 8, 2) := by decide +kernel
theorem dX7_layOdds_189 : decode cX7_layOdds 189 = .ok (.laload, 1) := by decide +kernel
theorem dX7_layOdds_190 : decode cX7_layOdds 190 = .ok (.lload 10, 2) := by decide +kernel
theorem dX7_layOdds_192 : decode cX7_layOdds 192 = .ok (.lmul, 1) := by decide +kernel
theorem dX7_layOdds_193 : decode cX7_layOdds 193 = .ok (.ladd, 1) := by decide +kernel
theorem dX7_layOdds_194 : decode cX7_layOdds 194 = .ok (.lastore, 1) := by decide +kernel
theorem dX7_layOdds_195 : decode cX7_layOdds 195 = .ok (.lload 12, 2) := by decide +kernel
theorem dX7_layOdds_197 : decode cX7_layOdds 197 = .ok (.lconst 0, 1) := by decide +kernel
theorem dX7_layOdds_198 : decode cX7_layOdds 198 = .ok (.lcmp, 1) := by decide +kernel
theorem dX7_layOdds_199 : decode cX7_layOdds 199 = .ok (.ifCond .le 25, 3) := by decide +kernel
theorem dX7_layOdds_202 : decode cX7_layOdds 202 = .ok (.aload_n 0, 1) := by decide +kernel
theorem dX7_layOdds_203 : decode cX7_layOdds 203 = .ok (.getfield 38, 3) := by decide +kernel
theorem dX7_layOdds_206 : decode cX7_layOdds 206 = .ok (.iload 8, 2) := by decide +kernel
theorem dX7_layOdds_208 : decode cX7_layOdds 208 = .ok (.iconst 1, 1) := by decide +kernel
theorem dX7_layOdds_209 : decode cX7_layOdds 209 = .ok (.isub, 1) := by decide +kernel
theorem dX7_layOdds_210 : decode cX7_layOdds 210 = .ok (.dup2, 1) := by decide +kernel
theorem dX7_layOdds_211 : decode cX7_layOdds 211 = .ok (.laload, 1) := by decide +kernel
theorem dX7_layOdds_212 : decode cX7_layOdds 212 = .ok (.aload_n 0, 1) := by decide +kernel
theorem dX7_layOdds_213 : decode cX7_layOdds 213 = .ok (.getfield 35, 3) := by decide +kernel
theorem dX7_layOdds_216 : decode cX7_layOdds 216 = .ok (.iload 8, 2) := by decide +kernel
theorem dX7_layOdds_218 : decode cX7_layOdds 218 = .ok (.laload, 1) := by decide +kernel
theorem dX7_layOdds_219 : decode cX7_layOdds 219 = .ok (.lload 12, 2) := by decide +kernel
theorem dX7_layOdds_221 : decode cX7_layOdds 221 = .ok (.lmul, 1) := by decide +kernel
theorem dX7_layOdds_222 : decode cX7_layOdds 222 = .ok (.ladd, 1) := by decide +kernel
theorem dX7_layOdds_223 : decode cX7_layOdds 223 = .ok (.lastore, 1) := by decide +kernel
theorem dX7_layOdds_224 : decode cX7_layOdds 224 = .ok (.iinc 8 1, 3) := by decide +kernel
theorem dX7_layOdds_227 : decode cX7_layOdds 227 = .ok (.goto (-136), 3) := by decide +kernel
theorem dX7_layOdds_230 : decode cX7_layOdds 230 = .ok (.iconst 0, 1) := by decide +kernel
theorem dX7_layOdds_231 : decode cX7_layOdds 231 = .ok (.istore 8, 2) := by decide +kernel
theorem dX7_layOdds_233 : decode cX7_layOdds 233 = .ok (.iload 8, 2) := by decide +kernel
theorem dX7_layOdds_235 : decode cX7_layOdds 235 = .ok (.bipush 7, 2) := by decide +kernel
theorem dX7_layOdds_237 : decode cX7_layOdds 237 = .ok (.if_icmp .ge 23, 3) := by decide +kernel
theorem dX7_layOdds_240 : decode cX7_layOdds 240 = .ok (.aload_n 0, 1) := by decide +kernel
theorem dX7_layOdds_241 : decode cX7_layOdds 241 = .ok (.getfield 35, 3) := by decide +kernel
theorem dX7_layOdds_244 : decode cX7_layOdds 244 = .ok (.iload 8, 2) := by decide +kernel
theorem dX7_layOdds_246 : decode cX7_layOdds 246 = .ok (.aload_n 0, 1) := by decide +kernel
theorem dX7_layOdds_247 : decode cX7_layOdds 247 = .ok (.getfield 38, 3) := by decide +kernel
theorem dX7_layOdds_250 : decode cX7_layOdds 250 = .ok (.iload 8, 2) := by decide +kernel
theorem dX7_layOdds_252 : decode cX7_layOdds 252 = .ok (.laload, 1) := by decide +kernel
theorem dX7_layOdds_253 : decode cX7_layOdds 253 = .ok (.lastore, 1) := by decide +kernel
theorem dX7_layOdds_254 : decode cX7_layOdds 254 = .ok (.iinc 8 1, 3) := by decide +kernel
theorem dX7_layOdds_257 : decode cX7_layOdds 257 = .ok (.goto (-24), 3) := by decide +kernel
theorem dX7_layOdds_260 : decode cX7_layOdds 260 = .ok (.aload_n 0, 1) := by decide +kernel
theorem dX7_layOdds_261 : decode cX7_layOdds 261 = .ok (.dup, 1) := by decide +kernel
theorem dX7_layOdds_262 : decode cX7_layOdds 262 = .ok (.getfield 129, 3) := by decide +kernel
theorem dX7_layOdds_265 : decode cX7_layOdds 265 = .ok (.lload 5, 2) := by decide +kernel
theorem dX7_layOdds_267 : decode cX7_layOdds 267 = .ok (.lmul, 1) := by decide +kernel
theorem dX7_layOdds_268 : decode cX7_layOdds 268 = .ok (.putfield 129, 3) := by decide +kernel
theorem dX7_layOdds_271 : decode cX7_layOdds 271 = .ok (.iinc 7 1, 3) := by decide +kernel
theorem dX7_layOdds_274 : decode cX7_layOdds 274 = .ok (.goto (-216), 3) := by decide +kernel
theorem dX7_layOdds_277 : decode cX7_layOdds 277 = .ok (.return_, 1) := by decide +kernel
set_option maxRecDepth 20000 in
theorem ggX7_chance_X7_isField : GoodIn wsX7_chance wsX7_isField := goodIn_r _ [7, 8, 9, 6, 10] (by decide +kernel) (by decide +kernel)
set_option maxRecDepth 20000 in
theorem gX7_chance_X7_isField : GoodIn wsX7_chance (va_wsS RX7 45 yX7_isField wsX7_isField) := goodIn_app (goodIn_of _ (by decide +kernel)) ggX7_chance_X7_isField
set_option maxRecDepth 20000 in
theorem ggX7_chance_X7_in : GoodIn wsX7_chance wsX7_in := goodIn_r _ [10] (by decide +kernel) (by decide +kernel)
set_option maxRecDepth 20000 in
theorem gX7_chance_X7_in : GoodIn wsX7_chance (va_wsS RX7 41 yX7_in wsX7_in) := goodIn_app (goodIn_of _ (by decide +kernel)) ggX7_chance_X7_in
set_option maxRecDepth 20000 in
theorem ggX7_chance_X7_layOdds : GoodIn wsX7_chance wsX7_layOdds := goodIn_r _ [14, 2, 15, 16, 3, 17, 18, 19, 6, 20, 21, 22, 23, 27, 28, 29, 30, 31, 32, 33, 34, 35, 36, 37, 38, 39, 40, 41, 42, 43, 44, 45] (by decide +kernel) (by decide +kernel)
set_option maxRecDepth 20000 in
theorem gX7_chance_X7_layOdds : GoodIn wsX7_chance (wsV RX7 133 RX7 yX7_layOdds wsX7_layOdds) := goodIn_app (goodIn_of _ (by decide +kernel)) ggX7_chance_X7_layOdds
set_option maxRecDepth 20000 in
theorem ggX7_chance_X7_part : GoodIn wsX7_chance wsX7_part := goodIn_r _ [26] (by decide +kernel) (by decide +kernel)
set_option maxRecDepth 20000 in
theorem gX7_chance_X7_part : GoodIn wsX7_chance (va_wsS RX7 137 yX7_part wsX7_part) := goodIn_app (goodIn_of _ (by decide +kernel)) ggX7_chance_X7_part
theorem dX7_chance_0 : decode cX7_chance 0 = .ok (.iload_n 1, 1) := by decide +kernel
theorem dX7_chance_1 : decode cX7_chance 1 = .ok (.invokestatic 45, 3) := by decide +kernel
theorem dX7_chance_4 : decode cX7_chance 4 = .ok (.ifCond .eq 22, 3) := by decide +kernel
theorem dX7_chance_7 : decode cX7_chance 7 = .ok (.iload_n 2, 1) := by decide +kernel
theorem dX7_chance_8 : decode cX7_chance 8 = .ok (.iconst 0, 1) := by decide +kernel
theorem dX7_chance_9 : decode cX7_chance 9 = .ok (.bipush 9, 2) := by decide +kernel
theorem dX7_chance_11 : decode cX7_chance 11 = .ok (.invokestatic 41, 3) := by decide +kernel
theorem dX7_chance_14 : decode cX7_chance 14 = .ok (.ifCond .eq 12, 3) := by decide +kernel
theorem dX7_chance_17 : decode cX7_chance 17 = .ok (.iload_n 3, 1) := by decide +kernel
theorem dX7_chance_18 : decode cX7_chance 18 = .ok (.iconst 0, 1) := by decide +kernel
theorem dX7_chance_19 : decode cX7_chance 19 = .ok (.iconst 1, 1) := by decide +kernel
theorem dX7_chance_20 : decode cX7_chance 20 = .ok (.invokestatic 41, 3) := by decide +kernel
theorem dX7_chance_23 : decode cX7_chance 23 = .ok (.ifCond .ne 5, 3) := by decide +kernel
theorem dX7_chance_26 : decode cX7_chance 26 = .ok (.iconst (-1), 1) := by decide +kernel
theorem dX7_chance_27 : decode cX7_chance 27 = .ok (.ireturn, 1) := by decide +kernel
theorem dX7_chance_28 : decode cX7_chance 28 = .ok (.aload_n 0, 1) := by decide +kernel
theorem dX7_chance_29 : decode cX7_chance 29 = .ok (.aload_n 0, 1) := by decide +kernel
theorem dX7_chance_30 : decode cX7_chance 30 = .ok (.getfield 23, 3) := by decide +kernel
theorem dX7_chance_33 : decode cX7_chance 33 = .ok (.aload_n 0, 1) := by decide +kernel
theorem dX7_chance_34 : decode cX7_chance 34 = .ok (.getfield 23, 3) := by decide +kernel
theorem dX7_chance_37 : decode cX7_chance 37 = .ok (.iconst 2, 1) := by decide +kernel
theorem dX7_chance_38 : decode cX7_chance 38 = .ok (.iaload, 1) := by decide +kernel
theorem dX7_chance_39 : decode cX7_chance 39 = .ok (.iload_n 2, 1) := by decide +kernel
theorem dX7_chance_40 : decode cX7_chance 40 = .ok (.iconst 0, 1) := by decide +kernel
theorem dX7_chance_41 : decode cX7_chance 41 = .ok (.invokevirtual 133, 3) := by decide +kernel
theorem dX7_chance_44 : decode cX7_chance 44 = .ok (.aload_n 0, 1) := by decide +kernel
theorem dX7_chance_45 : decode cX7_chance 45 = .ok (.getfield 35, 3) := by decide +kernel
theorem dX7_chance_48 : decode cX7_chance 48 = .ok (.iload_n 1, 1) := by decide +kernel
theorem dX7_chance_49 : decode cX7_chance 49 = .ok (.laload, 1) := by decide +kernel
theorem dX7_chance_50 : decode cX7_chance 50 = .ok (.aload_n 0, 1) := by decide +kernel
theorem dX7_chance_51 : decode cX7_chance 51 = .ok (.getfield 129, 3) := by decide +kernel
theorem dX7_chance_54 : decode cX7_chance 54 = .ok (.iload_n 3, 1) := by decide +kernel
theorem dX7_chance_55 : decode cX7_chance 55 = .ok (.invokestatic 137, 3) := by decide +kernel
theorem dX7_chance_58 : decode cX7_chance 58 = .ok (.l2i, 1) := by decide +kernel
theorem dX7_chance_59 : decode cX7_chance 59 = .ok (.ireturn, 1) := by decide +kernel
set_option maxRecDepth 20000 in
theorem ggX7_likely_X7_in : GoodIn wsX7_likely wsX7_in := goodIn_r _ [6] (by decide +kernel) (by decide +kernel)
set_option maxRecDepth 20000 in
theorem gX7_likely_X7_in : GoodIn wsX7_likely (va_wsS RX7 41 yX7_in wsX7_in) := goodIn_app (goodIn_of _ (by decide +kernel)) ggX7_likely_X7_in
set_option maxRecDepth 20000 in
theorem ggX7_likely_X7_layOdds : GoodIn wsX7_likely wsX7_layOdds := goodIn_r _ [10, 2, 11, 12, 13, 14, 15, 16, 5, 17, 18, 19, 20, 21, 22, 23, 24, 25, 26, 27, 28, 29, 30, 31, 32, 33, 34, 35, 36, 37, 38, 39] (by decide +kernel) (by decide +kernel)
set_option maxRecDepth 20000 in
theorem gX7_likely_X7_layOdds : GoodIn wsX7_likely (wsV RX7 133 RX7 yX7_layOdds wsX7_layOdds) := goodIn_app (goodIn_of _ (by decide +kernel)) ggX7_likely_X7_layOdds
theorem dX7_likely_0 : decode cX7_likely 0 = .ok (.iload_n 1, 1) := by decide +kernel
theorem dX7_likely_1 : decode cX7_likely 1 = .ok (.iconst 0, 1) := by decide +kernel
theorem dX7_likely_2 : decode cX7_likely 2 = .ok (.bipush 9, 2) := by decide +kernel
theorem dX7_likely_4 : decode cX7_likely 4 = .ok (.invokestatic 41, 3) := by decide +kernel
theorem dX7_likely_7 : decode cX7_likely 7 = .ok (.ifCond .ne 5, 3) := by decide +kernel
theorem dX7_likely_10 : decode cX7_likely 10 = .ok (.iconst (-1), 1) := by decide +kernel
theorem dX7_likely_11 : decode cX7_likely 11 = .ok (.ireturn, 1) := by decide +kernel
theorem dX7_likely_12 : decode cX7_likely 12 = .ok (.aload_n 0, 1) := by decide +kernel
theorem dX7_likely_13 : decode cX7_likely 13 = .ok (.aload_n 0, 1) := by decide +kernel
theorem dX7_likely_14 : decode cX7_likely 14 = .ok (.getfield 23, 3) := by decide +kernel
theorem dX7_likely_17 : decode cX7_likely 17 = .ok (.aload_n 0, 1) := by decide +kernel
theorem dX7_likely_18 : decode cX7_likely 18 = .ok (.getfield 23, 3) := by decide +kernel
theorem dX7_likely_21 : decode cX7_likely 21 = .ok (.iconst 2, 1) := by decide +kernel
theorem dX7_likely_22 : decode cX7_likely 22 = .ok (.iaload, 1) := by decide +kernel
theorem dX7_likely_23 : decode cX7_likely 23 = .ok (.iload_n 1, 1) := by decide +kernel
theorem dX7_likely_24 : decode cX7_likely 24 = .ok (.iconst 0, 1) := by decide +kernel
theorem dX7_likely_25 : decode cX7_likely 25 = .ok (.invokevirtual 133, 3) := by decide +kernel
theorem dX7_likely_28 : decode cX7_likely 28 = .ok (.iconst 0, 1) := by decide +kernel
theorem dX7_likely_29 : decode cX7_likely 29 = .ok (.istore_n 2, 1) := by decide +kernel
theorem dX7_likely_30 : decode cX7_likely 30 = .ok (.iconst 1, 1) := by decide +kernel
theorem dX7_likely_31 : decode cX7_likely 31 = .ok (.istore_n 3, 1) := by decide +kernel
theorem dX7_likely_32 : decode cX7_likely 32 = .ok (.iload_n 3, 1) := by decide +kernel
theorem dX7_likely_33 : decode cX7_likely 33 = .ok (.bipush 7, 2) := by decide +kernel
theorem dX7_likely_35 : decode cX7_likely 35 = .ok (.if_icmp .ge 31, 3) := by decide +kernel
theorem dX7_likely_38 : decode cX7_likely 38 = .ok (.aload_n 0, 1) := by decide +kernel
theorem dX7_likely_39 : decode cX7_likely 39 = .ok (.getfield 35, 3) := by decide +kernel
theorem dX7_likely_42 : decode cX7_likely 42 = .ok (.iload_n 3, 1) := by decide +kernel
theorem dX7_likely_43 : decode cX7_likely 43 = .ok (.laload, 1) := by decide +kernel
theorem dX7_likely_44 : decode cX7_likely 44 = .ok (.aload_n 0, 1) := by decide +kernel
theorem dX7_likely_45 : decode cX7_likely 45 = .ok (.getfield 35, 3) := by decide +kernel
theorem dX7_likely_48 : decode cX7_likely 48 = .ok (.iload_n 2, 1) := by decide +kernel
theorem dX7_likely_49 : decode cX7_likely 49 = .ok (.laload, 1) := by decide +kernel
theorem dX7_likely_50 : decode cX7_likely 50 = .ok (.lcmp, 1) := by decide +kernel
theorem dX7_likely_51 : decode cX7_likely 51 = .ok (.ifCond .le 7, 3) := by decide +kernel
theorem dX7_likely_54 : decode cX7_likely 54 = .ok (.iload_n 3, 1) := by decide +kernel
theorem dX7_likely_55 : decode cX7_likely 55 = .ok (.goto 4, 3) := by decide +kernel
theorem dX7_likely_58 : decode cX7_likely 58 = .ok (.iload_n 2, 1) := by decide +kernel
theorem dX7_likely_59 : decode cX7_likely 59 = .ok (.istore_n 2, 1) := by decide +kernel
theorem dX7_likely_60 : decode cX7_likely 60 = .ok (.iinc 3 1, 3) := by decide +kernel
theorem dX7_likely_63 : decode cX7_likely 63 = .ok (.goto (-31), 3) := by decide +kernel
theorem dX7_likely_66 : decode cX7_likely 66 = .ok (.iload_n 2, 1) := by decide +kernel
theorem dX7_likely_67 : decode cX7_likely 67 = .ok (.ireturn, 1) := by decide +kernel
set_option maxRecDepth 20000 in
theorem ggX7_layMean_X7_backOf : GoodIn wsX7_layMean wsX7_backOf := goodIn_r _ [7, 8, 9, 6, 10] (by decide +kernel) (by decide +kernel)
set_option maxRecDepth 20000 in
theorem gX7_layMean_X7_backOf : GoodIn wsX7_layMean (va_wsS RX7 57 yX7_backOf wsX7_backOf) := goodIn_app (goodIn_of _ (by decide +kernel)) ggX7_layMean_X7_backOf
set_option maxRecDepth 20000 in
theorem ggX7_layMean_X7_onOf : GoodIn wsX7_layMean wsX7_onOf := goodIn_r _ [10] (by decide +kernel) (by decide +kernel)
set_option maxRecDepth 20000 in
theorem gX7_layMean_X7_onOf : GoodIn wsX7_layMean (va_wsS RX7 53 yX7_onOf wsX7_onOf) := goodIn_app (goodIn_of _ (by decide +kernel)) ggX7_layMean_X7_onOf
set_option maxRecDepth 20000 in
theorem ggX7_layMean_X7_part : GoodIn wsX7_layMean wsX7_part := goodIn_r _ [13] (by decide +kernel) (by decide +kernel)
set_option maxRecDepth 20000 in
theorem gX7_layMean_X7_part : GoodIn wsX7_layMean (va_wsS RX7 137 yX7_part wsX7_part) := goodIn_app (goodIn_of _ (by decide +kernel)) ggX7_layMean_X7_part
theorem dX7_layMean_0 : decode cX7_layMean 0 = .ok (.lconst 0, 1) := by decide +kernel
theorem dX7_layMean_1 : decode cX7_layMean 1 = .ok (.lstore_n 3, 1) := by decide +kernel
theorem dX7_layMean_2 : decode cX7_layMean 2 = .ok (.lconst 1, 1) := by decide +kernel
theorem dX7_layMean_3 : decode cX7_layMean 3 = .ok (.lstore 5, 2) := by decide +kernel
theorem dX7_layMean_5 : decode cX7_layMean 5 = .ok (.aload_n 0, 1) := by decide +kernel
theorem dX7_layMean_6 : decode cX7_layMean 6 = .ok (.lconst 0, 1) := by decide +kernel
theorem dX7_layMean_7 : decode cX7_layMean 7 = .ok (.putfield 141, 3) := by decide +kernel
theorem dX7_layMean_10 : decode cX7_layMean 10 = .ok (.aload_n 0, 1) := by decide +kernel
theorem dX7_layMean_11 : decode cX7_layMean 11 = .ok (.lconst 1, 1) := by decide +kernel
theorem dX7_layMean_12 : decode cX7_layMean 12 = .ok (.putfield 144, 3) := by decide +kernel
theorem dX7_layMean_15 : decode cX7_layMean 15 = .ok (.iconst 0, 1) := by decide +kernel
theorem dX7_layMean_16 : decode cX7_layMean 16 = .ok (.istore 7, 2) := by decide +kernel
theorem dX7_layMean_18 : decode cX7_layMean 18 = .ok (.iload 7, 2) := by decide +kernel
theorem dX7_layMean_20 : decode cX7_layMean 20 = .ok (.iload_n 2, 1) := by decide +kernel
theorem dX7_layMean_21 : decode cX7_layMean 21 = .ok (.if_icmp .ge 115, 3) := by decide +kernel
theorem dX7_layMean_24 : decode cX7_layMean 24 = .ok (.ldc2_w 125, 3) := by decide +kernel
theorem dX7_layMean_27 : decode cX7_layMean 27 = .ok (.lload 5, 2) := by decide +kernel
theorem dX7_layMean_29 : decode cX7_layMean 29 = .ok (.lmul, 1) := by decide +kernel
theorem dX7_layMean_30 : decode cX7_layMean 30 = .ok (.aload_n 1, 1) := by decide +kernel
theorem dX7_layMean_31 : decode cX7_layMean 31 = .ok (.iload 7, 2) := by decide +kernel
theorem dX7_layMean_33 : decode cX7_layMean 33 = .ok (.invokestatic 57, 3) := by decide +kernel
theorem dX7_layMean_36 : decode cX7_layMean 36 = .ok (.i2l, 1) := by decide +kernel
theorem dX7_layMean_37 : decode cX7_layMean 37 = .ok (.lload_n 3, 1) := by decide +kernel
theorem dX7_layMean_38 : decode cX7_layMean 38 = .ok (.lmul, 1) := by decide +kernel
theorem dX7_layMean_39 : decode cX7_layMean 39 = .ok (.ladd, 1) := by decide +kernel
theorem dX7_layMean_40 : decode cX7_layMean 40 = .ok (.lstore 8, 2) := by decide +kernel
theorem dX7_layMean_42 : decode cX7_layMean 42 = .ok (.lload 5, 2) := by decide +kernel
theorem dX7_layMean_44 : decode cX7_layMean 44 = .ok (.aload_n 1, 1) := by decide +kernel
theorem dX7_layMean_45 : decode cX7_layMean 45 = .ok (.iload 7, 2) := by decide +kernel
theorem dX7_layMean_47 : decode cX7_layMean 47 = .ok (.invokestatic 53, 3) := by decide +kernel
theorem dX7_layMean_50 : decode cX7_layMean 50 = .ok (.i2l, 1) := by decide +kernel
theorem dX7_layMean_51 : decode cX7_layMean 51 = .ok (.lmul, 1) := by decide +kernel
theorem dX7_layMean_52 : decode cX7_layMean 52 = .ok (.lstore 10, 2) := by decide +kernel
theorem dX7_layMean_54 : decode cX7_layMean 54 = .ok (.lload 8, 2) := by decide +kernel
theorem dX7_layMean_56 : decode cX7_layMean 56 = .ok (.lload 10, 2) := by decide +kernel
theorem dX7_layMean_58 : decode cX7_layMean 58 = .ok (.iconst 0, 1) := by decide +kernel
theorem dX7_layMean_59 : decode cX7_layMean 59 = .ok (.invokestatic 137, 3) := by decide +kernel
theorem dX7_layMean_62 : decode cX7_layMean 62 = .ok (.lstore_n 3, 1) := by decide +kernel
theorem dX7_layMean_63 : decode cX7_layMean 63 = .ok (.lload 8, 2) := by decide +kernel
theorem dX7_layMean_65 : decode cX7_layMean 65 = .ok (.lload 10, 2) := by decide +kernel
theorem dX7_layMean_67 : decode cX7_layMean 67 = .ok (.iconst 1, 1) := by decide +kernel
theorem dX7_layMean_68 : decode cX7_layMean 68 = .ok (.invokestatic 137, 3) := by decide +kernel
theorem dX7_layMean_71 : decode cX7_layMean 71 = .ok (.lstore 5, 2) := by decide +kernel
theorem dX7_layMean_73 : decode cX7_layMean 73 = .ok (.iload 7, 2) := by decide +kernel
theorem dX7_layMean_75 : decode cX7_layMean 75 = .ok (.aload_n 1, 1) := by decide +kernel
theorem dX7_layMean_76 : decode cX7_layMean 76 = .ok (.iconst 2, 1) := by decide +kernel
theorem dX7_layMean_77 : decode cX7_layMean 77 = .ok (.iaload, 1) := by decide +kernel
theorem dX7_layMean_78 : decode cX7_layMean 78 = .ok (.if_icmp .lt 52, 3) := by decide +kernel
theorem dX7_layMean_81 : decode cX7_layMean 81 = .ok (.aload_n 0, 1) := by decide +kernel
theorem dX7_layMean_82 : decode cX7_layMean 82 = .ok (.getfield 141, 3) := by decide +kernel
theorem dX7_layMean_85 : decode cX7_layMean 85 = .ok (.lload 5, 2) := by decide +kernel
theorem dX7_layMean_87 : decode cX7_layMean 87 = .ok (.lmul, 1) := by decide +kernel
theorem dX7_layMean_88 : decode cX7_layMean 88 = .ok (.lload_n 3, 1) := by decide +kernel
theorem dX7_layMean_89 : decode cX7_layMean 89 = .ok (.aload_n 0, 1) := by decide +kernel
theorem dX7_layMean_90 : decode cX7_layMean 90 = .ok (.getfield 144, 3) := by decide +kernel
theorem dX7_layMean_93 : decode cX7_layMean 93 = .ok (.lmul, 1) := by decide +kernel
theorem dX7_layMean_94 : decode cX7_layMean 94 = .ok (.ladd, 1) := by decide +kernel
theorem dX7_layMean_95 : decode cX7_layMean 95 = .ok (.lstore 12, 2) := by decide +kernel
theorem dX7_layMean_97 : decode cX7_layMean 97 = .ok (.aload_n 0, 1) := by decide +kernel
theorem dX7_layMean_98 : decode cX7_layMean 98 = .ok (.getfield 144, 3) := by decide +kernel
theorem dX7_layMean_101 : decode cX7_layMean 101 = .ok (.lload 5, 2) := by decide +kernel
theorem dX7_layMean_103 : decode cX7_layMean 103 = .ok (.lmul, 1) := by decide +kernel
theorem dX7_layMean_104 : decode cX7_layMean 104 = .ok (.lstore 14, 2) := by decide +kernel
theorem dX7_layMean_106 : decode cX7_layMean 106 = .ok (.aload_n 0, 1) := by decide +kernel
theorem dX7_layMean_107 : decode cX7_layMean 107 = .ok (.lload 12, 2) := by decide +kernel
theorem dX7_layMean_109 : decode cX7_layMean 109 = .ok (.lload 14, 2) := by decide +kernel
theorem dX7_layMean_111 : decode cX7_layMean 111 = .ok (.iconst 0, 1) := by decide +kernel
theorem dX7_layMean_112 : decode cX7_layMean 112 = .ok (.invokestatic 137, 3) := by decide +kernel
theorem dX7_layMean_115 : decode cX7_layMean 115 = .ok (.putfield 141, 3) := by decide +kernel
theorem dX7_layMean_118 : decode cX7_layMean 118 = .ok (.aload_n 0, 1) := by decide +kernel
theorem dX7_layMean_119 : decode cX7_layMean 119 = .ok (.lload 12, 2) := by decide +kernel
theorem dX7_layMean_121 : decode cX7_layMean 121 = .ok (.lload 14, 2) := by decide +kernel
theorem dX7_layMean_123 : decode cX7_layMean 123 = .ok (.iconst 1, 1) := by decide +kernel
theorem dX7_layMean_124 : decode cX7_layMean 124 = .ok (.invokestatic 137, 3) := by decide +kernel
theorem dX7_layMean_127 : decode cX7_layMean 127 = .ok (.putfield 144, 3) := by decide +kernel
theorem dX7_layMean_130 : decode cX7_layMean 130 = .ok (.iinc 7 1, 3) := by decide +kernel
theorem dX7_layMean_133 : decode cX7_layMean 133 = .ok (.goto (-115), 3) := by decide +kernel
theorem dX7_layMean_136 : decode cX7_layMean 136 = .ok (.return_, 1) := by decide +kernel
set_option maxRecDepth 20000 in
theorem ggX7_mean_X7_in : GoodIn wsX7_mean wsX7_in := goodIn_r _ [8] (by decide +kernel) (by decide +kernel)
set_option maxRecDepth 20000 in
theorem gX7_mean_X7_in : GoodIn wsX7_mean (va_wsS RX7 41 yX7_in wsX7_in) := goodIn_app (goodIn_of _ (by decide +kernel)) ggX7_mean_X7_in
set_option maxRecDepth 20000 in
theorem ggX7_mean_X7_layMean : GoodIn wsX7_mean wsX7_layMean := goodIn_r _ [12, 3, 4, 13, 14, 15, 7, 16, 17, 18, 19, 20, 21, 22, 23, 24, 25, 26, 27, 28, 29, 30, 31, 32, 33, 34, 35, 36, 37, 38, 39, 40, 41] (by decide +kernel) (by decide +kernel)
set_option maxRecDepth 20000 in
theorem gX7_mean_X7_layMean : GoodIn wsX7_mean (wsV RX7 149 RX7 yX7_layMean wsX7_layMean) := goodIn_app (goodIn_of _ (by decide +kernel)) ggX7_mean_X7_layMean
theorem dX7_mean_0 : decode cX7_mean 0 = .ok (.iload_n 1, 1) := by decide +kernel
theorem dX7_mean_1 : decode cX7_mean 1 = .ok (.aload_n 0, 1) := by decide +kernel
theorem dX7_mean_2 : decode cX7_mean 2 = .ok (.getfield 23, 3) := by decide +kernel
theorem dX7_mean_5 : decode cX7_mean 5 = .ok (.iconst 2, 1) := by decide +kernel
theorem dX7_mean_6 : decode cX7_mean 6 = .ok (.iaload, 1) := by decide +kernel
theorem dX7_mean_7 : decode cX7_mean 7 = .ok (.bipush 6, 2) := by decide +kernel
theorem dX7_mean_9 : decode cX7_mean 9 = .ok (.invokestatic 41, 3) := by decide +kernel
theorem dX7_mean_12 : decode cX7_mean 12 = .ok (.ifCond .eq 12, 3) := by decide +kernel
theorem dX7_mean_15 : decode cX7_mean 15 = .ok (.iload_n 2, 1) := by decide +kernel
theorem dX7_mean_16 : decode cX7_mean 16 = .ok (.iconst 0, 1) := by decide +kernel
theorem dX7_mean_17 : decode cX7_mean 17 = .ok (.iconst 1, 1) := by decide +kernel
theorem dX7_mean_18 : decode cX7_mean 18 = .ok (.invokestatic 41, 3) := by decide +kernel
theorem dX7_mean_21 : decode cX7_mean 21 = .ok (.ifCond .ne 7, 3) := by decide +kernel
theorem dX7_mean_24 : decode cX7_mean 24 = .ok (.ldc2_w 147, 3) := by decide +kernel
theorem dX7_mean_27 : decode cX7_mean 27 = .ok (.lreturn, 1) := by decide +kernel
theorem dX7_mean_28 : decode cX7_mean 28 = .ok (.aload_n 0, 1) := by decide +kernel
theorem dX7_mean_29 : decode cX7_mean 29 = .ok (.aload_n 0, 1) := by decide +kernel
theorem dX7_mean_30 : decode cX7_mean 30 = .ok (.getfield 23, 3) := by decide +kernel
theorem dX7_mean_33 : decode cX7_mean 33 = .ok (.iload_n 1, 1) := by decide +kernel
theorem dX7_mean_34 : decode cX7_mean 34 = .ok (.invokevirtual 149, 3) := by decide +kernel
theorem dX7_mean_37 : decode cX7_mean 37 = .ok (.iload_n 2, 1) := by decide +kernel
theorem dX7_mean_38 : decode cX7_mean 38 = .ok (.ifCond .ne 10, 3) := by decide +kernel
theorem dX7_mean_41 : decode cX7_mean 41 = .ok (.aload_n 0, 1) := by decide +kernel
theorem dX7_mean_42 : decode cX7_mean 42 = .ok (.getfield 141, 3) := by decide +kernel
theorem dX7_mean_45 : decode cX7_mean 45 = .ok (.goto 7, 3) := by decide +kernel
theorem dX7_mean_48 : decode cX7_mean 48 = .ok (.aload_n 0, 1) := by decide +kernel
theorem dX7_mean_49 : decode cX7_mean 49 = .ok (.getfield 144, 3) := by decide +kernel
theorem dX7_mean_52 : decode cX7_mean 52 = .ok (.lreturn, 1) := by decide +kernel
theorem dX7_oddsOf_0 : decode cX7_oddsOf 0 = .ok (.lconst 0, 1) := by decide +kernel
theorem dX7_oddsOf_1 : decode cX7_oddsOf 1 = .ok (.lstore_n 2, 1) := by decide +kernel
theorem dX7_oddsOf_2 : decode cX7_oddsOf 2 = .ok (.aload_n 0, 1) := by decide +kernel
theorem dX7_oddsOf_3 : decode cX7_oddsOf 3 = .ok (.getfield 23, 3) := by decide +kernel
theorem dX7_oddsOf_6 : decode cX7_oddsOf 6 = .ok (.bipush 25, 2) := by decide +kernel
theorem dX7_oddsOf_8 : decode cX7_oddsOf 8 = .ok (.iload_n 1, 1) := by decide +kernel
theorem dX7_oddsOf_9 : decode cX7_oddsOf 9 = .ok (.iadd, 1) := by decide +kernel
theorem dX7_oddsOf_10 : decode cX7_oddsOf 10 = .ok (.iaload, 1) := by decide +kernel
theorem dX7_oddsOf_11 : decode cX7_oddsOf 11 = .ok (.istore 4, 2) := by decide +kernel
theorem dX7_oddsOf_13 : decode cX7_oddsOf 13 = .ok (.iload 4, 2) := by decide +kernel
theorem dX7_oddsOf_15 : decode cX7_oddsOf 15 = .ok (.aload_n 0, 1) := by decide +kernel
theorem dX7_oddsOf_16 : decode cX7_oddsOf 16 = .ok (.getfield 23, 3) := by decide +kernel
theorem dX7_oddsOf_19 : decode cX7_oddsOf 19 = .ok (.bipush 30, 2) := by decide +kernel
theorem dX7_oddsOf_21 : decode cX7_oddsOf 21 = .ok (.iload_n 1, 1) := by decide +kernel
theorem dX7_oddsOf_22 : decode cX7_oddsOf 22 = .ok (.iadd, 1) := by decide +kernel
theorem dX7_oddsOf_23 : decode cX7_oddsOf 23 = .ok (.iaload, 1) := by decide +kernel
theorem dX7_oddsOf_24 : decode cX7_oddsOf 24 = .ok (.if_icmp .gt 19, 3) := by decide +kernel
theorem dX7_oddsOf_27 : decode cX7_oddsOf 27 = .ok (.lload_n 2, 1) := by decide +kernel
theorem dX7_oddsOf_28 : decode cX7_oddsOf 28 = .ok (.aload_n 0, 1) := by decide +kernel
theorem dX7_oddsOf_29 : decode cX7_oddsOf 29 = .ok (.getfield 35, 3) := by decide +kernel
theorem dX7_oddsOf_32 : decode cX7_oddsOf 32 = .ok (.iload 4, 2) := by decide +kernel
theorem dX7_oddsOf_34 : decode cX7_oddsOf 34 = .ok (.laload, 1) := by decide +kernel
theorem dX7_oddsOf_35 : decode cX7_oddsOf 35 = .ok (.ladd, 1) := by decide +kernel
theorem dX7_oddsOf_36 : decode cX7_oddsOf 36 = .ok (.lstore_n 2, 1) := by decide +kernel
theorem dX7_oddsOf_37 : decode cX7_oddsOf 37 = .ok (.iinc 4 1, 3) := by decide +kernel
theorem dX7_oddsOf_40 : decode cX7_oddsOf 40 = .ok (.goto (-27), 3) := by decide +kernel
theorem dX7_oddsOf_43 : decode cX7_oddsOf 43 = .ok (.lload_n 2, 1) := by decide +kernel
theorem dX7_oddsOf_44 : decode cX7_oddsOf 44 = .ok (.lreturn, 1) := by decide +kernel
set_option maxRecDepth 20000 in
theorem ggX7_right_X7_isClaim : GoodIn wsX7_right wsX7_isClaim := goodIn_r _ [7, 1, 8, 9, 6, 10, 32, 33, 34, 35, 36, 37, 38, 39, 40, 41, 42, 43, 44, 45, 46, 47, 48, 49, 50] (by decide +kernel) (by decide +kernel)
set_option maxRecDepth 20000 in
theorem gX7_right_X7_isClaim : GoodIn wsX7_right (wsV RX7 60 RX7 yX7_isClaim wsX7_isClaim) := goodIn_app (goodIn_of _ (by decide +kernel)) ggX7_right_X7_isClaim
set_option maxRecDepth 20000 in
theorem ggX7_right_X7_in : GoodIn wsX7_right wsX7_in := goodIn_r _ [10] (by decide +kernel) (by decide +kernel)
set_option maxRecDepth 20000 in
theorem gX7_right_X7_in : GoodIn wsX7_right (va_wsS RX7 41 yX7_in wsX7_in) := goodIn_app (goodIn_of _ (by decide +kernel)) ggX7_right_X7_in
set_option maxRecDepth 20000 in
theorem ggX7_right_X7_layOdds : GoodIn wsX7_right wsX7_layOdds := goodIn_r _ [14, 15, 16, 17, 2, 18, 19, 20, 6, 21, 22, 23, 24, 32, 33, 34, 35, 36, 37, 38, 39, 40, 41, 42, 43, 44, 45, 46, 47, 48, 49, 50] (by decide +kernel) (by decide +kernel)
set_option maxRecDepth 20000 in
theorem gX7_right_X7_layOdds : GoodIn wsX7_right (wsV RX7 133 RX7 yX7_layOdds wsX7_layOdds) := goodIn_app (goodIn_of _ (by decide +kernel)) ggX7_right_X7_layOdds
set_option maxRecDepth 20000 in
theorem ggX7_right_X7_oddsOf : GoodIn wsX7_right wsX7_oddsOf := goodIn_r _ [28, 1, 15, 32, 33, 34, 35, 36, 37, 38, 39, 40, 41, 42, 43, 44, 45, 46, 47, 48, 49, 50] (by decide +kernel) (by decide +kernel)
set_option maxRecDepth 20000 in
theorem gX7_right_X7_oddsOf : GoodIn wsX7_right (wsV RX7 153 RX7 yX7_oddsOf wsX7_oddsOf) := goodIn_app (goodIn_of _ (by decide +kernel)) ggX7_right_X7_oddsOf
set_option maxRecDepth 20000 in
theorem ggX7_right_X7_part : GoodIn wsX7_right wsX7_part := goodIn_r _ [31] (by decide +kernel) (by decide +kernel)
set_option maxRecDepth 20000 in
theorem gX7_right_X7_part : GoodIn wsX7_right (va_wsS RX7 137 yX7_part wsX7_part) := goodIn_app (goodIn_of _ (by decide +kernel)) ggX7_right_X7_part
theorem dX7_right_0 : decode cX7_right 0 = .ok (.aload_n 0, 1) := by decide +kernel
theorem dX7_right_1 : decode cX7_right 1 = .ok (.iload_n 1, 1) := by decide +kernel
theorem dX7_right_2 : decode cX7_right 2 = .ok (.invokevirtual 60, 3) := by decide +kernel
theorem dX7_right_5 : decode cX7_right 5 = .ok (.ifCond .eq 22, 3) := by decide +kernel
theorem dX7_right_8 : decode cX7_right 8 = .ok (.iload_n 2, 1) := by decide +kernel
theorem dX7_right_9 : decode cX7_right 9 = .ok (.iconst 0, 1) := by decide +kernel
theorem dX7_right_10 : decode cX7_right 10 = .ok (.bipush 9, 2) := by decide +kernel
theorem dX7_right_12 : decode cX7_right 12 = .ok (.invokestatic 41, 3) := by decide +kernel
theorem dX7_right_15 : decode cX7_right 15 = .ok (.ifCond .eq 12, 3) := by decide +kernel
theorem dX7_right_18 : decode cX7_right 18 = .ok (.iload_n 3, 1) := by decide +kernel
theorem dX7_right_19 : decode cX7_right 19 = .ok (.iconst 0, 1) := by decide +kernel
theorem dX7_right_20 : decode cX7_right 20 = .ok (.iconst 2, 1) := by decide +kernel
theorem dX7_right_21 : decode cX7_right 21 = .ok (.invokestatic 41, 3) := by decide +kernel
theorem dX7_right_24 : decode cX7_right 24 = .ok (.ifCond .ne 5, 3) := by decide +kernel
theorem dX7_right_27 : decode cX7_right 27 = .ok (.iconst (-1), 1) := by decide +kernel
theorem dX7_right_28 : decode cX7_right 28 = .ok (.ireturn, 1) := by decide +kernel
theorem dX7_right_29 : decode cX7_right 29 = .ok (.aload_n 0, 1) := by decide +kernel
theorem dX7_right_30 : decode cX7_right 30 = .ok (.aload_n 0, 1) := by decide +kernel
theorem dX7_right_31 : decode cX7_right 31 = .ok (.getfield 23, 3) := by decide +kernel
theorem dX7_right_34 : decode cX7_right 34 = .ok (.aload_n 0, 1) := by decide +kernel
theorem dX7_right_35 : decode cX7_right 35 = .ok (.getfield 23, 3) := by decide +kernel
theorem dX7_right_38 : decode cX7_right 38 = .ok (.iconst 2, 1) := by decide +kernel
theorem dX7_right_39 : decode cX7_right 39 = .ok (.iaload, 1) := by decide +kernel
theorem dX7_right_40 : decode cX7_right 40 = .ok (.iload_n 2, 1) := by decide +kernel
theorem dX7_right_41 : decode cX7_right 41 = .ok (.iconst 0, 1) := by decide +kernel
theorem dX7_right_42 : decode cX7_right 42 = .ok (.invokevirtual 133, 3) := by decide +kernel
theorem dX7_right_45 : decode cX7_right 45 = .ok (.aload_n 0, 1) := by decide +kernel
theorem dX7_right_46 : decode cX7_right 46 = .ok (.iload_n 1, 1) := by decide +kernel
theorem dX7_right_47 : decode cX7_right 47 = .ok (.invokevirtual 153, 3) := by decide +kernel
theorem dX7_right_50 : decode cX7_right 50 = .ok (.lstore 4, 2) := by decide +kernel
theorem dX7_right_52 : decode cX7_right 52 = .ok (.iload_n 3, 1) := by decide +kernel
theorem dX7_right_53 : decode cX7_right 53 = .ok (.iconst 2, 1) := by decide +kernel
theorem dX7_right_54 : decode cX7_right 54 = .ok (.if_icmp .ne 24, 3) := by decide +kernel
theorem dX7_right_57 : decode cX7_right 57 = .ok (.aload_n 0, 1) := by decide +kernel
theorem dX7_right_58 : decode cX7_right 58 = .ok (.getfield 23, 3) := by decide +kernel
theorem dX7_right_61 : decode cX7_right 61 = .ok (.bipush 35, 2) := by decide +kernel
theorem dX7_right_63 : decode cX7_right 63 = .ok (.iload_n 1, 1) := by decide +kernel
theorem dX7_right_64 : decode cX7_right 64 = .ok (.iadd, 1) := by decide +kernel
theorem dX7_right_65 : decode cX7_right 65 = .ok (.iaload, 1) := by decide +kernel
theorem dX7_right_66 : decode cX7_right 66 = .ok (.i2l, 1) := by decide +kernel
theorem dX7_right_67 : decode cX7_right 67 = .ok (.lload 4, 2) := by decide +kernel
theorem dX7_right_69 : decode cX7_right 69 = .ok (.lmul, 1) := by decide +kernel
theorem dX7_right_70 : decode cX7_right 70 = .ok (.aload_n 0, 1) := by decide +kernel
theorem dX7_right_71 : decode cX7_right 71 = .ok (.getfield 129, 3) := by decide +kernel
theorem dX7_right_74 : decode cX7_right 74 = .ok (.ldiv, 1) := by decide +kernel
theorem dX7_right_75 : decode cX7_right 75 = .ok (.goto 13, 3) := by decide +kernel
theorem dX7_right_78 : decode cX7_right 78 = .ok (.lload 4, 2) := by decide +kernel
theorem dX7_right_80 : decode cX7_right 80 = .ok (.aload_n 0, 1) := by decide +kernel
theorem dX7_right_81 : decode cX7_right 81 = .ok (.getfield 129, 3) := by decide +kernel
theorem dX7_right_84 : decode cX7_right 84 = .ok (.iload_n 3, 1) := by decide +kernel
theorem dX7_right_85 : decode cX7_right 85 = .ok (.invokestatic 137, 3) := by decide +kernel
theorem dX7_right_88 : decode cX7_right 88 = .ok (.l2i, 1) := by decide +kernel
theorem dX7_right_89 : decode cX7_right 89 = .ok (.ireturn, 1) := by decide +kernel
set_option maxRecDepth 20000 in
theorem ggX7_sure_X7_in : GoodIn wsX7_sure wsX7_in := goodIn_r _ [6] (by decide +kernel) (by decide +kernel)
set_option maxRecDepth 20000 in
theorem gX7_sure_X7_in : GoodIn wsX7_sure (va_wsS RX7 41 yX7_in wsX7_in) := goodIn_app (goodIn_of _ (by decide +kernel)) ggX7_sure_X7_in
set_option maxRecDepth 20000 in
theorem ggX7_sure_X7_layOdds : GoodIn wsX7_sure wsX7_layOdds := goodIn_r _ [10, 2, 11, 12, 13, 14, 15, 16, 5, 17, 18, 19, 20, 21, 22, 23, 24, 25, 26, 27, 28, 29, 30, 31, 32, 33, 34, 35, 36, 37, 38, 39] (by decide +kernel) (by decide +kernel)
set_option maxRecDepth 20000 in
theorem gX7_sure_X7_layOdds : GoodIn wsX7_sure (wsV RX7 133 RX7 yX7_layOdds wsX7_layOdds) := goodIn_app (goodIn_of _ (by decide +kernel)) ggX7_sure_X7_layOdds
theorem dX7_sure_0 : decode cX7_sure 0 = .ok (.iload_n 1, 1) := by decide +kernel
theorem dX7_sure_1 : decode cX7_sure 1 = .ok (.iconst 0, 1) := by decide +kernel
theorem dX7_sure_2 : decode cX7_sure 2 = .ok (.bipush 9, 2) := by decide +kernel
theorem dX7_sure_4 : decode cX7_sure 4 = .ok (.invokestatic 41, 3) := by decide +kernel
theorem dX7_sure_7 : decode cX7_sure 7 = .ok (.ifCond .ne 5, 3) := by decide +kernel
theorem dX7_sure_10 : decode cX7_sure 10 = .ok (.iconst (-1), 1) := by decide +kernel
theorem dX7_sure_11 : decode cX7_sure 11 = .ok (.ireturn, 1) := by decide +kernel
theorem dX7_sure_12 : decode cX7_sure 12 = .ok (.aload_n 0, 1) := by decide +kernel
theorem dX7_sure_13 : decode cX7_sure 13 = .ok (.aload_n 0, 1) := by decide +kernel
theorem dX7_sure_14 : decode cX7_sure 14 = .ok (.getfield 23, 3) := by decide +kernel
theorem dX7_sure_17 : decode cX7_sure 17 = .ok (.aload_n 0, 1) := by decide +kernel
theorem dX7_sure_18 : decode cX7_sure 18 = .ok (.getfield 23, 3) := by decide +kernel
theorem dX7_sure_21 : decode cX7_sure 21 = .ok (.iconst 2, 1) := by decide +kernel
theorem dX7_sure_22 : decode cX7_sure 22 = .ok (.iaload, 1) := by decide +kernel
theorem dX7_sure_23 : decode cX7_sure 23 = .ok (.iload_n 1, 1) := by decide +kernel
theorem dX7_sure_24 : decode cX7_sure 24 = .ok (.iconst 0, 1) := by decide +kernel
theorem dX7_sure_25 : decode cX7_sure 25 = .ok (.invokevirtual 133, 3) := by decide +kernel
theorem dX7_sure_28 : decode cX7_sure 28 = .ok (.iconst 0, 1) := by decide +kernel
theorem dX7_sure_29 : decode cX7_sure 29 = .ok (.istore_n 2, 1) := by decide +kernel
theorem dX7_sure_30 : decode cX7_sure 30 = .ok (.iconst 0, 1) := by decide +kernel
theorem dX7_sure_31 : decode cX7_sure 31 = .ok (.istore_n 3, 1) := by decide +kernel
theorem dX7_sure_32 : decode cX7_sure 32 = .ok (.iload_n 3, 1) := by decide +kernel
theorem dX7_sure_33 : decode cX7_sure 33 = .ok (.bipush 7, 2) := by decide +kernel
theorem dX7_sure_35 : decode cX7_sure 35 = .ok (.if_icmp .ge 30, 3) := by decide +kernel
theorem dX7_sure_38 : decode cX7_sure 38 = .ok (.iload_n 2, 1) := by decide +kernel
theorem dX7_sure_39 : decode cX7_sure 39 = .ok (.aload_n 0, 1) := by decide +kernel
theorem dX7_sure_40 : decode cX7_sure 40 = .ok (.getfield 35, 3) := by decide +kernel
theorem dX7_sure_43 : decode cX7_sure 43 = .ok (.iload_n 3, 1) := by decide +kernel
theorem dX7_sure_44 : decode cX7_sure 44 = .ok (.laload, 1) := by decide +kernel
theorem dX7_sure_45 : decode cX7_sure 45 = .ok (.lconst 0, 1) := by decide +kernel
theorem dX7_sure_46 : decode cX7_sure 46 = .ok (.lcmp, 1) := by decide +kernel
theorem dX7_sure_47 : decode cX7_sure 47 = .ok (.ifCond .le 9, 3) := by decide +kernel
theorem dX7_sure_50 : decode cX7_sure 50 = .ok (.iconst 1, 1) := by decide +kernel
theorem dX7_sure_51 : decode cX7_sure 51 = .ok (.iload_n 3, 1) := by decide +kernel
theorem dX7_sure_52 : decode cX7_sure 52 = .ok (.ishl, 1) := by decide +kernel
theorem dX7_sure_53 : decode cX7_sure 53 = .ok (.goto 4, 3) := by decide +kernel
theorem dX7_sure_56 : decode cX7_sure 56 = .ok (.iconst 0, 1) := by decide +kernel
theorem dX7_sure_57 : decode cX7_sure 57 = .ok (.ior, 1) := by decide +kernel
theorem dX7_sure_58 : decode cX7_sure 58 = .ok (.istore_n 2, 1) := by decide +kernel
theorem dX7_sure_59 : decode cX7_sure 59 = .ok (.iinc 3 1, 3) := by decide +kernel
theorem dX7_sure_62 : decode cX7_sure 62 = .ok (.goto (-30), 3) := by decide +kernel
theorem dX7_sure_65 : decode cX7_sure 65 = .ok (.iload_n 2, 1) := by decide +kernel
theorem dX7_sure_66 : decode cX7_sure 66 = .ok (.ireturn, 1) := by decide +kernel
set_option maxRecDepth 20000 in
theorem ggX7_down_X7_in : GoodIn wsX7_down wsX7_in := goodIn_r _ [11] (by decide +kernel) (by decide +kernel)
set_option maxRecDepth 20000 in
theorem gX7_down_X7_in : GoodIn wsX7_down (va_wsS RX7 41 yX7_in wsX7_in) := goodIn_app (goodIn_of _ (by decide +kernel)) ggX7_down_X7_in
set_option maxRecDepth 20000 in
theorem ggX7_down_X7_begin : GoodIn wsX7_down wsX7_begin := goodIn_r _ [15, 1, 3, 16, 17, 10, 18, 33, 34, 35, 36, 37, 38, 39, 40, 41, 42, 43, 44, 45, 46, 47, 48, 49, 50, 51] (by decide +kernel) (by decide +kernel)
set_option maxRecDepth 20000 in
theorem gX7_down_X7_begin : GoodIn wsX7_down (wsV RX7 157 RX7 yX7_begin wsX7_begin) := goodIn_app (goodIn_of _ (by decide +kernel)) ggX7_down_X7_begin
set_option maxRecDepth 20000 in
theorem ggX7_down_X7_layMean : GoodIn wsX7_down wsX7_layMean := goodIn_r _ [22, 4, 7, 23, 24, 25, 10, 26, 27, 28, 29, 30, 31, 32, 33, 34, 35, 36, 37, 38, 39, 40, 41, 42, 43, 44, 45, 46, 47, 48, 49, 50, 51] (by decide +kernel) (by decide +kernel)
set_option maxRecDepth 20000 in
theorem gX7_down_X7_layMean : GoodIn wsX7_down (wsV RX7 149 RX7 yX7_layMean wsX7_layMean) := goodIn_app (goodIn_of _ (by decide +kernel)) ggX7_down_X7_layMean
theorem dX7_down_0 : decode cX7_down 0 = .ok (.iload_n 1, 1) := by decide +kernel
theorem dX7_down_1 : decode cX7_down 1 = .ok (.aload_n 0, 1) := by decide +kernel
theorem dX7_down_2 : decode cX7_down 2 = .ok (.getfield 23, 3) := by decide +kernel
theorem dX7_down_5 : decode cX7_down 5 = .ok (.iconst 2, 1) := by decide +kernel
theorem dX7_down_6 : decode cX7_down 6 = .ok (.iaload, 1) := by decide +kernel
theorem dX7_down_7 : decode cX7_down 7 = .ok (.bipush 6, 2) := by decide +kernel
theorem dX7_down_9 : decode cX7_down 9 = .ok (.invokestatic 41, 3) := by decide +kernel
theorem dX7_down_12 : decode cX7_down 12 = .ok (.ifCond .eq 12, 3) := by decide +kernel
theorem dX7_down_15 : decode cX7_down 15 = .ok (.iload_n 2, 1) := by decide +kernel
theorem dX7_down_16 : decode cX7_down 16 = .ok (.iconst 0, 1) := by decide +kernel
theorem dX7_down_17 : decode cX7_down 17 = .ok (.iconst 2, 1) := by decide +kernel
theorem dX7_down_18 : decode cX7_down 18 = .ok (.invokestatic 41, 3) := by decide +kernel
theorem dX7_down_21 : decode cX7_down 21 = .ok (.ifCond .ne 7, 3) := by decide +kernel
theorem dX7_down_24 : decode cX7_down 24 = .ok (.ldc2_w 147, 3) := by decide +kernel
theorem dX7_down_27 : decode cX7_down 27 = .ok (.lreturn, 1) := by decide +kernel
theorem dX7_down_28 : decode cX7_down 28 = .ok (.bipush (-4), 2) := by decide +kernel
theorem dX7_down_30 : decode cX7_down 30 = .ok (.istore_n 3, 1) := by decide +kernel
theorem dX7_down_31 : decode cX7_down 31 = .ok (.iconst 0, 1) := by decide +kernel
theorem dX7_down_32 : decode cX7_down 32 = .ok (.istore 4, 2) := by decide +kernel
theorem dX7_down_34 : decode cX7_down 34 = .ok (.iload 4, 2) := by decide +kernel
theorem dX7_down_36 : decode cX7_down 36 = .ok (.bipush 7, 2) := by decide +kernel
theorem dX7_down_38 : decode cX7_down 38 = .ok (.if_icmp .ge 80, 3) := by decide +kernel
theorem dX7_down_41 : decode cX7_down 41 = .ok (.aload_n 0, 1) := by decide +kernel
theorem dX7_down_42 : decode cX7_down 42 = .ok (.invokevirtual 157, 3) := by decide +kernel
theorem dX7_down_45 : decode cX7_down 45 = .ok (.aload_n 0, 1) := by decide +kernel
theorem dX7_down_46 : decode cX7_down 46 = .ok (.getfield 26, 3) := by decide +kernel
theorem dX7_down_49 : decode cX7_down 49 = .ok (.bipush 10, 2) := by decide +kernel
theorem dX7_down_51 : decode cX7_down 51 = .ok (.iload 4, 2) := by decide +kernel
theorem dX7_down_53 : decode cX7_down 53 = .ok (.iadd, 1) := by decide +kernel
theorem dX7_down_54 : decode cX7_down 54 = .ok (.iconst 0, 1) := by decide +kernel
theorem dX7_down_55 : decode cX7_down 55 = .ok (.iastore, 1) := by decide +kernel
theorem dX7_down_56 : decode cX7_down 56 = .ok (.aload_n 0, 1) := by decide +kernel
theorem dX7_down_57 : decode cX7_down 57 = .ok (.aload_n 0, 1) := by decide +kernel
theorem dX7_down_58 : decode cX7_down 58 = .ok (.getfield 26, 3) := by decide +kernel
theorem dX7_down_61 : decode cX7_down 61 = .ok (.iload_n 1, 1) := by decide +kernel
theorem dX7_down_62 : decode cX7_down 62 = .ok (.invokevirtual 149, 3) := by decide +kernel
theorem dX7_down_65 : decode cX7_down 65 = .ok (.iload_n 3, 1) := by decide +kernel
theorem dX7_down_66 : decode cX7_down 66 = .ok (.bipush (-4), 2) := by decide +kernel
theorem dX7_down_68 : decode cX7_down 68 = .ok (.if_icmp .eq 25, 3) := by decide +kernel
theorem dX7_down_71 : decode cX7_down 71 = .ok (.aload_n 0, 1) := by decide +kernel
theorem dX7_down_72 : decode cX7_down 72 = .ok (.getfield 141, 3) := by decide +kernel
theorem dX7_down_75 : decode cX7_down 75 = .ok (.aload_n 0, 1) := by decide +kernel
theorem dX7_down_76 : decode cX7_down 76 = .ok (.getfield 160, 3) := by decide +kernel
theorem dX7_down_79 : decode cX7_down 79 = .ok (.lmul, 1) := by decide +kernel
theorem dX7_down_80 : decode cX7_down 80 = .ok (.aload_n 0, 1) := by decide +kernel
theorem dX7_down_81 : decode cX7_down 81 = .ok (.getfield 163, 3) := by decide +kernel
theorem dX7_down_84 : decode cX7_down 84 = .ok (.aload_n 0, 1) := by decide +kernel
theorem dX7_down_85 : decode cX7_down 85 = .ok (.getfield 144, 3) := by decide +kernel
theorem dX7_down_88 : decode cX7_down 88 = .ok (.lmul, 1) := by decide +kernel
theorem dX7_down_89 : decode cX7_down 89 = .ok (.lcmp, 1) := by decide +kernel
theorem dX7_down_90 : decode cX7_down 90 = .ok (.ifCond .ge 22, 3) := by decide +kernel
theorem dX7_down_93 : decode cX7_down 93 = .ok (.iload 4, 2) := by decide +kernel
theorem dX7_down_95 : decode cX7_down 95 = .ok (.istore_n 3, 1) := by decide +kernel
theorem dX7_down_96 : decode cX7_down 96 = .ok (.aload_n 0, 1) := by decide +kernel
theorem dX7_down_97 : decode cX7_down 97 = .ok (.aload_n 0, 1) := by decide +kernel
theorem dX7_down_98 : decode cX7_down 98 = .ok (.getfield 141, 3) := by decide +kernel
theorem dX7_down_101 : decode cX7_down 101 = .ok (.putfield 163, 3) := by decide +kernel
theorem dX7_down_104 : decode cX7_down 104 = .ok (.aload_n 0, 1) := by decide +kernel
theorem dX7_down_105 : decode cX7_down 105 = .ok (.aload_n 0, 1) := by decide +kernel
theorem dX7_down_106 : decode cX7_down 106 = .ok (.getfield 144, 3) := by decide +kernel
theorem dX7_down_109 : decode cX7_down 109 = .ok (.putfield 160, 3) := by decide +kernel
theorem dX7_down_112 : decode cX7_down 112 = .ok (.iinc 4 1, 3) := by decide +kernel
theorem dX7_down_115 : decode cX7_down 115 = .ok (.goto (-81), 3) := by decide +kernel
theorem dX7_down_118 : decode cX7_down 118 = .ok (.iload_n 2, 1) := by decide +kernel
theorem dX7_down_119 : decode cX7_down 119 = .ok (.ifCond .ne 8, 3) := by decide +kernel
theorem dX7_down_122 : decode cX7_down 122 = .ok (.iload_n 3, 1) := by decide +kernel
theorem dX7_down_123 : decode cX7_down 123 = .ok (.i2l, 1) := by decide +kernel
theorem dX7_down_124 : decode cX7_down 124 = .ok (.goto 19, 3) := by decide +kernel
theorem dX7_down_127 : decode cX7_down 127 = .ok (.iload_n 2, 1) := by decide +kernel
theorem dX7_down_128 : decode cX7_down 128 = .ok (.iconst 1, 1) := by decide +kernel
theorem dX7_down_129 : decode cX7_down 129 = .ok (.if_icmp .ne 10, 3) := by decide +kernel
theorem dX7_down_132 : decode cX7_down 132 = .ok (.aload_n 0, 1) := by decide +kernel
theorem dX7_down_133 : decode cX7_down 133 = .ok (.getfield 163, 3) := by decide +kernel
theorem dX7_down_136 : decode cX7_down 136 = .ok (.goto 7, 3) := by decide +kernel
theorem dX7_down_139 : decode cX7_down 139 = .ok (.aload_n 0, 1) := by decide +kernel
theorem dX7_down_140 : decode cX7_down 140 = .ok (.getfield 160, 3) := by decide +kernel
theorem dX7_down_143 : decode cX7_down 143 = .ok (.lreturn, 1) := by decide +kernel
set_option maxRecDepth 20000 in
theorem ggX7_keep_X7_in : GoodIn wsX7_keep wsX7_in := goodIn_r _ [9] (by decide +kernel) (by decide +kernel)
set_option maxRecDepth 20000 in
theorem gX7_keep_X7_in : GoodIn wsX7_keep (va_wsS RX7 41 yX7_in wsX7_in) := goodIn_app (goodIn_of _ (by decide +kernel)) ggX7_keep_X7_in
set_option maxRecDepth 20000 in
theorem ggX7_keep_X7_begin : GoodIn wsX7_keep wsX7_begin := goodIn_r _ [13, 2, 1, 14, 15, 8, 16, 29, 30, 31, 32, 33, 34, 35, 36, 37, 38, 39, 40, 41, 42, 43, 44, 45, 46, 47] (by decide +kernel) (by decide +kernel)
set_option maxRecDepth 20000 in
theorem gX7_keep_X7_begin : GoodIn wsX7_keep (wsV RX7 157 RX7 yX7_begin wsX7_begin) := goodIn_app (goodIn_of _ (by decide +kernel)) ggX7_keep_X7_begin
set_option maxRecDepth 20000 in
theorem ggX7_keep_X7_layOdds : GoodIn wsX7_keep wsX7_layOdds := goodIn_r _ [20, 4, 21, 3, 5, 22, 23, 24, 8, 25, 26, 27, 28, 29, 30, 31, 32, 33, 34, 35, 36, 37, 38, 39, 40, 41, 42, 43, 44, 45, 46, 47] (by decide +kernel) (by decide +kernel)
set_option maxRecDepth 20000 in
theorem gX7_keep_X7_layOdds : GoodIn wsX7_keep (wsV RX7 133 RX7 yX7_layOdds wsX7_layOdds) := goodIn_app (goodIn_of _ (by decide +kernel)) ggX7_keep_X7_layOdds
theorem dX7_keep_0 : decode cX7_keep 0 = .ok (.iload_n 1, 1) := by decide +kernel
theorem dX7_keep_1 : decode cX7_keep 1 = .ok (.iconst 1, 1) := by decide +kernel
theorem dX7_keep_2 : decode cX7_keep 2 = .ok (.bipush 9, 2) := by decide +kernel
theorem dX7_keep_4 : decode cX7_keep 4 = .ok (.invokestatic 41, 3) := by decide +kernel
theorem dX7_keep_7 : decode cX7_keep 7 = .ok (.ifCond .eq 13, 3) := by decide +kernel
theorem dX7_keep_10 : decode cX7_keep 10 = .ok (.iload_n 2, 1) := by decide +kernel
theorem dX7_keep_11 : decode cX7_keep 11 = .ok (.iconst 0, 1) := by decide +kernel
theorem dX7_keep_12 : decode cX7_keep 12 = .ok (.bipush 100, 2) := by decide +kernel
theorem dX7_keep_14 : decode cX7_keep 14 = .ok (.invokestatic 41, 3) := by decide +kernel
theorem dX7_keep_17 : decode cX7_keep 17 = .ok (.ifCond .ne 5, 3) := by decide +kernel
theorem dX7_keep_20 : decode cX7_keep 20 = .ok (.iconst (-1), 1) := by decide +kernel
theorem dX7_keep_21 : decode cX7_keep 21 = .ok (.ireturn, 1) := by decide +kernel
theorem dX7_keep_22 : decode cX7_keep 22 = .ok (.iconst 0, 1) := by decide +kernel
theorem dX7_keep_23 : decode cX7_keep 23 = .ok (.istore_n 3, 1) := by decide +kernel
theorem dX7_keep_24 : decode cX7_keep 24 = .ok (.iload_n 3, 1) := by decide +kernel
theorem dX7_keep_25 : decode cX7_keep 25 = .ok (.bipush 9, 2) := by decide +kernel
theorem dX7_keep_27 : decode cX7_keep 27 = .ok (.if_icmp .gt 71, 3) := by decide +kernel
theorem dX7_keep_30 : decode cX7_keep 30 = .ok (.aload_n 0, 1) := by decide +kernel
theorem dX7_keep_31 : decode cX7_keep 31 = .ok (.invokevirtual 157, 3) := by decide +kernel
theorem dX7_keep_34 : decode cX7_keep 34 = .ok (.aload_n 0, 1) := by decide +kernel
theorem dX7_keep_35 : decode cX7_keep 35 = .ok (.getfield 26, 3) := by decide +kernel
theorem dX7_keep_38 : decode cX7_keep 38 = .ok (.iconst 3, 1) := by decide +kernel
theorem dX7_keep_39 : decode cX7_keep 39 = .ok (.aload_n 0, 1) := by decide +kernel
theorem dX7_keep_40 : decode cX7_keep 40 = .ok (.getfield 23, 3) := by decide +kernel
theorem dX7_keep_43 : decode cX7_keep 43 = .ok (.iconst 2, 1) := by decide +kernel
theorem dX7_keep_44 : decode cX7_keep 44 = .ok (.iaload, 1) := by decide +kernel
theorem dX7_keep_45 : decode cX7_keep 45 = .ok (.iadd, 1) := by decide +kernel
theorem dX7_keep_46 : decode cX7_keep 46 = .ok (.iload_n 3, 1) := by decide +kernel
theorem dX7_keep_47 : decode cX7_keep 47 = .ok (.iastore, 1) := by decide +kernel
theorem dX7_keep_48 : decode cX7_keep 48 = .ok (.aload_n 0, 1) := by decide +kernel
theorem dX7_keep_49 : decode cX7_keep 49 = .ok (.aload_n 0, 1) := by decide +kernel
theorem dX7_keep_50 : decode cX7_keep 50 = .ok (.getfield 26, 3) := by decide +kernel
theorem dX7_keep_53 : decode cX7_keep 53 = .ok (.aload_n 0, 1) := by decide +kernel
theorem dX7_keep_54 : decode cX7_keep 54 = .ok (.getfield 23, 3) := by decide +kernel
theorem dX7_keep_57 : decode cX7_keep 57 = .ok (.iconst 2, 1) := by decide +kernel
theorem dX7_keep_58 : decode cX7_keep 58 = .ok (.iaload, 1) := by decide +kernel
theorem dX7_keep_59 : decode cX7_keep 59 = .ok (.iload_n 1, 1) := by decide +kernel
theorem dX7_keep_60 : decode cX7_keep 60 = .ok (.iconst 0, 1) := by decide +kernel
theorem dX7_keep_61 : decode cX7_keep 61 = .ok (.invokevirtual 133, 3) := by decide +kernel
theorem dX7_keep_64 : decode cX7_keep 64 = .ok (.ldc2_w 127, 3) := by decide +kernel
theorem dX7_keep_67 : decode cX7_keep 67 = .ok (.aload_n 0, 1) := by decide +kernel
theorem dX7_keep_68 : decode cX7_keep 68 = .ok (.getfield 35, 3) := by decide +kernel
theorem dX7_keep_71 : decode cX7_keep 71 = .ok (.aload_n 0, 1) := by decide +kernel
theorem dX7_keep_72 : decode cX7_keep 72 = .ok (.getfield 23, 3) := by decide +kernel
theorem dX7_keep_75 : decode cX7_keep 75 = .ok (.iconst 2, 1) := by decide +kernel
theorem dX7_keep_76 : decode cX7_keep 76 = .ok (.iaload, 1) := by decide +kernel
theorem dX7_keep_77 : decode cX7_keep 77 = .ok (.laload, 1) := by decide +kernel
theorem dX7_keep_78 : decode cX7_keep 78 = .ok (.lmul, 1) := by decide +kernel
theorem dX7_keep_79 : decode cX7_keep 79 = .ok (.iload_n 2, 1) := by decide +kernel
theorem dX7_keep_80 : decode cX7_keep 80 = .ok (.i2l, 1) := by decide +kernel
theorem dX7_keep_81 : decode cX7_keep 81 = .ok (.aload_n 0, 1) := by decide +kernel
theorem dX7_keep_82 : decode cX7_keep 82 = .ok (.getfield 129, 3) := by decide +kernel
theorem dX7_keep_85 : decode cX7_keep 85 = .ok (.lmul, 1) := by decide +kernel
theorem dX7_keep_86 : decode cX7_keep 86 = .ok (.lcmp, 1) := by decide +kernel
theorem dX7_keep_87 : decode cX7_keep 87 = .ok (.ifCond .lt 5, 3) := by decide +kernel
theorem dX7_keep_90 : decode cX7_keep 90 = .ok (.iload_n 3, 1) := by decide +kernel
theorem dX7_keep_91 : decode cX7_keep 91 = .ok (.ireturn, 1) := by decide +kernel
theorem dX7_keep_92 : decode cX7_keep 92 = .ok (.iinc 3 1, 3) := by decide +kernel
theorem dX7_keep_95 : decode cX7_keep 95 = .ok (.goto (-71), 3) := by decide +kernel
theorem dX7_keep_98 : decode cX7_keep 98 = .ok (.bipush (-4), 2) := by decide +kernel
theorem dX7_keep_100 : decode cX7_keep 100 = .ok (.ireturn, 1) := by decide +kernel
set_option maxRecDepth 20000 in
theorem ggX7_early_X7_isField : GoodIn wsX7_early wsX7_isField := goodIn_r _ [8, 9, 10, 7, 11] (by decide +kernel) (by decide +kernel)
set_option maxRecDepth 20000 in
theorem gX7_early_X7_isField : GoodIn wsX7_early (va_wsS RX7 45 yX7_isField wsX7_isField) := goodIn_app (goodIn_of _ (by decide +kernel)) ggX7_early_X7_isField
set_option maxRecDepth 20000 in
theorem ggX7_early_X7_in : GoodIn wsX7_early wsX7_in := goodIn_r _ [11] (by decide +kernel) (by decide +kernel)
set_option maxRecDepth 20000 in
theorem gX7_early_X7_in : GoodIn wsX7_early (va_wsS RX7 41 yX7_in wsX7_in) := goodIn_app (goodIn_of _ (by decide +kernel)) ggX7_early_X7_in
set_option maxRecDepth 20000 in
theorem ggX7_early_X7_layOdds : GoodIn wsX7_early wsX7_layOdds := goodIn_r _ [15, 3, 16, 2, 4, 17, 18, 19, 7, 20, 21, 22, 23, 24, 25, 26, 27, 28, 29, 30, 31, 32, 33, 34, 35, 36, 37, 38, 39, 40, 41, 42] (by decide +kernel) (by decide +kernel)
set_option maxRecDepth 20000 in
theorem gX7_early_X7_layOdds : GoodIn wsX7_early (wsV RX7 133 RX7 yX7_layOdds wsX7_layOdds) := goodIn_app (goodIn_of _ (by decide +kernel)) ggX7_early_X7_layOdds
theorem dX7_early_0 : decode cX7_early 0 = .ok (.iload_n 1, 1) := by decide +kernel
theorem dX7_early_1 : decode cX7_early 1 = .ok (.invokestatic 45, 3) := by decide +kernel
theorem dX7_early_4 : decode cX7_early 4 = .ok (.ifCond .eq 13, 3) := by decide +kernel
theorem dX7_early_7 : decode cX7_early 7 = .ok (.iload_n 2, 1) := by decide +kernel
theorem dX7_early_8 : decode cX7_early 8 = .ok (.iconst 0, 1) := by decide +kernel
theorem dX7_early_9 : decode cX7_early 9 = .ok (.bipush 100, 2) := by decide +kernel
theorem dX7_early_11 : decode cX7_early 11 = .ok (.invokestatic 41, 3) := by decide +kernel
theorem dX7_early_14 : decode cX7_early 14 = .ok (.ifCond .ne 5, 3) := by decide +kernel
theorem dX7_early_17 : decode cX7_early 17 = .ok (.iconst (-1), 1) := by decide +kernel
theorem dX7_early_18 : decode cX7_early 18 = .ok (.ireturn, 1) := by decide +kernel
theorem dX7_early_19 : decode cX7_early 19 = .ok (.iconst 0, 1) := by decide +kernel
theorem dX7_early_20 : decode cX7_early 20 = .ok (.istore_n 3, 1) := by decide +kernel
theorem dX7_early_21 : decode cX7_early 21 = .ok (.iload_n 3, 1) := by decide +kernel
theorem dX7_early_22 : decode cX7_early 22 = .ok (.bipush 9, 2) := by decide +kernel
theorem dX7_early_24 : decode cX7_early 24 = .ok (.if_icmp .gt 48, 3) := by decide +kernel
theorem dX7_early_27 : decode cX7_early 27 = .ok (.aload_n 0, 1) := by decide +kernel
theorem dX7_early_28 : decode cX7_early 28 = .ok (.aload_n 0, 1) := by decide +kernel
theorem dX7_early_29 : decode cX7_early 29 = .ok (.getfield 23, 3) := by decide +kernel
theorem dX7_early_32 : decode cX7_early 32 = .ok (.aload_n 0, 1) := by decide +kernel
theorem dX7_early_33 : decode cX7_early 33 = .ok (.getfield 23, 3) := by decide +kernel
theorem dX7_early_36 : decode cX7_early 36 = .ok (.iconst 2, 1) := by decide +kernel
theorem dX7_early_37 : decode cX7_early 37 = .ok (.iaload, 1) := by decide +kernel
theorem dX7_early_38 : decode cX7_early 38 = .ok (.iload_n 3, 1) := by decide +kernel
theorem dX7_early_39 : decode cX7_early 39 = .ok (.iconst 0, 1) := by decide +kernel
theorem dX7_early_40 : decode cX7_early 40 = .ok (.invokevirtual 133, 3) := by decide +kernel
theorem dX7_early_43 : decode cX7_early 43 = .ok (.ldc2_w 127, 3) := by decide +kernel
theorem dX7_early_46 : decode cX7_early 46 = .ok (.aload_n 0, 1) := by decide +kernel
theorem dX7_early_47 : decode cX7_early 47 = .ok (.getfield 35, 3) := by decide +kernel
theorem dX7_early_50 : decode cX7_early 50 = .ok (.iload_n 1, 1) := by decide +kernel
theorem dX7_early_51 : decode cX7_early 51 = .ok (.laload, 1) := by decide +kernel
theorem dX7_early_52 : decode cX7_early 52 = .ok (.lmul, 1) := by decide +kernel
theorem dX7_early_53 : decode cX7_early 53 = .ok (.iload_n 2, 1) := by decide +kernel
theorem dX7_early_54 : decode cX7_early 54 = .ok (.i2l, 1) := by decide +kernel
theorem dX7_early_55 : decode cX7_early 55 = .ok (.aload_n 0, 1) := by decide +kernel
theorem dX7_early_56 : decode cX7_early 56 = .ok (.getfield 129, 3) := by decide +kernel
theorem dX7_early_59 : decode cX7_early 59 = .ok (.lmul, 1) := by decide +kernel
theorem dX7_early_60 : decode cX7_early 60 = .ok (.lcmp, 1) := by decide +kernel
theorem dX7_early_61 : decode cX7_early 61 = .ok (.ifCond .lt 5, 3) := by decide +kernel
theorem dX7_early_64 : decode cX7_early 64 = .ok (.iload_n 3, 1) := by decide +kernel
theorem dX7_early_65 : decode cX7_early 65 = .ok (.ireturn, 1) := by decide +kernel
theorem dX7_early_66 : decode cX7_early 66 = .ok (.iinc 3 1, 3) := by decide +kernel
theorem dX7_early_69 : decode cX7_early 69 = .ok (.goto (-48), 3) := by decide +kernel
theorem dX7_early_72 : decode cX7_early 72 = .ok (.bipush (-4), 2) := by decide +kernel
theorem dX7_early_74 : decode cX7_early 74 = .ok (.ireturn, 1) := by decide +kernel
set_option maxRecDepth 20000 in
theorem ggX7_next_X7_in : GoodIn wsX7_next wsX7_in := goodIn_r _ [5] (by decide +kernel) (by decide +kernel)
set_option maxRecDepth 20000 in
theorem gX7_next_X7_in : GoodIn wsX7_next (va_wsS RX7 41 yX7_in wsX7_in) := goodIn_app (goodIn_of _ (by decide +kernel)) ggX7_next_X7_in
set_option maxRecDepth 20000 in
theorem ggX7_next_X7_begin : GoodIn wsX7_next wsX7_begin := goodIn_r _ [9, 10, 1, 11, 12, 4, 13, 27, 28, 29, 30, 31, 32, 33, 34, 35, 36, 37, 38, 39, 40, 41, 42, 43, 44, 45] (by decide +kernel) (by decide +kernel)
set_option maxRecDepth 20000 in
theorem gX7_next_X7_begin : GoodIn wsX7_next (wsV RX7 157 RX7 yX7_begin wsX7_begin) := goodIn_app (goodIn_of _ (by decide +kernel)) ggX7_next_X7_begin
set_option maxRecDepth 20000 in
theorem ggX7_next_X7_dayIn : GoodIn wsX7_next wsX7_dayIn := goodIn_r _ [16, 17, 18, 19, 20, 21, 22, 4, 23, 24, 25, 26] (by decide +kernel) (by decide +kernel)
set_option maxRecDepth 20000 in
theorem gX7_next_X7_dayIn : GoodIn wsX7_next (va_wsS RX7 121 yX7_dayIn wsX7_dayIn) := goodIn_app (goodIn_of _ (by decide +kernel)) ggX7_next_X7_dayIn
theorem dX7_next_0 : decode cX7_next 0 = .ok (.iload_n 1, 1) := by decide +kernel
theorem dX7_next_1 : decode cX7_next 1 = .ok (.iconst 0, 1) := by decide +kernel
theorem dX7_next_2 : decode cX7_next 2 = .ok (.bipush 40, 2) := by decide +kernel
theorem dX7_next_4 : decode cX7_next 4 = .ok (.invokestatic 41, 3) := by decide +kernel
theorem dX7_next_7 : decode cX7_next 7 = .ok (.ifCond .ne 5, 3) := by decide +kernel
theorem dX7_next_10 : decode cX7_next 10 = .ok (.iconst (-1), 1) := by decide +kernel
theorem dX7_next_11 : decode cX7_next 11 = .ok (.ireturn, 1) := by decide +kernel
theorem dX7_next_12 : decode cX7_next 12 = .ok (.aload_n 0, 1) := by decide +kernel
theorem dX7_next_13 : decode cX7_next 13 = .ok (.invokevirtual 157, 3) := by decide +kernel
theorem dX7_next_16 : decode cX7_next 16 = .ok (.iconst 0, 1) := by decide +kernel
theorem dX7_next_17 : decode cX7_next 17 = .ok (.istore_n 2, 1) := by decide +kernel
theorem dX7_next_18 : decode cX7_next 18 = .ok (.iload_n 2, 1) := by decide +kernel
theorem dX7_next_19 : decode cX7_next 19 = .ok (.iload_n 1, 1) := by decide +kernel
theorem dX7_next_20 : decode cX7_next 20 = .ok (.if_icmp .ge 16, 3) := by decide +kernel
theorem dX7_next_23 : decode cX7_next 23 = .ok (.aload_n 0, 1) := by decide +kernel
theorem dX7_next_24 : decode cX7_next 24 = .ok (.getfield 26, 3) := by decide +kernel
theorem dX7_next_27 : decode cX7_next 27 = .ok (.invokestatic 121, 3) := by decide +kernel
theorem dX7_next_30 : decode cX7_next 30 = .ok (.iinc 2 1, 3) := by decide +kernel
theorem dX7_next_33 : decode cX7_next 33 = .ok (.goto (-15), 3) := by decide +kernel
theorem dX7_next_36 : decode cX7_next 36 = .ok (.aload_n 0, 1) := by decide +kernel
theorem dX7_next_37 : decode cX7_next 37 = .ok (.getfield 26, 3) := by decide +kernel
theorem dX7_next_40 : decode cX7_next 40 = .ok (.iconst 2, 1) := by decide +kernel
theorem dX7_next_41 : decode cX7_next 41 = .ok (.iaload, 1) := by decide +kernel
theorem dX7_next_42 : decode cX7_next 42 = .ok (.ireturn, 1) := by decide +kernel
set_option maxRecDepth 20000 in
theorem ggX7_winter_X7_isField : GoodIn wsX7_winter wsX7_isField := goodIn_r _ [7, 8, 9, 6, 10] (by decide +kernel) (by decide +kernel)
set_option maxRecDepth 20000 in
theorem gX7_winter_X7_isField : GoodIn wsX7_winter (va_wsS RX7 45 yX7_isField wsX7_isField) := goodIn_app (goodIn_of _ (by decide +kernel)) ggX7_winter_X7_isField
set_option maxRecDepth 20000 in
theorem ggX7_winter_X7_in : GoodIn wsX7_winter wsX7_in := goodIn_r _ [10] (by decide +kernel) (by decide +kernel)
set_option maxRecDepth 20000 in
theorem gX7_winter_X7_in : GoodIn wsX7_winter (va_wsS RX7 41 yX7_in wsX7_in) := goodIn_app (goodIn_of _ (by decide +kernel)) ggX7_winter_X7_in
set_option maxRecDepth 20000 in
theorem ggX7_winter_X7_layOdds : GoodIn wsX7_winter wsX7_layOdds := goodIn_r _ [14, 2, 15, 16, 3, 17, 18, 19, 6, 20, 21, 22, 23, 27, 28, 29, 30, 31, 32, 33, 34, 35, 36, 37, 38, 39, 40, 41, 42, 43, 44, 45] (by decide +kernel) (by decide +kernel)
set_option maxRecDepth 20000 in
theorem gX7_winter_X7_layOdds : GoodIn wsX7_winter (wsV RX7 133 RX7 yX7_layOdds wsX7_layOdds) := goodIn_app (goodIn_of _ (by decide +kernel)) ggX7_winter_X7_layOdds
set_option maxRecDepth 20000 in
theorem ggX7_winter_X7_part : GoodIn wsX7_winter wsX7_part := goodIn_r _ [26] (by decide +kernel) (by decide +kernel)
set_option maxRecDepth 20000 in
theorem gX7_winter_X7_part : GoodIn wsX7_winter (va_wsS RX7 137 yX7_part wsX7_part) := goodIn_app (goodIn_of _ (by decide +kernel)) ggX7_winter_X7_part
theorem dX7_winter_0 : decode cX7_winter 0 = .ok (.iload_n 1, 1) := by decide +kernel
theorem dX7_winter_1 : decode cX7_winter 1 = .ok (.invokestatic 45, 3) := by decide +kernel
theorem dX7_winter_4 : decode cX7_winter 4 = .ok (.ifCond .eq 32, 3) := by decide +kernel
theorem dX7_winter_7 : decode cX7_winter 7 = .ok (.iload_n 2, 1) := by decide +kernel
theorem dX7_winter_8 : decode cX7_winter 8 = .ok (.iconst 0, 1) := by decide +kernel
theorem dX7_winter_9 : decode cX7_winter 9 = .ok (.iconst 4, 1) := by decide +kernel
theorem dX7_winter_10 : decode cX7_winter 10 = .ok (.invokestatic 41, 3) := by decide +kernel
theorem dX7_winter_13 : decode cX7_winter 13 = .ok (.ifCond .eq 23, 3) := by decide +kernel
theorem dX7_winter_16 : decode cX7_winter 16 = .ok (.iload_n 3, 1) := by decide +kernel
theorem dX7_winter_17 : decode cX7_winter 17 = .ok (.iconst 0, 1) := by decide +kernel
theorem dX7_winter_18 : decode cX7_winter 18 = .ok (.bipush 10, 2) := by decide +kernel
theorem dX7_winter_20 : decode cX7_winter 20 = .ok (.invokestatic 41, 3) := by decide +kernel
theorem dX7_winter_23 : decode cX7_winter 23 = .ok (.ifCond .eq 13, 3) := by decide +kernel
theorem dX7_winter_26 : decode cX7_winter 26 = .ok (.iload 4, 2) := by decide +kernel
theorem dX7_winter_28 : decode cX7_winter 28 = .ok (.iconst 0, 1) := by decide +kernel
theorem dX7_winter_29 : decode cX7_winter 29 = .ok (.iconst 1, 1) := by decide +kernel
theorem dX7_winter_30 : decode cX7_winter 30 = .ok (.invokestatic 41, 3) := by decide +kernel
theorem dX7_winter_33 : decode cX7_winter 33 = .ok (.ifCond .ne 5, 3) := by decide +kernel
theorem dX7_winter_36 : decode cX7_winter 36 = .ok (.iconst (-1), 1) := by decide +kernel
theorem dX7_winter_37 : decode cX7_winter 37 = .ok (.ireturn, 1) := by decide +kernel
theorem dX7_winter_38 : decode cX7_winter 38 = .ok (.aload_n 0, 1) := by decide +kernel
theorem dX7_winter_39 : decode cX7_winter 39 = .ok (.aload_n 0, 1) := by decide +kernel
theorem dX7_winter_40 : decode cX7_winter 40 = .ok (.getfield 23, 3) := by decide +kernel
theorem dX7_winter_43 : decode cX7_winter 43 = .ok (.aload_n 0, 1) := by decide +kernel
theorem dX7_winter_44 : decode cX7_winter 44 = .ok (.getfield 23, 3) := by decide +kernel
theorem dX7_winter_47 : decode cX7_winter 47 = .ok (.iconst 2, 1) := by decide +kernel
theorem dX7_winter_48 : decode cX7_winter 48 = .ok (.iaload, 1) := by decide +kernel
theorem dX7_winter_49 : decode cX7_winter 49 = .ok (.iload_n 2, 1) := by decide +kernel
theorem dX7_winter_50 : decode cX7_winter 50 = .ok (.iload_n 3, 1) := by decide +kernel
theorem dX7_winter_51 : decode cX7_winter 51 = .ok (.invokevirtual 133, 3) := by decide +kernel
theorem dX7_winter_54 : decode cX7_winter 54 = .ok (.aload_n 0, 1) := by decide +kernel
theorem dX7_winter_55 : decode cX7_winter 55 = .ok (.getfield 35, 3) := by decide +kernel
theorem dX7_winter_58 : decode cX7_winter 58 = .ok (.iload_n 1, 1) := by decide +kernel
theorem dX7_winter_59 : decode cX7_winter 59 = .ok (.laload, 1) := by decide +kernel
theorem dX7_winter_60 : decode cX7_winter 60 = .ok (.aload_n 0, 1) := by decide +kernel
theorem dX7_winter_61 : decode cX7_winter 61 = .ok (.getfield 129, 3) := by decide +kernel
theorem dX7_winter_64 : decode cX7_winter 64 = .ok (.iload 4, 2) := by decide +kernel
theorem dX7_winter_66 : decode cX7_winter 66 = .ok (.invokestatic 137, 3) := by decide +kernel
theorem dX7_winter_69 : decode cX7_winter 69 = .ok (.l2i, 1) := by decide +kernel
theorem dX7_winter_70 : decode cX7_winter 70 = .ok (.ireturn, 1) := by decide +kernel
set_option maxRecDepth 20000 in
theorem ggX7_image_X7_bring : GoodIn wsX7_image wsX7_bring := goodIn_r _ [7] (by decide +kernel) (by decide +kernel)
set_option maxRecDepth 20000 in
theorem gX7_image_X7_bring : GoodIn wsX7_image (va_wsS RX7 101 yX7_bring wsX7_bring) := goodIn_app (goodIn_of _ (by decide +kernel)) ggX7_image_X7_bring
theorem dX7_image_0 : decode cX7_image 0 = .ok (.aload_n 0, 1) := by decide +kernel
theorem dX7_image_1 : decode cX7_image 1 = .ok (.getfield 23, 3) := by decide +kernel
theorem dX7_image_4 : decode cX7_image 4 = .ok (.iconst 0, 1) := by decide +kernel
theorem dX7_image_5 : decode cX7_image 5 = .ok (.aload_n 0, 1) := by decide +kernel
theorem dX7_image_6 : decode cX7_image 6 = .ok (.getfield 32, 3) := by decide +kernel
theorem dX7_image_9 : decode cX7_image 9 = .ok (.iconst 0, 1) := by decide +kernel
theorem dX7_image_10 : decode cX7_image 10 = .ok (.sipush 177, 3) := by decide +kernel
theorem dX7_image_13 : decode cX7_image 13 = .ok (.invokestatic 101, 3) := by decide +kernel
theorem dX7_image_16 : decode cX7_image 16 = .ok (.aload_n 0, 1) := by decide +kernel
theorem dX7_image_17 : decode cX7_image 17 = .ok (.iconst 1, 1) := by decide +kernel
theorem dX7_image_18 : decode cX7_image 18 = .ok (.putfield 166, 3) := by decide +kernel
theorem dX7_image_21 : decode cX7_image 21 = .ok (.iconst 1, 1) := by decide +kernel
theorem dX7_image_22 : decode cX7_image 22 = .ok (.ireturn, 1) := by decide +kernel
set_option maxRecDepth 20000 in
theorem ggX7_restore_X7_bring : GoodIn wsX7_restore wsX7_bring := goodIn_r _ [7] (by decide +kernel) (by decide +kernel)
set_option maxRecDepth 20000 in
theorem gX7_restore_X7_bring : GoodIn wsX7_restore (va_wsS RX7 101 yX7_bring wsX7_bring) := goodIn_app (goodIn_of _ (by decide +kernel)) ggX7_restore_X7_bring
theorem dX7_restore_0 : decode cX7_restore 0 = .ok (.aload_n 0, 1) := by decide +kernel
theorem dX7_restore_1 : decode cX7_restore 1 = .ok (.getfield 166, 3) := by decide +kernel
theorem dX7_restore_4 : decode cX7_restore 4 = .ok (.ifCond .ne 6, 3) := by decide +kernel
theorem dX7_restore_7 : decode cX7_restore 7 = .ok (.bipush (-4), 2) := by decide +kernel
theorem dX7_restore_9 : decode cX7_restore 9 = .ok (.ireturn, 1) := by decide +kernel
theorem dX7_restore_10 : decode cX7_restore 10 = .ok (.aload_n 0, 1) := by decide +kernel
theorem dX7_restore_11 : decode cX7_restore 11 = .ok (.getfield 32, 3) := by decide +kernel
theorem dX7_restore_14 : decode cX7_restore 14 = .ok (.iconst 0, 1) := by decide +kernel
theorem dX7_restore_15 : decode cX7_restore 15 = .ok (.aload_n 0, 1) := by decide +kernel
theorem dX7_restore_16 : decode cX7_restore 16 = .ok (.getfield 23, 3) := by decide +kernel
theorem dX7_restore_19 : decode cX7_restore 19 = .ok (.iconst 0, 1) := by decide +kernel
theorem dX7_restore_20 : decode cX7_restore 20 = .ok (.sipush 177, 3) := by decide +kernel
theorem dX7_restore_23 : decode cX7_restore 23 = .ok (.invokestatic 101, 3) := by decide +kernel
theorem dX7_restore_26 : decode cX7_restore 26 = .ok (.iconst 1, 1) := by decide +kernel
theorem dX7_restore_27 : decode cX7_restore 27 = .ok (.ireturn, 1) := by decide +kernel
set_option maxRecDepth 20000 in
theorem ggX7_isSheet_X7_in : GoodIn wsX7_isSheet wsX7_in := goodIn_r _ [4] (by decide +kernel) (by decide +kernel)
set_option maxRecDepth 20000 in
theorem gX7_isSheet_X7_in : GoodIn wsX7_isSheet (va_wsS RX7 41 yX7_in wsX7_in) := goodIn_app (goodIn_of _ (by decide +kernel)) ggX7_isSheet_X7_in
theorem dX7_isSheet_0 : decode cX7_isSheet 0 = .ok (.iload_n 0, 1) := by decide +kernel
theorem dX7_isSheet_1 : decode cX7_isSheet 1 = .ok (.iconst 0, 1) := by decide +kernel
theorem dX7_isSheet_2 : decode cX7_isSheet 2 = .ok (.iconst 3, 1) := by decide +kernel
theorem dX7_isSheet_3 : decode cX7_isSheet 3 = .ok (.invokestatic 41, 3) := by decide +kernel
theorem dX7_isSheet_6 : decode cX7_isSheet 6 = .ok (.ireturn, 1) := by decide +kernel
theorem dX7_isPart_0 : decode cX7_isPart 0 = .ok (.iload_n 1, 1) := by decide +kernel
theorem dX7_isPart_1 : decode cX7_isPart 1 = .ok (.ifCond .lt 23, 3) := by decide +kernel
theorem dX7_isPart_4 : decode cX7_isPart 4 = .ok (.iload_n 0, 1) := by decide +kernel
theorem dX7_isPart_5 : decode cX7_isPart 5 = .ok (.ifCond .lt 19, 3) := by decide +kernel
theorem dX7_isPart_8 : decode cX7_isPart 8 = .ok (.iload_n 1, 1) := by decide +kernel
theorem dX7_isPart_9 : decode cX7_isPart 9 = .ok (.iload_n 2, 1) := by decide +kernel
theorem dX7_isPart_10 : decode cX7_isPart 10 = .ok (.if_icmp .gt 14, 3) := by decide +kernel
theorem dX7_isPart_13 : decode cX7_isPart 13 = .ok (.iload_n 0, 1) := by decide +kernel
theorem dX7_isPart_14 : decode cX7_isPart 14 = .ok (.iload_n 2, 1) := by decide +kernel
theorem dX7_isPart_15 : decode cX7_isPart 15 = .ok (.iload_n 1, 1) := by decide +kernel
theorem dX7_isPart_16 : decode cX7_isPart 16 = .ok (.isub, 1) := by decide +kernel
theorem dX7_isPart_17 : decode cX7_isPart 17 = .ok (.if_icmp .gt 7, 3) := by decide +kernel
theorem dX7_isPart_20 : decode cX7_isPart 20 = .ok (.iconst 1, 1) := by decide +kernel
theorem dX7_isPart_21 : decode cX7_isPart 21 = .ok (.goto 4, 3) := by decide +kernel
theorem dX7_isPart_24 : decode cX7_isPart 24 = .ok (.iconst 0, 1) := by decide +kernel
theorem dX7_isPart_25 : decode cX7_isPart 25 = .ok (.ireturn, 1) := by decide +kernel
set_option maxRecDepth 20000 in
theorem ggX7_wrong_X7_isPart : GoodIn wsX7_wrong wsX7_isPart := goodIn_r _ [6] (by decide +kernel) (by decide +kernel)
set_option maxRecDepth 20000 in
theorem gX7_wrong_X7_isPart : GoodIn wsX7_wrong (va_wsS RX7 170 yX7_isPart wsX7_isPart) := goodIn_app (goodIn_of _ (by decide +kernel)) ggX7_wrong_X7_isPart
theorem dX7_wrong_0 : decode cX7_wrong 0 = .ok (.aload_n 0, 1) := by decide +kernel
theorem dX7_wrong_1 : decode cX7_wrong 1 = .ok (.getfield 7, 3) := by decide +kernel
theorem dX7_wrong_4 : decode cX7_wrong 4 = .ok (.iload_n 1, 1) := by decide +kernel
theorem dX7_wrong_5 : decode cX7_wrong 5 = .ok (.iaload, 1) := by decide +kernel
theorem dX7_wrong_6 : decode cX7_wrong 6 = .ok (.ifCond .ge 8, 3) := by decide +kernel
theorem dX7_wrong_9 : decode cX7_wrong 9 = .ok (.bipush (-11), 2) := by decide +kernel
theorem dX7_wrong_11 : decode cX7_wrong 11 = .ok (.goto 39, 3) := by decide +kernel
theorem dX7_wrong_14 : decode cX7_wrong 14 = .ok (.aload_n 0, 1) := by decide +kernel
theorem dX7_wrong_15 : decode cX7_wrong 15 = .ok (.getfield 7, 3) := by decide +kernel
theorem dX7_wrong_18 : decode cX7_wrong 18 = .ok (.iload_n 1, 1) := by decide +kernel
theorem dX7_wrong_19 : decode cX7_wrong 19 = .ok (.iaload, 1) := by decide +kernel
theorem dX7_wrong_20 : decode cX7_wrong 20 = .ok (.iload_n 2, 1) := by decide +kernel
theorem dX7_wrong_21 : decode cX7_wrong 21 = .ok (.if_icmp .eq 8, 3) := by decide +kernel
theorem dX7_wrong_24 : decode cX7_wrong 24 = .ok (.bipush (-12), 2) := by decide +kernel
theorem dX7_wrong_26 : decode cX7_wrong 26 = .ok (.goto 24, 3) := by decide +kernel
theorem dX7_wrong_29 : decode cX7_wrong 29 = .ok (.iload_n 3, 1) := by decide +kernel
theorem dX7_wrong_30 : decode cX7_wrong 30 = .ok (.iload 4, 2) := by decide +kernel
theorem dX7_wrong_32 : decode cX7_wrong 32 = .ok (.aload_n 0, 1) := by decide +kernel
theorem dX7_wrong_33 : decode cX7_wrong 33 = .ok (.getfield 13, 3) := by decide +kernel
theorem dX7_wrong_36 : decode cX7_wrong 36 = .ok (.iload_n 1, 1) := by decide +kernel
theorem dX7_wrong_37 : decode cX7_wrong 37 = .ok (.iaload, 1) := by decide +kernel
theorem dX7_wrong_38 : decode cX7_wrong 38 = .ok (.invokestatic 170, 3) := by decide +kernel
theorem dX7_wrong_41 : decode cX7_wrong 41 = .ok (.ifCond .eq 7, 3) := by decide +kernel
theorem dX7_wrong_44 : decode cX7_wrong 44 = .ok (.iconst 0, 1) := by decide +kernel
theorem dX7_wrong_45 : decode cX7_wrong 45 = .ok (.goto 5, 3) := by decide +kernel
theorem dX7_wrong_48 : decode cX7_wrong 48 = .ok (.bipush (-13), 2) := by decide +kernel
theorem dX7_wrong_50 : decode cX7_wrong 50 = .ok (.ireturn, 1) := by decide +kernel
set_option maxRecDepth 20000 in
theorem ggX7_wayOdds_X7_onOf : GoodIn wsX7_wayOdds wsX7_onOf := goodIn_r _ [7] (by decide +kernel) (by decide +kernel)
set_option maxRecDepth 20000 in
theorem gX7_wayOdds_X7_onOf : GoodIn wsX7_wayOdds (va_wsS RX7 53 yX7_onOf wsX7_onOf) := goodIn_app (goodIn_of _ (by decide +kernel)) ggX7_wayOdds_X7_onOf
set_option maxRecDepth 20000 in
theorem ggX7_wayOdds_X7_backOf : GoodIn wsX7_wayOdds wsX7_backOf := goodIn_r _ [10, 4, 5, 6, 7] (by decide +kernel) (by decide +kernel)
set_option maxRecDepth 20000 in
theorem gX7_wayOdds_X7_backOf : GoodIn wsX7_wayOdds (va_wsS RX7 57 yX7_backOf wsX7_backOf) := goodIn_app (goodIn_of _ (by decide +kernel)) ggX7_wayOdds_X7_backOf
theorem dX7_wayOdds_0 : decode cX7_wayOdds 0 = .ok (.lconst 1, 1) := by decide +kernel
theorem dX7_wayOdds_1 : decode cX7_wayOdds 1 = .ok (.lstore 5, 2) := by decide +kernel
theorem dX7_wayOdds_3 : decode cX7_wayOdds 3 = .ok (.iload_n 1, 1) := by decide +kernel
theorem dX7_wayOdds_4 : decode cX7_wayOdds 4 = .ok (.istore 7, 2) := by decide +kernel
theorem dX7_wayOdds_6 : decode cX7_wayOdds 6 = .ok (.iconst 0, 1) := by decide +kernel
theorem dX7_wayOdds_7 : decode cX7_wayOdds 7 = .ok (.istore 8, 2) := by decide +kernel
theorem dX7_wayOdds_9 : decode cX7_wayOdds 9 = .ok (.iload 8, 2) := by decide +kernel
theorem dX7_wayOdds_11 : decode cX7_wayOdds 11 = .ok (.iload 4, 2) := by decide +kernel
theorem dX7_wayOdds_13 : decode cX7_wayOdds 13 = .ok (.if_icmp .ge 159, 3) := by decide +kernel
theorem dX7_wayOdds_16 : decode cX7_wayOdds 16 = .ok (.aload_n 0, 1) := by decide +kernel
theorem dX7_wayOdds_17 : decode cX7_wayOdds 17 = .ok (.getfield 16, 3) := by decide +kernel
theorem dX7_wayOdds_20 : decode cX7_wayOdds 20 = .ok (.bipush 24, 2) := by decide +kernel
theorem dX7_wayOdds_22 : decode cX7_wayOdds 22 = .ok (.iload_n 2, 1) := by decide +kernel
theorem dX7_wayOdds_23 : decode cX7_wayOdds 23 = .ok (.imul, 1) := by decide +kernel
theorem dX7_wayOdds_24 : decode cX7_wayOdds 24 = .ok (.iload_n 3, 1) := by decide +kernel
theorem dX7_wayOdds_25 : decode cX7_wayOdds 25 = .ok (.iadd, 1) := by decide +kernel
theorem dX7_wayOdds_26 : decode cX7_wayOdds 26 = .ok (.iload 8, 2) := by decide +kernel
theorem dX7_wayOdds_28 : decode cX7_wayOdds 28 = .ok (.iadd, 1) := by decide +kernel
theorem dX7_wayOdds_29 : decode cX7_wayOdds 29 = .ok (.laload, 1) := by decide +kernel
theorem dX7_wayOdds_30 : decode cX7_wayOdds 30 = .ok (.lstore 9, 2) := by decide +kernel
theorem dX7_wayOdds_32 : decode cX7_wayOdds 32 = .ok (.lload 9, 2) := by decide +kernel
theorem dX7_wayOdds_34 : decode cX7_wayOdds 34 = .ok (.lconst 0, 1) := by decide +kernel
theorem dX7_wayOdds_35 : decode cX7_wayOdds 35 = .ok (.lcmp, 1) := by decide +kernel
theorem dX7_wayOdds_36 : decode cX7_wayOdds 36 = .ok (.ifCond .lt 16, 3) := by decide +kernel
theorem dX7_wayOdds_39 : decode cX7_wayOdds 39 = .ok (.lload 9, 2) := by decide +kernel
theorem dX7_wayOdds_41 : decode cX7_wayOdds 41 = .ok (.ldc2_w 173, 3) := by decide +kernel
theorem dX7_wayOdds_44 : decode cX7_wayOdds 44 = .ok (.lcmp, 1) := by decide +kernel
theorem dX7_wayOdds_45 : decode cX7_wayOdds 45 = .ok (.ifCond .gt 7, 3) := by decide +kernel
theorem dX7_wayOdds_48 : decode cX7_wayOdds 48 = .ok (.iconst 1, 1) := by decide +kernel
theorem dX7_wayOdds_49 : decode cX7_wayOdds 49 = .ok (.goto 4, 3) := by decide +kernel
theorem dX7_wayOdds_52 : decode cX7_wayOdds 52 = .ok (.iconst 0, 1) := by decide +kernel
theorem dX7_wayOdds_53 : decode cX7_wayOdds 53 = .ok (.istore 11, 2) := by decide +kernel
theorem dX7_wayOdds_55 : decode cX7_wayOdds 55 = .ok (.aload_n 0, 1) := by decide +kernel
theorem dX7_wayOdds_56 : decode cX7_wayOdds 56 = .ok (.getfield 23, 3) := by decide +kernel
theorem dX7_wayOdds_59 : decode cX7_wayOdds 59 = .ok (.iload 7, 2) := by decide +kernel
theorem dX7_wayOdds_61 : decode cX7_wayOdds 61 = .ok (.invokestatic 53, 3) := by decide +kernel
theorem dX7_wayOdds_64 : decode cX7_wayOdds 64 = .ok (.istore 12, 2) := by decide +kernel
theorem dX7_wayOdds_66 : decode cX7_wayOdds 66 = .ok (.aload_n 0, 1) := by decide +kernel
theorem dX7_wayOdds_67 : decode cX7_wayOdds 67 = .ok (.getfield 23, 3) := by decide +kernel
theorem dX7_wayOdds_70 : decode cX7_wayOdds 70 = .ok (.iload 7, 2) := by decide +kernel
theorem dX7_wayOdds_72 : decode cX7_wayOdds 72 = .ok (.invokestatic 57, 3) := by decide +kernel
theorem dX7_wayOdds_75 : decode cX7_wayOdds 75 = .ok (.istore 13, 2) := by decide +kernel
theorem dX7_wayOdds_77 : decode cX7_wayOdds 77 = .ok (.lload 5, 2) := by decide +kernel
theorem dX7_wayOdds_79 : decode cX7_wayOdds 79 = .ok (.lload 9, 2) := by decide +kernel
theorem dX7_wayOdds_81 : decode cX7_wayOdds 81 = .ok (.iload 7, 2) := by decide +kernel
theorem dX7_wayOdds_83 : decode cX7_wayOdds 83 = .ok (.iconst 1, 1) := by decide +kernel
theorem dX7_wayOdds_84 : decode cX7_wayOdds 84 = .ok (.iadd, 1) := by decide +kernel
theorem dX7_wayOdds_85 : decode cX7_wayOdds 85 = .ok (.i2l, 1) := by decide +kernel
theorem dX7_wayOdds_86 : decode cX7_wayOdds 86 = .ok (.lcmp, 1) := by decide +kernel
theorem dX7_wayOdds_87 : decode cX7_wayOdds 87 = .ok (.ifCond .ne 9, 3) := by decide +kernel
theorem dX7_wayOdds_90 : decode cX7_wayOdds 90 = .ok (.iload 12, 2) := by decide +kernel
theorem dX7_wayOdds_92 : decode cX7_wayOdds 92 = .ok (.i2l, 1) := by decide +kernel
theorem dX7_wayOdds_93 : decode cX7_wayOdds 93 = .ok (.goto 42, 3) := by decide +kernel
theorem dX7_wayOdds_96 : decode cX7_wayOdds 96 = .ok (.lload 9, 2) := by decide +kernel
theorem dX7_wayOdds_98 : decode cX7_wayOdds 98 = .ok (.iload 7, 2) := by decide +kernel
theorem dX7_wayOdds_100 : decode cX7_wayOdds 100 = .ok (.iconst 1, 1) := by decide +kernel
theorem dX7_wayOdds_101 : decode cX7_wayOdds 101 = .ok (.isub, 1) := by decide +kernel
theorem dX7_wayOdds_102 : decode cX7_wayOdds 102 = .ok (.i2l, 1) := by decide +kernel
theorem dX7_wayOdds_103 : decode cX7_wayOdds 103 = .ok (.lcmp, 1) := by decide +kernel
theorem dX7_wayOdds_104 : decode cX7_wayOdds 104 = .ok (.ifCond .ne 9, 3) := by decide +kernel
theorem dX7_wayOdds_107 : decode cX7_wayOdds 107 = .ok (.iload 13, 2) := by decide +kernel
theorem dX7_wayOdds_109 : decode cX7_wayOdds 109 = .ok (.i2l, 1) := by decide +kernel
theorem dX7_wayOdds_110 : decode cX7_wayOdds 110 = .ok (.goto 25, 3) := by decide +kernel
theorem dX7_wayOdds_113 : decode cX7_wayOdds 113 = .ok (.lload 9, 2) := by decide +kernel
theorem dX7_wayOdds_115 : decode cX7_wayOdds 115 = .ok (.iload 7, 2) := by decide +kernel
theorem dX7_wayOdds_117 : decode cX7_wayOdds 117 = .ok (.i2l, 1) := by decide +kernel
theorem dX7_wayOdds_118 : decode cX7_wayOdds 118 = .ok (.lcmp, 1) := by decide +kernel
theorem dX7_wayOdds_119 : decode cX7_wayOdds 119 = .ok (.ifCond .ne 15, 3) := by decide +kernel
theorem dX7_wayOdds_122 : decode cX7_wayOdds 122 = .ok (.bipush 10, 2) := by decide +kernel
theorem dX7_wayOdds_124 : decode cX7_wayOdds 124 = .ok (.iload 12, 2) := by decide +kernel
theorem dX7_wayOdds_126 : decode cX7_wayOdds 126 = .ok (.isub, 1) := by decide +kernel
theorem dX7_wayOdds_127 : decode cX7_wayOdds 127 = .ok (.iload 13, 2) := by decide +kernel
theorem dX7_wayOdds_129 : decode cX7_wayOdds 129 = .ok (.isub, 1) := by decide +kernel
theorem dX7_wayOdds_130 : decode cX7_wayOdds 130 = .ok (.i2l, 1) := by decide +kernel
theorem dX7_wayOdds_131 : decode cX7_wayOdds 131 = .ok (.goto 4, 3) := by decide +kernel
theorem dX7_wayOdds_134 : decode cX7_wayOdds 134 = .ok (.lconst 0, 1) := by decide +kernel
theorem dX7_wayOdds_135 : decode cX7_wayOdds 135 = .ok (.lmul, 1) := by decide +kernel
theorem dX7_wayOdds_136 : decode cX7_wayOdds 136 = .ok (.lstore 5, 2) := by decide +kernel
theorem dX7_wayOdds_138 : decode cX7_wayOdds 138 = .ok (.iload 11, 2) := by decide +kernel
theorem dX7_wayOdds_140 : decode cX7_wayOdds 140 = .ok (.ifCond .eq 9, 3) := by decide +kernel
theorem dX7_wayOdds_143 : decode cX7_wayOdds 143 = .ok (.lload 9, 2) := by decide +kernel
theorem dX7_wayOdds_145 : decode cX7_wayOdds 145 = .ok (.l2i, 1) := by decide +kernel
theorem dX7_wayOdds_146 : decode cX7_wayOdds 146 = .ok (.goto 5, 3) := by decide +kernel
theorem dX7_wayOdds_149 : decode cX7_wayOdds 149 = .ok (.iload 7, 2) := by decide +kernel
theorem dX7_wayOdds_151 : decode cX7_wayOdds 151 = .ok (.istore 7, 2) := by decide +kernel
theorem dX7_wayOdds_153 : decode cX7_wayOdds 153 = .ok (.iload 11, 2) := by decide +kernel
theorem dX7_wayOdds_155 : decode cX7_wayOdds 155 = .ok (.ifCond .eq 8, 3) := by decide +kernel
theorem dX7_wayOdds_158 : decode cX7_wayOdds 158 = .ok (.lload 5, 2) := by decide +kernel
theorem dX7_wayOdds_160 : decode cX7_wayOdds 160 = .ok (.goto 4, 3) := by decide +kernel
theorem dX7_wayOdds_163 : decode cX7_wayOdds 163 = .ok (.lconst 0, 1) := by decide +kernel
theorem dX7_wayOdds_164 : decode cX7_wayOdds 164 = .ok (.lstore 5, 2) := by decide +kernel
theorem dX7_wayOdds_166 : decode cX7_wayOdds 166 = .ok (.iinc 8 1, 3) := by decide +kernel
theorem dX7_wayOdds_169 : decode cX7_wayOdds 169 = .ok (.goto (-160), 3) := by decide +kernel
theorem dX7_wayOdds_172 : decode cX7_wayOdds 172 = .ok (.lload 5, 2) := by decide +kernel
theorem dX7_wayOdds_174 : decode cX7_wayOdds 174 = .ok (.lreturn, 1) := by decide +kernel
set_option maxRecDepth 20000 in
theorem ggX7_seen_X7_isSheet : GoodIn wsX7_seen wsX7_isSheet := goodIn_r _ [6, 7, 8, 5, 9] (by decide +kernel) (by decide +kernel)
set_option maxRecDepth 20000 in
theorem gX7_seen_X7_isSheet : GoodIn wsX7_seen (va_wsS RX7 175 yX7_isSheet wsX7_isSheet) := goodIn_app (goodIn_of _ (by decide +kernel)) ggX7_seen_X7_isSheet
set_option maxRecDepth 20000 in
theorem ggX7_seen_X7_in : GoodIn wsX7_seen wsX7_in := goodIn_r _ [9] (by decide +kernel) (by decide +kernel)
set_option maxRecDepth 20000 in
theorem gX7_seen_X7_in : GoodIn wsX7_seen (va_wsS RX7 41 yX7_in wsX7_in) := goodIn_app (goodIn_of _ (by decide +kernel)) ggX7_seen_X7_in
set_option maxRecDepth 20000 in
theorem ggX7_seen_X7_wrong : GoodIn wsX7_seen wsX7_wrong := goodIn_r _ [13, 14, 15, 16, 17, 5, 18, 34, 35, 36, 37, 38, 39, 40, 41, 42, 43, 44, 45, 46, 47, 48, 49, 50, 51, 52] (by decide +kernel) (by decide +kernel)
set_option maxRecDepth 20000 in
theorem gX7_seen_X7_wrong : GoodIn wsX7_seen (wsV RX7 178 RX7 yX7_wrong wsX7_wrong) := goodIn_app (goodIn_of _ (by decide +kernel)) ggX7_seen_X7_wrong
set_option maxRecDepth 20000 in
theorem ggX7_seen_X7_wayOdds : GoodIn wsX7_seen wsX7_wayOdds := goodIn_r _ [22, 23, 24, 2, 25, 26, 5, 27, 28, 29, 30, 34, 35, 36, 37, 38, 39, 40, 41, 42, 43, 44, 45, 46, 47, 48, 49, 50, 51, 52] (by decide +kernel) (by decide +kernel)
set_option maxRecDepth 20000 in
theorem gX7_seen_X7_wayOdds : GoodIn wsX7_seen (wsV RX7 182 RX7 yX7_wayOdds wsX7_wayOdds) := goodIn_app (goodIn_of _ (by decide +kernel)) ggX7_seen_X7_wayOdds
set_option maxRecDepth 20000 in
theorem ggX7_seen_X7_part : GoodIn wsX7_seen wsX7_part := goodIn_r _ [33] (by decide +kernel) (by decide +kernel)
set_option maxRecDepth 20000 in
theorem gX7_seen_X7_part : GoodIn wsX7_seen (va_wsS RX7 137 yX7_part wsX7_part) := goodIn_app (goodIn_of _ (by decide +kernel)) ggX7_seen_X7_part
theorem dX7_seen_0 : decode cX7_seen 0 = .ok (.iload_n 1, 1) := by decide +kernel
theorem dX7_seen_1 : decode cX7_seen 1 = .ok (.invokestatic 175, 3) := by decide +kernel
theorem dX7_seen_4 : decode cX7_seen 4 = .ok (.ifCond .eq 33, 3) := by decide +kernel
theorem dX7_seen_7 : decode cX7_seen 7 = .ok (.iload_n 2, 1) := by decide +kernel
theorem dX7_seen_8 : decode cX7_seen 8 = .ok (.iconst 0, 1) := by decide +kernel
theorem dX7_seen_9 : decode cX7_seen 9 = .ok (.iconst 3, 1) := by decide +kernel
theorem dX7_seen_10 : decode cX7_seen 10 = .ok (.invokestatic 41, 3) := by decide +kernel
theorem dX7_seen_13 : decode cX7_seen 13 = .ok (.ifCond .eq 24, 3) := by decide +kernel
theorem dX7_seen_16 : decode cX7_seen 16 = .ok (.iload 4, 2) := by decide +kernel
theorem dX7_seen_18 : decode cX7_seen 18 = .ok (.iconst 1, 1) := by decide +kernel
theorem dX7_seen_19 : decode cX7_seen 19 = .ok (.bipush 8, 2) := by decide +kernel
theorem dX7_seen_21 : decode cX7_seen 21 = .ok (.invokestatic 41, 3) := by decide +kernel
theorem dX7_seen_24 : decode cX7_seen 24 = .ok (.ifCond .eq 13, 3) := by decide +kernel
theorem dX7_seen_27 : decode cX7_seen 27 = .ok (.iload 5, 2) := by decide +kernel
theorem dX7_seen_29 : decode cX7_seen 29 = .ok (.iconst 0, 1) := by decide +kernel
theorem dX7_seen_30 : decode cX7_seen 30 = .ok (.iconst 2, 1) := by decide +kernel
theorem dX7_seen_31 : decode cX7_seen 31 = .ok (.invokestatic 41, 3) := by decide +kernel
theorem dX7_seen_34 : decode cX7_seen 34 = .ok (.ifCond .ne 5, 3) := by decide +kernel
theorem dX7_seen_37 : decode cX7_seen 37 = .ok (.iconst (-1), 1) := by decide +kernel
theorem dX7_seen_38 : decode cX7_seen 38 = .ok (.ireturn, 1) := by decide +kernel
theorem dX7_seen_39 : decode cX7_seen 39 = .ok (.aload_n 0, 1) := by decide +kernel
theorem dX7_seen_40 : decode cX7_seen 40 = .ok (.iload_n 1, 1) := by decide +kernel
theorem dX7_seen_41 : decode cX7_seen 41 = .ok (.iload_n 2, 1) := by decide +kernel
theorem dX7_seen_42 : decode cX7_seen 42 = .ok (.iload_n 3, 1) := by decide +kernel
theorem dX7_seen_43 : decode cX7_seen 43 = .ok (.iload 4, 2) := by decide +kernel
theorem dX7_seen_45 : decode cX7_seen 45 = .ok (.invokevirtual 178, 3) := by decide +kernel
theorem dX7_seen_48 : decode cX7_seen 48 = .ok (.istore 6, 2) := by decide +kernel
theorem dX7_seen_50 : decode cX7_seen 50 = .ok (.iload 6, 2) := by decide +kernel
theorem dX7_seen_52 : decode cX7_seen 52 = .ok (.ifCond .eq 6, 3) := by decide +kernel
theorem dX7_seen_55 : decode cX7_seen 55 = .ok (.iload 6, 2) := by decide +kernel
theorem dX7_seen_57 : decode cX7_seen 57 = .ok (.ireturn, 1) := by decide +kernel
theorem dX7_seen_58 : decode cX7_seen 58 = .ok (.iload 5, 2) := by decide +kernel
theorem dX7_seen_60 : decode cX7_seen 60 = .ok (.iconst 2, 1) := by decide +kernel
theorem dX7_seen_61 : decode cX7_seen 61 = .ok (.if_icmp .ge 53, 3) := by decide +kernel
theorem dX7_seen_64 : decode cX7_seen 64 = .ok (.lconst 1, 1) := by decide +kernel
theorem dX7_seen_65 : decode cX7_seen 65 = .ok (.lstore 7, 2) := by decide +kernel
theorem dX7_seen_67 : decode cX7_seen 67 = .ok (.iconst 0, 1) := by decide +kernel
theorem dX7_seen_68 : decode cX7_seen 68 = .ok (.istore 9, 2) := by decide +kernel
theorem dX7_seen_70 : decode cX7_seen 70 = .ok (.iload 9, 2) := by decide +kernel
theorem dX7_seen_72 : decode cX7_seen 72 = .ok (.iload 4, 2) := by decide +kernel
theorem dX7_seen_74 : decode cX7_seen 74 = .ok (.if_icmp .ge 17, 3) := by decide +kernel
theorem dX7_seen_77 : decode cX7_seen 77 = .ok (.lload 7, 2) := by decide +kernel
theorem dX7_seen_79 : decode cX7_seen 79 = .ok (.ldc2_w 125, 3) := by decide +kernel
theorem dX7_seen_82 : decode cX7_seen 82 = .ok (.lmul, 1) := by decide +kernel
theorem dX7_seen_83 : decode cX7_seen 83 = .ok (.lstore 7, 2) := by decide +kernel
theorem dX7_seen_85 : decode cX7_seen 85 = .ok (.iinc 9 1, 3) := by decide +kernel
theorem dX7_seen_88 : decode cX7_seen 88 = .ok (.goto (-18), 3) := by decide +kernel
theorem dX7_seen_91 : decode cX7_seen 91 = .ok (.aload_n 0, 1) := by decide +kernel
theorem dX7_seen_92 : decode cX7_seen 92 = .ok (.aload_n 0, 1) := by decide +kernel
theorem dX7_seen_93 : decode cX7_seen 93 = .ok (.getfield 23, 3) := by decide +kernel
theorem dX7_seen_96 : decode cX7_seen 96 = .ok (.iconst 2, 1) := by decide +kernel
theorem dX7_seen_97 : decode cX7_seen 97 = .ok (.iaload, 1) := by decide +kernel
theorem dX7_seen_98 : decode cX7_seen 98 = .ok (.iload_n 1, 1) := by decide +kernel
theorem dX7_seen_99 : decode cX7_seen 99 = .ok (.iload_n 3, 1) := by decide +kernel
theorem dX7_seen_100 : decode cX7_seen 100 = .ok (.iload 4, 2) := by decide +kernel
theorem dX7_seen_102 : decode cX7_seen 102 = .ok (.invokevirtual 182, 3) := by decide +kernel
theorem dX7_seen_105 : decode cX7_seen 105 = .ok (.lload 7, 2) := by decide +kernel
theorem dX7_seen_107 : decode cX7_seen 107 = .ok (.iload 5, 2) := by decide +kernel
theorem dX7_seen_109 : decode cX7_seen 109 = .ok (.invokestatic 137, 3) := by decide +kernel
theorem dX7_seen_112 : decode cX7_seen 112 = .ok (.l2i, 1) := by decide +kernel
theorem dX7_seen_113 : decode cX7_seen 113 = .ok (.ireturn, 1) := by decide +kernel
theorem dX7_seen_114 : decode cX7_seen 114 = .ok (.iconst 0, 1) := by decide +kernel
theorem dX7_seen_115 : decode cX7_seen 115 = .ok (.istore 7, 2) := by decide +kernel
theorem dX7_seen_117 : decode cX7_seen 117 = .ok (.iconst 0, 1) := by decide +kernel
theorem dX7_seen_118 : decode cX7_seen 118 = .ok (.istore 8, 2) := by decide +kernel
theorem dX7_seen_120 : decode cX7_seen 120 = .ok (.iload 8, 2) := by decide +kernel
theorem dX7_seen_122 : decode cX7_seen 122 = .ok (.bipush 7, 2) := by decide +kernel
theorem dX7_seen_124 : decode cX7_seen 124 = .ok (.if_icmp .ge 37, 3) := by decide +kernel
theorem dX7_seen_127 : decode cX7_seen 127 = .ok (.iload 7, 2) := by decide +kernel
theorem dX7_seen_129 : decode cX7_seen 129 = .ok (.aload_n 0, 1) := by decide +kernel
theorem dX7_seen_130 : decode cX7_seen 130 = .ok (.iload 8, 2) := by decide +kernel
theorem dX7_seen_132 : decode cX7_seen 132 = .ok (.iload_n 1, 1) := by decide +kernel
theorem dX7_seen_133 : decode cX7_seen 133 = .ok (.iload_n 3, 1) := by decide +kernel
theorem dX7_seen_134 : decode cX7_seen 134 = .ok (.iload 4, 2) := by decide +kernel
theorem dX7_seen_136 : decode cX7_seen 136 = .ok (.invokevirtual 182, 3) := by decide +kernel
theorem dX7_seen_139 : decode cX7_seen 139 = .ok (.lconst 0, 1) := by decide +kernel
theorem dX7_seen_140 : decode cX7_seen 140 = .ok (.lcmp, 1) := by decide +kernel
theorem dX7_seen_141 : decode cX7_seen 141 = .ok (.ifCond .le 10, 3) := by decide +kernel
theorem dX7_seen_144 : decode cX7_seen 144 = .ok (.iconst 1, 1) := by decide +kernel
theorem dX7_seen_145 : decode cX7_seen 145 = .ok (.iload 8, 2) := by decide +kernel
theorem dX7_seen_147 : decode cX7_seen 147 = .ok (.ishl, 1) := by decide +kernel
theorem dX7_seen_148 : decode cX7_seen 148 = .ok (.goto 4, 3) := by decide +kernel
theorem dX7_seen_151 : decode cX7_seen 151 = .ok (.iconst 0, 1) := by decide +kernel
theorem dX7_seen_152 : decode cX7_seen 152 = .ok (.ior, 1) := by decide +kernel
theorem dX7_seen_153 : decode cX7_seen 153 = .ok (.istore 7, 2) := by decide +kernel
theorem dX7_seen_155 : decode cX7_seen 155 = .ok (.iinc 8 1, 3) := by decide +kernel
theorem dX7_seen_158 : decode cX7_seen 158 = .ok (.goto (-38), 3) := by decide +kernel
theorem dX7_seen_161 : decode cX7_seen 161 = .ok (.iload 7, 2) := by decide +kernel
theorem dX7_seen_163 : decode cX7_seen 163 = .ok (.ireturn, 1) := by decide +kernel
set_option maxRecDepth 20000 in
theorem ggX7_isBorne_X7_dayIn : GoodIn wsX7_isBorne wsX7_dayIn := goodIn_r _ [6, 7, 8, 9, 10, 11, 12, 5, 13, 14, 15, 16] (by decide +kernel) (by decide +kernel)
set_option maxRecDepth 20000 in
theorem gX7_isBorne_X7_dayIn : GoodIn wsX7_isBorne (va_wsS RX7 121 yX7_dayIn wsX7_dayIn) := goodIn_app (goodIn_of _ (by decide +kernel)) ggX7_isBorne_X7_dayIn
theorem dX7_isBorne_0 : decode cX7_isBorne 0 = .ok (.iconst 1, 1) := by decide +kernel
theorem dX7_isBorne_1 : decode cX7_isBorne 1 = .ok (.istore 4, 2) := by decide +kernel
theorem dX7_isBorne_3 : decode cX7_isBorne 3 = .ok (.iconst 0, 1) := by decide +kernel
theorem dX7_isBorne_4 : decode cX7_isBorne 4 = .ok (.istore 5, 2) := by decide +kernel
theorem dX7_isBorne_6 : decode cX7_isBorne 6 = .ok (.iload 5, 2) := by decide +kernel
theorem dX7_isBorne_8 : decode cX7_isBorne 8 = .ok (.iload_n 3, 1) := by decide +kernel
theorem dX7_isBorne_9 : decode cX7_isBorne 9 = .ok (.if_icmp .ge 53, 3) := by decide +kernel
theorem dX7_isBorne_12 : decode cX7_isBorne 12 = .ok (.aload_n 0, 1) := by decide +kernel
theorem dX7_isBorne_13 : decode cX7_isBorne 13 = .ok (.getfield 26, 3) := by decide +kernel
theorem dX7_isBorne_16 : decode cX7_isBorne 16 = .ok (.invokestatic 121, 3) := by decide +kernel
theorem dX7_isBorne_19 : decode cX7_isBorne 19 = .ok (.iload 4, 2) := by decide +kernel
theorem dX7_isBorne_21 : decode cX7_isBorne 21 = .ok (.ifCond .eq 32, 3) := by decide +kernel
theorem dX7_isBorne_24 : decode cX7_isBorne 24 = .ok (.aload_n 0, 1) := by decide +kernel
theorem dX7_isBorne_25 : decode cX7_isBorne 25 = .ok (.getfield 26, 3) := by decide +kernel
theorem dX7_isBorne_28 : decode cX7_isBorne 28 = .ok (.iconst 2, 1) := by decide +kernel
theorem dX7_isBorne_29 : decode cX7_isBorne 29 = .ok (.iaload, 1) := by decide +kernel
theorem dX7_isBorne_30 : decode cX7_isBorne 30 = .ok (.i2l, 1) := by decide +kernel
theorem dX7_isBorne_31 : decode cX7_isBorne 31 = .ok (.aload_n 0, 1) := by decide +kernel
theorem dX7_isBorne_32 : decode cX7_isBorne 32 = .ok (.getfield 16, 3) := by decide +kernel
theorem dX7_isBorne_35 : decode cX7_isBorne 35 = .ok (.bipush 24, 2) := by decide +kernel
theorem dX7_isBorne_37 : decode cX7_isBorne 37 = .ok (.iload_n 1, 1) := by decide +kernel
theorem dX7_isBorne_38 : decode cX7_isBorne 38 = .ok (.imul, 1) := by decide +kernel
theorem dX7_isBorne_39 : decode cX7_isBorne 39 = .ok (.iload_n 2, 1) := by decide +kernel
theorem dX7_isBorne_40 : decode cX7_isBorne 40 = .ok (.iadd, 1) := by decide +kernel
theorem dX7_isBorne_41 : decode cX7_isBorne 41 = .ok (.iload 5, 2) := by decide +kernel
theorem dX7_isBorne_43 : decode cX7_isBorne 43 = .ok (.iadd, 1) := by decide +kernel
theorem dX7_isBorne_44 : decode cX7_isBorne 44 = .ok (.laload, 1) := by decide +kernel
theorem dX7_isBorne_45 : decode cX7_isBorne 45 = .ok (.lcmp, 1) := by decide +kernel
theorem dX7_isBorne_46 : decode cX7_isBorne 46 = .ok (.ifCond .ne 7, 3) := by decide +kernel
theorem dX7_isBorne_49 : decode cX7_isBorne 49 = .ok (.iconst 1, 1) := by decide +kernel
theorem dX7_isBorne_50 : decode cX7_isBorne 50 = .ok (.goto 4, 3) := by decide +kernel
theorem dX7_isBorne_53 : decode cX7_isBorne 53 = .ok (.iconst 0, 1) := by decide +kernel
theorem dX7_isBorne_54 : decode cX7_isBorne 54 = .ok (.istore 4, 2) := by decide +kernel
theorem dX7_isBorne_56 : decode cX7_isBorne 56 = .ok (.iinc 5 1, 3) := by decide +kernel
theorem dX7_isBorne_59 : decode cX7_isBorne 59 = .ok (.goto (-53), 3) := by decide +kernel
theorem dX7_isBorne_62 : decode cX7_isBorne 62 = .ok (.iload 4, 2) := by decide +kernel
theorem dX7_isBorne_64 : decode cX7_isBorne 64 = .ok (.ireturn, 1) := by decide +kernel
set_option maxRecDepth 20000 in
theorem ggX7_bore_X7_isField : GoodIn wsX7_bore wsX7_isField := goodIn_r _ [5, 6, 7, 4, 8] (by decide +kernel) (by decide +kernel)
set_option maxRecDepth 20000 in
theorem gX7_bore_X7_isField : GoodIn wsX7_bore (va_wsS RX7 45 yX7_isField wsX7_isField) := goodIn_app (goodIn_of _ (by decide +kernel)) ggX7_bore_X7_isField
set_option maxRecDepth 20000 in
theorem ggX7_bore_X7_isSheet : GoodIn wsX7_bore wsX7_isSheet := goodIn_r _ [11, 6, 7, 4, 8] (by decide +kernel) (by decide +kernel)
set_option maxRecDepth 20000 in
theorem gX7_bore_X7_isSheet : GoodIn wsX7_bore (va_wsS RX7 175 yX7_isSheet wsX7_isSheet) := goodIn_app (goodIn_of _ (by decide +kernel)) ggX7_bore_X7_isSheet
set_option maxRecDepth 20000 in
theorem ggX7_bore_X7_in : GoodIn wsX7_bore wsX7_in := goodIn_r _ [8] (by decide +kernel) (by decide +kernel)
set_option maxRecDepth 20000 in
theorem gX7_bore_X7_in : GoodIn wsX7_bore (va_wsS RX7 41 yX7_in wsX7_in) := goodIn_app (goodIn_of _ (by decide +kernel)) ggX7_bore_X7_in
set_option maxRecDepth 20000 in
theorem ggX7_bore_X7_wrong : GoodIn wsX7_bore wsX7_wrong := goodIn_r _ [15, 16, 17, 18, 19, 4, 20, 47, 48, 49, 50, 51, 52, 53, 54, 55, 56, 57, 58, 59, 60, 61, 62, 63, 64, 65] (by decide +kernel) (by decide +kernel)
set_option maxRecDepth 20000 in
theorem gX7_bore_X7_wrong : GoodIn wsX7_bore (wsV RX7 178 RX7 yX7_wrong wsX7_wrong) := goodIn_app (goodIn_of _ (by decide +kernel)) ggX7_bore_X7_wrong
set_option maxRecDepth 20000 in
theorem ggX7_bore_X7_begin : GoodIn wsX7_bore wsX7_begin := goodIn_r _ [24, 25, 1, 26, 27, 4, 28, 47, 48, 49, 50, 51, 52, 53, 54, 55, 56, 57, 58, 59, 60, 61, 62, 63, 64, 65] (by decide +kernel) (by decide +kernel)
set_option maxRecDepth 20000 in
theorem gX7_bore_X7_begin : GoodIn wsX7_bore (wsV RX7 157 RX7 yX7_begin wsX7_begin) := goodIn_app (goodIn_of _ (by decide +kernel)) ggX7_bore_X7_begin
set_option maxRecDepth 20000 in
theorem ggX7_bore_X7_isBorne : GoodIn wsX7_bore wsX7_isBorne := goodIn_r _ [32, 1, 33, 34, 35, 4, 36, 37, 38, 39, 40, 41, 42, 43, 44, 45, 46, 47, 48, 49, 50, 51, 52, 53, 54, 55, 56, 57, 58, 59, 60, 61, 62, 63, 64, 65] (by decide +kernel) (by decide +kernel)
set_option maxRecDepth 20000 in
theorem gX7_bore_X7_isBorne : GoodIn wsX7_bore (wsV RX7 186 RX7 yX7_isBorne wsX7_isBorne) := goodIn_app (goodIn_of _ (by decide +kernel)) ggX7_bore_X7_isBorne
theorem dX7_bore_0 : decode cX7_bore 0 = .ok (.iload_n 1, 1) := by decide +kernel
theorem dX7_bore_1 : decode cX7_bore 1 = .ok (.invokestatic 45, 3) := by decide +kernel
theorem dX7_bore_4 : decode cX7_bore 4 = .ok (.ifCond .eq 40, 3) := by decide +kernel
theorem dX7_bore_7 : decode cX7_bore 7 = .ok (.iload_n 2, 1) := by decide +kernel
theorem dX7_bore_8 : decode cX7_bore 8 = .ok (.invokestatic 175, 3) := by decide +kernel
theorem dX7_bore_11 : decode cX7_bore 11 = .ok (.ifCond .eq 33, 3) := by decide +kernel
theorem dX7_bore_14 : decode cX7_bore 14 = .ok (.iload_n 3, 1) := by decide +kernel
theorem dX7_bore_15 : decode cX7_bore 15 = .ok (.iconst 0, 1) := by decide +kernel
theorem dX7_bore_16 : decode cX7_bore 16 = .ok (.iconst 3, 1) := by decide +kernel
theorem dX7_bore_17 : decode cX7_bore 17 = .ok (.invokestatic 41, 3) := by decide +kernel
theorem dX7_bore_20 : decode cX7_bore 20 = .ok (.ifCond .eq 24, 3) := by decide +kernel
theorem dX7_bore_23 : decode cX7_bore 23 = .ok (.iload 5, 2) := by decide +kernel
theorem dX7_bore_25 : decode cX7_bore 25 = .ok (.iconst 1, 1) := by decide +kernel
theorem dX7_bore_26 : decode cX7_bore 26 = .ok (.bipush 8, 2) := by decide +kernel
theorem dX7_bore_28 : decode cX7_bore 28 = .ok (.invokestatic 41, 3) := by decide +kernel
theorem dX7_bore_31 : decode cX7_bore 31 = .ok (.ifCond .eq 13, 3) := by decide +kernel
theorem dX7_bore_34 : decode cX7_bore 34 = .ok (.iload 6, 2) := by decide +kernel
theorem dX7_bore_36 : decode cX7_bore 36 = .ok (.iconst 0, 1) := by decide +kernel
theorem dX7_bore_37 : decode cX7_bore 37 = .ok (.iconst 1, 1) := by decide +kernel
theorem dX7_bore_38 : decode cX7_bore 38 = .ok (.invokestatic 41, 3) := by decide +kernel
theorem dX7_bore_41 : decode cX7_bore 41 = .ok (.ifCond .ne 5, 3) := by decide +kernel
theorem dX7_bore_44 : decode cX7_bore 44 = .ok (.iconst (-1), 1) := by decide +kernel
theorem dX7_bore_45 : decode cX7_bore 45 = .ok (.ireturn, 1) := by decide +kernel
theorem dX7_bore_46 : decode cX7_bore 46 = .ok (.aload_n 0, 1) := by decide +kernel
theorem dX7_bore_47 : decode cX7_bore 47 = .ok (.iload_n 2, 1) := by decide +kernel
theorem dX7_bore_48 : decode cX7_bore 48 = .ok (.iload_n 3, 1) := by decide +kernel
theorem dX7_bore_49 : decode cX7_bore 49 = .ok (.iload 4, 2) := by decide +kernel
theorem dX7_bore_51 : decode cX7_bore 51 = .ok (.iload 5, 2) := by decide +kernel
theorem dX7_bore_53 : decode cX7_bore 53 = .ok (.invokevirtual 178, 3) := by decide +kernel
theorem dX7_bore_56 : decode cX7_bore 56 = .ok (.istore 7, 2) := by decide +kernel
theorem dX7_bore_58 : decode cX7_bore 58 = .ok (.iload 7, 2) := by decide +kernel
theorem dX7_bore_60 : decode cX7_bore 60 = .ok (.ifCond .eq 6, 3) := by decide +kernel
theorem dX7_bore_63 : decode cX7_bore 63 = .ok (.iload 7, 2) := by decide +kernel
theorem dX7_bore_65 : decode cX7_bore 65 = .ok (.ireturn, 1) := by decide +kernel
theorem dX7_bore_66 : decode cX7_bore 66 = .ok (.iconst 0, 1) := by decide +kernel
theorem dX7_bore_67 : decode cX7_bore 67 = .ok (.istore 8, 2) := by decide +kernel
theorem dX7_bore_69 : decode cX7_bore 69 = .ok (.iconst 0, 1) := by decide +kernel
theorem dX7_bore_70 : decode cX7_bore 70 = .ok (.istore 9, 2) := by decide +kernel
theorem dX7_bore_72 : decode cX7_bore 72 = .ok (.iload 9, 2) := by decide +kernel
theorem dX7_bore_74 : decode cX7_bore 74 = .ok (.iload 6, 2) := by decide +kernel
theorem dX7_bore_76 : decode cX7_bore 76 = .ok (.ifCond .ne 7, 3) := by decide +kernel
theorem dX7_bore_79 : decode cX7_bore 79 = .ok (.iconst 4, 1) := by decide +kernel
theorem dX7_bore_80 : decode cX7_bore 80 = .ok (.goto 5, 3) := by decide +kernel
theorem dX7_bore_83 : decode cX7_bore 83 = .ok (.bipush 9, 2) := by decide +kernel
theorem dX7_bore_85 : decode cX7_bore 85 = .ok (.if_icmp .gt 58, 3) := by decide +kernel
theorem dX7_bore_88 : decode cX7_bore 88 = .ok (.aload_n 0, 1) := by decide +kernel
theorem dX7_bore_89 : decode cX7_bore 89 = .ok (.invokevirtual 157, 3) := by decide +kernel
theorem dX7_bore_92 : decode cX7_bore 92 = .ok (.aload_n 0, 1) := by decide +kernel
theorem dX7_bore_93 : decode cX7_bore 93 = .ok (.getfield 26, 3) := by decide +kernel
theorem dX7_bore_96 : decode cX7_bore 96 = .ok (.iload 6, 2) := by decide +kernel
theorem dX7_bore_98 : decode cX7_bore 98 = .ok (.ifCond .ne 8, 3) := by decide +kernel
theorem dX7_bore_101 : decode cX7_bore 101 = .ok (.bipush 17, 2) := by decide +kernel
theorem dX7_bore_103 : decode cX7_bore 103 = .ok (.goto 4, 3) := by decide +kernel
theorem dX7_bore_106 : decode cX7_bore 106 = .ok (.iconst 3, 1) := by decide +kernel
theorem dX7_bore_107 : decode cX7_bore 107 = .ok (.iload_n 1, 1) := by decide +kernel
theorem dX7_bore_108 : decode cX7_bore 108 = .ok (.iadd, 1) := by decide +kernel
theorem dX7_bore_109 : decode cX7_bore 109 = .ok (.iload 9, 2) := by decide +kernel
theorem dX7_bore_111 : decode cX7_bore 111 = .ok (.iastore, 1) := by decide +kernel
theorem dX7_bore_112 : decode cX7_bore 112 = .ok (.iload 8, 2) := by decide +kernel
theorem dX7_bore_114 : decode cX7_bore 114 = .ok (.aload_n 0, 1) := by decide +kernel
theorem dX7_bore_115 : decode cX7_bore 115 = .ok (.iload_n 2, 1) := by decide +kernel
theorem dX7_bore_116 : decode cX7_bore 116 = .ok (.iload 4, 2) := by decide +kernel
theorem dX7_bore_118 : decode cX7_bore 118 = .ok (.iload 5, 2) := by decide +kernel
theorem dX7_bore_120 : decode cX7_bore 120 = .ok (.invokevirtual 186, 3) := by decide +kernel
theorem dX7_bore_123 : decode cX7_bore 123 = .ok (.ifCond .eq 10, 3) := by decide +kernel
theorem dX7_bore_126 : decode cX7_bore 126 = .ok (.iconst 1, 1) := by decide +kernel
theorem dX7_bore_127 : decode cX7_bore 127 = .ok (.iload 9, 2) := by decide +kernel
theorem dX7_bore_129 : decode cX7_bore 129 = .ok (.ishl, 1) := by decide +kernel
theorem dX7_bore_130 : decode cX7_bore 130 = .ok (.goto 4, 3) := by decide +kernel
theorem dX7_bore_133 : decode cX7_bore 133 = .ok (.iconst 0, 1) := by decide +kernel
theorem dX7_bore_134 : decode cX7_bore 134 = .ok (.ior, 1) := by decide +kernel
theorem dX7_bore_135 : decode cX7_bore 135 = .ok (.istore 8, 2) := by decide +kernel
theorem dX7_bore_137 : decode cX7_bore 137 = .ok (.iinc 9 1, 3) := by decide +kernel
theorem dX7_bore_140 : decode cX7_bore 140 = .ok (.goto (-68), 3) := by decide +kernel
theorem dX7_bore_143 : decode cX7_bore 143 = .ok (.iload 8, 2) := by decide +kernel
theorem dX7_bore_145 : decode cX7_bore 145 = .ok (.ireturn, 1) := by decide +kernel
theorem dX7_cutTo_0 : decode cX7_cutTo 0 = .ok (.iload_n 0, 1) := by decide +kernel
theorem dX7_cutTo_1 : decode cX7_cutTo 1 = .ok (.ifCond .ne 10, 3) := by decide +kernel
theorem dX7_cutTo_4 : decode cX7_cutTo 4 = .ok (.lload_n 1, 1) := by decide +kernel
theorem dX7_cutTo_5 : decode cX7_cutTo 5 = .ok (.l2i, 1) := by decide +kernel
theorem dX7_cutTo_6 : decode cX7_cutTo 6 = .ok (.i2b, 1) := by decide +kernel
theorem dX7_cutTo_7 : decode cX7_cutTo 7 = .ok (.i2l, 1) := by decide +kernel
theorem dX7_cutTo_8 : decode cX7_cutTo 8 = .ok (.goto 27, 3) := by decide +kernel
theorem dX7_cutTo_11 : decode cX7_cutTo 11 = .ok (.iload_n 0, 1) := by decide +kernel
theorem dX7_cutTo_12 : decode cX7_cutTo 12 = .ok (.iconst 1, 1) := by decide +kernel
theorem dX7_cutTo_13 : decode cX7_cutTo 13 = .ok (.if_icmp .ne 10, 3) := by decide +kernel
theorem dX7_cutTo_16 : decode cX7_cutTo 16 = .ok (.lload_n 1, 1) := by decide +kernel
theorem dX7_cutTo_17 : decode cX7_cutTo 17 = .ok (.l2i, 1) := by decide +kernel
theorem dX7_cutTo_18 : decode cX7_cutTo 18 = .ok (.i2s, 1) := by decide +kernel
theorem dX7_cutTo_19 : decode cX7_cutTo 19 = .ok (.i2l, 1) := by decide +kernel
theorem dX7_cutTo_20 : decode cX7_cutTo 20 = .ok (.goto 15, 3) := by decide +kernel
theorem dX7_cutTo_23 : decode cX7_cutTo 23 = .ok (.iload_n 0, 1) := by decide +kernel
theorem dX7_cutTo_24 : decode cX7_cutTo 24 = .ok (.iconst 2, 1) := by decide +kernel
theorem dX7_cutTo_25 : decode cX7_cutTo 25 = .ok (.if_icmp .ne 9, 3) := by decide +kernel
theorem dX7_cutTo_28 : decode cX7_cutTo 28 = .ok (.lload_n 1, 1) := by decide +kernel
theorem dX7_cutTo_29 : decode cX7_cutTo 29 = .ok (.l2i, 1) := by decide +kernel
theorem dX7_cutTo_30 : decode cX7_cutTo 30 = .ok (.i2l, 1) := by decide +kernel
theorem dX7_cutTo_31 : decode cX7_cutTo 31 = .ok (.goto 4, 3) := by decide +kernel
theorem dX7_cutTo_34 : decode cX7_cutTo 34 = .ok (.lload_n 1, 1) := by decide +kernel
theorem dX7_cutTo_35 : decode cX7_cutTo 35 = .ok (.lreturn, 1) := by decide +kernel
set_option maxRecDepth 20000 in
theorem ggX7_film_X7_in : GoodIn wsX7_film wsX7_in := goodIn_r _ [6] (by decide +kernel) (by decide +kernel)
set_option maxRecDepth 20000 in
theorem gX7_film_X7_in : GoodIn wsX7_film (va_wsS RX7 41 yX7_in wsX7_in) := goodIn_app (goodIn_of _ (by decide +kernel)) ggX7_film_X7_in
set_option maxRecDepth 20000 in
theorem ggX7_film_X7_isSheet : GoodIn wsX7_film wsX7_isSheet := goodIn_r _ [9, 3, 4, 5, 6] (by decide +kernel) (by decide +kernel)
set_option maxRecDepth 20000 in
theorem gX7_film_X7_isSheet : GoodIn wsX7_film (va_wsS RX7 175 yX7_isSheet wsX7_isSheet) := goodIn_app (goodIn_of _ (by decide +kernel)) ggX7_film_X7_isSheet
set_option maxRecDepth 20000 in
theorem ggX7_film_X7_wrong : GoodIn wsX7_film wsX7_wrong := goodIn_r _ [13, 14, 15, 16, 17, 5, 18, 43, 44, 45, 46, 47, 48, 49, 50, 51, 52, 53, 54, 55, 56, 57, 58, 59, 60, 61] (by decide +kernel) (by decide +kernel)
set_option maxRecDepth 20000 in
theorem gX7_film_X7_wrong : GoodIn wsX7_film (wsV RX7 178 RX7 yX7_wrong wsX7_wrong) := goodIn_app (goodIn_of _ (by decide +kernel)) ggX7_film_X7_wrong
set_option maxRecDepth 20000 in
theorem ggX7_film_X7_begin : GoodIn wsX7_film wsX7_begin := goodIn_r _ [22, 23, 1, 24, 25, 5, 26, 43, 44, 45, 46, 47, 48, 49, 50, 51, 52, 53, 54, 55, 56, 57, 58, 59, 60, 61] (by decide +kernel) (by decide +kernel)
set_option maxRecDepth 20000 in
theorem gX7_film_X7_begin : GoodIn wsX7_film (wsV RX7 157 RX7 yX7_begin wsX7_begin) := goodIn_app (goodIn_of _ (by decide +kernel)) ggX7_film_X7_begin
set_option maxRecDepth 20000 in
theorem ggX7_film_X7_dayIn : GoodIn wsX7_film wsX7_dayIn := goodIn_r _ [29, 30, 31, 32, 33, 34, 35, 5, 36, 37, 38, 39] (by decide +kernel) (by decide +kernel)
set_option maxRecDepth 20000 in
theorem gX7_film_X7_dayIn : GoodIn wsX7_film (va_wsS RX7 121 yX7_dayIn wsX7_dayIn) := goodIn_app (goodIn_of _ (by decide +kernel)) ggX7_film_X7_dayIn
set_option maxRecDepth 20000 in
theorem ggX7_film_X7_cutTo : GoodIn wsX7_film wsX7_cutTo := goodIn_r _ [42] (by decide +kernel) (by decide +kernel)
set_option maxRecDepth 20000 in
theorem gX7_film_X7_cutTo : GoodIn wsX7_film (va_wsS RX7 189 yX7_cutTo wsX7_cutTo) := goodIn_app (goodIn_of _ (by decide +kernel)) ggX7_film_X7_cutTo
theorem dX7_film_0 : decode cX7_film 0 = .ok (.iload_n 1, 1) := by decide +kernel
theorem dX7_film_1 : decode cX7_film 1 = .ok (.iconst 1, 1) := by decide +kernel
theorem dX7_film_2 : decode cX7_film 2 = .ok (.bipush 24, 2) := by decide +kernel
theorem dX7_film_4 : decode cX7_film 4 = .ok (.invokestatic 41, 3) := by decide +kernel
theorem dX7_film_7 : decode cX7_film 7 = .ok (.ifCond .eq 19, 3) := by decide +kernel
theorem dX7_film_10 : decode cX7_film 10 = .ok (.iload_n 2, 1) := by decide +kernel
theorem dX7_film_11 : decode cX7_film 11 = .ok (.invokestatic 175, 3) := by decide +kernel
theorem dX7_film_14 : decode cX7_film 14 = .ok (.ifCond .eq 12, 3) := by decide +kernel
theorem dX7_film_17 : decode cX7_film 17 = .ok (.iload_n 3, 1) := by decide +kernel
theorem dX7_film_18 : decode cX7_film 18 = .ok (.iconst 0, 1) := by decide +kernel
theorem dX7_film_19 : decode cX7_film 19 = .ok (.iconst 3, 1) := by decide +kernel
theorem dX7_film_20 : decode cX7_film 20 = .ok (.invokestatic 41, 3) := by decide +kernel
theorem dX7_film_23 : decode cX7_film 23 = .ok (.ifCond .ne 5, 3) := by decide +kernel
theorem dX7_film_26 : decode cX7_film 26 = .ok (.iconst (-1), 1) := by decide +kernel
theorem dX7_film_27 : decode cX7_film 27 = .ok (.ireturn, 1) := by decide +kernel
theorem dX7_film_28 : decode cX7_film 28 = .ok (.aload_n 0, 1) := by decide +kernel
theorem dX7_film_29 : decode cX7_film 29 = .ok (.iload_n 2, 1) := by decide +kernel
theorem dX7_film_30 : decode cX7_film 30 = .ok (.iload_n 3, 1) := by decide +kernel
theorem dX7_film_31 : decode cX7_film 31 = .ok (.iload 4, 2) := by decide +kernel
theorem dX7_film_33 : decode cX7_film 33 = .ok (.iload_n 1, 1) := by decide +kernel
theorem dX7_film_34 : decode cX7_film 34 = .ok (.invokevirtual 178, 3) := by decide +kernel
theorem dX7_film_37 : decode cX7_film 37 = .ok (.istore 5, 2) := by decide +kernel
theorem dX7_film_39 : decode cX7_film 39 = .ok (.iload 5, 2) := by decide +kernel
theorem dX7_film_41 : decode cX7_film 41 = .ok (.ifCond .eq 6, 3) := by decide +kernel
theorem dX7_film_44 : decode cX7_film 44 = .ok (.iload 5, 2) := by decide +kernel
theorem dX7_film_46 : decode cX7_film 46 = .ok (.ireturn, 1) := by decide +kernel
theorem dX7_film_47 : decode cX7_film 47 = .ok (.aload_n 0, 1) := by decide +kernel
theorem dX7_film_48 : decode cX7_film 48 = .ok (.invokevirtual 157, 3) := by decide +kernel
theorem dX7_film_51 : decode cX7_film 51 = .ok (.iconst 0, 1) := by decide +kernel
theorem dX7_film_52 : decode cX7_film 52 = .ok (.istore 6, 2) := by decide +kernel
theorem dX7_film_54 : decode cX7_film 54 = .ok (.iload 6, 2) := by decide +kernel
theorem dX7_film_56 : decode cX7_film 56 = .ok (.iload_n 1, 1) := by decide +kernel
theorem dX7_film_57 : decode cX7_film 57 = .ok (.if_icmp .ge 42, 3) := by decide +kernel
theorem dX7_film_60 : decode cX7_film 60 = .ok (.aload_n 0, 1) := by decide +kernel
theorem dX7_film_61 : decode cX7_film 61 = .ok (.getfield 26, 3) := by decide +kernel
theorem dX7_film_64 : decode cX7_film 64 = .ok (.invokestatic 121, 3) := by decide +kernel
theorem dX7_film_67 : decode cX7_film 67 = .ok (.aload_n 0, 1) := by decide +kernel
theorem dX7_film_68 : decode cX7_film 68 = .ok (.getfield 16, 3) := by decide +kernel
theorem dX7_film_71 : decode cX7_film 71 = .ok (.bipush 24, 2) := by decide +kernel
theorem dX7_film_73 : decode cX7_film 73 = .ok (.iload_n 2, 1) := by decide +kernel
theorem dX7_film_74 : decode cX7_film 74 = .ok (.imul, 1) := by decide +kernel
theorem dX7_film_75 : decode cX7_film 75 = .ok (.iload 4, 2) := by decide +kernel
theorem dX7_film_77 : decode cX7_film 77 = .ok (.iadd, 1) := by decide +kernel
theorem dX7_film_78 : decode cX7_film 78 = .ok (.iload 6, 2) := by decide +kernel
theorem dX7_film_80 : decode cX7_film 80 = .ok (.iadd, 1) := by decide +kernel
theorem dX7_film_81 : decode cX7_film 81 = .ok (.iload_n 3, 1) := by decide +kernel
theorem dX7_film_82 : decode cX7_film 82 = .ok (.aload_n 0, 1) := by decide +kernel
theorem dX7_film_83 : decode cX7_film 83 = .ok (.getfield 26, 3) := by decide +kernel
theorem dX7_film_86 : decode cX7_film 86 = .ok (.iconst 2, 1) := by decide +kernel
theorem dX7_film_87 : decode cX7_film 87 = .ok (.iaload, 1) := by decide +kernel
theorem dX7_film_88 : decode cX7_film 88 = .ok (.i2l, 1) := by decide +kernel
theorem dX7_film_89 : decode cX7_film 89 = .ok (.invokestatic 189, 3) := by decide +kernel
theorem dX7_film_92 : decode cX7_film 92 = .ok (.lastore, 1) := by decide +kernel
theorem dX7_film_93 : decode cX7_film 93 = .ok (.iinc 6 1, 3) := by decide +kernel
theorem dX7_film_96 : decode cX7_film 96 = .ok (.goto (-42), 3) := by decide +kernel
theorem dX7_film_99 : decode cX7_film 99 = .ok (.iload_n 1, 1) := by decide +kernel
theorem dX7_film_100 : decode cX7_film 100 = .ok (.ireturn, 1) := by decide +kernel
set_option maxRecDepth 20000 in
theorem ggX7_sheet_X7_isSheet : GoodIn wsX7_sheet wsX7_isSheet := goodIn_r _ [7, 8, 9, 6, 10] (by decide +kernel) (by decide +kernel)
set_option maxRecDepth 20000 in
theorem gX7_sheet_X7_isSheet : GoodIn wsX7_sheet (va_wsS RX7 175 yX7_isSheet wsX7_isSheet) := goodIn_app (goodIn_of _ (by decide +kernel)) ggX7_sheet_X7_isSheet
set_option maxRecDepth 20000 in
theorem ggX7_sheet_X7_in : GoodIn wsX7_sheet wsX7_in := goodIn_r _ [10] (by decide +kernel) (by decide +kernel)
set_option maxRecDepth 20000 in
theorem gX7_sheet_X7_in : GoodIn wsX7_sheet (va_wsS RX7 41 yX7_in wsX7_in) := goodIn_app (goodIn_of _ (by decide +kernel)) ggX7_sheet_X7_in
theorem dX7_sheet_0 : decode cX7_sheet 0 = .ok (.iload_n 1, 1) := by decide +kernel
theorem dX7_sheet_1 : decode cX7_sheet 1 = .ok (.invokestatic 175, 3) := by decide +kernel
theorem dX7_sheet_4 : decode cX7_sheet 4 = .ok (.ifCond .eq 18, 3) := by decide +kernel
theorem dX7_sheet_7 : decode cX7_sheet 7 = .ok (.iload_n 2, 1) := by decide +kernel
theorem dX7_sheet_8 : decode cX7_sheet 8 = .ok (.iconst 0, 1) := by decide +kernel
theorem dX7_sheet_9 : decode cX7_sheet 9 = .ok (.iconst 3, 1) := by decide +kernel
theorem dX7_sheet_10 : decode cX7_sheet 10 = .ok (.invokestatic 41, 3) := by decide +kernel
theorem dX7_sheet_13 : decode cX7_sheet 13 = .ok (.ifCond .eq 9, 3) := by decide +kernel
theorem dX7_sheet_16 : decode cX7_sheet 16 = .ok (.iload_n 3, 1) := by decide +kernel
theorem dX7_sheet_17 : decode cX7_sheet 17 = .ok (.bipush 24, 2) := by decide +kernel
theorem dX7_sheet_19 : decode cX7_sheet 19 = .ok (.if_icmp .le 5, 3) := by decide +kernel
theorem dX7_sheet_22 : decode cX7_sheet 22 = .ok (.iconst (-1), 1) := by decide +kernel
theorem dX7_sheet_23 : decode cX7_sheet 23 = .ok (.ireturn, 1) := by decide +kernel
theorem dX7_sheet_24 : decode cX7_sheet 24 = .ok (.iload_n 3, 1) := by decide +kernel
theorem dX7_sheet_25 : decode cX7_sheet 25 = .ok (.ifCond .ge 6, 3) := by decide +kernel
theorem dX7_sheet_28 : decode cX7_sheet 28 = .ok (.bipush (-14), 2) := by decide +kernel
theorem dX7_sheet_30 : decode cX7_sheet 30 = .ok (.ireturn, 1) := by decide +kernel
theorem dX7_sheet_31 : decode cX7_sheet 31 = .ok (.aload_n 0, 1) := by decide +kernel
theorem dX7_sheet_32 : decode cX7_sheet 32 = .ok (.getfield 7, 3) := by decide +kernel
theorem dX7_sheet_35 : decode cX7_sheet 35 = .ok (.iload_n 1, 1) := by decide +kernel
theorem dX7_sheet_36 : decode cX7_sheet 36 = .ok (.iload_n 2, 1) := by decide +kernel
theorem dX7_sheet_37 : decode cX7_sheet 37 = .ok (.iastore, 1) := by decide +kernel
theorem dX7_sheet_38 : decode cX7_sheet 38 = .ok (.aload_n 0, 1) := by decide +kernel
theorem dX7_sheet_39 : decode cX7_sheet 39 = .ok (.getfield 13, 3) := by decide +kernel
theorem dX7_sheet_42 : decode cX7_sheet 42 = .ok (.iload_n 1, 1) := by decide +kernel
theorem dX7_sheet_43 : decode cX7_sheet 43 = .ok (.iload_n 3, 1) := by decide +kernel
theorem dX7_sheet_44 : decode cX7_sheet 44 = .ok (.iastore, 1) := by decide +kernel
theorem dX7_sheet_45 : decode cX7_sheet 45 = .ok (.iconst 0, 1) := by decide +kernel
theorem dX7_sheet_46 : decode cX7_sheet 46 = .ok (.istore 4, 2) := by decide +kernel
theorem dX7_sheet_48 : decode cX7_sheet 48 = .ok (.iload 4, 2) := by decide +kernel
theorem dX7_sheet_50 : decode cX7_sheet 50 = .ok (.bipush 24, 2) := by decide +kernel
theorem dX7_sheet_52 : decode cX7_sheet 52 = .ok (.if_icmp .ge 22, 3) := by decide +kernel
theorem dX7_sheet_55 : decode cX7_sheet 55 = .ok (.aload_n 0, 1) := by decide +kernel
theorem dX7_sheet_56 : decode cX7_sheet 56 = .ok (.getfield 16, 3) := by decide +kernel
theorem dX7_sheet_59 : decode cX7_sheet 59 = .ok (.bipush 24, 2) := by decide +kernel
theorem dX7_sheet_61 : decode cX7_sheet 61 = .ok (.iload_n 1, 1) := by decide +kernel
theorem dX7_sheet_62 : decode cX7_sheet 62 = .ok (.imul, 1) := by decide +kernel
theorem dX7_sheet_63 : decode cX7_sheet 63 = .ok (.iload 4, 2) := by decide +kernel
theorem dX7_sheet_65 : decode cX7_sheet 65 = .ok (.iadd, 1) := by decide +kernel
theorem dX7_sheet_66 : decode cX7_sheet 66 = .ok (.lconst 0, 1) := by decide +kernel
theorem dX7_sheet_67 : decode cX7_sheet 67 = .ok (.lastore, 1) := by decide +kernel
theorem dX7_sheet_68 : decode cX7_sheet 68 = .ok (.iinc 4 1, 3) := by decide +kernel
theorem dX7_sheet_71 : decode cX7_sheet 71 = .ok (.goto (-23), 3) := by decide +kernel
theorem dX7_sheet_74 : decode cX7_sheet 74 = .ok (.iload_n 3, 1) := by decide +kernel
theorem dX7_sheet_75 : decode cX7_sheet 75 = .ok (.ireturn, 1) := by decide +kernel
set_option maxRecDepth 20000 in
theorem ggX7_drop_X7_isSheet : GoodIn wsX7_drop wsX7_isSheet := goodIn_r _ [6, 7, 8, 5, 9] (by decide +kernel) (by decide +kernel)
set_option maxRecDepth 20000 in
theorem gX7_drop_X7_isSheet : GoodIn wsX7_drop (va_wsS RX7 175 yX7_isSheet wsX7_isSheet) := goodIn_app (goodIn_of _ (by decide +kernel)) ggX7_drop_X7_isSheet
theorem dX7_drop_0 : decode cX7_drop 0 = .ok (.iload_n 1, 1) := by decide +kernel
theorem dX7_drop_1 : decode cX7_drop 1 = .ok (.invokestatic 175, 3) := by decide +kernel
theorem dX7_drop_4 : decode cX7_drop 4 = .ok (.ifCond .ne 5, 3) := by decide +kernel
theorem dX7_drop_7 : decode cX7_drop 7 = .ok (.iconst (-1), 1) := by decide +kernel
theorem dX7_drop_8 : decode cX7_drop 8 = .ok (.ireturn, 1) := by decide +kernel
theorem dX7_drop_9 : decode cX7_drop 9 = .ok (.aload_n 0, 1) := by decide +kernel
theorem dX7_drop_10 : decode cX7_drop 10 = .ok (.getfield 7, 3) := by decide +kernel
theorem dX7_drop_13 : decode cX7_drop 13 = .ok (.iload_n 1, 1) := by decide +kernel
theorem dX7_drop_14 : decode cX7_drop 14 = .ok (.iaload, 1) := by decide +kernel
theorem dX7_drop_15 : decode cX7_drop 15 = .ok (.ifCond .ge 6, 3) := by decide +kernel
theorem dX7_drop_18 : decode cX7_drop 18 = .ok (.bipush (-11), 2) := by decide +kernel
theorem dX7_drop_20 : decode cX7_drop 20 = .ok (.ireturn, 1) := by decide +kernel
theorem dX7_drop_21 : decode cX7_drop 21 = .ok (.aload_n 0, 1) := by decide +kernel
theorem dX7_drop_22 : decode cX7_drop 22 = .ok (.getfield 7, 3) := by decide +kernel
theorem dX7_drop_25 : decode cX7_drop 25 = .ok (.iload_n 1, 1) := by decide +kernel
theorem dX7_drop_26 : decode cX7_drop 26 = .ok (.iconst (-1), 1) := by decide +kernel
theorem dX7_drop_27 : decode cX7_drop 27 = .ok (.iastore, 1) := by decide +kernel
theorem dX7_drop_28 : decode cX7_drop 28 = .ok (.aload_n 0, 1) := by decide +kernel
theorem dX7_drop_29 : decode cX7_drop 29 = .ok (.getfield 13, 3) := by decide +kernel
theorem dX7_drop_32 : decode cX7_drop 32 = .ok (.iload_n 1, 1) := by decide +kernel
theorem dX7_drop_33 : decode cX7_drop 33 = .ok (.iaload, 1) := by decide +kernel
theorem dX7_drop_34 : decode cX7_drop 34 = .ok (.ireturn, 1) := by decide +kernel
set_option maxRecDepth 20000 in
theorem ggX7_item_X7_isSheet : GoodIn wsX7_item wsX7_isSheet := goodIn_r _ [5, 6, 7, 4, 8] (by decide +kernel) (by decide +kernel)
set_option maxRecDepth 20000 in
theorem gX7_item_X7_isSheet : GoodIn wsX7_item (va_wsS RX7 175 yX7_isSheet wsX7_isSheet) := goodIn_app (goodIn_of _ (by decide +kernel)) ggX7_item_X7_isSheet
set_option maxRecDepth 20000 in
theorem ggX7_item_X7_in : GoodIn wsX7_item wsX7_in := goodIn_r _ [8] (by decide +kernel) (by decide +kernel)
set_option maxRecDepth 20000 in
theorem gX7_item_X7_in : GoodIn wsX7_item (va_wsS RX7 41 yX7_in wsX7_in) := goodIn_app (goodIn_of _ (by decide +kernel)) ggX7_item_X7_in
set_option maxRecDepth 20000 in
theorem ggX7_item_X7_wrong : GoodIn wsX7_item wsX7_wrong := goodIn_r _ [12, 13, 14, 15, 16, 4, 17, 18, 19, 20, 21, 22, 23, 24, 25, 26, 27, 28, 29, 30, 31, 32, 33, 34, 35, 36] (by decide +kernel) (by decide +kernel)
set_option maxRecDepth 20000 in
theorem gX7_item_X7_wrong : GoodIn wsX7_item (wsV RX7 178 RX7 yX7_wrong wsX7_wrong) := goodIn_app (goodIn_of _ (by decide +kernel)) ggX7_item_X7_wrong
theorem dX7_item_0 : decode cX7_item 0 = .ok (.iload_n 1, 1) := by decide +kernel
theorem dX7_item_1 : decode cX7_item 1 = .ok (.invokestatic 175, 3) := by decide +kernel
theorem dX7_item_4 : decode cX7_item 4 = .ok (.ifCond .eq 12, 3) := by decide +kernel
theorem dX7_item_7 : decode cX7_item 7 = .ok (.iload_n 2, 1) := by decide +kernel
theorem dX7_item_8 : decode cX7_item 8 = .ok (.iconst 0, 1) := by decide +kernel
theorem dX7_item_9 : decode cX7_item 9 = .ok (.iconst 3, 1) := by decide +kernel
theorem dX7_item_10 : decode cX7_item 10 = .ok (.invokestatic 41, 3) := by decide +kernel
theorem dX7_item_13 : decode cX7_item 13 = .ok (.ifCond .ne 5, 3) := by decide +kernel
theorem dX7_item_16 : decode cX7_item 16 = .ok (.iconst (-1), 1) := by decide +kernel
theorem dX7_item_17 : decode cX7_item 17 = .ok (.ireturn, 1) := by decide +kernel
theorem dX7_item_18 : decode cX7_item 18 = .ok (.aload_n 0, 1) := by decide +kernel
theorem dX7_item_19 : decode cX7_item 19 = .ok (.iload_n 1, 1) := by decide +kernel
theorem dX7_item_20 : decode cX7_item 20 = .ok (.iload_n 2, 1) := by decide +kernel
theorem dX7_item_21 : decode cX7_item 21 = .ok (.iload_n 3, 1) := by decide +kernel
theorem dX7_item_22 : decode cX7_item 22 = .ok (.iconst 1, 1) := by decide +kernel
theorem dX7_item_23 : decode cX7_item 23 = .ok (.invokevirtual 178, 3) := by decide +kernel
theorem dX7_item_26 : decode cX7_item 26 = .ok (.istore 6, 2) := by decide +kernel
theorem dX7_item_28 : decode cX7_item 28 = .ok (.iload 6, 2) := by decide +kernel
theorem dX7_item_30 : decode cX7_item 30 = .ok (.ifCond .eq 6, 3) := by decide +kernel
theorem dX7_item_33 : decode cX7_item 33 = .ok (.iload 6, 2) := by decide +kernel
theorem dX7_item_35 : decode cX7_item 35 = .ok (.ireturn, 1) := by decide +kernel
theorem dX7_item_36 : decode cX7_item 36 = .ok (.aload_n 0, 1) := by decide +kernel
theorem dX7_item_37 : decode cX7_item 37 = .ok (.getfield 16, 3) := by decide +kernel
theorem dX7_item_40 : decode cX7_item 40 = .ok (.bipush 24, 2) := by decide +kernel
theorem dX7_item_42 : decode cX7_item 42 = .ok (.iload_n 1, 1) := by decide +kernel
theorem dX7_item_43 : decode cX7_item 43 = .ok (.imul, 1) := by decide +kernel
theorem dX7_item_44 : decode cX7_item 44 = .ok (.iload_n 3, 1) := by decide +kernel
theorem dX7_item_45 : decode cX7_item 45 = .ok (.iadd, 1) := by decide +kernel
theorem dX7_item_46 : decode cX7_item 46 = .ok (.iload_n 2, 1) := by decide +kernel
theorem dX7_item_47 : decode cX7_item 47 = .ok (.ifCond .ne 11, 3) := by decide +kernel
theorem dX7_item_50 : decode cX7_item 50 = .ok (.lload 4, 2) := by decide +kernel
theorem dX7_item_52 : decode cX7_item 52 = .ok (.l2i, 1) := by decide +kernel
theorem dX7_item_53 : decode cX7_item 53 = .ok (.i2b, 1) := by decide +kernel
theorem dX7_item_54 : decode cX7_item 54 = .ok (.i2l, 1) := by decide +kernel
theorem dX7_item_55 : decode cX7_item 55 = .ok (.goto 30, 3) := by decide +kernel
theorem dX7_item_58 : decode cX7_item 58 = .ok (.iload_n 2, 1) := by decide +kernel
theorem dX7_item_59 : decode cX7_item 59 = .ok (.iconst 1, 1) := by decide +kernel
theorem dX7_item_60 : decode cX7_item 60 = .ok (.if_icmp .ne 11, 3) := by decide +kernel
theorem dX7_item_63 : decode cX7_item 63 = .ok (.lload 4, 2) := by decide +kernel
theorem dX7_item_65 : decode cX7_item 65 = .ok (.l2i, 1) := by decide +kernel
theorem dX7_item_66 : decode cX7_item 66 = .ok (.i2s, 1) := by decide +kernel
theorem dX7_item_67 : decode cX7_item 67 = .ok (.i2l, 1) := by decide +kernel
theorem dX7_item_68 : decode cX7_item 68 = .ok (.goto 17, 3) := by decide +kernel
theorem dX7_item_71 : decode cX7_item 71 = .ok (.iload_n 2, 1) := by decide +kernel
theorem dX7_item_72 : decode cX7_item 72 = .ok (.iconst 2, 1) := by decide +kernel
theorem dX7_item_73 : decode cX7_item 73 = .ok (.if_icmp .ne 10, 3) := by decide +kernel
theorem dX7_item_76 : decode cX7_item 76 = .ok (.lload 4, 2) := by decide +kernel
theorem dX7_item_78 : decode cX7_item 78 = .ok (.l2i, 1) := by decide +kernel
theorem dX7_item_79 : decode cX7_item 79 = .ok (.i2l, 1) := by decide +kernel
theorem dX7_item_80 : decode cX7_item 80 = .ok (.goto 5, 3) := by decide +kernel
theorem dX7_item_83 : decode cX7_item 83 = .ok (.lload 4, 2) := by decide +kernel
theorem dX7_item_85 : decode cX7_item 85 = .ok (.lastore, 1) := by decide +kernel
theorem dX7_item_86 : decode cX7_item 86 = .ok (.iconst 1, 1) := by decide +kernel
theorem dX7_item_87 : decode cX7_item 87 = .ok (.ireturn, 1) := by decide +kernel
set_option maxRecDepth 20000 in
theorem ggX7_copy_X7_isSheet : GoodIn wsX7_copy wsX7_isSheet := goodIn_r _ [7, 8, 9, 6, 10] (by decide +kernel) (by decide +kernel)
set_option maxRecDepth 20000 in
theorem gX7_copy_X7_isSheet : GoodIn wsX7_copy (va_wsS RX7 175 yX7_isSheet wsX7_isSheet) := goodIn_app (goodIn_of _ (by decide +kernel)) ggX7_copy_X7_isSheet
set_option maxRecDepth 20000 in
theorem ggX7_copy_X7_isPart : GoodIn wsX7_copy wsX7_isPart := goodIn_r _ [13] (by decide +kernel) (by decide +kernel)
set_option maxRecDepth 20000 in
theorem gX7_copy_X7_isPart : GoodIn wsX7_copy (va_wsS RX7 170 yX7_isPart wsX7_isPart) := goodIn_app (goodIn_of _ (by decide +kernel)) ggX7_copy_X7_isPart
theorem dX7_copy_0 : decode cX7_copy 0 = .ok (.iload_n 1, 1) := by decide +kernel
theorem dX7_copy_1 : decode cX7_copy 1 = .ok (.invokestatic 175, 3) := by decide +kernel
theorem dX7_copy_4 : decode cX7_copy 4 = .ok (.ifCond .eq 10, 3) := by decide +kernel
theorem dX7_copy_7 : decode cX7_copy 7 = .ok (.iload_n 3, 1) := by decide +kernel
theorem dX7_copy_8 : decode cX7_copy 8 = .ok (.invokestatic 175, 3) := by decide +kernel
theorem dX7_copy_11 : decode cX7_copy 11 = .ok (.ifCond .ne 5, 3) := by decide +kernel
theorem dX7_copy_14 : decode cX7_copy 14 = .ok (.iconst (-1), 1) := by decide +kernel
theorem dX7_copy_15 : decode cX7_copy 15 = .ok (.ireturn, 1) := by decide +kernel
theorem dX7_copy_16 : decode cX7_copy 16 = .ok (.aload_n 0, 1) := by decide +kernel
theorem dX7_copy_17 : decode cX7_copy 17 = .ok (.getfield 7, 3) := by decide +kernel
theorem dX7_copy_20 : decode cX7_copy 20 = .ok (.iload_n 1, 1) := by decide +kernel
theorem dX7_copy_21 : decode cX7_copy 21 = .ok (.iaload, 1) := by decide +kernel
theorem dX7_copy_22 : decode cX7_copy 22 = .ok (.ifCond .lt 12, 3) := by decide +kernel
theorem dX7_copy_25 : decode cX7_copy 25 = .ok (.aload_n 0, 1) := by decide +kernel
theorem dX7_copy_26 : decode cX7_copy 26 = .ok (.getfield 7, 3) := by decide +kernel
theorem dX7_copy_29 : decode cX7_copy 29 = .ok (.iload_n 3, 1) := by decide +kernel
theorem dX7_copy_30 : decode cX7_copy 30 = .ok (.iaload, 1) := by decide +kernel
theorem dX7_copy_31 : decode cX7_copy 31 = .ok (.ifCond .ge 6, 3) := by decide +kernel
theorem dX7_copy_34 : decode cX7_copy 34 = .ok (.bipush (-11), 2) := by decide +kernel
theorem dX7_copy_36 : decode cX7_copy 36 = .ok (.ireturn, 1) := by decide +kernel
theorem dX7_copy_37 : decode cX7_copy 37 = .ok (.aload_n 0, 1) := by decide +kernel
theorem dX7_copy_38 : decode cX7_copy 38 = .ok (.getfield 7, 3) := by decide +kernel
theorem dX7_copy_41 : decode cX7_copy 41 = .ok (.iload_n 1, 1) := by decide +kernel
theorem dX7_copy_42 : decode cX7_copy 42 = .ok (.iaload, 1) := by decide +kernel
theorem dX7_copy_43 : decode cX7_copy 43 = .ok (.aload_n 0, 1) := by decide +kernel
theorem dX7_copy_44 : decode cX7_copy 44 = .ok (.getfield 7, 3) := by decide +kernel
theorem dX7_copy_47 : decode cX7_copy 47 = .ok (.iload_n 3, 1) := by decide +kernel
theorem dX7_copy_48 : decode cX7_copy 48 = .ok (.iaload, 1) := by decide +kernel
theorem dX7_copy_49 : decode cX7_copy 49 = .ok (.if_icmp .eq 6, 3) := by decide +kernel
theorem dX7_copy_52 : decode cX7_copy 52 = .ok (.bipush (-12), 2) := by decide +kernel
theorem dX7_copy_54 : decode cX7_copy 54 = .ok (.ireturn, 1) := by decide +kernel
theorem dX7_copy_55 : decode cX7_copy 55 = .ok (.iload_n 2, 1) := by decide +kernel
theorem dX7_copy_56 : decode cX7_copy 56 = .ok (.iload 5, 2) := by decide +kernel
theorem dX7_copy_58 : decode cX7_copy 58 = .ok (.aload_n 0, 1) := by decide +kernel
theorem dX7_copy_59 : decode cX7_copy 59 = .ok (.getfield 13, 3) := by decide +kernel
theorem dX7_copy_62 : decode cX7_copy 62 = .ok (.iload_n 1, 1) := by decide +kernel
theorem dX7_copy_63 : decode cX7_copy 63 = .ok (.iaload, 1) := by decide +kernel
theorem dX7_copy_64 : decode cX7_copy 64 = .ok (.invokestatic 170, 3) := by decide +kernel
theorem dX7_copy_67 : decode cX7_copy 67 = .ok (.ifCond .eq 19, 3) := by decide +kernel
theorem dX7_copy_70 : decode cX7_copy 70 = .ok (.iload 4, 2) := by decide +kernel
theorem dX7_copy_72 : decode cX7_copy 72 = .ok (.iload 5, 2) := by decide +kernel
theorem dX7_copy_74 : decode cX7_copy 74 = .ok (.aload_n 0, 1) := by decide +kernel
theorem dX7_copy_75 : decode cX7_copy 75 = .ok (.getfield 13, 3) := by decide +kernel
theorem dX7_copy_78 : decode cX7_copy 78 = .ok (.iload_n 3, 1) := by decide +kernel
theorem dX7_copy_79 : decode cX7_copy 79 = .ok (.iaload, 1) := by decide +kernel
theorem dX7_copy_80 : decode cX7_copy 80 = .ok (.invokestatic 170, 3) := by decide +kernel
theorem dX7_copy_83 : decode cX7_copy 83 = .ok (.ifCond .ne 6, 3) := by decide +kernel
theorem dX7_copy_86 : decode cX7_copy 86 = .ok (.bipush (-13), 2) := by decide +kernel
theorem dX7_copy_88 : decode cX7_copy 88 = .ok (.ireturn, 1) := by decide +kernel
theorem dX7_copy_89 : decode cX7_copy 89 = .ok (.iload_n 1, 1) := by decide +kernel
theorem dX7_copy_90 : decode cX7_copy 90 = .ok (.iload_n 3, 1) := by decide +kernel
theorem dX7_copy_91 : decode cX7_copy 91 = .ok (.if_icmp .ne 13, 3) := by decide +kernel
theorem dX7_copy_94 : decode cX7_copy 94 = .ok (.iload 4, 2) := by decide +kernel
theorem dX7_copy_96 : decode cX7_copy 96 = .ok (.iload_n 2, 1) := by decide +kernel
theorem dX7_copy_97 : decode cX7_copy 97 = .ok (.if_icmp .le 7, 3) := by decide +kernel
theorem dX7_copy_100 : decode cX7_copy 100 = .ok (.iconst 1, 1) := by decide +kernel
theorem dX7_copy_101 : decode cX7_copy 101 = .ok (.goto 4, 3) := by decide +kernel
theorem dX7_copy_104 : decode cX7_copy 104 = .ok (.iconst 0, 1) := by decide +kernel
theorem dX7_copy_105 : decode cX7_copy 105 = .ok (.istore 6, 2) := by decide +kernel
theorem dX7_copy_107 : decode cX7_copy 107 = .ok (.iconst 0, 1) := by decide +kernel
theorem dX7_copy_108 : decode cX7_copy 108 = .ok (.istore 7, 2) := by decide +kernel
theorem dX7_copy_110 : decode cX7_copy 110 = .ok (.iload 7, 2) := by decide +kernel
theorem dX7_copy_112 : decode cX7_copy 112 = .ok (.iload 5, 2) := by decide +kernel
theorem dX7_copy_114 : decode cX7_copy 114 = .ok (.if_icmp .ge 57, 3) := by decide +kernel
theorem dX7_copy_117 : decode cX7_copy 117 = .ok (.iload 6, 2) := by decide +kernel
theorem dX7_copy_119 : decode cX7_copy 119 = .ok (.ifCond .eq 13, 3) := by decide +kernel
theorem dX7_copy_122 : decode cX7_copy 122 = .ok (.iload 5, 2) := by decide +kernel
theorem dX7_copy_124 : decode cX7_copy 124 = .ok (.iconst 1, 1) := by decide +kernel
theorem dX7_copy_125 : decode cX7_copy 125 = .ok (.isub, 1) := by decide +kernel
theorem dX7_copy_126 : decode cX7_copy 126 = .ok (.iload 7, 2) := by decide +kernel
theorem dX7_copy_128 : decode cX7_copy 128 = .ok (.isub, 1) := by decide +kernel
theorem dX7_copy_129 : decode cX7_copy 129 = .ok (.goto 5, 3) := by decide +kernel
theorem dX7_copy_132 : decode cX7_copy 132 = .ok (.iload 7, 2) := by decide +kernel
theorem dX7_copy_134 : decode cX7_copy 134 = .ok (.istore 8, 2) := by decide +kernel
theorem dX7_copy_136 : decode cX7_copy 136 = .ok (.aload_n 0, 1) := by decide +kernel
theorem dX7_copy_137 : decode cX7_copy 137 = .ok (.getfield 16, 3) := by decide +kernel
theorem dX7_copy_140 : decode cX7_copy 140 = .ok (.bipush 24, 2) := by decide +kernel
theorem dX7_copy_142 : decode cX7_copy 142 = .ok (.iload_n 3, 1) := by decide +kernel
theorem dX7_copy_143 : decode cX7_copy 143 = .ok (.imul, 1) := by decide +kernel
theorem dX7_copy_144 : decode cX7_copy 144 = .ok (.iload 4, 2) := by decide +kernel
theorem dX7_copy_146 : decode cX7_copy 146 = .ok (.iadd, 1) := by decide +kernel
theorem dX7_copy_147 : decode cX7_copy 147 = .ok (.iload 8, 2) := by decide +kernel
theorem dX7_copy_149 : decode cX7_copy 149 = .ok (.iadd, 1) := by decide +kernel
theorem dX7_copy_150 : decode cX7_copy 150 = .ok (.aload_n 0, 1) := by decide +kernel
theorem dX7_copy_151 : decode cX7_copy 151 = .ok (.getfield 16, 3) := by decide +kernel
theorem dX7_copy_154 : decode cX7_copy 154 = .ok (.bipush 24, 2) := by decide +kernel
theorem dX7_copy_156 : decode cX7_copy 156 = .ok (.iload_n 1, 1) := by decide +kernel
theorem dX7_copy_157 : decode cX7_copy 157 = .ok (.imul, 1) := by decide +kernel
theorem dX7_copy_158 : decode cX7_copy 158 = .ok (.iload_n 2, 1) := by decide +kernel
theorem dX7_copy_159 : decode cX7_copy 159 = .ok (.iadd, 1) := by decide +kernel
theorem dX7_copy_160 : decode cX7_copy 160 = .ok (.iload 8, 2) := by decide +kernel
theorem dX7_copy_162 : decode cX7_copy 162 = .ok (.iadd, 1) := by decide +kernel
theorem dX7_copy_163 : decode cX7_copy 163 = .ok (.laload, 1) := by decide +kernel
theorem dX7_copy_164 : decode cX7_copy 164 = .ok (.lastore, 1) := by decide +kernel
theorem dX7_copy_165 : decode cX7_copy 165 = .ok (.iinc 7 1, 3) := by decide +kernel
theorem dX7_copy_168 : decode cX7_copy 168 = .ok (.goto (-58), 3) := by decide +kernel
theorem dX7_copy_171 : decode cX7_copy 171 = .ok (.iload 5, 2) := by decide +kernel
theorem dX7_copy_173 : decode cX7_copy 173 = .ok (.ireturn, 1) := by decide +kernel
end
section
set_option maxRecDepth 20000 in
theorem ggL_law_X6_init : GoodIn wsL_law wsX6_init := goodIn_r _ [9, 10, 11, 12, 13, 14, 15, 16, 17, 18, 19, 20, 21, 22, 23, 24, 25, 26, 27, 28, 29, 30, 31, 32, 33, 34, 35, 36, 37, 38, 39, 40, 41, 42, 43, 44, 45, 46, 47, 48, 49, 50, 51, 52, 53, 54, 55, 56, 57, 58, 59, 60, 61, 62, 63, 64, 65, 66, 67, 68, 69, 70, 71, 72, 73, 74, 75, 76, 77, 78, 79, 80, 81, 82, 83, 84, 85, 86, 87, 88, 89, 90, 811, 812, 813, 814, 815, 816, 817, 818, 783, 784, 785, 786, 787, 788, 789, 790, 791, 819, 820, 821, 822, 823, 824, 825, 826, 827, 828, 829, 830, 831, 832, 833, 834, 835, 836, 837, 838, 839] (by decide +kernel) (by decide +kernel)
set_option maxRecDepth 20000 in
theorem gL_law_X6_init : GoodIn wsL_law (wsX6_init) := ggL_law_X6_init
set_option maxRecDepth 20000 in
theorem ggL_law_X7_init : GoodIn wsL_law wsX7_init := goodIn_r _ [93, 94, 11, 12, 41, 95, 96, 67, 97, 98, 99, 100, 101, 102, 103, 104, 792, 793, 794, 795, 796, 797, 798, 799, 800, 801, 802, 803, 804, 805, 806, 807, 808, 809, 810] (by decide +kernel) (by decide +kernel)
set_option maxRecDepth 20000 in
theorem gL_law_X7_init : GoodIn wsL_law (wsX7_init) := ggL_law_X7_init
set_option maxRecDepth 20000 in
theorem ggL_law_X6_field : GoodIn wsL_law wsX6_field := goodIn_r _ [108, 16, 109, 110, 111, 2, 112, 113, 114, 115, 116, 117, 118, 15, 119, 48, 783, 784, 785, 786, 787, 788, 789, 790, 791, 811, 812, 813, 814, 815, 816, 817, 818] (by decide +kernel) (by decide +kernel)
set_option maxRecDepth 20000 in
theorem gL_law_X6_field : GoodIn wsL_law (wsV RL 13 RX6 yX6_field wsX6_field) := goodIn_app (goodIn_of _ (by decide +kernel)) ggL_law_X6_field
set_option maxRecDepth 20000 in
theorem ggL_law_X7_field : GoodIn wsL_law wsX7_field := goodIn_r _ [123, 99, 124, 125, 5, 126, 127, 128, 129, 792, 793, 794, 795, 796, 797, 798, 799, 800, 801, 802, 803, 804, 805, 806, 807, 808, 809, 810] (by decide +kernel) (by decide +kernel)
set_option maxRecDepth 20000 in
theorem gL_law_X7_field : GoodIn wsL_law (wsV RL 17 RX7 yX7_field wsX7_field) := goodIn_app (goodIn_of _ (by decide +kernel)) ggL_law_X7_field
set_option maxRecDepth 20000 in
theorem ggL_law_X6_claim : GoodIn wsL_law wsX6_claim := goodIn_r _ [133, 16, 134, 110, 111, 2, 112, 113, 114, 115, 135, 136, 137, 15, 138, 49, 52, 50, 51, 116, 117, 118, 119, 48, 783, 784, 785, 786, 787, 788, 789, 790, 791, 811, 812, 813, 814, 815, 816, 817, 818] (by decide +kernel) (by decide +kernel)
set_option maxRecDepth 20000 in
theorem gL_law_X6_claim : GoodIn wsL_law (wsV RL 18 RX6 yX6_claim wsX6_claim) := goodIn_app (goodIn_of _ (by decide +kernel)) ggL_law_X6_claim
set_option maxRecDepth 20000 in
theorem ggL_law_X7_claim : GoodIn wsL_law wsX7_claim := goodIn_r _ [142, 99, 124, 125, 5, 126, 127, 128, 129, 143, 144, 145, 792, 793, 794, 795, 796, 797, 798, 799, 800, 801, 802, 803, 804, 805, 806, 807, 808, 809, 810] (by decide +kernel) (by decide +kernel)
set_option maxRecDepth 20000 in
theorem gL_law_X7_claim : GoodIn wsL_law (wsV RL 22 RX7 yX7_claim wsX7_claim) := goodIn_app (goodIn_of _ (by decide +kernel)) ggL_law_X7_claim
set_option maxRecDepth 20000 in
theorem ggL_law_X6_of : GoodIn wsL_law wsX6_of := goodIn_r _ [149, 16, 109, 150, 151, 152, 110, 111, 2, 112, 113, 114, 115, 153, 154, 155, 15, 156, 46, 157, 42, 158, 159, 160, 161, 162, 163, 164, 165, 166, 167, 168, 169, 170, 171, 172, 173, 174, 175, 176, 783, 784, 785, 786, 787, 788, 789, 790, 791, 811, 812, 813, 814, 815, 816, 817, 818, 835, 836, 837, 838, 839] (by decide +kernel) (by decide +kernel)
set_option maxRecDepth 20000 in
theorem gL_law_X6_of : GoodIn wsL_law (wsV RL 23 RX6 yX6_of wsX6_of) := goodIn_app (goodIn_of _ (by decide +kernel)) ggL_law_X6_of
set_option maxRecDepth 20000 in
theorem ggL_law_X7_of : GoodIn wsL_law wsX7_of := goodIn_r _ [180, 99, 124, 125, 5, 126, 127, 128, 129, 181, 182, 183, 184, 185, 186, 792, 793, 794, 795, 796, 797, 798, 799, 800, 801, 802, 803, 804, 805, 806, 807, 808, 809, 810] (by decide +kernel) (by decide +kernel)
set_option maxRecDepth 20000 in
theorem gL_law_X7_of : GoodIn wsL_law (wsV RL 26 RX7 yX7_of wsX7_of) := goodIn_app (goodIn_of _ (by decide +kernel)) ggL_law_X7_of
set_option maxRecDepth 20000 in
theorem ggL_law_X6_at : GoodIn wsL_law wsX6_at := goodIn_r _ [190, 16, 191, 192, 193, 194, 195, 196, 2, 197, 134, 113, 114, 115, 783, 784, 785, 786, 787, 788, 789, 790, 791, 811, 812, 813, 814, 815, 816, 817, 818] (by decide +kernel) (by decide +kernel)
set_option maxRecDepth 20000 in
theorem gL_law_X6_at : GoodIn wsL_law (wsV RL 27 RX6 yX6_at wsX6_at) := goodIn_app (goodIn_of _ (by decide +kernel)) ggL_law_X6_at
set_option maxRecDepth 20000 in
theorem ggL_law_X7_at : GoodIn wsL_law wsX7_at := goodIn_r _ [201, 99, 202, 203, 204, 5, 205, 127, 128, 129, 792, 793, 794, 795, 796, 797, 798, 799, 800, 801, 802, 803, 804, 805, 806, 807, 808, 809, 810] (by decide +kernel) (by decide +kernel)
set_option maxRecDepth 20000 in
theorem gL_law_X7_at : GoodIn wsL_law (wsV RL 30 RX7 yX7_at wsX7_at) := goodIn_app (goodIn_of _ (by decide +kernel)) ggL_law_X7_at
set_option maxRecDepth 20000 in
theorem ggL_law_X6_type : GoodIn wsL_law wsX6_type := goodIn_r _ [209, 31, 210, 113, 114, 2, 115, 211, 212, 213, 30, 214, 82, 81, 783, 784, 785, 786, 787, 788, 789, 790, 791, 828, 829, 830] (by decide +kernel) (by decide +kernel)
set_option maxRecDepth 20000 in
theorem gL_law_X6_type : GoodIn wsL_law (wsV RL 31 RX6 yX6_type wsX6_type) := goodIn_app (goodIn_of _ (by decide +kernel)) ggL_law_X6_type
set_option maxRecDepth 20000 in
theorem ggL_law_X7_type : GoodIn wsL_law wsX7_type := goodIn_r _ [218, 219, 98, 127, 128, 5, 129, 792, 793, 794, 795, 796, 797, 798, 799, 800, 801, 802, 803, 804, 805, 806, 807, 808, 809, 810] (by decide +kernel) (by decide +kernel)
set_option maxRecDepth 20000 in
theorem gL_law_X7_type : GoodIn wsL_law (wsV RL 35 RX7 yX7_type wsX7_type) := goodIn_app (goodIn_of _ (by decide +kernel)) ggL_law_X7_type
set_option maxRecDepth 20000 in
theorem ggL_law_X6_valley : GoodIn wsL_law wsX6_valley := goodIn_r _ [223, 18, 16, 31, 224, 150, 225, 134, 226, 227, 228, 15, 229, 42, 230, 231, 232, 233, 46, 234, 235, 236, 45, 237, 56, 57, 58, 59, 238, 60, 239, 240, 241, 30, 242, 83, 243, 244, 245, 246, 247, 248, 249, 250, 251, 252, 253, 82, 81, 114, 2, 115, 254, 255, 256, 257, 258, 259, 260, 261, 262, 263, 264, 159, 160, 161, 265, 266, 267, 268, 269, 270, 271, 272, 273, 274, 275, 276, 277, 278, 279, 280, 281, 136, 137, 138, 49, 52, 50, 51, 282, 283, 284, 285, 286, 287, 288, 289, 116, 117, 118, 119, 48, 783, 784, 785, 786, 787, 788, 789, 790, 791, 828, 829, 830, 811, 812, 813, 814, 815, 816, 817, 818, 835, 836, 837, 838, 839] (by decide +kernel) (by decide +kernel)
set_option maxRecDepth 20000 in
theorem gL_law_X6_valley : GoodIn wsL_law (wsV RL 36 RX6 yX6_valley wsX6_valley) := goodIn_app (goodIn_of _ (by decide +kernel)) ggL_law_X6_valley
set_option maxRecDepth 20000 in
theorem ggL_law_X7_valley : GoodIn wsL_law wsX7_valley := goodIn_r _ [293, 101, 99, 294, 219, 295, 296, 297, 5, 298, 299, 300, 301, 302, 303, 304, 305, 306, 307, 98, 127, 128, 129, 308, 309, 310, 311, 312, 313, 314, 315, 316, 317, 318, 319, 320, 321, 322, 323, 324, 325, 326, 143, 144, 145, 327, 328, 329, 792, 793, 794, 795, 796, 797, 798, 799, 800, 801, 802, 803, 804, 805, 806, 807, 808, 809, 810] (by decide +kernel) (by decide +kernel)
set_option maxRecDepth 20000 in
theorem gL_law_X7_valley : GoodIn wsL_law (wsV RL 40 RX7 yX7_valley wsX7_valley) := goodIn_app (goodIn_of _ (by decide +kernel)) ggL_law_X7_valley
set_option maxRecDepth 20000 in
theorem ggL_law_X6_count : GoodIn wsL_law wsX6_count := goodIn_r _ [333, 16, 134, 150, 334, 225, 151, 152, 335, 336, 337, 2, 338, 339, 340, 341, 15, 342, 52, 49, 50, 114, 115, 783, 784, 785, 786, 787, 788, 789, 790, 791, 811, 812, 813, 814, 815, 816, 817, 818, 835, 836, 837, 838, 839] (by decide +kernel) (by decide +kernel)
set_option maxRecDepth 20000 in
theorem gL_law_X6_count : GoodIn wsL_law (wsV RL 41 RX6 yX6_count wsX6_count) := goodIn_app (goodIn_of _ (by decide +kernel)) ggL_law_X6_count
set_option maxRecDepth 20000 in
theorem ggL_law_X7_count : GoodIn wsL_law wsX7_count := goodIn_r _ [346, 99, 347, 348, 5, 349, 350, 351, 352, 353, 127, 128, 129, 792, 793, 794, 795, 796, 797, 798, 799, 800, 801, 802, 803, 804, 805, 806, 807, 808, 809, 810] (by decide +kernel) (by decide +kernel)
set_option maxRecDepth 20000 in
theorem gL_law_X7_count : GoodIn wsL_law (wsV RL 44 RX7 yX7_count wsX7_count) := goodIn_app (goodIn_of _ (by decide +kernel)) ggL_law_X7_count
set_option maxRecDepth 20000 in
theorem ggL_law_X6_days : GoodIn wsL_law wsX6_days := goodIn_r _ [357, 16, 150, 225, 334, 113, 114, 2, 115, 358, 359, 360, 15, 361, 48, 47, 46, 362, 363, 364, 365, 234, 235, 236, 45, 237, 56, 57, 58, 59, 238, 231, 232, 233, 60, 366, 367, 368, 369, 370, 371, 372, 373, 374, 157, 158, 159, 160, 161, 375, 176, 154, 155, 156, 42, 162, 163, 164, 165, 166, 167, 376, 169, 170, 171, 172, 173, 174, 175, 783, 784, 785, 786, 787, 788, 789, 790, 791, 811, 812, 813, 814, 815, 816, 817, 818, 835, 836, 837, 838, 839] (by decide +kernel) (by decide +kernel)
set_option maxRecDepth 20000 in
theorem gL_law_X6_days : GoodIn wsL_law (wsV RL 45 RX6 yX6_days wsX6_days) := goodIn_app (goodIn_of _ (by decide +kernel)) ggL_law_X6_days
set_option maxRecDepth 20000 in
theorem ggL_law_X7_days : GoodIn wsL_law wsX7_days := goodIn_r _ [380, 99, 127, 128, 5, 129, 381, 382, 383, 384, 327, 328, 329, 385, 386, 387, 388, 389, 390, 391, 181, 182, 183, 184, 185, 186, 792, 793, 794, 795, 796, 797, 798, 799, 800, 801, 802, 803, 804, 805, 806, 807, 808, 809, 810] (by decide +kernel) (by decide +kernel)
set_option maxRecDepth 20000 in
theorem gL_law_X7_days : GoodIn wsL_law (wsV RL 48 RX7 yX7_days wsX7_days) := goodIn_app (goodIn_of _ (by decide +kernel)) ggL_law_X7_days
set_option maxRecDepth 20000 in
theorem ggL_law_X6_carry : GoodIn wsL_law wsX6_carry := goodIn_r _ [395, 16, 150, 334, 110, 111, 2, 112, 113, 114, 115, 358, 359, 360, 15, 361, 48, 47, 46, 362, 363, 364, 365, 234, 235, 236, 45, 237, 56, 57, 58, 59, 238, 231, 232, 233, 60, 783, 784, 785, 786, 787, 788, 789, 790, 791, 811, 812, 813, 814, 815, 816, 817, 818, 835, 836, 837, 838, 839] (by decide +kernel) (by decide +kernel)
set_option maxRecDepth 20000 in
theorem gL_law_X6_carry : GoodIn wsL_law (wsV RL 49 RX6 yX6_carry wsX6_carry) := goodIn_app (goodIn_of _ (by decide +kernel)) ggL_law_X6_carry
set_option maxRecDepth 20000 in
theorem ggL_law_X7_carry : GoodIn wsL_law wsX7_carry := goodIn_r _ [399, 99, 124, 125, 5, 126, 127, 128, 129, 381, 382, 383, 384, 327, 328, 329, 792, 793, 794, 795, 796, 797, 798, 799, 800, 801, 802, 803, 804, 805, 806, 807, 808, 809, 810] (by decide +kernel) (by decide +kernel)
set_option maxRecDepth 20000 in
theorem gL_law_X7_carry : GoodIn wsL_law (wsV RL 52 RX7 yX7_carry wsX7_carry) := goodIn_app (goodIn_of _ (by decide +kernel)) ggL_law_X7_carry
set_option maxRecDepth 20000 in
theorem ggL_law_X6_lettuce : GoodIn wsL_law wsX6_lettuce := goodIn_r _ [403, 16, 150, 151, 404, 174, 160, 175, 110, 111, 2, 112, 113, 114, 115, 358, 359, 360, 15, 361, 48, 47, 46, 362, 363, 364, 365, 234, 235, 236, 45, 237, 56, 57, 58, 59, 238, 231, 232, 233, 60, 783, 784, 785, 786, 787, 788, 789, 790, 791, 811, 812, 813, 814, 815, 816, 817, 818, 835, 836, 837, 838, 839] (by decide +kernel) (by decide +kernel)
set_option maxRecDepth 20000 in
theorem gL_law_X6_lettuce : GoodIn wsL_law (wsV RL 53 RX6 yX6_lettuce wsX6_lettuce) := goodIn_app (goodIn_of _ (by decide +kernel)) ggL_law_X6_lettuce
set_option maxRecDepth 20000 in
theorem ggL_law_X7_lettuce : GoodIn wsL_law wsX7_lettuce := goodIn_r _ [408, 99, 124, 125, 5, 126, 127, 128, 129, 381, 382, 383, 384, 327, 328, 329, 792, 793, 794, 795, 796, 797, 798, 799, 800, 801, 802, 803, 804, 805, 806, 807, 808, 809, 810] (by decide +kernel) (by decide +kernel)
set_option maxRecDepth 20000 in
theorem gL_law_X7_lettuce : GoodIn wsL_law (wsV RL 56 RX7 yX7_lettuce wsX7_lettuce) := goodIn_app (goodIn_of _ (by decide +kernel)) ggL_law_X7_lettuce
set_option maxRecDepth 20000 in
theorem ggL_law_X6_lay : GoodIn wsL_law wsX6_lay := goodIn_r _ [412, 16, 150, 152, 110, 111, 2, 112, 113, 114, 115, 358, 359, 360, 15, 361, 48, 47, 46, 362, 363, 364, 365, 234, 235, 236, 45, 237, 56, 57, 58, 59, 238, 231, 232, 233, 60, 783, 784, 785, 786, 787, 788, 789, 790, 791, 811, 812, 813, 814, 815, 816, 817, 818, 835, 836, 837, 838, 839] (by decide +kernel) (by decide +kernel)
set_option maxRecDepth 20000 in
theorem gL_law_X6_lay : GoodIn wsL_law (wsV RL 57 RX6 yX6_lay wsX6_lay) := goodIn_app (goodIn_of _ (by decide +kernel)) ggL_law_X6_lay
set_option maxRecDepth 20000 in
theorem ggL_law_X7_lay : GoodIn wsL_law wsX7_lay := goodIn_r _ [416, 99, 124, 125, 5, 126, 127, 128, 129, 381, 382, 383, 384, 327, 328, 329, 792, 793, 794, 795, 796, 797, 798, 799, 800, 801, 802, 803, 804, 805, 806, 807, 808, 809, 810] (by decide +kernel) (by decide +kernel)
set_option maxRecDepth 20000 in
theorem gL_law_X7_lay : GoodIn wsL_law (wsV RL 60 RX7 yX7_lay wsX7_lay) := goodIn_app (goodIn_of _ (by decide +kernel)) ggL_law_X7_lay
set_option maxRecDepth 20000 in
theorem ggL_law_X6_undo : GoodIn wsL_law wsX6_undo := goodIn_r _ [420, 16, 335, 421, 422, 423, 15, 424, 48, 46, 47, 234, 235, 236, 45, 237, 56, 57, 58, 59, 238, 231, 232, 233, 60, 783, 784, 785, 786, 787, 788, 789, 790, 791, 811, 812, 813, 814, 815, 816, 817, 818, 835, 836, 837, 838, 839] (by decide +kernel) (by decide +kernel)
set_option maxRecDepth 20000 in
theorem gL_law_X6_undo : GoodIn wsL_law (wsV RL 61 RX6 yX6_undo wsX6_undo) := goodIn_app (goodIn_of _ (by decide +kernel)) ggL_law_X6_undo
set_option maxRecDepth 20000 in
theorem ggL_law_X7_undo : GoodIn wsL_law wsX7_undo := goodIn_r _ [428, 99, 327, 328, 5, 329, 792, 793, 794, 795, 796, 797, 798, 799, 800, 801, 802, 803, 804, 805, 806, 807, 808, 809, 810] (by decide +kernel) (by decide +kernel)
set_option maxRecDepth 20000 in
theorem gL_law_X7_undo : GoodIn wsL_law (wsV RL 64 RX7 yX7_undo wsX7_undo) := goodIn_app (goodIn_of _ (by decide +kernel)) ggL_law_X7_undo
set_option maxRecDepth 20000 in
theorem ggL_law_X6_seed : GoodIn wsL_law wsX6_seed := goodIn_r _ [432, 16, 150, 433, 783, 784, 785, 786, 787, 788, 789, 790, 791, 811, 812, 813, 814, 815, 816, 817, 818, 835, 836, 837, 838, 839] (by decide +kernel) (by decide +kernel)
set_option maxRecDepth 20000 in
theorem gL_law_X6_seed : GoodIn wsL_law (wsV RL 65 RX6 yX6_seed wsX6_seed) := goodIn_app (goodIn_of _ (by decide +kernel)) ggL_law_X6_seed
set_option maxRecDepth 20000 in
theorem ggL_law_X7_seed : GoodIn wsL_law wsX7_seed := goodIn_r _ [437, 99, 792, 793, 794, 795, 796, 797, 798, 799, 800, 801, 802, 803, 804, 805, 806, 807, 808, 809, 810] (by decide +kernel) (by decide +kernel)
set_option maxRecDepth 20000 in
theorem gL_law_X7_seed : GoodIn wsL_law (wsV RL 68 RX7 yX7_seed wsX7_seed) := goodIn_app (goodIn_of _ (by decide +kernel)) ggL_law_X7_seed
set_option maxRecDepth 20000 in
theorem ggL_law_X6_chance : GoodIn wsL_law wsX6_chance := goodIn_r _ [441, 16, 26, 22, 442, 443, 110, 111, 2, 112, 113, 114, 115, 444, 445, 446, 447, 448, 449, 450, 150, 334, 451, 452, 453, 21, 454, 66, 64, 65, 455, 154, 155, 15, 156, 46, 157, 42, 158, 159, 160, 161, 162, 163, 164, 165, 166, 167, 456, 169, 170, 171, 172, 173, 174, 175, 176, 457, 458, 459, 460, 68, 70, 461, 462, 463, 464, 69, 465, 231, 232, 233, 466, 467, 468, 469, 470, 471, 472, 473, 474, 25, 475, 76, 77, 476, 477, 478, 479, 480, 481, 482, 783, 784, 785, 786, 787, 788, 789, 790, 791, 819, 820, 821, 822, 823, 824, 825, 811, 812, 813, 814, 815, 816, 817, 818, 835, 836, 837, 838, 839, 826, 827] (by decide +kernel) (by decide +kernel)
set_option maxRecDepth 20000 in
theorem gL_law_X6_chance : GoodIn wsL_law (wsV RL 69 RX6 yX6_chance wsX6_chance) := goodIn_app (goodIn_of _ (by decide +kernel)) ggL_law_X6_chance
set_option maxRecDepth 20000 in
theorem ggL_law_X7_chance : GoodIn wsL_law wsX7_chance := goodIn_r _ [486, 99, 103, 487, 124, 125, 5, 126, 127, 128, 129, 488, 489, 490, 491, 492, 493, 104, 181, 182, 183, 184, 185, 186, 494, 495, 496, 792, 793, 794, 795, 796, 797, 798, 799, 800, 801, 802, 803, 804, 805, 806, 807, 808, 809, 810] (by decide +kernel) (by decide +kernel)
set_option maxRecDepth 20000 in
theorem gL_law_X7_chance : GoodIn wsL_law (wsV RL 72 RX7 yX7_chance wsX7_chance) := goodIn_app (goodIn_of _ (by decide +kernel)) ggL_law_X7_chance
set_option maxRecDepth 20000 in
theorem ggL_law_X6_likely : GoodIn wsL_law wsX6_likely := goodIn_r _ [500, 16, 22, 442, 444, 445, 2, 446, 113, 114, 115, 447, 448, 449, 450, 150, 334, 451, 452, 453, 21, 454, 66, 64, 65, 455, 154, 155, 15, 156, 46, 157, 42, 158, 159, 160, 161, 162, 163, 164, 165, 166, 167, 456, 169, 170, 171, 172, 173, 174, 175, 176, 457, 458, 459, 460, 68, 70, 461, 462, 463, 464, 69, 465, 231, 232, 233, 466, 467, 468, 469, 111, 112, 470, 471, 783, 784, 785, 786, 787, 788, 789, 790, 791, 819, 820, 821, 822, 823, 824, 825, 811, 812, 813, 814, 815, 816, 817, 818, 835, 836, 837, 838, 839] (by decide +kernel) (by decide +kernel)
set_option maxRecDepth 20000 in
theorem gL_law_X6_likely : GoodIn wsL_law (wsV RL 73 RX6 yX6_likely wsX6_likely) := goodIn_app (goodIn_of _ (by decide +kernel)) ggL_law_X6_likely
set_option maxRecDepth 20000 in
theorem ggL_law_X7_likely : GoodIn wsL_law wsX7_likely := goodIn_r _ [504, 99, 103, 127, 128, 5, 129, 488, 489, 490, 491, 492, 493, 487, 104, 181, 182, 183, 184, 185, 186, 792, 793, 794, 795, 796, 797, 798, 799, 800, 801, 802, 803, 804, 805, 806, 807, 808, 809, 810] (by decide +kernel) (by decide +kernel)
set_option maxRecDepth 20000 in
theorem gL_law_X7_likely : GoodIn wsL_law (wsV RL 76 RX7 yX7_likely wsX7_likely) := goodIn_app (goodIn_of _ (by decide +kernel)) ggL_law_X7_likely
set_option maxRecDepth 20000 in
theorem ggL_law_X6_mean : GoodIn wsL_law wsX6_mean := goodIn_r _ [508, 509, 22, 16, 150, 334, 26, 510, 511, 512, 2, 513, 113, 114, 115, 451, 452, 453, 21, 454, 66, 64, 65, 455, 154, 155, 15, 156, 46, 157, 42, 158, 159, 160, 161, 162, 163, 164, 165, 166, 167, 456, 169, 170, 171, 172, 173, 174, 175, 176, 514, 515, 516, 517, 72, 518, 519, 520, 473, 474, 25, 475, 76, 77, 476, 477, 478, 521, 522, 523, 524, 525, 479, 480, 481, 482, 783, 784, 785, 786, 787, 788, 789, 790, 791, 811, 812, 813, 814, 815, 816, 817, 818, 835, 836, 837, 838, 839, 819, 820, 821, 822, 823, 824, 825, 826, 827] (by decide +kernel) (by decide +kernel)
set_option maxRecDepth 20000 in
theorem gL_law_X6_mean : GoodIn wsL_law (wsV RL 77 RX6 yX6_mean wsX6_mean) := goodIn_app (goodIn_of _ (by decide +kernel)) ggL_law_X6_mean
set_option maxRecDepth 20000 in
theorem ggL_law_X7_mean : GoodIn wsL_law wsX7_mean := goodIn_r _ [529, 99, 530, 531, 532, 127, 128, 5, 129, 533, 534, 535, 536, 492, 184, 185, 186, 181, 182, 183, 494, 495, 496, 792, 793, 794, 795, 796, 797, 798, 799, 800, 801, 802, 803, 804, 805, 806, 807, 808, 809, 810] (by decide +kernel) (by decide +kernel)
set_option maxRecDepth 20000 in
theorem gL_law_X7_mean : GoodIn wsL_law (wsV RL 81 RX7 yX7_mean wsX7_mean) := goodIn_app (goodIn_of _ (by decide +kernel)) ggL_law_X7_mean
set_option maxRecDepth 20000 in
theorem ggL_law_X6_right : GoodIn wsL_law wsX6_right := goodIn_r _ [540, 16, 191, 192, 22, 442, 26, 443, 193, 194, 195, 196, 2, 197, 134, 113, 114, 115, 444, 445, 446, 447, 448, 449, 450, 150, 334, 451, 452, 453, 21, 454, 66, 64, 65, 455, 154, 155, 15, 156, 46, 157, 42, 158, 159, 160, 161, 162, 163, 164, 165, 166, 167, 456, 169, 170, 171, 172, 173, 174, 175, 176, 457, 458, 459, 460, 68, 70, 461, 462, 463, 464, 69, 465, 231, 232, 233, 466, 467, 468, 469, 111, 112, 470, 471, 472, 473, 474, 25, 475, 76, 77, 476, 477, 478, 541, 542, 543, 544, 479, 480, 481, 482, 783, 784, 785, 786, 787, 788, 789, 790, 791, 811, 812, 813, 814, 815, 816, 817, 818, 819, 820, 821, 822, 823, 824, 825, 835, 836, 837, 838, 839, 826, 827] (by decide +kernel) (by decide +kernel)
set_option maxRecDepth 20000 in
theorem gL_law_X6_right : GoodIn wsL_law (wsV RL 82 RX6 yX6_right wsX6_right) := goodIn_app (goodIn_of _ (by decide +kernel)) ggL_law_X6_right
set_option maxRecDepth 20000 in
theorem ggL_law_X7_right : GoodIn wsL_law wsX7_right := goodIn_r _ [548, 99, 487, 202, 203, 204, 5, 205, 127, 128, 129, 488, 489, 490, 491, 103, 492, 493, 104, 181, 182, 183, 184, 185, 186, 549, 550, 551, 552, 494, 495, 496, 792, 793, 794, 795, 796, 797, 798, 799, 800, 801, 802, 803, 804, 805, 806, 807, 808, 809, 810] (by decide +kernel) (by decide +kernel)
set_option maxRecDepth 20000 in
theorem gL_law_X7_right : GoodIn wsL_law (wsV RL 85 RX7 yX7_right wsX7_right) := goodIn_app (goodIn_of _ (by decide +kernel)) ggL_law_X7_right
set_option maxRecDepth 20000 in
theorem ggL_law_X6_sure : GoodIn wsL_law wsX6_sure := goodIn_r _ [556, 16, 22, 442, 444, 445, 2, 446, 113, 114, 115, 447, 448, 449, 450, 150, 334, 451, 452, 453, 21, 454, 66, 64, 65, 455, 154, 155, 15, 156, 46, 157, 42, 158, 159, 160, 161, 162, 163, 164, 165, 166, 167, 456, 169, 170, 171, 172, 173, 174, 175, 176, 457, 458, 459, 460, 68, 70, 461, 462, 463, 464, 69, 465, 231, 232, 233, 466, 467, 468, 469, 111, 112, 470, 471, 783, 784, 785, 786, 787, 788, 789, 790, 791, 819, 820, 821, 822, 823, 824, 825, 811, 812, 813, 814, 815, 816, 817, 818, 835, 836, 837, 838, 839] (by decide +kernel) (by decide +kernel)
set_option maxRecDepth 20000 in
theorem gL_law_X6_sure : GoodIn wsL_law (wsV RL 86 RX6 yX6_sure wsX6_sure) := goodIn_app (goodIn_of _ (by decide +kernel)) ggL_law_X6_sure
set_option maxRecDepth 20000 in
theorem ggL_law_X7_sure : GoodIn wsL_law wsX7_sure := goodIn_r _ [560, 99, 103, 127, 128, 5, 129, 488, 489, 490, 491, 492, 493, 487, 104, 181, 182, 183, 184, 185, 186, 792, 793, 794, 795, 796, 797, 798, 799, 800, 801, 802, 803, 804, 805, 806, 807, 808, 809, 810] (by decide +kernel) (by decide +kernel)
set_option maxRecDepth 20000 in
theorem gL_law_X7_sure : GoodIn wsL_law (wsV RL 89 RX7 yX7_sure wsX7_sure) := goodIn_app (goodIn_of _ (by decide +kernel)) ggL_law_X7_sure
set_option maxRecDepth 20000 in
theorem ggL_law_X6_down : GoodIn wsL_law wsX6_down := goodIn_r _ [564, 509, 26, 510, 511, 512, 2, 513, 16, 150, 334, 113, 114, 115, 565, 566, 567, 568, 18, 152, 22, 27, 569, 570, 226, 227, 228, 15, 229, 42, 230, 231, 232, 233, 46, 234, 235, 236, 45, 237, 56, 57, 58, 59, 238, 60, 451, 452, 453, 21, 454, 66, 64, 65, 455, 154, 155, 156, 157, 158, 159, 160, 161, 162, 163, 164, 165, 166, 167, 456, 169, 170, 171, 172, 173, 174, 175, 176, 514, 515, 516, 517, 72, 518, 519, 520, 473, 474, 25, 475, 76, 77, 476, 477, 478, 521, 522, 523, 524, 525, 571, 572, 573, 574, 472, 479, 480, 481, 482, 783, 784, 785, 786, 787, 788, 789, 790, 791, 811, 812, 813, 814, 815, 816, 817, 818, 835, 836, 837, 838, 839, 826, 827, 819, 820, 821, 822, 823, 824, 825] (by decide +kernel) (by decide +kernel)
set_option maxRecDepth 20000 in
theorem gL_law_X6_down : GoodIn wsL_law (wsV RL 90 RX6 yX6_down wsX6_down) := goodIn_app (goodIn_of _ (by decide +kernel)) ggL_law_X6_down
set_option maxRecDepth 20000 in
theorem ggL_law_X7_down : GoodIn wsL_law wsX7_down := goodIn_r _ [578, 99, 530, 100, 531, 579, 580, 532, 127, 128, 5, 129, 581, 582, 583, 584, 327, 328, 329, 533, 534, 535, 536, 492, 184, 185, 186, 181, 182, 183, 494, 495, 496, 792, 793, 794, 795, 796, 797, 798, 799, 800, 801, 802, 803, 804, 805, 806, 807, 808, 809, 810] (by decide +kernel) (by decide +kernel)
set_option maxRecDepth 20000 in
theorem gL_law_X7_down : GoodIn wsL_law (wsV RL 93 RX7 yX7_down wsX7_down) := goodIn_app (goodIn_of _ (by decide +kernel)) ggL_law_X7_down
set_option maxRecDepth 20000 in
theorem ggL_law_X6_keep : GoodIn wsL_law wsX6_keep := goodIn_r _ [588, 16, 150, 334, 18, 151, 22, 113, 114, 2, 115, 226, 227, 228, 15, 229, 42, 230, 231, 232, 233, 46, 234, 235, 236, 45, 237, 56, 57, 58, 59, 238, 60, 447, 448, 449, 450, 451, 452, 453, 21, 454, 66, 64, 65, 455, 154, 155, 156, 157, 158, 159, 160, 161, 162, 163, 164, 165, 166, 167, 456, 169, 170, 171, 172, 173, 174, 175, 176, 457, 458, 459, 460, 68, 70, 461, 462, 463, 464, 69, 465, 466, 467, 468, 469, 111, 112, 470, 471, 589, 590, 591, 592, 593, 783, 784, 785, 786, 787, 788, 789, 790, 791, 811, 812, 813, 814, 815, 816, 817, 818, 835, 836, 837, 838, 839, 819, 820, 821, 822, 823, 824, 825] (by decide +kernel) (by decide +kernel)
set_option maxRecDepth 20000 in
theorem gL_law_X6_keep : GoodIn wsL_law (wsV RL 94 RX6 yX6_keep wsX6_keep) := goodIn_app (goodIn_of _ (by decide +kernel)) ggL_law_X6_keep
set_option maxRecDepth 20000 in
theorem ggL_law_X7_keep : GoodIn wsL_law wsX7_keep := goodIn_r _ [597, 100, 99, 493, 103, 487, 127, 128, 5, 129, 581, 582, 583, 584, 327, 328, 329, 488, 489, 490, 491, 492, 104, 181, 182, 183, 184, 185, 186, 792, 793, 794, 795, 796, 797, 798, 799, 800, 801, 802, 803, 804, 805, 806, 807, 808, 809, 810] (by decide +kernel) (by decide +kernel)
set_option maxRecDepth 20000 in
theorem gL_law_X7_keep : GoodIn wsL_law (wsV RL 97 RX7 yX7_keep wsX7_keep) := goodIn_app (goodIn_of _ (by decide +kernel)) ggL_law_X7_keep
set_option maxRecDepth 20000 in
theorem ggL_law_X6_early : GoodIn wsL_law wsX6_early := goodIn_r _ [601, 16, 22, 110, 111, 2, 112, 113, 114, 115, 447, 448, 449, 450, 150, 334, 451, 452, 453, 21, 454, 66, 64, 65, 455, 154, 155, 15, 156, 46, 157, 42, 158, 159, 160, 161, 162, 163, 164, 165, 166, 167, 456, 169, 170, 171, 172, 173, 174, 175, 176, 457, 458, 459, 460, 68, 70, 461, 462, 463, 464, 69, 465, 231, 232, 233, 466, 467, 468, 469, 470, 471, 589, 590, 591, 592, 593, 783, 784, 785, 786, 787, 788, 789, 790, 791, 811, 812, 813, 814, 815, 816, 817, 818, 835, 836, 837, 838, 839, 819, 820, 821, 822, 823, 824, 825] (by decide +kernel) (by decide +kernel)
set_option maxRecDepth 20000 in
theorem gL_law_X6_early : GoodIn wsL_law (wsV RL 98 RX6 yX6_early wsX6_early) := goodIn_app (goodIn_of _ (by decide +kernel)) ggL_law_X6_early
set_option maxRecDepth 20000 in
theorem ggL_law_X7_early : GoodIn wsL_law wsX7_early := goodIn_r _ [605, 99, 493, 103, 487, 124, 125, 5, 126, 127, 128, 129, 488, 489, 490, 491, 492, 104, 181, 182, 183, 184, 185, 186, 792, 793, 794, 795, 796, 797, 798, 799, 800, 801, 802, 803, 804, 805, 806, 807, 808, 809, 810] (by decide +kernel) (by decide +kernel)
set_option maxRecDepth 20000 in
theorem gL_law_X7_early : GoodIn wsL_law (wsV RL 101 RX7 yX7_early wsX7_early) := goodIn_app (goodIn_of _ (by decide +kernel)) ggL_law_X7_early
set_option maxRecDepth 20000 in
theorem ggL_law_X6_next : GoodIn wsL_law wsX6_next := goodIn_r _ [609, 18, 16, 150, 334, 113, 114, 2, 115, 226, 227, 228, 15, 229, 42, 230, 231, 232, 233, 46, 234, 235, 236, 45, 237, 56, 57, 58, 59, 238, 60, 366, 367, 368, 369, 370, 371, 372, 373, 374, 157, 158, 159, 160, 161, 375, 176, 154, 155, 156, 162, 163, 164, 165, 166, 167, 376, 169, 170, 171, 172, 173, 174, 175, 783, 784, 785, 786, 787, 788, 789, 790, 791, 811, 812, 813, 814, 815, 816, 817, 818, 835, 836, 837, 838, 839] (by decide +kernel) (by decide +kernel)
set_option maxRecDepth 20000 in
theorem gL_law_X6_next : GoodIn wsL_law (wsV RL 102 RX6 yX6_next wsX6_next) := goodIn_app (goodIn_of _ (by decide +kernel)) ggL_law_X6_next
set_option maxRecDepth 20000 in
theorem ggL_law_X7_next : GoodIn wsL_law wsX7_next := goodIn_r _ [613, 100, 127, 128, 5, 129, 581, 582, 583, 584, 99, 327, 328, 329, 385, 386, 387, 388, 389, 390, 391, 181, 182, 183, 184, 185, 186, 792, 793, 794, 795, 796, 797, 798, 799, 800, 801, 802, 803, 804, 805, 806, 807, 808, 809, 810] (by decide +kernel) (by decide +kernel)
set_option maxRecDepth 20000 in
theorem gL_law_X7_next : GoodIn wsL_law (wsV RL 105 RX7 yX7_next wsX7_next) := goodIn_app (goodIn_of _ (by decide +kernel)) ggL_law_X7_next
set_option maxRecDepth 20000 in
theorem ggL_law_X6_winter : GoodIn wsL_law wsX6_winter := goodIn_r _ [617, 22, 16, 150, 334, 26, 442, 443, 110, 111, 2, 112, 113, 114, 115, 451, 452, 453, 21, 454, 66, 64, 65, 455, 154, 155, 15, 156, 46, 157, 42, 158, 159, 160, 161, 162, 163, 164, 165, 166, 167, 456, 169, 170, 171, 172, 173, 174, 175, 176, 618, 619, 620, 621, 457, 458, 459, 460, 68, 70, 461, 462, 463, 464, 69, 465, 231, 232, 233, 466, 467, 468, 469, 470, 471, 472, 473, 474, 25, 475, 76, 77, 476, 477, 478, 479, 480, 481, 482, 783, 784, 785, 786, 787, 788, 789, 790, 791, 811, 812, 813, 814, 815, 816, 817, 818, 835, 836, 837, 838, 839, 819, 820, 821, 822, 823, 824, 825, 826, 827] (by decide +kernel) (by decide +kernel)
set_option maxRecDepth 20000 in
theorem gL_law_X6_winter : GoodIn wsL_law (wsV RL 106 RX6 yX6_winter wsX6_winter) := goodIn_app (goodIn_of _ (by decide +kernel)) ggL_law_X6_winter
set_option maxRecDepth 20000 in
theorem ggL_law_X7_winter : GoodIn wsL_law wsX7_winter := goodIn_r _ [625, 99, 103, 487, 124, 125, 5, 126, 127, 128, 129, 488, 489, 490, 491, 492, 493, 104, 181, 182, 183, 184, 185, 186, 494, 495, 496, 792, 793, 794, 795, 796, 797, 798, 799, 800, 801, 802, 803, 804, 805, 806, 807, 808, 809, 810] (by decide +kernel) (by decide +kernel)
set_option maxRecDepth 20000 in
theorem gL_law_X7_winter : GoodIn wsL_law (wsV RL 110 RX7 yX7_winter wsX7_winter) := goodIn_app (goodIn_of _ (by decide +kernel)) ggL_law_X7_winter
set_option maxRecDepth 20000 in
theorem ggL_law_X6_image : GoodIn wsL_law wsX6_image := goodIn_r _ [629, 17, 16, 36, 630, 631, 632, 15, 633, 48, 47, 634, 227, 228, 229, 42, 230, 231, 232, 233, 46, 234, 235, 236, 45, 237, 56, 57, 58, 59, 238, 60, 635, 287, 288, 289, 49, 50, 51, 52, 783, 784, 785, 786, 787, 788, 789, 790, 791, 811, 812, 813, 814, 815, 816, 817, 818, 835, 836, 837, 838, 839] (by decide +kernel) (by decide +kernel)
set_option maxRecDepth 20000 in
theorem gL_law_X6_image : GoodIn wsL_law (wsV RL 111 RX6 yX6_image wsX6_image) := goodIn_app (goodIn_of _ (by decide +kernel)) ggL_law_X6_image
set_option maxRecDepth 20000 in
theorem ggL_law_X7_image : GoodIn wsL_law wsX7_image := goodIn_r _ [639, 99, 102, 640, 327, 328, 5, 329, 792, 793, 794, 795, 796, 797, 798, 799, 800, 801, 802, 803, 804, 805, 806, 807, 808, 809, 810] (by decide +kernel) (by decide +kernel)
set_option maxRecDepth 20000 in
theorem gL_law_X7_image : GoodIn wsL_law (wsV RL 114 RX7 yX7_image wsX7_image) := goodIn_app (goodIn_of _ (by decide +kernel)) ggL_law_X7_image
set_option maxRecDepth 20000 in
theorem ggL_law_X6_restore : GoodIn wsL_law wsX6_restore := goodIn_r _ [644, 36, 16, 17, 630, 631, 632, 15, 633, 48, 47, 634, 227, 228, 229, 42, 230, 231, 232, 233, 46, 234, 235, 236, 45, 237, 56, 57, 58, 59, 238, 60, 635, 287, 288, 289, 49, 50, 51, 52, 783, 784, 785, 786, 787, 788, 789, 790, 791, 811, 812, 813, 814, 815, 816, 817, 818, 835, 836, 837, 838, 839] (by decide +kernel) (by decide +kernel)
set_option maxRecDepth 20000 in
theorem gL_law_X6_restore : GoodIn wsL_law (wsV RL 115 RX6 yX6_restore wsX6_restore) := goodIn_app (goodIn_of _ (by decide +kernel)) ggL_law_X6_restore
set_option maxRecDepth 20000 in
theorem ggL_law_X7_restore : GoodIn wsL_law wsX7_restore := goodIn_r _ [648, 640, 102, 99, 327, 328, 5, 329, 792, 793, 794, 795, 796, 797, 798, 799, 800, 801, 802, 803, 804, 805, 806, 807, 808, 809, 810] (by decide +kernel) (by decide +kernel)
set_option maxRecDepth 20000 in
theorem gL_law_X7_restore : GoodIn wsL_law (wsV RL 118 RX7 yX7_restore wsX7_restore) := goodIn_app (goodIn_of _ (by decide +kernel)) ggL_law_X7_restore
set_option maxRecDepth 20000 in
theorem ggL_law_X6_seen : GoodIn wsL_law wsX6_seen := goodIn_r _ [652, 33, 22, 16, 26, 150, 334, 653, 654, 655, 2, 656, 113, 114, 115, 657, 658, 659, 660, 661, 662, 35, 663, 87, 88, 664, 665, 666, 667, 89, 451, 452, 453, 21, 454, 66, 64, 65, 455, 154, 155, 15, 156, 46, 157, 42, 158, 159, 160, 161, 162, 163, 164, 165, 166, 167, 456, 169, 170, 171, 172, 173, 174, 175, 176, 668, 669, 670, 671, 672, 673, 674, 675, 676, 677, 678, 679, 90, 680, 681, 467, 468, 469, 111, 112, 682, 470, 471, 472, 473, 474, 25, 475, 76, 77, 476, 477, 478, 479, 480, 481, 482, 783, 784, 785, 786, 787, 788, 789, 790, 791, 811, 812, 813, 814, 815, 816, 817, 818, 835, 836, 837, 838, 839, 831, 832, 833, 834, 819, 820, 821, 822, 823, 824, 825, 826, 827] (by decide +kernel) (by decide +kernel)
set_option maxRecDepth 20000 in
theorem gL_law_X6_seen : GoodIn wsL_law (wsV RL 119 RX6 yX6_seen wsX6_seen) := goodIn_app (goodIn_of _ (by decide +kernel)) ggL_law_X6_seen
set_option maxRecDepth 20000 in
theorem ggL_law_X7_seen : GoodIn wsL_law wsX7_seen := goodIn_r _ [686, 492, 99, 687, 688, 5, 689, 127, 128, 129, 690, 691, 692, 693, 95, 96, 694, 695, 696, 697, 698, 699, 700, 97, 701, 181, 182, 183, 184, 185, 186, 494, 495, 496, 792, 793, 794, 795, 796, 797, 798, 799, 800, 801, 802, 803, 804, 805, 806, 807, 808, 809, 810] (by decide +kernel) (by decide +kernel)
set_option maxRecDepth 20000 in
theorem gL_law_X7_seen : GoodIn wsL_law (wsV RL 123 RX7 yX7_seen wsX7_seen) := goodIn_app (goodIn_of _ (by decide +kernel)) ggL_law_X7_seen
set_option maxRecDepth 20000 in
theorem ggL_law_X6_bore : GoodIn wsL_law wsX6_bore := goodIn_r _ [705, 33, 110, 111, 2, 112, 113, 114, 115, 654, 655, 656, 657, 658, 659, 660, 661, 662, 35, 663, 87, 88, 664, 665, 666, 667, 89, 706, 707, 708, 709, 18, 16, 109, 226, 227, 228, 15, 229, 42, 230, 231, 232, 233, 46, 234, 235, 236, 45, 237, 56, 57, 58, 59, 238, 60, 710, 711, 712, 713, 150, 334, 366, 367, 368, 369, 370, 371, 372, 373, 374, 157, 158, 159, 160, 161, 375, 176, 154, 155, 156, 162, 163, 164, 165, 166, 167, 376, 169, 170, 171, 172, 173, 174, 175, 676, 677, 678, 679, 90, 680, 714, 715, 716, 717, 151, 783, 784, 785, 786, 787, 788, 789, 790, 791, 831, 832, 833, 834, 811, 812, 813, 814, 815, 816, 817, 818, 835, 836, 837, 838, 839] (by decide +kernel) (by decide +kernel)
set_option maxRecDepth 20000 in
theorem gL_law_X6_bore : GoodIn wsL_law (wsV RL 124 RX6 yX6_bore wsX6_bore) := goodIn_app (goodIn_of _ (by decide +kernel)) ggL_law_X6_bore
set_option maxRecDepth 20000 in
theorem ggL_law_X7_bore : GoodIn wsL_law wsX7_bore := goodIn_r _ [721, 100, 124, 125, 5, 126, 127, 128, 129, 687, 688, 689, 690, 691, 692, 693, 95, 96, 694, 695, 696, 581, 582, 583, 584, 99, 327, 328, 329, 722, 723, 724, 725, 97, 385, 386, 387, 388, 389, 390, 391, 181, 182, 183, 184, 185, 186, 792, 793, 794, 795, 796, 797, 798, 799, 800, 801, 802, 803, 804, 805, 806, 807, 808, 809, 810] (by decide +kernel) (by decide +kernel)
set_option maxRecDepth 20000 in
theorem gL_law_X7_bore : GoodIn wsL_law (wsV RL 128 RX7 yX7_bore wsX7_bore) := goodIn_app (goodIn_of _ (by decide +kernel)) ggL_law_X7_bore
set_option maxRecDepth 20000 in
theorem ggL_law_X6_film : GoodIn wsL_law wsX6_film := goodIn_r _ [729, 33, 18, 16, 150, 334, 113, 114, 2, 115, 654, 655, 656, 657, 658, 659, 660, 661, 662, 35, 663, 87, 88, 664, 665, 666, 667, 89, 226, 227, 228, 15, 229, 42, 230, 231, 232, 233, 46, 234, 235, 236, 45, 237, 56, 57, 58, 59, 238, 60, 366, 367, 368, 369, 370, 371, 372, 373, 374, 157, 158, 159, 160, 161, 375, 176, 154, 155, 156, 162, 163, 164, 165, 166, 167, 376, 169, 170, 171, 172, 173, 174, 175, 730, 731, 732, 733, 90, 783, 784, 785, 786, 787, 788, 789, 790, 791, 811, 812, 813, 814, 815, 816, 817, 818, 835, 836, 837, 838, 839, 831, 832, 833, 834] (by decide +kernel) (by decide +kernel)
set_option maxRecDepth 20000 in
theorem gL_law_X6_film : GoodIn wsL_law (wsV RL 129 RX6 yX6_film wsX6_film) := goodIn_app (goodIn_of _ (by decide +kernel)) ggL_law_X6_film
set_option maxRecDepth 20000 in
theorem ggL_law_X7_film : GoodIn wsL_law wsX7_film := goodIn_r _ [737, 100, 97, 127, 128, 5, 129, 687, 688, 689, 690, 691, 692, 693, 95, 96, 694, 695, 696, 581, 582, 583, 584, 99, 327, 328, 329, 385, 386, 387, 388, 389, 390, 391, 181, 182, 183, 184, 185, 186, 738, 739, 740, 792, 793, 794, 795, 796, 797, 798, 799, 800, 801, 802, 803, 804, 805, 806, 807, 808, 809, 810] (by decide +kernel) (by decide +kernel)
set_option maxRecDepth 20000 in
theorem gL_law_X7_film : GoodIn wsL_law (wsV RL 132 RX7 yX7_film wsX7_film) := goodIn_app (goodIn_of _ (by decide +kernel)) ggL_law_X7_film
set_option maxRecDepth 20000 in
theorem ggL_law_X6_sheet : GoodIn wsL_law wsX6_sheet := goodIn_r _ [744, 33, 654, 655, 2, 656, 113, 114, 115, 657, 658, 659, 745, 746, 747, 35, 748, 87, 88, 89, 90, 783, 784, 785, 786, 787, 788, 789, 790, 791, 831, 832, 833, 834] (by decide +kernel) (by decide +kernel)
set_option maxRecDepth 20000 in
theorem gL_law_X6_sheet : GoodIn wsL_law (wsV RL 133 RX6 yX6_sheet wsX6_sheet) := goodIn_app (goodIn_of _ (by decide +kernel)) ggL_law_X6_sheet
set_option maxRecDepth 20000 in
theorem ggL_law_X7_sheet : GoodIn wsL_law wsX7_sheet := goodIn_r _ [752, 95, 96, 97, 687, 688, 5, 689, 127, 128, 129, 792, 793, 794, 795, 796, 797, 798, 799, 800, 801, 802, 803, 804, 805, 806, 807, 808, 809, 810] (by decide +kernel) (by decide +kernel)
set_option maxRecDepth 20000 in
theorem gL_law_X7_sheet : GoodIn wsL_law (wsV RL 136 RX7 yX7_sheet wsX7_sheet) := goodIn_app (goodIn_of _ (by decide +kernel)) ggL_law_X7_sheet
set_option maxRecDepth 20000 in
theorem ggL_law_X6_drop : GoodIn wsL_law wsX6_drop := goodIn_r _ [756, 33, 757, 758, 654, 655, 2, 656, 113, 114, 115, 783, 784, 785, 786, 787, 788, 789, 790, 791, 831, 832, 833, 834] (by decide +kernel) (by decide +kernel)
set_option maxRecDepth 20000 in
theorem gL_law_X6_drop : GoodIn wsL_law (wsV RL 137 RX6 yX6_drop wsX6_drop) := goodIn_app (goodIn_of _ (by decide +kernel)) ggL_law_X6_drop
set_option maxRecDepth 20000 in
theorem ggL_law_X7_drop : GoodIn wsL_law wsX7_drop := goodIn_r _ [762, 95, 96, 687, 688, 5, 689, 127, 128, 129, 792, 793, 794, 795, 796, 797, 798, 799, 800, 801, 802, 803, 804, 805, 806, 807, 808, 809, 810] (by decide +kernel) (by decide +kernel)
set_option maxRecDepth 20000 in
theorem gL_law_X7_drop : GoodIn wsL_law (wsV RL 140 RX7 yX7_drop wsX7_drop) := goodIn_app (goodIn_of _ (by decide +kernel)) ggL_law_X7_drop
set_option maxRecDepth 20000 in
theorem ggL_law_X6_item : GoodIn wsL_law wsX6_item := goodIn_r _ [766, 33, 654, 655, 2, 656, 113, 114, 115, 657, 658, 659, 660, 661, 662, 35, 663, 87, 88, 664, 665, 666, 667, 89, 730, 731, 732, 733, 90, 783, 784, 785, 786, 787, 788, 789, 790, 791, 831, 832, 833, 834] (by decide +kernel) (by decide +kernel)
set_option maxRecDepth 20000 in
theorem gL_law_X6_item : GoodIn wsL_law (wsV RL 143 RX6 yX6_item wsX6_item) := goodIn_app (goodIn_of _ (by decide +kernel)) ggL_law_X6_item
set_option maxRecDepth 20000 in
theorem ggL_law_X7_item : GoodIn wsL_law wsX7_item := goodIn_r _ [770, 97, 687, 688, 5, 689, 127, 128, 129, 690, 691, 692, 693, 95, 96, 694, 695, 696, 792, 793, 794, 795, 796, 797, 798, 799, 800, 801, 802, 803, 804, 805, 806, 807, 808, 809, 810] (by decide +kernel) (by decide +kernel)
set_option maxRecDepth 20000 in
theorem gL_law_X7_item : GoodIn wsL_law (wsV RL 147 RX7 yX7_item wsX7_item) := goodIn_app (goodIn_of _ (by decide +kernel)) ggL_law_X7_item
set_option maxRecDepth 20000 in
theorem ggL_law_X6_copy : GoodIn wsL_law wsX6_copy := goodIn_r _ [774, 33, 757, 775, 776, 777, 231, 232, 233, 654, 655, 2, 656, 113, 114, 115, 778, 665, 666, 35, 667, 89, 783, 784, 785, 786, 787, 788, 789, 790, 791, 831, 832, 833, 834] (by decide +kernel) (by decide +kernel)
set_option maxRecDepth 20000 in
theorem gL_law_X6_copy : GoodIn wsL_law (wsV RL 148 RX6 yX6_copy wsX6_copy) := goodIn_app (goodIn_of _ (by decide +kernel)) ggL_law_X6_copy
set_option maxRecDepth 20000 in
theorem ggL_law_X7_copy : GoodIn wsL_law wsX7_copy := goodIn_r _ [782, 95, 96, 97, 687, 688, 5, 689, 127, 128, 129, 694, 695, 696, 792, 793, 794, 795, 796, 797, 798, 799, 800, 801, 802, 803, 804, 805, 806, 807, 808, 809, 810] (by decide +kernel) (by decide +kernel)
set_option maxRecDepth 20000 in
theorem gL_law_X7_copy : GoodIn wsL_law (wsV RL 151 RX7 yX7_copy wsX7_copy) := goodIn_app (goodIn_of _ (by decide +kernel)) ggL_law_X7_copy
theorem dL_law_0 : decode cL_law 0 = .ok (.new 7, 3) := by decide +kernel
theorem dL_law_3 : decode cL_law 3 = .ok (.dup, 1) := by decide +kernel
theorem dL_law_4 : decode cL_law 4 = .ok (.invokespecial 9, 3) := by decide +kernel
theorem dL_law_7 : decode cL_law 7 = .ok (.astore_n 1, 1) := by decide +kernel
theorem dL_law_8 : decode cL_law 8 = .ok (.new 10, 3) := by decide +kernel
theorem dL_law_11 : decode cL_law 11 = .ok (.dup, 1) := by decide +kernel
theorem dL_law_12 : decode cL_law 12 = .ok (.invokespecial 12, 3) := by decide +kernel
theorem dL_law_15 : decode cL_law 15 = .ok (.astore_n 2, 1) := by decide +kernel
theorem dL_law_16 : decode cL_law 16 = .ok (.iconst 0, 1) := by decide +kernel
theorem dL_law_17 : decode cL_law 17 = .ok (.istore_n 3, 1) := by decide +kernel
theorem dL_law_18 : decode cL_law 18 = .ok (.iload_n 3, 1) := by decide +kernel
theorem dL_law_19 : decode cL_law 19 = .ok (.aload_n 0, 1) := by decide +kernel
theorem dL_law_20 : decode cL_law 20 = .ok (.arraylength, 1) := by decide +kernel
theorem dL_law_21 : decode cL_law 21 = .ok (.bipush 7, 2) := by decide +kernel
theorem dL_law_23 : decode cL_law 23 = .ok (.isub, 1) := by decide +kernel
theorem dL_law_24 : decode cL_law 24 = .ok (.if_icmp .gt 1278, 3) := by decide +kernel
theorem dL_law_27 : decode cL_law 27 = .ok (.aload_n 0, 1) := by decide +kernel
theorem dL_law_28 : decode cL_law 28 = .ok (.iload_n 3, 1) := by decide +kernel
theorem dL_law_29 : decode cL_law 29 = .ok (.iaload, 1) := by decide +kernel
theorem dL_law_30 : decode cL_law 30 = .ok (.bipush 31, 2) := by decide +kernel
theorem dL_law_32 : decode cL_law 32 = .ok (.iand, 1) := by decide +kernel
theorem dL_law_33 : decode cL_law 33 = .ok (.tableswitch 1263 0 31 #[143, 176, 219, 252, 285, 308, 321, 344, 367, 390, 423, 456, 469, 492, 535, 558, 592, 635, 658, 692, 725, 758, 781, 834, 847, 860, 923, 998, 1051, 1094, 1117, 1200], 143) := by decide +kernel
theorem dL_law_176 : decode cL_law 176 = .ok (.aload_n 1, 1) := by decide +kernel
theorem dL_law_177 : decode cL_law 177 = .ok (.aload_n 0, 1) := by decide +kernel
theorem dL_law_178 : decode cL_law 178 = .ok (.iload_n 3, 1) := by decide +kernel
theorem dL_law_179 : decode cL_law 179 = .ok (.iconst 1, 1) := by decide +kernel
theorem dL_law_180 : decode cL_law 180 = .ok (.iadd, 1) := by decide +kernel
theorem dL_law_181 : decode cL_law 181 = .ok (.iaload, 1) := by decide +kernel
theorem dL_law_182 : decode cL_law 182 = .ok (.aload_n 0, 1) := by decide +kernel
theorem dL_law_183 : decode cL_law 183 = .ok (.iload_n 3, 1) := by decide +kernel
theorem dL_law_184 : decode cL_law 184 = .ok (.iconst 2, 1) := by decide +kernel
theorem dL_law_185 : decode cL_law 185 = .ok (.iadd, 1) := by decide +kernel
theorem dL_law_186 : decode cL_law 186 = .ok (.iaload, 1) := by decide +kernel
theorem dL_law_187 : decode cL_law 187 = .ok (.invokevirtual 13, 3) := by decide +kernel
theorem dL_law_190 : decode cL_law 190 = .ok (.aload_n 2, 1) := by decide +kernel
theorem dL_law_191 : decode cL_law 191 = .ok (.aload_n 0, 1) := by decide +kernel
theorem dL_law_192 : decode cL_law 192 = .ok (.iload_n 3, 1) := by decide +kernel
theorem dL_law_193 : decode cL_law 193 = .ok (.iconst 1, 1) := by decide +kernel
theorem dL_law_194 : decode cL_law 194 = .ok (.iadd, 1) := by decide +kernel
theorem dL_law_195 : decode cL_law 195 = .ok (.iaload, 1) := by decide +kernel
theorem dL_law_196 : decode cL_law 196 = .ok (.aload_n 0, 1) := by decide +kernel
theorem dL_law_197 : decode cL_law 197 = .ok (.iload_n 3, 1) := by decide +kernel
theorem dL_law_198 : decode cL_law 198 = .ok (.iconst 2, 1) := by decide +kernel
theorem dL_law_199 : decode cL_law 199 = .ok (.iadd, 1) := by decide +kernel
theorem dL_law_200 : decode cL_law 200 = .ok (.iaload, 1) := by decide +kernel
theorem dL_law_201 : decode cL_law 201 = .ok (.invokevirtual 17, 3) := by decide +kernel
theorem dL_law_204 : decode cL_law 204 = .ok (.if_icmp .eq 1092, 3) := by decide +kernel
theorem dL_law_207 : decode cL_law 207 = .ok (.iconst 0, 1) := by decide +kernel
theorem dL_law_208 : decode cL_law 208 = .ok (.ireturn, 1) := by decide +kernel
theorem dL_law_209 : decode cL_law 209 = .ok (.aload_n 1, 1) := by decide +kernel
theorem dL_law_210 : decode cL_law 210 = .ok (.aload_n 0, 1) := by decide +kernel
theorem dL_law_211 : decode cL_law 211 = .ok (.iload_n 3, 1) := by decide +kernel
theorem dL_law_212 : decode cL_law 212 = .ok (.iconst 1, 1) := by decide +kernel
theorem dL_law_213 : decode cL_law 213 = .ok (.iadd, 1) := by decide +kernel
theorem dL_law_214 : decode cL_law 214 = .ok (.iaload, 1) := by decide +kernel
theorem dL_law_215 : decode cL_law 215 = .ok (.aload_n 0, 1) := by decide +kernel
theorem dL_law_216 : decode cL_law 216 = .ok (.iload_n 3, 1) := by decide +kernel
theorem dL_law_217 : decode cL_law 217 = .ok (.iconst 2, 1) := by decide +kernel
theorem dL_law_218 : decode cL_law 218 = .ok (.iadd, 1) := by decide +kernel
theorem dL_law_219 : decode cL_law 219 = .ok (.iaload, 1) := by decide +kernel
theorem dL_law_220 : decode cL_law 220 = .ok (.aload_n 0, 1) := by decide +kernel
theorem dL_law_221 : decode cL_law 221 = .ok (.iload_n 3, 1) := by decide +kernel
theorem dL_law_222 : decode cL_law 222 = .ok (.iconst 3, 1) := by decide +kernel
theorem dL_law_223 : decode cL_law 223 = .ok (.iadd, 1) := by decide +kernel
theorem dL_law_224 : decode cL_law 224 = .ok (.iaload, 1) := by decide +kernel
theorem dL_law_225 : decode cL_law 225 = .ok (.invokevirtual 18, 3) := by decide +kernel
theorem dL_law_228 : decode cL_law 228 = .ok (.aload_n 2, 1) := by decide +kernel
theorem dL_law_229 : decode cL_law 229 = .ok (.aload_n 0, 1) := by decide +kernel
theorem dL_law_230 : decode cL_law 230 = .ok (.iload_n 3, 1) := by decide +kernel
theorem dL_law_231 : decode cL_law 231 = .ok (.iconst 1, 1) := by decide +kernel
theorem dL_law_232 : decode cL_law 232 = .ok (.iadd, 1) := by decide +kernel
theorem dL_law_233 : decode cL_law 233 = .ok (.iaload, 1) := by decide +kernel
theorem dL_law_234 : decode cL_law 234 = .ok (.aload_n 0, 1) := by decide +kernel
theorem dL_law_235 : decode cL_law 235 = .ok (.iload_n 3, 1) := by decide +kernel
theorem dL_law_236 : decode cL_law 236 = .ok (.iconst 2, 1) := by decide +kernel
theorem dL_law_237 : decode cL_law 237 = .ok (.iadd, 1) := by decide +kernel
theorem dL_law_238 : decode cL_law 238 = .ok (.iaload, 1) := by decide +kernel
theorem dL_law_239 : decode cL_law 239 = .ok (.aload_n 0, 1) := by decide +kernel
theorem dL_law_240 : decode cL_law 240 = .ok (.iload_n 3, 1) := by decide +kernel
theorem dL_law_241 : decode cL_law 241 = .ok (.iconst 3, 1) := by decide +kernel
theorem dL_law_242 : decode cL_law 242 = .ok (.iadd, 1) := by decide +kernel
theorem dL_law_243 : decode cL_law 243 = .ok (.iaload, 1) := by decide +kernel
theorem dL_law_244 : decode cL_law 244 = .ok (.invokevirtual 22, 3) := by decide +kernel
theorem dL_law_247 : decode cL_law 247 = .ok (.if_icmp .eq 1049, 3) := by decide +kernel
theorem dL_law_250 : decode cL_law 250 = .ok (.iconst 0, 1) := by decide +kernel
theorem dL_law_251 : decode cL_law 251 = .ok (.ireturn, 1) := by decide +kernel
theorem dL_law_252 : decode cL_law 252 = .ok (.aload_n 1, 1) := by decide +kernel
theorem dL_law_253 : decode cL_law 253 = .ok (.aload_n 0, 1) := by decide +kernel
theorem dL_law_254 : decode cL_law 254 = .ok (.iload_n 3, 1) := by decide +kernel
theorem dL_law_255 : decode cL_law 255 = .ok (.iconst 1, 1) := by decide +kernel
theorem dL_law_256 : decode cL_law 256 = .ok (.iadd, 1) := by decide +kernel
theorem dL_law_257 : decode cL_law 257 = .ok (.iaload, 1) := by decide +kernel
theorem dL_law_258 : decode cL_law 258 = .ok (.aload_n 0, 1) := by decide +kernel
theorem dL_law_259 : decode cL_law 259 = .ok (.iload_n 3, 1) := by decide +kernel
theorem dL_law_260 : decode cL_law 260 = .ok (.iconst 2, 1) := by decide +kernel
theorem dL_law_261 : decode cL_law 261 = .ok (.iadd, 1) := by decide +kernel
theorem dL_law_262 : decode cL_law 262 = .ok (.iaload, 1) := by decide +kernel
theorem dL_law_263 : decode cL_law 263 = .ok (.invokevirtual 23, 3) := by decide +kernel
theorem dL_law_266 : decode cL_law 266 = .ok (.aload_n 2, 1) := by decide +kernel
theorem dL_law_267 : decode cL_law 267 = .ok (.aload_n 0, 1) := by decide +kernel
theorem dL_law_268 : decode cL_law 268 = .ok (.iload_n 3, 1) := by decide +kernel
theorem dL_law_269 : decode cL_law 269 = .ok (.iconst 1, 1) := by decide +kernel
theorem dL_law_270 : decode cL_law 270 = .ok (.iadd, 1) := by decide +kernel
theorem dL_law_271 : decode cL_law 271 = .ok (.iaload, 1) := by decide +kernel
theorem dL_law_272 : decode cL_law 272 = .ok (.aload_n 0, 1) := by decide +kernel
theorem dL_law_273 : decode cL_law 273 = .ok (.iload_n 3, 1) := by decide +kernel
theorem dL_law_274 : decode cL_law 274 = .ok (.iconst 2, 1) := by decide +kernel
theorem dL_law_275 : decode cL_law 275 = .ok (.iadd, 1) := by decide +kernel
theorem dL_law_276 : decode cL_law 276 = .ok (.iaload, 1) := by decide +kernel
theorem dL_law_277 : decode cL_law 277 = .ok (.invokevirtual 26, 3) := by decide +kernel
theorem dL_law_280 : decode cL_law 280 = .ok (.if_icmp .eq 1016, 3) := by decide +kernel
theorem dL_law_283 : decode cL_law 283 = .ok (.iconst 0, 1) := by decide +kernel
theorem dL_law_284 : decode cL_law 284 = .ok (.ireturn, 1) := by decide +kernel
theorem dL_law_285 : decode cL_law 285 = .ok (.aload_n 1, 1) := by decide +kernel
theorem dL_law_286 : decode cL_law 286 = .ok (.aload_n 0, 1) := by decide +kernel
theorem dL_law_287 : decode cL_law 287 = .ok (.iload_n 3, 1) := by decide +kernel
theorem dL_law_288 : decode cL_law 288 = .ok (.iconst 1, 1) := by decide +kernel
theorem dL_law_289 : decode cL_law 289 = .ok (.iadd, 1) := by decide +kernel
theorem dL_law_290 : decode cL_law 290 = .ok (.iaload, 1) := by decide +kernel
theorem dL_law_291 : decode cL_law 291 = .ok (.aload_n 0, 1) := by decide +kernel
theorem dL_law_292 : decode cL_law 292 = .ok (.iload_n 3, 1) := by decide +kernel
theorem dL_law_293 : decode cL_law 293 = .ok (.iconst 2, 1) := by decide +kernel
theorem dL_law_294 : decode cL_law 294 = .ok (.iadd, 1) := by decide +kernel
theorem dL_law_295 : decode cL_law 295 = .ok (.iaload, 1) := by decide +kernel
theorem dL_law_296 : decode cL_law 296 = .ok (.invokevirtual 27, 3) := by decide +kernel
theorem dL_law_299 : decode cL_law 299 = .ok (.aload_n 2, 1) := by decide +kernel
theorem dL_law_300 : decode cL_law 300 = .ok (.aload_n 0, 1) := by decide +kernel
theorem dL_law_301 : decode cL_law 301 = .ok (.iload_n 3, 1) := by decide +kernel
theorem dL_law_302 : decode cL_law 302 = .ok (.iconst 1, 1) := by decide +kernel
theorem dL_law_303 : decode cL_law 303 = .ok (.iadd, 1) := by decide +kernel
theorem dL_law_304 : decode cL_law 304 = .ok (.iaload, 1) := by decide +kernel
theorem dL_law_305 : decode cL_law 305 = .ok (.aload_n 0, 1) := by decide +kernel
theorem dL_law_306 : decode cL_law 306 = .ok (.iload_n 3, 1) := by decide +kernel
theorem dL_law_307 : decode cL_law 307 = .ok (.iconst 2, 1) := by decide +kernel
theorem dL_law_308 : decode cL_law 308 = .ok (.iadd, 1) := by decide +kernel
theorem dL_law_309 : decode cL_law 309 = .ok (.iaload, 1) := by decide +kernel
theorem dL_law_310 : decode cL_law 310 = .ok (.invokevirtual 30, 3) := by decide +kernel
theorem dL_law_313 : decode cL_law 313 = .ok (.if_icmp .eq 983, 3) := by decide +kernel
theorem dL_law_316 : decode cL_law 316 = .ok (.iconst 0, 1) := by decide +kernel
theorem dL_law_317 : decode cL_law 317 = .ok (.ireturn, 1) := by decide +kernel
theorem dL_law_318 : decode cL_law 318 = .ok (.aload_n 1, 1) := by decide +kernel
theorem dL_law_319 : decode cL_law 319 = .ok (.aload_n 0, 1) := by decide +kernel
theorem dL_law_320 : decode cL_law 320 = .ok (.iload_n 3, 1) := by decide +kernel
theorem dL_law_321 : decode cL_law 321 = .ok (.iconst 1, 1) := by decide +kernel
theorem dL_law_322 : decode cL_law 322 = .ok (.iadd, 1) := by decide +kernel
theorem dL_law_323 : decode cL_law 323 = .ok (.iaload, 1) := by decide +kernel
theorem dL_law_324 : decode cL_law 324 = .ok (.invokevirtual 31, 3) := by decide +kernel
theorem dL_law_327 : decode cL_law 327 = .ok (.aload_n 2, 1) := by decide +kernel
theorem dL_law_328 : decode cL_law 328 = .ok (.aload_n 0, 1) := by decide +kernel
theorem dL_law_329 : decode cL_law 329 = .ok (.iload_n 3, 1) := by decide +kernel
theorem dL_law_330 : decode cL_law 330 = .ok (.iconst 1, 1) := by decide +kernel
theorem dL_law_331 : decode cL_law 331 = .ok (.iadd, 1) := by decide +kernel
theorem dL_law_332 : decode cL_law 332 = .ok (.iaload, 1) := by decide +kernel
theorem dL_law_333 : decode cL_law 333 = .ok (.invokevirtual 35, 3) := by decide +kernel
theorem dL_law_336 : decode cL_law 336 = .ok (.if_icmp .eq 960, 3) := by decide +kernel
theorem dL_law_339 : decode cL_law 339 = .ok (.iconst 0, 1) := by decide +kernel
theorem dL_law_340 : decode cL_law 340 = .ok (.ireturn, 1) := by decide +kernel
theorem dL_law_341 : decode cL_law 341 = .ok (.aload_n 1, 1) := by decide +kernel
theorem dL_law_342 : decode cL_law 342 = .ok (.invokevirtual 36, 3) := by decide +kernel
theorem dL_law_345 : decode cL_law 345 = .ok (.aload_n 2, 1) := by decide +kernel
theorem dL_law_346 : decode cL_law 346 = .ok (.invokevirtual 40, 3) := by decide +kernel
theorem dL_law_349 : decode cL_law 349 = .ok (.if_icmp .eq 947, 3) := by decide +kernel
theorem dL_law_352 : decode cL_law 352 = .ok (.iconst 0, 1) := by decide +kernel
theorem dL_law_353 : decode cL_law 353 = .ok (.ireturn, 1) := by decide +kernel
theorem dL_law_354 : decode cL_law 354 = .ok (.aload_n 1, 1) := by decide +kernel
theorem dL_law_355 : decode cL_law 355 = .ok (.aload_n 0, 1) := by decide +kernel
theorem dL_law_356 : decode cL_law 356 = .ok (.iload_n 3, 1) := by decide +kernel
theorem dL_law_357 : decode cL_law 357 = .ok (.iconst 1, 1) := by decide +kernel
theorem dL_law_358 : decode cL_law 358 = .ok (.iadd, 1) := by decide +kernel
theorem dL_law_359 : decode cL_law 359 = .ok (.iaload, 1) := by decide +kernel
theorem dL_law_360 : decode cL_law 360 = .ok (.invokevirtual 41, 3) := by decide +kernel
theorem dL_law_363 : decode cL_law 363 = .ok (.aload_n 2, 1) := by decide +kernel
theorem dL_law_364 : decode cL_law 364 = .ok (.aload_n 0, 1) := by decide +kernel
theorem dL_law_365 : decode cL_law 365 = .ok (.iload_n 3, 1) := by decide +kernel
theorem dL_law_366 : decode cL_law 366 = .ok (.iconst 1, 1) := by decide +kernel
theorem dL_law_367 : decode cL_law 367 = .ok (.iadd, 1) := by decide +kernel
theorem dL_law_368 : decode cL_law 368 = .ok (.iaload, 1) := by decide +kernel
theorem dL_law_369 : decode cL_law 369 = .ok (.invokevirtual 44, 3) := by decide +kernel
theorem dL_law_372 : decode cL_law 372 = .ok (.if_icmp .eq 924, 3) := by decide +kernel
theorem dL_law_375 : decode cL_law 375 = .ok (.iconst 0, 1) := by decide +kernel
theorem dL_law_376 : decode cL_law 376 = .ok (.ireturn, 1) := by decide +kernel
theorem dL_law_377 : decode cL_law 377 = .ok (.aload_n 1, 1) := by decide +kernel
theorem dL_law_378 : decode cL_law 378 = .ok (.aload_n 0, 1) := by decide +kernel
theorem dL_law_379 : decode cL_law 379 = .ok (.iload_n 3, 1) := by decide +kernel
theorem dL_law_380 : decode cL_law 380 = .ok (.iconst 1, 1) := by decide +kernel
theorem dL_law_381 : decode cL_law 381 = .ok (.iadd, 1) := by decide +kernel
theorem dL_law_382 : decode cL_law 382 = .ok (.iaload, 1) := by decide +kernel
theorem dL_law_383 : decode cL_law 383 = .ok (.invokevirtual 45, 3) := by decide +kernel
theorem dL_law_386 : decode cL_law 386 = .ok (.aload_n 2, 1) := by decide +kernel
theorem dL_law_387 : decode cL_law 387 = .ok (.aload_n 0, 1) := by decide +kernel
theorem dL_law_388 : decode cL_law 388 = .ok (.iload_n 3, 1) := by decide +kernel
theorem dL_law_389 : decode cL_law 389 = .ok (.iconst 1, 1) := by decide +kernel
theorem dL_law_390 : decode cL_law 390 = .ok (.iadd, 1) := by decide +kernel
theorem dL_law_391 : decode cL_law 391 = .ok (.iaload, 1) := by decide +kernel
theorem dL_law_392 : decode cL_law 392 = .ok (.invokevirtual 48, 3) := by decide +kernel
theorem dL_law_395 : decode cL_law 395 = .ok (.if_icmp .eq 901, 3) := by decide +kernel
theorem dL_law_398 : decode cL_law 398 = .ok (.iconst 0, 1) := by decide +kernel
theorem dL_law_399 : decode cL_law 399 = .ok (.ireturn, 1) := by decide +kernel
theorem dL_law_400 : decode cL_law 400 = .ok (.aload_n 1, 1) := by decide +kernel
theorem dL_law_401 : decode cL_law 401 = .ok (.aload_n 0, 1) := by decide +kernel
theorem dL_law_402 : decode cL_law 402 = .ok (.iload_n 3, 1) := by decide +kernel
theorem dL_law_403 : decode cL_law 403 = .ok (.iconst 1, 1) := by decide +kernel
theorem dL_law_404 : decode cL_law 404 = .ok (.iadd, 1) := by decide +kernel
theorem dL_law_405 : decode cL_law 405 = .ok (.iaload, 1) := by decide +kernel
theorem dL_law_406 : decode cL_law 406 = .ok (.invokevirtual 49, 3) := by decide +kernel
theorem dL_law_409 : decode cL_law 409 = .ok (.aload_n 2, 1) := by decide +kernel
theorem dL_law_410 : decode cL_law 410 = .ok (.aload_n 0, 1) := by decide +kernel
theorem dL_law_411 : decode cL_law 411 = .ok (.iload_n 3, 1) := by decide +kernel
theorem dL_law_412 : decode cL_law 412 = .ok (.iconst 1, 1) := by decide +kernel
theorem dL_law_413 : decode cL_law 413 = .ok (.iadd, 1) := by decide +kernel
theorem dL_law_414 : decode cL_law 414 = .ok (.iaload, 1) := by decide +kernel
theorem dL_law_415 : decode cL_law 415 = .ok (.invokevirtual 52, 3) := by decide +kernel
theorem dL_law_418 : decode cL_law 418 = .ok (.if_icmp .eq 878, 3) := by decide +kernel
theorem dL_law_421 : decode cL_law 421 = .ok (.iconst 0, 1) := by decide +kernel
theorem dL_law_422 : decode cL_law 422 = .ok (.ireturn, 1) := by decide +kernel
theorem dL_law_423 : decode cL_law 423 = .ok (.aload_n 1, 1) := by decide +kernel
theorem dL_law_424 : decode cL_law 424 = .ok (.aload_n 0, 1) := by decide +kernel
theorem dL_law_425 : decode cL_law 425 = .ok (.iload_n 3, 1) := by decide +kernel
theorem dL_law_426 : decode cL_law 426 = .ok (.iconst 1, 1) := by decide +kernel
theorem dL_law_427 : decode cL_law 427 = .ok (.iadd, 1) := by decide +kernel
theorem dL_law_428 : decode cL_law 428 = .ok (.iaload, 1) := by decide +kernel
theorem dL_law_429 : decode cL_law 429 = .ok (.aload_n 0, 1) := by decide +kernel
theorem dL_law_430 : decode cL_law 430 = .ok (.iload_n 3, 1) := by decide +kernel
theorem dL_law_431 : decode cL_law 431 = .ok (.iconst 2, 1) := by decide +kernel
theorem dL_law_432 : decode cL_law 432 = .ok (.iadd, 1) := by decide +kernel
theorem dL_law_433 : decode cL_law 433 = .ok (.iaload, 1) := by decide +kernel
theorem dL_law_434 : decode cL_law 434 = .ok (.invokevirtual 53, 3) := by decide +kernel
theorem dL_law_437 : decode cL_law 437 = .ok (.aload_n 2, 1) := by decide +kernel
theorem dL_law_438 : decode cL_law 438 = .ok (.aload_n 0, 1) := by decide +kernel
theorem dL_law_439 : decode cL_law 439 = .ok (.iload_n 3, 1) := by decide +kernel
theorem dL_law_440 : decode cL_law 440 = .ok (.iconst 1, 1) := by decide +kernel
theorem dL_law_441 : decode cL_law 441 = .ok (.iadd, 1) := by decide +kernel
theorem dL_law_442 : decode cL_law 442 = .ok (.iaload, 1) := by decide +kernel
theorem dL_law_443 : decode cL_law 443 = .ok (.aload_n 0, 1) := by decide +kernel
theorem dL_law_444 : decode cL_law 444 = .ok (.iload_n 3, 1) := by decide +kernel
theorem dL_law_445 : decode cL_law 445 = .ok (.iconst 2, 1) := by decide +kernel
theorem dL_law_446 : decode cL_law 446 = .ok (.iadd, 1) := by decide +kernel
theorem dL_law_447 : decode cL_law 447 = .ok (.iaload, 1) := by decide +kernel
theorem dL_law_448 : decode cL_law 448 = .ok (.invokevirtual 56, 3) := by decide +kernel
theorem dL_law_451 : decode cL_law 451 = .ok (.if_icmp .eq 845, 3) := by decide +kernel
theorem dL_law_454 : decode cL_law 454 = .ok (.iconst 0, 1) := by decide +kernel
theorem dL_law_455 : decode cL_law 455 = .ok (.ireturn, 1) := by decide +kernel
theorem dL_law_456 : decode cL_law 456 = .ok (.aload_n 1, 1) := by decide +kernel
theorem dL_law_457 : decode cL_law 457 = .ok (.aload_n 0, 1) := by decide +kernel
theorem dL_law_458 : decode cL_law 458 = .ok (.iload_n 3, 1) := by decide +kernel
theorem dL_law_459 : decode cL_law 459 = .ok (.iconst 1, 1) := by decide +kernel
theorem dL_law_460 : decode cL_law 460 = .ok (.iadd, 1) := by decide +kernel
theorem dL_law_461 : decode cL_law 461 = .ok (.iaload, 1) := by decide +kernel
theorem dL_law_462 : decode cL_law 462 = .ok (.aload_n 0, 1) := by decide +kernel
theorem dL_law_463 : decode cL_law 463 = .ok (.iload_n 3, 1) := by decide +kernel
theorem dL_law_464 : decode cL_law 464 = .ok (.iconst 2, 1) := by decide +kernel
theorem dL_law_465 : decode cL_law 465 = .ok (.iadd, 1) := by decide +kernel
theorem dL_law_466 : decode cL_law 466 = .ok (.iaload, 1) := by decide +kernel
theorem dL_law_467 : decode cL_law 467 = .ok (.invokevirtual 57, 3) := by decide +kernel
theorem dL_law_470 : decode cL_law 470 = .ok (.aload_n 2, 1) := by decide +kernel
theorem dL_law_471 : decode cL_law 471 = .ok (.aload_n 0, 1) := by decide +kernel
theorem dL_law_472 : decode cL_law 472 = .ok (.iload_n 3, 1) := by decide +kernel
theorem dL_law_473 : decode cL_law 473 = .ok (.iconst 1, 1) := by decide +kernel
theorem dL_law_474 : decode cL_law 474 = .ok (.iadd, 1) := by decide +kernel
theorem dL_law_475 : decode cL_law 475 = .ok (.iaload, 1) := by decide +kernel
theorem dL_law_476 : decode cL_law 476 = .ok (.aload_n 0, 1) := by decide +kernel
theorem dL_law_477 : decode cL_law 477 = .ok (.iload_n 3, 1) := by decide +kernel
theorem dL_law_478 : decode cL_law 478 = .ok (.iconst 2, 1) := by decide +kernel
theorem dL_law_479 : decode cL_law 479 = .ok (.iadd, 1) := by decide +kernel
theorem dL_law_480 : decode cL_law 480 = .ok (.iaload, 1) := by decide +kernel
theorem dL_law_481 : decode cL_law 481 = .ok (.invokevirtual 60, 3) := by decide +kernel
theorem dL_law_484 : decode cL_law 484 = .ok (.if_icmp .eq 812, 3) := by decide +kernel
theorem dL_law_487 : decode cL_law 487 = .ok (.iconst 0, 1) := by decide +kernel
theorem dL_law_488 : decode cL_law 488 = .ok (.ireturn, 1) := by decide +kernel
theorem dL_law_489 : decode cL_law 489 = .ok (.aload_n 1, 1) := by decide +kernel
theorem dL_law_490 : decode cL_law 490 = .ok (.invokevirtual 61, 3) := by decide +kernel
theorem dL_law_493 : decode cL_law 493 = .ok (.aload_n 2, 1) := by decide +kernel
theorem dL_law_494 : decode cL_law 494 = .ok (.invokevirtual 64, 3) := by decide +kernel
theorem dL_law_497 : decode cL_law 497 = .ok (.if_icmp .eq 799, 3) := by decide +kernel
theorem dL_law_500 : decode cL_law 500 = .ok (.iconst 0, 1) := by decide +kernel
theorem dL_law_501 : decode cL_law 501 = .ok (.ireturn, 1) := by decide +kernel
theorem dL_law_502 : decode cL_law 502 = .ok (.aload_n 1, 1) := by decide +kernel
theorem dL_law_503 : decode cL_law 503 = .ok (.aload_n 0, 1) := by decide +kernel
theorem dL_law_504 : decode cL_law 504 = .ok (.iload_n 3, 1) := by decide +kernel
theorem dL_law_505 : decode cL_law 505 = .ok (.iconst 1, 1) := by decide +kernel
theorem dL_law_506 : decode cL_law 506 = .ok (.iadd, 1) := by decide +kernel
theorem dL_law_507 : decode cL_law 507 = .ok (.iaload, 1) := by decide +kernel
theorem dL_law_508 : decode cL_law 508 = .ok (.invokevirtual 65, 3) := by decide +kernel
theorem dL_law_511 : decode cL_law 511 = .ok (.aload_n 2, 1) := by decide +kernel
theorem dL_law_512 : decode cL_law 512 = .ok (.aload_n 0, 1) := by decide +kernel
theorem dL_law_513 : decode cL_law 513 = .ok (.iload_n 3, 1) := by decide +kernel
theorem dL_law_514 : decode cL_law 514 = .ok (.iconst 1, 1) := by decide +kernel
theorem dL_law_515 : decode cL_law 515 = .ok (.iadd, 1) := by decide +kernel
theorem dL_law_516 : decode cL_law 516 = .ok (.iaload, 1) := by decide +kernel
theorem dL_law_517 : decode cL_law 517 = .ok (.invokevirtual 68, 3) := by decide +kernel
theorem dL_law_520 : decode cL_law 520 = .ok (.if_icmp .eq 776, 3) := by decide +kernel
theorem dL_law_523 : decode cL_law 523 = .ok (.iconst 0, 1) := by decide +kernel
theorem dL_law_524 : decode cL_law 524 = .ok (.ireturn, 1) := by decide +kernel
theorem dL_law_525 : decode cL_law 525 = .ok (.aload_n 1, 1) := by decide +kernel
theorem dL_law_526 : decode cL_law 526 = .ok (.aload_n 0, 1) := by decide +kernel
theorem dL_law_527 : decode cL_law 527 = .ok (.iload_n 3, 1) := by decide +kernel
theorem dL_law_528 : decode cL_law 528 = .ok (.iconst 1, 1) := by decide +kernel
theorem dL_law_529 : decode cL_law 529 = .ok (.iadd, 1) := by decide +kernel
theorem dL_law_530 : decode cL_law 530 = .ok (.iaload, 1) := by decide +kernel
theorem dL_law_531 : decode cL_law 531 = .ok (.aload_n 0, 1) := by decide +kernel
theorem dL_law_532 : decode cL_law 532 = .ok (.iload_n 3, 1) := by decide +kernel
theorem dL_law_533 : decode cL_law 533 = .ok (.iconst 2, 1) := by decide +kernel
theorem dL_law_534 : decode cL_law 534 = .ok (.iadd, 1) := by decide +kernel
theorem dL_law_535 : decode cL_law 535 = .ok (.iaload, 1) := by decide +kernel
theorem dL_law_536 : decode cL_law 536 = .ok (.aload_n 0, 1) := by decide +kernel
theorem dL_law_537 : decode cL_law 537 = .ok (.iload_n 3, 1) := by decide +kernel
theorem dL_law_538 : decode cL_law 538 = .ok (.iconst 3, 1) := by decide +kernel
theorem dL_law_539 : decode cL_law 539 = .ok (.iadd, 1) := by decide +kernel
theorem dL_law_540 : decode cL_law 540 = .ok (.iaload, 1) := by decide +kernel
theorem dL_law_541 : decode cL_law 541 = .ok (.invokevirtual 69, 3) := by decide +kernel
theorem dL_law_544 : decode cL_law 544 = .ok (.aload_n 2, 1) := by decide +kernel
theorem dL_law_545 : decode cL_law 545 = .ok (.aload_n 0, 1) := by decide +kernel
theorem dL_law_546 : decode cL_law 546 = .ok (.iload_n 3, 1) := by decide +kernel
theorem dL_law_547 : decode cL_law 547 = .ok (.iconst 1, 1) := by decide +kernel
theorem dL_law_548 : decode cL_law 548 = .ok (.iadd, 1) := by decide +kernel
theorem dL_law_549 : decode cL_law 549 = .ok (.iaload, 1) := by decide +kernel
theorem dL_law_550 : decode cL_law 550 = .ok (.aload_n 0, 1) := by decide +kernel
theorem dL_law_551 : decode cL_law 551 = .ok (.iload_n 3, 1) := by decide +kernel
theorem dL_law_552 : decode cL_law 552 = .ok (.iconst 2, 1) := by decide +kernel
theorem dL_law_553 : decode cL_law 553 = .ok (.iadd, 1) := by decide +kernel
theorem dL_law_554 : decode cL_law 554 = .ok (.iaload, 1) := by decide +kernel
theorem dL_law_555 : decode cL_law 555 = .ok (.aload_n 0, 1) := by decide +kernel
theorem dL_law_556 : decode cL_law 556 = .ok (.iload_n 3, 1) := by decide +kernel
theorem dL_law_557 : decode cL_law 557 = .ok (.iconst 3, 1) := by decide +kernel
theorem dL_law_558 : decode cL_law 558 = .ok (.iadd, 1) := by decide +kernel
theorem dL_law_559 : decode cL_law 559 = .ok (.iaload, 1) := by decide +kernel
theorem dL_law_560 : decode cL_law 560 = .ok (.invokevirtual 72, 3) := by decide +kernel
theorem dL_law_563 : decode cL_law 563 = .ok (.if_icmp .eq 733, 3) := by decide +kernel
theorem dL_law_566 : decode cL_law 566 = .ok (.iconst 0, 1) := by decide +kernel
theorem dL_law_567 : decode cL_law 567 = .ok (.ireturn, 1) := by decide +kernel
theorem dL_law_568 : decode cL_law 568 = .ok (.aload_n 1, 1) := by decide +kernel
theorem dL_law_569 : decode cL_law 569 = .ok (.aload_n 0, 1) := by decide +kernel
theorem dL_law_570 : decode cL_law 570 = .ok (.iload_n 3, 1) := by decide +kernel
theorem dL_law_571 : decode cL_law 571 = .ok (.iconst 1, 1) := by decide +kernel
theorem dL_law_572 : decode cL_law 572 = .ok (.iadd, 1) := by decide +kernel
theorem dL_law_573 : decode cL_law 573 = .ok (.iaload, 1) := by decide +kernel
theorem dL_law_574 : decode cL_law 574 = .ok (.invokevirtual 73, 3) := by decide +kernel
theorem dL_law_577 : decode cL_law 577 = .ok (.aload_n 2, 1) := by decide +kernel
theorem dL_law_578 : decode cL_law 578 = .ok (.aload_n 0, 1) := by decide +kernel
theorem dL_law_579 : decode cL_law 579 = .ok (.iload_n 3, 1) := by decide +kernel
theorem dL_law_580 : decode cL_law 580 = .ok (.iconst 1, 1) := by decide +kernel
theorem dL_law_581 : decode cL_law 581 = .ok (.iadd, 1) := by decide +kernel
theorem dL_law_582 : decode cL_law 582 = .ok (.iaload, 1) := by decide +kernel
theorem dL_law_583 : decode cL_law 583 = .ok (.invokevirtual 76, 3) := by decide +kernel
theorem dL_law_586 : decode cL_law 586 = .ok (.if_icmp .eq 710, 3) := by decide +kernel
theorem dL_law_589 : decode cL_law 589 = .ok (.iconst 0, 1) := by decide +kernel
theorem dL_law_590 : decode cL_law 590 = .ok (.ireturn, 1) := by decide +kernel
theorem dL_law_591 : decode cL_law 591 = .ok (.aload_n 1, 1) := by decide +kernel
theorem dL_law_592 : decode cL_law 592 = .ok (.aload_n 0, 1) := by decide +kernel
theorem dL_law_593 : decode cL_law 593 = .ok (.iload_n 3, 1) := by decide +kernel
theorem dL_law_594 : decode cL_law 594 = .ok (.iconst 1, 1) := by decide +kernel
theorem dL_law_595 : decode cL_law 595 = .ok (.iadd, 1) := by decide +kernel
theorem dL_law_596 : decode cL_law 596 = .ok (.iaload, 1) := by decide +kernel
theorem dL_law_597 : decode cL_law 597 = .ok (.aload_n 0, 1) := by decide +kernel
theorem dL_law_598 : decode cL_law 598 = .ok (.iload_n 3, 1) := by decide +kernel
theorem dL_law_599 : decode cL_law 599 = .ok (.iconst 2, 1) := by decide +kernel
theorem dL_law_600 : decode cL_law 600 = .ok (.iadd, 1) := by decide +kernel
theorem dL_law_601 : decode cL_law 601 = .ok (.iaload, 1) := by decide +kernel
theorem dL_law_602 : decode cL_law 602 = .ok (.invokevirtual 77, 3) := by decide +kernel
theorem dL_law_605 : decode cL_law 605 = .ok (.aload_n 2, 1) := by decide +kernel
theorem dL_law_606 : decode cL_law 606 = .ok (.aload_n 0, 1) := by decide +kernel
theorem dL_law_607 : decode cL_law 607 = .ok (.iload_n 3, 1) := by decide +kernel
theorem dL_law_608 : decode cL_law 608 = .ok (.iconst 1, 1) := by decide +kernel
theorem dL_law_609 : decode cL_law 609 = .ok (.iadd, 1) := by decide +kernel
theorem dL_law_610 : decode cL_law 610 = .ok (.iaload, 1) := by decide +kernel
theorem dL_law_611 : decode cL_law 611 = .ok (.aload_n 0, 1) := by decide +kernel
theorem dL_law_612 : decode cL_law 612 = .ok (.iload_n 3, 1) := by decide +kernel
theorem dL_law_613 : decode cL_law 613 = .ok (.iconst 2, 1) := by decide +kernel
theorem dL_law_614 : decode cL_law 614 = .ok (.iadd, 1) := by decide +kernel
theorem dL_law_615 : decode cL_law 615 = .ok (.iaload, 1) := by decide +kernel
theorem dL_law_616 : decode cL_law 616 = .ok (.invokevirtual 81, 3) := by decide +kernel
theorem dL_law_619 : decode cL_law 619 = .ok (.lcmp, 1) := by decide +kernel
theorem dL_law_620 : decode cL_law 620 = .ok (.ifCond .eq 676, 3) := by decide +kernel
theorem dL_law_623 : decode cL_law 623 = .ok (.iconst 0, 1) := by decide +kernel
theorem dL_law_624 : decode cL_law 624 = .ok (.ireturn, 1) := by decide +kernel
theorem dL_law_625 : decode cL_law 625 = .ok (.aload_n 1, 1) := by decide +kernel
theorem dL_law_626 : decode cL_law 626 = .ok (.aload_n 0, 1) := by decide +kernel
theorem dL_law_627 : decode cL_law 627 = .ok (.iload_n 3, 1) := by decide +kernel
theorem dL_law_628 : decode cL_law 628 = .ok (.iconst 1, 1) := by decide +kernel
theorem dL_law_629 : decode cL_law 629 = .ok (.iadd, 1) := by decide +kernel
theorem dL_law_630 : decode cL_law 630 = .ok (.iaload, 1) := by decide +kernel
theorem dL_law_631 : decode cL_law 631 = .ok (.aload_n 0, 1) := by decide +kernel
theorem dL_law_632 : decode cL_law 632 = .ok (.iload_n 3, 1) := by decide +kernel
theorem dL_law_633 : decode cL_law 633 = .ok (.iconst 2, 1) := by decide +kernel
theorem dL_law_634 : decode cL_law 634 = .ok (.iadd, 1) := by decide +kernel
theorem dL_law_635 : decode cL_law 635 = .ok (.iaload, 1) := by decide +kernel
theorem dL_law_636 : decode cL_law 636 = .ok (.aload_n 0, 1) := by decide +kernel
theorem dL_law_637 : decode cL_law 637 = .ok (.iload_n 3, 1) := by decide +kernel
theorem dL_law_638 : decode cL_law 638 = .ok (.iconst 3, 1) := by decide +kernel
theorem dL_law_639 : decode cL_law 639 = .ok (.iadd, 1) := by decide +kernel
theorem dL_law_640 : decode cL_law 640 = .ok (.iaload, 1) := by decide +kernel
theorem dL_law_641 : decode cL_law 641 = .ok (.invokevirtual 82, 3) := by decide +kernel
theorem dL_law_644 : decode cL_law 644 = .ok (.aload_n 2, 1) := by decide +kernel
theorem dL_law_645 : decode cL_law 645 = .ok (.aload_n 0, 1) := by decide +kernel
theorem dL_law_646 : decode cL_law 646 = .ok (.iload_n 3, 1) := by decide +kernel
theorem dL_law_647 : decode cL_law 647 = .ok (.iconst 1, 1) := by decide +kernel
theorem dL_law_648 : decode cL_law 648 = .ok (.iadd, 1) := by decide +kernel
theorem dL_law_649 : decode cL_law 649 = .ok (.iaload, 1) := by decide +kernel
theorem dL_law_650 : decode cL_law 650 = .ok (.aload_n 0, 1) := by decide +kernel
theorem dL_law_651 : decode cL_law 651 = .ok (.iload_n 3, 1) := by decide +kernel
theorem dL_law_652 : decode cL_law 652 = .ok (.iconst 2, 1) := by decide +kernel
theorem dL_law_653 : decode cL_law 653 = .ok (.iadd, 1) := by decide +kernel
theorem dL_law_654 : decode cL_law 654 = .ok (.iaload, 1) := by decide +kernel
theorem dL_law_655 : decode cL_law 655 = .ok (.aload_n 0, 1) := by decide +kernel
theorem dL_law_656 : decode cL_law 656 = .ok (.iload_n 3, 1) := by decide +kernel
theorem dL_law_657 : decode cL_law 657 = .ok (.iconst 3, 1) := by decide +kernel
theorem dL_law_658 : decode cL_law 658 = .ok (.iadd, 1) := by decide +kernel
theorem dL_law_659 : decode cL_law 659 = .ok (.iaload, 1) := by decide +kernel
theorem dL_law_660 : decode cL_law 660 = .ok (.invokevirtual 85, 3) := by decide +kernel
theorem dL_law_663 : decode cL_law 663 = .ok (.if_icmp .eq 633, 3) := by decide +kernel
theorem dL_law_666 : decode cL_law 666 = .ok (.iconst 0, 1) := by decide +kernel
theorem dL_law_667 : decode cL_law 667 = .ok (.ireturn, 1) := by decide +kernel
theorem dL_law_668 : decode cL_law 668 = .ok (.aload_n 1, 1) := by decide +kernel
theorem dL_law_669 : decode cL_law 669 = .ok (.aload_n 0, 1) := by decide +kernel
theorem dL_law_670 : decode cL_law 670 = .ok (.iload_n 3, 1) := by decide +kernel
theorem dL_law_671 : decode cL_law 671 = .ok (.iconst 1, 1) := by decide +kernel
theorem dL_law_672 : decode cL_law 672 = .ok (.iadd, 1) := by decide +kernel
theorem dL_law_673 : decode cL_law 673 = .ok (.iaload, 1) := by decide +kernel
theorem dL_law_674 : decode cL_law 674 = .ok (.invokevirtual 86, 3) := by decide +kernel
theorem dL_law_677 : decode cL_law 677 = .ok (.aload_n 2, 1) := by decide +kernel
theorem dL_law_678 : decode cL_law 678 = .ok (.aload_n 0, 1) := by decide +kernel
theorem dL_law_679 : decode cL_law 679 = .ok (.iload_n 3, 1) := by decide +kernel
theorem dL_law_680 : decode cL_law 680 = .ok (.iconst 1, 1) := by decide +kernel
theorem dL_law_681 : decode cL_law 681 = .ok (.iadd, 1) := by decide +kernel
theorem dL_law_682 : decode cL_law 682 = .ok (.iaload, 1) := by decide +kernel
theorem dL_law_683 : decode cL_law 683 = .ok (.invokevirtual 89, 3) := by decide +kernel
theorem dL_law_686 : decode cL_law 686 = .ok (.if_icmp .eq 610, 3) := by decide +kernel
theorem dL_law_689 : decode cL_law 689 = .ok (.iconst 0, 1) := by decide +kernel
theorem dL_law_690 : decode cL_law 690 = .ok (.ireturn, 1) := by decide +kernel
theorem dL_law_691 : decode cL_law 691 = .ok (.aload_n 1, 1) := by decide +kernel
theorem dL_law_692 : decode cL_law 692 = .ok (.aload_n 0, 1) := by decide +kernel
theorem dL_law_693 : decode cL_law 693 = .ok (.iload_n 3, 1) := by decide +kernel
theorem dL_law_694 : decode cL_law 694 = .ok (.iconst 1, 1) := by decide +kernel
theorem dL_law_695 : decode cL_law 695 = .ok (.iadd, 1) := by decide +kernel
theorem dL_law_696 : decode cL_law 696 = .ok (.iaload, 1) := by decide +kernel
theorem dL_law_697 : decode cL_law 697 = .ok (.aload_n 0, 1) := by decide +kernel
theorem dL_law_698 : decode cL_law 698 = .ok (.iload_n 3, 1) := by decide +kernel
theorem dL_law_699 : decode cL_law 699 = .ok (.iconst 2, 1) := by decide +kernel
theorem dL_law_700 : decode cL_law 700 = .ok (.iadd, 1) := by decide +kernel
theorem dL_law_701 : decode cL_law 701 = .ok (.iaload, 1) := by decide +kernel
theorem dL_law_702 : decode cL_law 702 = .ok (.invokevirtual 90, 3) := by decide +kernel
theorem dL_law_705 : decode cL_law 705 = .ok (.aload_n 2, 1) := by decide +kernel
theorem dL_law_706 : decode cL_law 706 = .ok (.aload_n 0, 1) := by decide +kernel
theorem dL_law_707 : decode cL_law 707 = .ok (.iload_n 3, 1) := by decide +kernel
theorem dL_law_708 : decode cL_law 708 = .ok (.iconst 1, 1) := by decide +kernel
theorem dL_law_709 : decode cL_law 709 = .ok (.iadd, 1) := by decide +kernel
theorem dL_law_710 : decode cL_law 710 = .ok (.iaload, 1) := by decide +kernel
theorem dL_law_711 : decode cL_law 711 = .ok (.aload_n 0, 1) := by decide +kernel
theorem dL_law_712 : decode cL_law 712 = .ok (.iload_n 3, 1) := by decide +kernel
theorem dL_law_713 : decode cL_law 713 = .ok (.iconst 2, 1) := by decide +kernel
theorem dL_law_714 : decode cL_law 714 = .ok (.iadd, 1) := by decide +kernel
theorem dL_law_715 : decode cL_law 715 = .ok (.iaload, 1) := by decide +kernel
theorem dL_law_716 : decode cL_law 716 = .ok (.invokevirtual 93, 3) := by decide +kernel
theorem dL_law_719 : decode cL_law 719 = .ok (.lcmp, 1) := by decide +kernel
theorem dL_law_720 : decode cL_law 720 = .ok (.ifCond .eq 576, 3) := by decide +kernel
theorem dL_law_723 : decode cL_law 723 = .ok (.iconst 0, 1) := by decide +kernel
theorem dL_law_724 : decode cL_law 724 = .ok (.ireturn, 1) := by decide +kernel
theorem dL_law_725 : decode cL_law 725 = .ok (.aload_n 1, 1) := by decide +kernel
theorem dL_law_726 : decode cL_law 726 = .ok (.aload_n 0, 1) := by decide +kernel
theorem dL_law_727 : decode cL_law 727 = .ok (.iload_n 3, 1) := by decide +kernel
theorem dL_law_728 : decode cL_law 728 = .ok (.iconst 1, 1) := by decide +kernel
theorem dL_law_729 : decode cL_law 729 = .ok (.iadd, 1) := by decide +kernel
theorem dL_law_730 : decode cL_law 730 = .ok (.iaload, 1) := by decide +kernel
theorem dL_law_731 : decode cL_law 731 = .ok (.aload_n 0, 1) := by decide +kernel
theorem dL_law_732 : decode cL_law 732 = .ok (.iload_n 3, 1) := by decide +kernel
theorem dL_law_733 : decode cL_law 733 = .ok (.iconst 2, 1) := by decide +kernel
theorem dL_law_734 : decode cL_law 734 = .ok (.iadd, 1) := by decide +kernel
theorem dL_law_735 : decode cL_law 735 = .ok (.iaload, 1) := by decide +kernel
theorem dL_law_736 : decode cL_law 736 = .ok (.invokevirtual 94, 3) := by decide +kernel
theorem dL_law_739 : decode cL_law 739 = .ok (.aload_n 2, 1) := by decide +kernel
theorem dL_law_740 : decode cL_law 740 = .ok (.aload_n 0, 1) := by decide +kernel
theorem dL_law_741 : decode cL_law 741 = .ok (.iload_n 3, 1) := by decide +kernel
theorem dL_law_742 : decode cL_law 742 = .ok (.iconst 1, 1) := by decide +kernel
theorem dL_law_743 : decode cL_law 743 = .ok (.iadd, 1) := by decide +kernel
theorem dL_law_744 : decode cL_law 744 = .ok (.iaload, 1) := by decide +kernel
theorem dL_law_745 : decode cL_law 745 = .ok (.aload_n 0, 1) := by decide +kernel
theorem dL_law_746 : decode cL_law 746 = .ok (.iload_n 3, 1) := by decide +kernel
theorem dL_law_747 : decode cL_law 747 = .ok (.iconst 2, 1) := by decide +kernel
theorem dL_law_748 : decode cL_law 748 = .ok (.iadd, 1) := by decide +kernel
theorem dL_law_749 : decode cL_law 749 = .ok (.iaload, 1) := by decide +kernel
theorem dL_law_750 : decode cL_law 750 = .ok (.invokevirtual 97, 3) := by decide +kernel
theorem dL_law_753 : decode cL_law 753 = .ok (.if_icmp .eq 543, 3) := by decide +kernel
theorem dL_law_756 : decode cL_law 756 = .ok (.iconst 0, 1) := by decide +kernel
theorem dL_law_757 : decode cL_law 757 = .ok (.ireturn, 1) := by decide +kernel
theorem dL_law_758 : decode cL_law 758 = .ok (.aload_n 1, 1) := by decide +kernel
theorem dL_law_759 : decode cL_law 759 = .ok (.aload_n 0, 1) := by decide +kernel
theorem dL_law_760 : decode cL_law 760 = .ok (.iload_n 3, 1) := by decide +kernel
theorem dL_law_761 : decode cL_law 761 = .ok (.iconst 1, 1) := by decide +kernel
theorem dL_law_762 : decode cL_law 762 = .ok (.iadd, 1) := by decide +kernel
theorem dL_law_763 : decode cL_law 763 = .ok (.iaload, 1) := by decide +kernel
theorem dL_law_764 : decode cL_law 764 = .ok (.aload_n 0, 1) := by decide +kernel
theorem dL_law_765 : decode cL_law 765 = .ok (.iload_n 3, 1) := by decide +kernel
theorem dL_law_766 : decode cL_law 766 = .ok (.iconst 2, 1) := by decide +kernel
theorem dL_law_767 : decode cL_law 767 = .ok (.iadd, 1) := by decide +kernel
theorem dL_law_768 : decode cL_law 768 = .ok (.iaload, 1) := by decide +kernel
theorem dL_law_769 : decode cL_law 769 = .ok (.invokevirtual 98, 3) := by decide +kernel
theorem dL_law_772 : decode cL_law 772 = .ok (.aload_n 2, 1) := by decide +kernel
theorem dL_law_773 : decode cL_law 773 = .ok (.aload_n 0, 1) := by decide +kernel
theorem dL_law_774 : decode cL_law 774 = .ok (.iload_n 3, 1) := by decide +kernel
theorem dL_law_775 : decode cL_law 775 = .ok (.iconst 1, 1) := by decide +kernel
theorem dL_law_776 : decode cL_law 776 = .ok (.iadd, 1) := by decide +kernel
theorem dL_law_777 : decode cL_law 777 = .ok (.iaload, 1) := by decide +kernel
theorem dL_law_778 : decode cL_law 778 = .ok (.aload_n 0, 1) := by decide +kernel
theorem dL_law_779 : decode cL_law 779 = .ok (.iload_n 3, 1) := by decide +kernel
theorem dL_law_780 : decode cL_law 780 = .ok (.iconst 2, 1) := by decide +kernel
theorem dL_law_781 : decode cL_law 781 = .ok (.iadd, 1) := by decide +kernel
theorem dL_law_782 : decode cL_law 782 = .ok (.iaload, 1) := by decide +kernel
theorem dL_law_783 : decode cL_law 783 = .ok (.invokevirtual 101, 3) := by decide +kernel
theorem dL_law_786 : decode cL_law 786 = .ok (.if_icmp .eq 510, 3) := by decide +kernel
theorem dL_law_789 : decode cL_law 789 = .ok (.iconst 0, 1) := by decide +kernel
theorem dL_law_790 : decode cL_law 790 = .ok (.ireturn, 1) := by decide +kernel
theorem dL_law_791 : decode cL_law 791 = .ok (.aload_n 1, 1) := by decide +kernel
theorem dL_law_792 : decode cL_law 792 = .ok (.aload_n 0, 1) := by decide +kernel
theorem dL_law_793 : decode cL_law 793 = .ok (.iload_n 3, 1) := by decide +kernel
theorem dL_law_794 : decode cL_law 794 = .ok (.iconst 1, 1) := by decide +kernel
theorem dL_law_795 : decode cL_law 795 = .ok (.iadd, 1) := by decide +kernel
theorem dL_law_796 : decode cL_law 796 = .ok (.iaload, 1) := by decide +kernel
theorem dL_law_797 : decode cL_law 797 = .ok (.invokevirtual 102, 3) := by decide +kernel
theorem dL_law_800 : decode cL_law 800 = .ok (.aload_n 2, 1) := by decide +kernel
theorem dL_law_801 : decode cL_law 801 = .ok (.aload_n 0, 1) := by decide +kernel
theorem dL_law_802 : decode cL_law 802 = .ok (.iload_n 3, 1) := by decide +kernel
theorem dL_law_803 : decode cL_law 803 = .ok (.iconst 1, 1) := by decide +kernel
theorem dL_law_804 : decode cL_law 804 = .ok (.iadd, 1) := by decide +kernel
theorem dL_law_805 : decode cL_law 805 = .ok (.iaload, 1) := by decide +kernel
theorem dL_law_806 : decode cL_law 806 = .ok (.invokevirtual 105, 3) := by decide +kernel
theorem dL_law_809 : decode cL_law 809 = .ok (.if_icmp .eq 487, 3) := by decide +kernel
theorem dL_law_812 : decode cL_law 812 = .ok (.iconst 0, 1) := by decide +kernel
theorem dL_law_813 : decode cL_law 813 = .ok (.ireturn, 1) := by decide +kernel
theorem dL_law_814 : decode cL_law 814 = .ok (.aload_n 1, 1) := by decide +kernel
theorem dL_law_815 : decode cL_law 815 = .ok (.aload_n 0, 1) := by decide +kernel
theorem dL_law_816 : decode cL_law 816 = .ok (.iload_n 3, 1) := by decide +kernel
theorem dL_law_817 : decode cL_law 817 = .ok (.iconst 1, 1) := by decide +kernel
theorem dL_law_818 : decode cL_law 818 = .ok (.iadd, 1) := by decide +kernel
theorem dL_law_819 : decode cL_law 819 = .ok (.iaload, 1) := by decide +kernel
theorem dL_law_820 : decode cL_law 820 = .ok (.aload_n 0, 1) := by decide +kernel
theorem dL_law_821 : decode cL_law 821 = .ok (.iload_n 3, 1) := by decide +kernel
theorem dL_law_822 : decode cL_law 822 = .ok (.iconst 2, 1) := by decide +kernel
theorem dL_law_823 : decode cL_law 823 = .ok (.iadd, 1) := by decide +kernel
theorem dL_law_824 : decode cL_law 824 = .ok (.iaload, 1) := by decide +kernel
theorem dL_law_825 : decode cL_law 825 = .ok (.aload_n 0, 1) := by decide +kernel
theorem dL_law_826 : decode cL_law 826 = .ok (.iload_n 3, 1) := by decide +kernel
theorem dL_law_827 : decode cL_law 827 = .ok (.iconst 3, 1) := by decide +kernel
theorem dL_law_828 : decode cL_law 828 = .ok (.iadd, 1) := by decide +kernel
theorem dL_law_829 : decode cL_law 829 = .ok (.iaload, 1) := by decide +kernel
theorem dL_law_830 : decode cL_law 830 = .ok (.aload_n 0, 1) := by decide +kernel
theorem dL_law_831 : decode cL_law 831 = .ok (.iload_n 3, 1) := by decide +kernel
theorem dL_law_832 : decode cL_law 832 = .ok (.iconst 4, 1) := by decide +kernel
theorem dL_law_833 : decode cL_law 833 = .ok (.iadd, 1) := by decide +kernel
theorem dL_law_834 : decode cL_law 834 = .ok (.iaload, 1) := by decide +kernel
theorem dL_law_835 : decode cL_law 835 = .ok (.invokevirtual 106, 3) := by decide +kernel
theorem dL_law_838 : decode cL_law 838 = .ok (.aload_n 2, 1) := by decide +kernel
theorem dL_law_839 : decode cL_law 839 = .ok (.aload_n 0, 1) := by decide +kernel
theorem dL_law_840 : decode cL_law 840 = .ok (.iload_n 3, 1) := by decide +kernel
theorem dL_law_841 : decode cL_law 841 = .ok (.iconst 1, 1) := by decide +kernel
theorem dL_law_842 : decode cL_law 842 = .ok (.iadd, 1) := by decide +kernel
theorem dL_law_843 : decode cL_law 843 = .ok (.iaload, 1) := by decide +kernel
theorem dL_law_844 : decode cL_law 844 = .ok (.aload_n 0, 1) := by decide +kernel
theorem dL_law_845 : decode cL_law 845 = .ok (.iload_n 3, 1) := by decide +kernel
theorem dL_law_846 : decode cL_law 846 = .ok (.iconst 2, 1) := by decide +kernel
theorem dL_law_847 : decode cL_law 847 = .ok (.iadd, 1) := by decide +kernel
theorem dL_law_848 : decode cL_law 848 = .ok (.iaload, 1) := by decide +kernel
theorem dL_law_849 : decode cL_law 849 = .ok (.aload_n 0, 1) := by decide +kernel
theorem dL_law_850 : decode cL_law 850 = .ok (.iload_n 3, 1) := by decide +kernel
theorem dL_law_851 : decode cL_law 851 = .ok (.iconst 3, 1) := by decide +kernel
theorem dL_law_852 : decode cL_law 852 = .ok (.iadd, 1) := by decide +kernel
theorem dL_law_853 : decode cL_law 853 = .ok (.iaload, 1) := by decide +kernel
theorem dL_law_854 : decode cL_law 854 = .ok (.aload_n 0, 1) := by decide +kernel
theorem dL_law_855 : decode cL_law 855 = .ok (.iload_n 3, 1) := by decide +kernel
theorem dL_law_856 : decode cL_law 856 = .ok (.iconst 4, 1) := by decide +kernel
theorem dL_law_857 : decode cL_law 857 = .ok (.iadd, 1) := by decide +kernel
theorem dL_law_858 : decode cL_law 858 = .ok (.iaload, 1) := by decide +kernel
theorem dL_law_859 : decode cL_law 859 = .ok (.invokevirtual 110, 3) := by decide +kernel
theorem dL_law_862 : decode cL_law 862 = .ok (.if_icmp .eq 434, 3) := by decide +kernel
theorem dL_law_865 : decode cL_law 865 = .ok (.iconst 0, 1) := by decide +kernel
theorem dL_law_866 : decode cL_law 866 = .ok (.ireturn, 1) := by decide +kernel
theorem dL_law_867 : decode cL_law 867 = .ok (.aload_n 1, 1) := by decide +kernel
theorem dL_law_868 : decode cL_law 868 = .ok (.invokevirtual 111, 3) := by decide +kernel
theorem dL_law_871 : decode cL_law 871 = .ok (.aload_n 2, 1) := by decide +kernel
theorem dL_law_872 : decode cL_law 872 = .ok (.invokevirtual 114, 3) := by decide +kernel
theorem dL_law_875 : decode cL_law 875 = .ok (.if_icmp .eq 421, 3) := by decide +kernel
theorem dL_law_878 : decode cL_law 878 = .ok (.iconst 0, 1) := by decide +kernel
theorem dL_law_879 : decode cL_law 879 = .ok (.ireturn, 1) := by decide +kernel
theorem dL_law_880 : decode cL_law 880 = .ok (.aload_n 1, 1) := by decide +kernel
theorem dL_law_881 : decode cL_law 881 = .ok (.invokevirtual 115, 3) := by decide +kernel
theorem dL_law_884 : decode cL_law 884 = .ok (.aload_n 2, 1) := by decide +kernel
theorem dL_law_885 : decode cL_law 885 = .ok (.invokevirtual 118, 3) := by decide +kernel
theorem dL_law_888 : decode cL_law 888 = .ok (.if_icmp .eq 408, 3) := by decide +kernel
theorem dL_law_891 : decode cL_law 891 = .ok (.iconst 0, 1) := by decide +kernel
theorem dL_law_892 : decode cL_law 892 = .ok (.ireturn, 1) := by decide +kernel
theorem dL_law_893 : decode cL_law 893 = .ok (.aload_n 1, 1) := by decide +kernel
theorem dL_law_894 : decode cL_law 894 = .ok (.aload_n 0, 1) := by decide +kernel
theorem dL_law_895 : decode cL_law 895 = .ok (.iload_n 3, 1) := by decide +kernel
theorem dL_law_896 : decode cL_law 896 = .ok (.iconst 1, 1) := by decide +kernel
theorem dL_law_897 : decode cL_law 897 = .ok (.iadd, 1) := by decide +kernel
theorem dL_law_898 : decode cL_law 898 = .ok (.iaload, 1) := by decide +kernel
theorem dL_law_899 : decode cL_law 899 = .ok (.aload_n 0, 1) := by decide +kernel
theorem dL_law_900 : decode cL_law 900 = .ok (.iload_n 3, 1) := by decide +kernel
theorem dL_law_901 : decode cL_law 901 = .ok (.iconst 2, 1) := by decide +kernel
theorem dL_law_902 : decode cL_law 902 = .ok (.iadd, 1) := by decide +kernel
theorem dL_law_903 : decode cL_law 903 = .ok (.iaload, 1) := by decide +kernel
theorem dL_law_904 : decode cL_law 904 = .ok (.aload_n 0, 1) := by decide +kernel
theorem dL_law_905 : decode cL_law 905 = .ok (.iload_n 3, 1) := by decide +kernel
theorem dL_law_906 : decode cL_law 906 = .ok (.iconst 3, 1) := by decide +kernel
theorem dL_law_907 : decode cL_law 907 = .ok (.iadd, 1) := by decide +kernel
theorem dL_law_908 : decode cL_law 908 = .ok (.iaload, 1) := by decide +kernel
theorem dL_law_909 : decode cL_law 909 = .ok (.aload_n 0, 1) := by decide +kernel
theorem dL_law_910 : decode cL_law 910 = .ok (.iload_n 3, 1) := by decide +kernel
theorem dL_law_911 : decode cL_law 911 = .ok (.iconst 4, 1) := by decide +kernel
theorem dL_law_912 : decode cL_law 912 = .ok (.iadd, 1) := by decide +kernel
theorem dL_law_913 : decode cL_law 913 = .ok (.iaload, 1) := by decide +kernel
theorem dL_law_914 : decode cL_law 914 = .ok (.aload_n 0, 1) := by decide +kernel
theorem dL_law_915 : decode cL_law 915 = .ok (.iload_n 3, 1) := by decide +kernel
theorem dL_law_916 : decode cL_law 916 = .ok (.iconst 5, 1) := by decide +kernel
theorem dL_law_917 : decode cL_law 917 = .ok (.iadd, 1) := by decide +kernel
theorem dL_law_918 : decode cL_law 918 = .ok (.iaload, 1) := by decide +kernel
theorem dL_law_919 : decode cL_law 919 = .ok (.invokevirtual 119, 3) := by decide +kernel
theorem dL_law_922 : decode cL_law 922 = .ok (.aload_n 2, 1) := by decide +kernel
theorem dL_law_923 : decode cL_law 923 = .ok (.aload_n 0, 1) := by decide +kernel
theorem dL_law_924 : decode cL_law 924 = .ok (.iload_n 3, 1) := by decide +kernel
theorem dL_law_925 : decode cL_law 925 = .ok (.iconst 1, 1) := by decide +kernel
theorem dL_law_926 : decode cL_law 926 = .ok (.iadd, 1) := by decide +kernel
theorem dL_law_927 : decode cL_law 927 = .ok (.iaload, 1) := by decide +kernel
theorem dL_law_928 : decode cL_law 928 = .ok (.aload_n 0, 1) := by decide +kernel
theorem dL_law_929 : decode cL_law 929 = .ok (.iload_n 3, 1) := by decide +kernel
theorem dL_law_930 : decode cL_law 930 = .ok (.iconst 2, 1) := by decide +kernel
theorem dL_law_931 : decode cL_law 931 = .ok (.iadd, 1) := by decide +kernel
theorem dL_law_932 : decode cL_law 932 = .ok (.iaload, 1) := by decide +kernel
theorem dL_law_933 : decode cL_law 933 = .ok (.aload_n 0, 1) := by decide +kernel
theorem dL_law_934 : decode cL_law 934 = .ok (.iload_n 3, 1) := by decide +kernel
theorem dL_law_935 : decode cL_law 935 = .ok (.iconst 3, 1) := by decide +kernel
theorem dL_law_936 : decode cL_law 936 = .ok (.iadd, 1) := by decide +kernel
theorem dL_law_937 : decode cL_law 937 = .ok (.iaload, 1) := by decide +kernel
theorem dL_law_938 : decode cL_law 938 = .ok (.aload_n 0, 1) := by decide +kernel
theorem dL_law_939 : decode cL_law 939 = .ok (.iload_n 3, 1) := by decide +kernel
theorem dL_law_940 : decode cL_law 940 = .ok (.iconst 4, 1) := by decide +kernel
theorem dL_law_941 : decode cL_law 941 = .ok (.iadd, 1) := by decide +kernel
theorem dL_law_942 : decode cL_law 942 = .ok (.iaload, 1) := by decide +kernel
theorem dL_law_943 : decode cL_law 943 = .ok (.aload_n 0, 1) := by decide +kernel
theorem dL_law_944 : decode cL_law 944 = .ok (.iload_n 3, 1) := by decide +kernel
theorem dL_law_945 : decode cL_law 945 = .ok (.iconst 5, 1) := by decide +kernel
theorem dL_law_946 : decode cL_law 946 = .ok (.iadd, 1) := by decide +kernel
theorem dL_law_947 : decode cL_law 947 = .ok (.iaload, 1) := by decide +kernel
theorem dL_law_948 : decode cL_law 948 = .ok (.invokevirtual 123, 3) := by decide +kernel
theorem dL_law_951 : decode cL_law 951 = .ok (.if_icmp .eq 345, 3) := by decide +kernel
theorem dL_law_954 : decode cL_law 954 = .ok (.iconst 0, 1) := by decide +kernel
theorem dL_law_955 : decode cL_law 955 = .ok (.ireturn, 1) := by decide +kernel
theorem dL_law_956 : decode cL_law 956 = .ok (.aload_n 1, 1) := by decide +kernel
theorem dL_law_957 : decode cL_law 957 = .ok (.aload_n 0, 1) := by decide +kernel
theorem dL_law_958 : decode cL_law 958 = .ok (.iload_n 3, 1) := by decide +kernel
theorem dL_law_959 : decode cL_law 959 = .ok (.iconst 1, 1) := by decide +kernel
theorem dL_law_960 : decode cL_law 960 = .ok (.iadd, 1) := by decide +kernel
theorem dL_law_961 : decode cL_law 961 = .ok (.iaload, 1) := by decide +kernel
theorem dL_law_962 : decode cL_law 962 = .ok (.aload_n 0, 1) := by decide +kernel
theorem dL_law_963 : decode cL_law 963 = .ok (.iload_n 3, 1) := by decide +kernel
theorem dL_law_964 : decode cL_law 964 = .ok (.iconst 2, 1) := by decide +kernel
theorem dL_law_965 : decode cL_law 965 = .ok (.iadd, 1) := by decide +kernel
theorem dL_law_966 : decode cL_law 966 = .ok (.iaload, 1) := by decide +kernel
theorem dL_law_967 : decode cL_law 967 = .ok (.aload_n 0, 1) := by decide +kernel
theorem dL_law_968 : decode cL_law 968 = .ok (.iload_n 3, 1) := by decide +kernel
theorem dL_law_969 : decode cL_law 969 = .ok (.iconst 3, 1) := by decide +kernel
theorem dL_law_970 : decode cL_law 970 = .ok (.iadd, 1) := by decide +kernel
theorem dL_law_971 : decode cL_law 971 = .ok (.iaload, 1) := by decide +kernel
theorem dL_law_972 : decode cL_law 972 = .ok (.aload_n 0, 1) := by decide +kernel
theorem dL_law_973 : decode cL_law 973 = .ok (.iload_n 3, 1) := by decide +kernel
theorem dL_law_974 : decode cL_law 974 = .ok (.iconst 4, 1) := by decide +kernel
theorem dL_law_975 : decode cL_law 975 = .ok (.iadd, 1) := by decide +kernel
theorem dL_law_976 : decode cL_law 976 = .ok (.iaload, 1) := by decide +kernel
theorem dL_law_977 : decode cL_law 977 = .ok (.aload_n 0, 1) := by decide +kernel
theorem dL_law_978 : decode cL_law 978 = .ok (.iload_n 3, 1) := by decide +kernel
theorem dL_law_979 : decode cL_law 979 = .ok (.iconst 5, 1) := by decide +kernel
theorem dL_law_980 : decode cL_law 980 = .ok (.iadd, 1) := by decide +kernel
theorem dL_law_981 : decode cL_law 981 = .ok (.iaload, 1) := by decide +kernel
theorem dL_law_982 : decode cL_law 982 = .ok (.aload_n 0, 1) := by decide +kernel
theorem dL_law_983 : decode cL_law 983 = .ok (.iload_n 3, 1) := by decide +kernel
theorem dL_law_984 : decode cL_law 984 = .ok (.bipush 6, 2) := by decide +kernel
theorem dL_law_986 : decode cL_law 986 = .ok (.iadd, 1) := by decide +kernel
theorem dL_law_987 : decode cL_law 987 = .ok (.iaload, 1) := by decide +kernel
theorem dL_law_988 : decode cL_law 988 = .ok (.invokevirtual 124, 3) := by decide +kernel
theorem dL_law_991 : decode cL_law 991 = .ok (.aload_n 2, 1) := by decide +kernel
theorem dL_law_992 : decode cL_law 992 = .ok (.aload_n 0, 1) := by decide +kernel
theorem dL_law_993 : decode cL_law 993 = .ok (.iload_n 3, 1) := by decide +kernel
theorem dL_law_994 : decode cL_law 994 = .ok (.iconst 1, 1) := by decide +kernel
theorem dL_law_995 : decode cL_law 995 = .ok (.iadd, 1) := by decide +kernel
theorem dL_law_996 : decode cL_law 996 = .ok (.iaload, 1) := by decide +kernel
theorem dL_law_997 : decode cL_law 997 = .ok (.aload_n 0, 1) := by decide +kernel
theorem dL_law_998 : decode cL_law 998 = .ok (.iload_n 3, 1) := by decide +kernel
theorem dL_law_999 : decode cL_law 999 = .ok (.iconst 2, 1) := by decide +kernel
theorem dL_law_1000 : decode cL_law 1000 = .ok (.iadd, 1) := by decide +kernel
theorem dL_law_1001 : decode cL_law 1001 = .ok (.iaload, 1) := by decide +kernel
theorem dL_law_1002 : decode cL_law 1002 = .ok (.aload_n 0, 1) := by decide +kernel
theorem dL_law_1003 : decode cL_law 1003 = .ok (.iload_n 3, 1) := by decide +kernel
theorem dL_law_1004 : decode cL_law 1004 = .ok (.iconst 3, 1) := by decide +kernel
theorem dL_law_1005 : decode cL_law 1005 = .ok (.iadd, 1) := by decide +kernel
theorem dL_law_1006 : decode cL_law 1006 = .ok (.iaload, 1) := by decide +kernel
theorem dL_law_1007 : decode cL_law 1007 = .ok (.aload_n 0, 1) := by decide +kernel
theorem dL_law_1008 : decode cL_law 1008 = .ok (.iload_n 3, 1) := by decide +kernel
theorem dL_law_1009 : decode cL_law 1009 = .ok (.iconst 4, 1) := by decide +kernel
theorem dL_law_1010 : decode cL_law 1010 = .ok (.iadd, 1) := by decide +kernel
theorem dL_law_1011 : decode cL_law 1011 = .ok (.iaload, 1) := by decide +kernel
theorem dL_law_1012 : decode cL_law 1012 = .ok (.aload_n 0, 1) := by decide +kernel
theorem dL_law_1013 : decode cL_law 1013 = .ok (.iload_n 3, 1) := by decide +kernel
theorem dL_law_1014 : decode cL_law 1014 = .ok (.iconst 5, 1) := by decide +kernel
theorem dL_law_1015 : decode cL_law 1015 = .ok (.iadd, 1) := by decide +kernel
theorem dL_law_1016 : decode cL_law 1016 = .ok (.iaload, 1) := by decide +kernel
theorem dL_law_1017 : decode cL_law 1017 = .ok (.aload_n 0, 1) := by decide +kernel
theorem dL_law_1018 : decode cL_law 1018 = .ok (.iload_n 3, 1) := by decide +kernel
theorem dL_law_1019 : decode cL_law 1019 = .ok (.bipush 6, 2) := by decide +kernel
theorem dL_law_1021 : decode cL_law 1021 = .ok (.iadd, 1) := by decide +kernel
theorem dL_law_1022 : decode cL_law 1022 = .ok (.iaload, 1) := by decide +kernel
theorem dL_law_1023 : decode cL_law 1023 = .ok (.invokevirtual 128, 3) := by decide +kernel
theorem dL_law_1026 : decode cL_law 1026 = .ok (.if_icmp .eq 270, 3) := by decide +kernel
theorem dL_law_1029 : decode cL_law 1029 = .ok (.iconst 0, 1) := by decide +kernel
theorem dL_law_1030 : decode cL_law 1030 = .ok (.ireturn, 1) := by decide +kernel
theorem dL_law_1031 : decode cL_law 1031 = .ok (.aload_n 1, 1) := by decide +kernel
theorem dL_law_1032 : decode cL_law 1032 = .ok (.aload_n 0, 1) := by decide +kernel
theorem dL_law_1033 : decode cL_law 1033 = .ok (.iload_n 3, 1) := by decide +kernel
theorem dL_law_1034 : decode cL_law 1034 = .ok (.iconst 1, 1) := by decide +kernel
theorem dL_law_1035 : decode cL_law 1035 = .ok (.iadd, 1) := by decide +kernel
theorem dL_law_1036 : decode cL_law 1036 = .ok (.iaload, 1) := by decide +kernel
theorem dL_law_1037 : decode cL_law 1037 = .ok (.aload_n 0, 1) := by decide +kernel
theorem dL_law_1038 : decode cL_law 1038 = .ok (.iload_n 3, 1) := by decide +kernel
theorem dL_law_1039 : decode cL_law 1039 = .ok (.iconst 2, 1) := by decide +kernel
theorem dL_law_1040 : decode cL_law 1040 = .ok (.iadd, 1) := by decide +kernel
theorem dL_law_1041 : decode cL_law 1041 = .ok (.iaload, 1) := by decide +kernel
theorem dL_law_1042 : decode cL_law 1042 = .ok (.aload_n 0, 1) := by decide +kernel
theorem dL_law_1043 : decode cL_law 1043 = .ok (.iload_n 3, 1) := by decide +kernel
theorem dL_law_1044 : decode cL_law 1044 = .ok (.iconst 3, 1) := by decide +kernel
theorem dL_law_1045 : decode cL_law 1045 = .ok (.iadd, 1) := by decide +kernel
theorem dL_law_1046 : decode cL_law 1046 = .ok (.iaload, 1) := by decide +kernel
theorem dL_law_1047 : decode cL_law 1047 = .ok (.aload_n 0, 1) := by decide +kernel
theorem dL_law_1048 : decode cL_law 1048 = .ok (.iload_n 3, 1) := by decide +kernel
theorem dL_law_1049 : decode cL_law 1049 = .ok (.iconst 4, 1) := by decide +kernel
theorem dL_law_1050 : decode cL_law 1050 = .ok (.iadd, 1) := by decide +kernel
theorem dL_law_1051 : decode cL_law 1051 = .ok (.iaload, 1) := by decide +kernel
theorem dL_law_1052 : decode cL_law 1052 = .ok (.invokevirtual 129, 3) := by decide +kernel
theorem dL_law_1055 : decode cL_law 1055 = .ok (.aload_n 2, 1) := by decide +kernel
theorem dL_law_1056 : decode cL_law 1056 = .ok (.aload_n 0, 1) := by decide +kernel
theorem dL_law_1057 : decode cL_law 1057 = .ok (.iload_n 3, 1) := by decide +kernel
theorem dL_law_1058 : decode cL_law 1058 = .ok (.iconst 1, 1) := by decide +kernel
theorem dL_law_1059 : decode cL_law 1059 = .ok (.iadd, 1) := by decide +kernel
theorem dL_law_1060 : decode cL_law 1060 = .ok (.iaload, 1) := by decide +kernel
theorem dL_law_1061 : decode cL_law 1061 = .ok (.aload_n 0, 1) := by decide +kernel
theorem dL_law_1062 : decode cL_law 1062 = .ok (.iload_n 3, 1) := by decide +kernel
theorem dL_law_1063 : decode cL_law 1063 = .ok (.iconst 2, 1) := by decide +kernel
theorem dL_law_1064 : decode cL_law 1064 = .ok (.iadd, 1) := by decide +kernel
theorem dL_law_1065 : decode cL_law 1065 = .ok (.iaload, 1) := by decide +kernel
theorem dL_law_1066 : decode cL_law 1066 = .ok (.aload_n 0, 1) := by decide +kernel
theorem dL_law_1067 : decode cL_law 1067 = .ok (.iload_n 3, 1) := by decide +kernel
theorem dL_law_1068 : decode cL_law 1068 = .ok (.iconst 3, 1) := by decide +kernel
theorem dL_law_1069 : decode cL_law 1069 = .ok (.iadd, 1) := by decide +kernel
theorem dL_law_1070 : decode cL_law 1070 = .ok (.iaload, 1) := by decide +kernel
theorem dL_law_1071 : decode cL_law 1071 = .ok (.aload_n 0, 1) := by decide +kernel
theorem dL_law_1072 : decode cL_law 1072 = .ok (.iload_n 3, 1) := by decide +kernel
theorem dL_law_1073 : decode cL_law 1073 = .ok (.iconst 4, 1) := by decide +kernel
theorem dL_law_1074 : decode cL_law 1074 = .ok (.iadd, 1) := by decide +kernel
theorem dL_law_1075 : decode cL_law 1075 = .ok (.iaload, 1) := by decide +kernel
theorem dL_law_1076 : decode cL_law 1076 = .ok (.invokevirtual 132, 3) := by decide +kernel
theorem dL_law_1079 : decode cL_law 1079 = .ok (.if_icmp .eq 217, 3) := by decide +kernel
theorem dL_law_1082 : decode cL_law 1082 = .ok (.iconst 0, 1) := by decide +kernel
theorem dL_law_1083 : decode cL_law 1083 = .ok (.ireturn, 1) := by decide +kernel
theorem dL_law_1084 : decode cL_law 1084 = .ok (.aload_n 1, 1) := by decide +kernel
theorem dL_law_1085 : decode cL_law 1085 = .ok (.aload_n 0, 1) := by decide +kernel
theorem dL_law_1086 : decode cL_law 1086 = .ok (.iload_n 3, 1) := by decide +kernel
theorem dL_law_1087 : decode cL_law 1087 = .ok (.iconst 1, 1) := by decide +kernel
theorem dL_law_1088 : decode cL_law 1088 = .ok (.iadd, 1) := by decide +kernel
theorem dL_law_1089 : decode cL_law 1089 = .ok (.iaload, 1) := by decide +kernel
theorem dL_law_1090 : decode cL_law 1090 = .ok (.aload_n 0, 1) := by decide +kernel
theorem dL_law_1091 : decode cL_law 1091 = .ok (.iload_n 3, 1) := by decide +kernel
theorem dL_law_1092 : decode cL_law 1092 = .ok (.iconst 2, 1) := by decide +kernel
theorem dL_law_1093 : decode cL_law 1093 = .ok (.iadd, 1) := by decide +kernel
theorem dL_law_1094 : decode cL_law 1094 = .ok (.iaload, 1) := by decide +kernel
theorem dL_law_1095 : decode cL_law 1095 = .ok (.aload_n 0, 1) := by decide +kernel
theorem dL_law_1096 : decode cL_law 1096 = .ok (.iload_n 3, 1) := by decide +kernel
theorem dL_law_1097 : decode cL_law 1097 = .ok (.iconst 3, 1) := by decide +kernel
theorem dL_law_1098 : decode cL_law 1098 = .ok (.iadd, 1) := by decide +kernel
theorem dL_law_1099 : decode cL_law 1099 = .ok (.iaload, 1) := by decide +kernel
theorem dL_law_1100 : decode cL_law 1100 = .ok (.invokevirtual 133, 3) := by decide +kernel
theorem dL_law_1103 : decode cL_law 1103 = .ok (.aload_n 2, 1) := by decide +kernel
theorem dL_law_1104 : decode cL_law 1104 = .ok (.aload_n 0, 1) := by decide +kernel
theorem dL_law_1105 : decode cL_law 1105 = .ok (.iload_n 3, 1) := by decide +kernel
theorem dL_law_1106 : decode cL_law 1106 = .ok (.iconst 1, 1) := by decide +kernel
theorem dL_law_1107 : decode cL_law 1107 = .ok (.iadd, 1) := by decide +kernel
theorem dL_law_1108 : decode cL_law 1108 = .ok (.iaload, 1) := by decide +kernel
theorem dL_law_1109 : decode cL_law 1109 = .ok (.aload_n 0, 1) := by decide +kernel
theorem dL_law_1110 : decode cL_law 1110 = .ok (.iload_n 3, 1) := by decide +kernel
theorem dL_law_1111 : decode cL_law 1111 = .ok (.iconst 2, 1) := by decide +kernel
theorem dL_law_1112 : decode cL_law 1112 = .ok (.iadd, 1) := by decide +kernel
theorem dL_law_1113 : decode cL_law 1113 = .ok (.iaload, 1) := by decide +kernel
theorem dL_law_1114 : decode cL_law 1114 = .ok (.aload_n 0, 1) := by decide +kernel
theorem dL_law_1115 : decode cL_law 1115 = .ok (.iload_n 3, 1) := by decide +kernel
theorem dL_law_1116 : decode cL_law 1116 = .ok (.iconst 3, 1) := by decide +kernel
theorem dL_law_1117 : decode cL_law 1117 = .ok (.iadd, 1) := by decide +kernel
theorem dL_law_1118 : decode cL_law 1118 = .ok (.iaload, 1) := by decide +kernel
theorem dL_law_1119 : decode cL_law 1119 = .ok (.invokevirtual 136, 3) := by decide +kernel
theorem dL_law_1122 : decode cL_law 1122 = .ok (.if_icmp .eq 174, 3) := by decide +kernel
theorem dL_law_1125 : decode cL_law 1125 = .ok (.iconst 0, 1) := by decide +kernel
theorem dL_law_1126 : decode cL_law 1126 = .ok (.ireturn, 1) := by decide +kernel
theorem dL_law_1127 : decode cL_law 1127 = .ok (.aload_n 1, 1) := by decide +kernel
theorem dL_law_1128 : decode cL_law 1128 = .ok (.aload_n 0, 1) := by decide +kernel
theorem dL_law_1129 : decode cL_law 1129 = .ok (.iload_n 3, 1) := by decide +kernel
theorem dL_law_1130 : decode cL_law 1130 = .ok (.iconst 1, 1) := by decide +kernel
theorem dL_law_1131 : decode cL_law 1131 = .ok (.iadd, 1) := by decide +kernel
theorem dL_law_1132 : decode cL_law 1132 = .ok (.iaload, 1) := by decide +kernel
theorem dL_law_1133 : decode cL_law 1133 = .ok (.invokevirtual 137, 3) := by decide +kernel
theorem dL_law_1136 : decode cL_law 1136 = .ok (.aload_n 2, 1) := by decide +kernel
theorem dL_law_1137 : decode cL_law 1137 = .ok (.aload_n 0, 1) := by decide +kernel
theorem dL_law_1138 : decode cL_law 1138 = .ok (.iload_n 3, 1) := by decide +kernel
theorem dL_law_1139 : decode cL_law 1139 = .ok (.iconst 1, 1) := by decide +kernel
theorem dL_law_1140 : decode cL_law 1140 = .ok (.iadd, 1) := by decide +kernel
theorem dL_law_1141 : decode cL_law 1141 = .ok (.iaload, 1) := by decide +kernel
theorem dL_law_1142 : decode cL_law 1142 = .ok (.invokevirtual 140, 3) := by decide +kernel
theorem dL_law_1145 : decode cL_law 1145 = .ok (.if_icmp .eq 151, 3) := by decide +kernel
theorem dL_law_1148 : decode cL_law 1148 = .ok (.iconst 0, 1) := by decide +kernel
theorem dL_law_1149 : decode cL_law 1149 = .ok (.ireturn, 1) := by decide +kernel
theorem dL_law_1150 : decode cL_law 1150 = .ok (.aload_n 1, 1) := by decide +kernel
theorem dL_law_1151 : decode cL_law 1151 = .ok (.aload_n 0, 1) := by decide +kernel
theorem dL_law_1152 : decode cL_law 1152 = .ok (.iload_n 3, 1) := by decide +kernel
theorem dL_law_1153 : decode cL_law 1153 = .ok (.iconst 1, 1) := by decide +kernel
theorem dL_law_1154 : decode cL_law 1154 = .ok (.iadd, 1) := by decide +kernel
theorem dL_law_1155 : decode cL_law 1155 = .ok (.iaload, 1) := by decide +kernel
theorem dL_law_1156 : decode cL_law 1156 = .ok (.aload_n 0, 1) := by decide +kernel
theorem dL_law_1157 : decode cL_law 1157 = .ok (.iload_n 3, 1) := by decide +kernel
theorem dL_law_1158 : decode cL_law 1158 = .ok (.iconst 2, 1) := by decide +kernel
theorem dL_law_1159 : decode cL_law 1159 = .ok (.iadd, 1) := by decide +kernel
theorem dL_law_1160 : decode cL_law 1160 = .ok (.iaload, 1) := by decide +kernel
theorem dL_law_1161 : decode cL_law 1161 = .ok (.aload_n 0, 1) := by decide +kernel
theorem dL_law_1162 : decode cL_law 1162 = .ok (.iload_n 3, 1) := by decide +kernel
theorem dL_law_1163 : decode cL_law 1163 = .ok (.iconst 3, 1) := by decide +kernel
theorem dL_law_1164 : decode cL_law 1164 = .ok (.iadd, 1) := by decide +kernel
theorem dL_law_1165 : decode cL_law 1165 = .ok (.iaload, 1) := by decide +kernel
theorem dL_law_1166 : decode cL_law 1166 = .ok (.aload_n 0, 1) := by decide +kernel
theorem dL_law_1167 : decode cL_law 1167 = .ok (.iload_n 3, 1) := by decide +kernel
theorem dL_law_1168 : decode cL_law 1168 = .ok (.iconst 4, 1) := by decide +kernel
theorem dL_law_1169 : decode cL_law 1169 = .ok (.iadd, 1) := by decide +kernel
theorem dL_law_1170 : decode cL_law 1170 = .ok (.iaload, 1) := by decide +kernel
theorem dL_law_1171 : decode cL_law 1171 = .ok (.i2l, 1) := by decide +kernel
theorem dL_law_1172 : decode cL_law 1172 = .ok (.bipush 32, 2) := by decide +kernel
theorem dL_law_1174 : decode cL_law 1174 = .ok (.lshl, 1) := by decide +kernel
theorem dL_law_1175 : decode cL_law 1175 = .ok (.aload_n 0, 1) := by decide +kernel
theorem dL_law_1176 : decode cL_law 1176 = .ok (.iload_n 3, 1) := by decide +kernel
theorem dL_law_1177 : decode cL_law 1177 = .ok (.iconst 5, 1) := by decide +kernel
theorem dL_law_1178 : decode cL_law 1178 = .ok (.iadd, 1) := by decide +kernel
theorem dL_law_1179 : decode cL_law 1179 = .ok (.iaload, 1) := by decide +kernel
theorem dL_law_1180 : decode cL_law 1180 = .ok (.i2l, 1) := by decide +kernel
theorem dL_law_1181 : decode cL_law 1181 = .ok (.ldc2_w 141, 3) := by decide +kernel
theorem dL_law_1184 : decode cL_law 1184 = .ok (.land, 1) := by decide +kernel
theorem dL_law_1185 : decode cL_law 1185 = .ok (.lor, 1) := by decide +kernel
theorem dL_law_1186 : decode cL_law 1186 = .ok (.invokevirtual 143, 3) := by decide +kernel
theorem dL_law_1189 : decode cL_law 1189 = .ok (.aload_n 2, 1) := by decide +kernel
theorem dL_law_1190 : decode cL_law 1190 = .ok (.aload_n 0, 1) := by decide +kernel
theorem dL_law_1191 : decode cL_law 1191 = .ok (.iload_n 3, 1) := by decide +kernel
theorem dL_law_1192 : decode cL_law 1192 = .ok (.iconst 1, 1) := by decide +kernel
theorem dL_law_1193 : decode cL_law 1193 = .ok (.iadd, 1) := by decide +kernel
theorem dL_law_1194 : decode cL_law 1194 = .ok (.iaload, 1) := by decide +kernel
theorem dL_law_1195 : decode cL_law 1195 = .ok (.aload_n 0, 1) := by decide +kernel
theorem dL_law_1196 : decode cL_law 1196 = .ok (.iload_n 3, 1) := by decide +kernel
theorem dL_law_1197 : decode cL_law 1197 = .ok (.iconst 2, 1) := by decide +kernel
theorem dL_law_1198 : decode cL_law 1198 = .ok (.iadd, 1) := by decide +kernel
theorem dL_law_1199 : decode cL_law 1199 = .ok (.iaload, 1) := by decide +kernel
theorem dL_law_1200 : decode cL_law 1200 = .ok (.aload_n 0, 1) := by decide +kernel
theorem dL_law_1201 : decode cL_law 1201 = .ok (.iload_n 3, 1) := by decide +kernel
theorem dL_law_1202 : decode cL_law 1202 = .ok (.iconst 3, 1) := by decide +kernel
theorem dL_law_1203 : decode cL_law 1203 = .ok (.iadd, 1) := by decide +kernel
theorem dL_law_1204 : decode cL_law 1204 = .ok (.iaload, 1) := by decide +kernel
theorem dL_law_1205 : decode cL_law 1205 = .ok (.aload_n 0, 1) := by decide +kernel
theorem dL_law_1206 : decode cL_law 1206 = .ok (.iload_n 3, 1) := by decide +kernel
theorem dL_law_1207 : decode cL_law 1207 = .ok (.iconst 4, 1) := by decide +kernel
theorem dL_law_1208 : decode cL_law 1208 = .ok (.iadd, 1) := by decide +kernel
theorem dL_law_1209 : decode cL_law 1209 = .ok (.iaload, 1) := by decide +kernel
theorem dL_law_1210 : decode cL_law 1210 = .ok (.i2l, 1) := by decide +kernel
theorem dL_law_1211 : decode cL_law 1211 = .ok (.bipush 32, 2) := by decide +kernel
theorem dL_law_1213 : decode cL_law 1213 = .ok (.lshl, 1) := by decide +kernel
theorem dL_law_1214 : decode cL_law 1214 = .ok (.aload_n 0, 1) := by decide +kernel
theorem dL_law_1215 : decode cL_law 1215 = .ok (.iload_n 3, 1) := by decide +kernel
theorem dL_law_1216 : decode cL_law 1216 = .ok (.iconst 5, 1) := by decide +kernel
theorem dL_law_1217 : decode cL_law 1217 = .ok (.iadd, 1) := by decide +kernel
theorem dL_law_1218 : decode cL_law 1218 = .ok (.iaload, 1) := by decide +kernel
theorem dL_law_1219 : decode cL_law 1219 = .ok (.i2l, 1) := by decide +kernel
theorem dL_law_1220 : decode cL_law 1220 = .ok (.ldc2_w 141, 3) := by decide +kernel
theorem dL_law_1223 : decode cL_law 1223 = .ok (.land, 1) := by decide +kernel
theorem dL_law_1224 : decode cL_law 1224 = .ok (.lor, 1) := by decide +kernel
theorem dL_law_1225 : decode cL_law 1225 = .ok (.invokevirtual 147, 3) := by decide +kernel
theorem dL_law_1228 : decode cL_law 1228 = .ok (.if_icmp .eq 68, 3) := by decide +kernel
theorem dL_law_1231 : decode cL_law 1231 = .ok (.iconst 0, 1) := by decide +kernel
theorem dL_law_1232 : decode cL_law 1232 = .ok (.ireturn, 1) := by decide +kernel
theorem dL_law_1233 : decode cL_law 1233 = .ok (.aload_n 1, 1) := by decide +kernel
theorem dL_law_1234 : decode cL_law 1234 = .ok (.aload_n 0, 1) := by decide +kernel
theorem dL_law_1235 : decode cL_law 1235 = .ok (.iload_n 3, 1) := by decide +kernel
theorem dL_law_1236 : decode cL_law 1236 = .ok (.iconst 1, 1) := by decide +kernel
theorem dL_law_1237 : decode cL_law 1237 = .ok (.iadd, 1) := by decide +kernel
theorem dL_law_1238 : decode cL_law 1238 = .ok (.iaload, 1) := by decide +kernel
theorem dL_law_1239 : decode cL_law 1239 = .ok (.aload_n 0, 1) := by decide +kernel
theorem dL_law_1240 : decode cL_law 1240 = .ok (.iload_n 3, 1) := by decide +kernel
theorem dL_law_1241 : decode cL_law 1241 = .ok (.iconst 2, 1) := by decide +kernel
theorem dL_law_1242 : decode cL_law 1242 = .ok (.iadd, 1) := by decide +kernel
theorem dL_law_1243 : decode cL_law 1243 = .ok (.iaload, 1) := by decide +kernel
theorem dL_law_1244 : decode cL_law 1244 = .ok (.aload_n 0, 1) := by decide +kernel
theorem dL_law_1245 : decode cL_law 1245 = .ok (.iload_n 3, 1) := by decide +kernel
theorem dL_law_1246 : decode cL_law 1246 = .ok (.iconst 3, 1) := by decide +kernel
theorem dL_law_1247 : decode cL_law 1247 = .ok (.iadd, 1) := by decide +kernel
theorem dL_law_1248 : decode cL_law 1248 = .ok (.iaload, 1) := by decide +kernel
theorem dL_law_1249 : decode cL_law 1249 = .ok (.aload_n 0, 1) := by decide +kernel
theorem dL_law_1250 : decode cL_law 1250 = .ok (.iload_n 3, 1) := by decide +kernel
theorem dL_law_1251 : decode cL_law 1251 = .ok (.iconst 4, 1) := by decide +kernel
theorem dL_law_1252 : decode cL_law 1252 = .ok (.iadd, 1) := by decide +kernel
theorem dL_law_1253 : decode cL_law 1253 = .ok (.iaload, 1) := by decide +kernel
theorem dL_law_1254 : decode cL_law 1254 = .ok (.aload_n 0, 1) := by decide +kernel
theorem dL_law_1255 : decode cL_law 1255 = .ok (.iload_n 3, 1) := by decide +kernel
theorem dL_law_1256 : decode cL_law 1256 = .ok (.iconst 5, 1) := by decide +kernel
theorem dL_law_1257 : decode cL_law 1257 = .ok (.iadd, 1) := by decide +kernel
theorem dL_law_1258 : decode cL_law 1258 = .ok (.iaload, 1) := by decide +kernel
theorem dL_law_1259 : decode cL_law 1259 = .ok (.invokevirtual 148, 3) := by decide +kernel
theorem dL_law_1262 : decode cL_law 1262 = .ok (.aload_n 2, 1) := by decide +kernel
theorem dL_law_1263 : decode cL_law 1263 = .ok (.aload_n 0, 1) := by decide +kernel
theorem dL_law_1264 : decode cL_law 1264 = .ok (.iload_n 3, 1) := by decide +kernel
theorem dL_law_1265 : decode cL_law 1265 = .ok (.iconst 1, 1) := by decide +kernel
theorem dL_law_1266 : decode cL_law 1266 = .ok (.iadd, 1) := by decide +kernel
theorem dL_law_1267 : decode cL_law 1267 = .ok (.iaload, 1) := by decide +kernel
theorem dL_law_1268 : decode cL_law 1268 = .ok (.aload_n 0, 1) := by decide +kernel
theorem dL_law_1269 : decode cL_law 1269 = .ok (.iload_n 3, 1) := by decide +kernel
theorem dL_law_1270 : decode cL_law 1270 = .ok (.iconst 2, 1) := by decide +kernel
theorem dL_law_1271 : decode cL_law 1271 = .ok (.iadd, 1) := by decide +kernel
theorem dL_law_1272 : decode cL_law 1272 = .ok (.iaload, 1) := by decide +kernel
theorem dL_law_1273 : decode cL_law 1273 = .ok (.aload_n 0, 1) := by decide +kernel
theorem dL_law_1274 : decode cL_law 1274 = .ok (.iload_n 3, 1) := by decide +kernel
theorem dL_law_1275 : decode cL_law 1275 = .ok (.iconst 3, 1) := by decide +kernel
theorem dL_law_1276 : decode cL_law 1276 = .ok (.iadd, 1) := by decide +kernel
theorem dL_law_1277 : decode cL_law 1277 = .ok (.iaload, 1) := by decide +kernel
theorem dL_law_1278 : decode cL_law 1278 = .ok (.aload_n 0, 1) := by decide +kernel
theorem dL_law_1279 : decode cL_law 1279 = .ok (.iload_n 3, 1) := by decide +kernel
theorem dL_law_1280 : decode cL_law 1280 = .ok (.iconst 4, 1) := by decide +kernel
theorem dL_law_1281 : decode cL_law 1281 = .ok (.iadd, 1) := by decide +kernel
theorem dL_law_1282 : decode cL_law 1282 = .ok (.iaload, 1) := by decide +kernel
theorem dL_law_1283 : decode cL_law 1283 = .ok (.aload_n 0, 1) := by decide +kernel
theorem dL_law_1284 : decode cL_law 1284 = .ok (.iload_n 3, 1) := by decide +kernel
theorem dL_law_1285 : decode cL_law 1285 = .ok (.iconst 5, 1) := by decide +kernel
theorem dL_law_1286 : decode cL_law 1286 = .ok (.iadd, 1) := by decide +kernel
theorem dL_law_1287 : decode cL_law 1287 = .ok (.iaload, 1) := by decide +kernel
theorem dL_law_1288 : decode cL_law 1288 = .ok (.invokevirtual 151, 3) := by decide +kernel
theorem dL_law_1291 : decode cL_law 1291 = .ok (.if_icmp .eq 5, 3) := by decide +kernel
theorem dL_law_1294 : decode cL_law 1294 = .ok (.iconst 0, 1) := by decide +kernel
theorem dL_law_1295 : decode cL_law 1295 = .ok (.ireturn, 1) := by decide +kernel
theorem dL_law_1296 : decode cL_law 1296 = .ok (.iinc 3 7, 3) := by decide +kernel
theorem dL_law_1299 : decode cL_law 1299 = .ok (.goto (-1281), 3) := by decide +kernel
theorem dL_law_1302 : decode cL_law 1302 = .ok (.iconst 1, 1) := by decide +kernel
theorem dL_law_1303 : decode cL_law 1303 = .ok (.ireturn, 1) := by decide +kernel
end
