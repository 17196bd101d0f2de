section
-- ===== PART A: goes FIRST, ahead of the names: the tables' words, and 'selects' of the private methods out of them =====
/-- a private method of a class that the tables say can be made, by its rows of tables_1 -/
def lw_okq (q : MethodName × Nat) : Prop := (q.1.cls ≠ "java/lang/invoke/MethodHandle" ∧ q.1.cls ≠ "java/lang/invoke/VarHandle") ∧ Cond.instantiable q.1.cls q.2 ∈ tables_1 ∧ Cond.privateMethod q.1 ∈ tables_1 ∧ Cond.instanceMethod q.1 ∈ tables_1
theorem lw_p0 : lw_okq (⟨"HeadBudgets$Memory", "rememberWith", "(ILHeadBudgets$Books;III)V"⟩, 4) := ⟨⟨by decide +kernel, by decide +kernel⟩, List.mem_of_getElem? (i := 131) (by decide +kernel), List.mem_of_getElem? (i := 210) (by decide +kernel), List.mem_of_getElem? (i := 211) (by decide +kernel)⟩
theorem lw_p1 : lw_okq (⟨"HeadBudgets$Heads", "mayGive", "(II)Z"⟩, 11) := ⟨⟨by decide +kernel, by decide +kernel⟩, List.mem_of_getElem? (i := 25) (by decide +kernel), List.mem_of_getElem? (i := 325) (by decide +kernel), List.mem_of_getElem? (i := 326) (by decide +kernel)⟩
theorem lw_p2 : lw_okq (⟨"HeadBudgets", "revokeVirement", "(IIII)I"⟩, 2) := ⟨⟨by decide +kernel, by decide +kernel⟩, List.mem_of_getElem? (i := 11) (by decide +kernel), List.mem_of_getElem? (i := 383) (by decide +kernel), List.mem_of_getElem? (i := 384) (by decide +kernel)⟩
theorem lw_p3 : lw_okq (⟨"HeadBudgets", "revokeCommitment", "(II)I"⟩, 2) := ⟨⟨by decide +kernel, by decide +kernel⟩, List.mem_of_getElem? (i := 11) (by decide +kernel), List.mem_of_getElem? (i := 391) (by decide +kernel), List.mem_of_getElem? (i := 392) (by decide +kernel)⟩
theorem lw_p4 : lw_okq (⟨"HeadBudgets$Heads", "summand", "(II)I"⟩, 11) := ⟨⟨by decide +kernel, by decide +kernel⟩, List.mem_of_getElem? (i := 25) (by decide +kernel), List.mem_of_getElem? (i := 407) (by decide +kernel), List.mem_of_getElem? (i := 408) (by decide +kernel)⟩
theorem lw_p5 : lw_okq (⟨"HeadBudgets$Heads", "countAhead", "(II)I"⟩, 11) := ⟨⟨by decide +kernel, by decide +kernel⟩, List.mem_of_getElem? (i := 25) (by decide +kernel), List.mem_of_getElem? (i := 448) (by decide +kernel), List.mem_of_getElem? (i := 449) (by decide +kernel)⟩
theorem lw_p6 : lw_okq (⟨"HeadBudgets$Heads", "isRicher", "(II)Z"⟩, 11) := ⟨⟨by decide +kernel, by decide +kernel⟩, List.mem_of_getElem? (i := 25) (by decide +kernel), List.mem_of_getElem? (i := 452) (by decide +kernel), List.mem_of_getElem? (i := 453) (by decide +kernel)⟩
theorem lw_p7 : lw_okq (⟨"HeadBudgetsModel", "copy", "(II)V"⟩, 10) := ⟨⟨by decide +kernel, by decide +kernel⟩, List.mem_of_getElem? (i := 460) (by decide +kernel), List.mem_of_getElem? (i := 504) (by decide +kernel), List.mem_of_getElem? (i := 505) (by decide +kernel)⟩
theorem lw_p8 : lw_okq (⟨"HeadBudgetsModel", "isHead", "(I)Z"⟩, 10) := ⟨⟨by decide +kernel, by decide +kernel⟩, List.mem_of_getElem? (i := 460) (by decide +kernel), List.mem_of_getElem? (i := 516) (by decide +kernel), List.mem_of_getElem? (i := 517) (by decide +kernel)⟩
theorem lw_p9 : lw_okq (⟨"HeadBudgetsModel", "depth", "(I)I"⟩, 10) := ⟨⟨by decide +kernel, by decide +kernel⟩, List.mem_of_getElem? (i := 460) (by decide +kernel), List.mem_of_getElem? (i := 523) (by decide +kernel), List.mem_of_getElem? (i := 524) (by decide +kernel)⟩
theorem lw_p10 : lw_okq (⟨"HeadBudgetsModel", "aboveOf", "(I)I"⟩, 10) := ⟨⟨by decide +kernel, by decide +kernel⟩, List.mem_of_getElem? (i := 460) (by decide +kernel), List.mem_of_getElem? (i := 527) (by decide +kernel), List.mem_of_getElem? (i := 528) (by decide +kernel)⟩
theorem lw_p11 : lw_okq (⟨"HeadBudgetsModel", "remember", "(IIII)V"⟩, 10) := ⟨⟨by decide +kernel, by decide +kernel⟩, List.mem_of_getElem? (i := 460) (by decide +kernel), List.mem_of_getElem? (i := 531) (by decide +kernel), List.mem_of_getElem? (i := 532) (by decide +kernel)⟩
theorem lw_p12 : lw_okq (⟨"HeadBudgetsModel", "forget", "()V"⟩, 10) := ⟨⟨by decide +kernel, by decide +kernel⟩, List.mem_of_getElem? (i := 460) (by decide +kernel), List.mem_of_getElem? (i := 535) (by decide +kernel), List.mem_of_getElem? (i := 536) (by decide +kernel)⟩
theorem lw_p13 : lw_okq (⟨"HeadBudgetsModel", "barred", "()I"⟩, 10) := ⟨⟨by decide +kernel, by decide +kernel⟩, List.mem_of_getElem? (i := 460) (by decide +kernel), List.mem_of_getElem? (i := 552) (by decide +kernel), List.mem_of_getElem? (i := 553) (by decide +kernel)⟩
theorem lw_p14 : lw_okq (⟨"HeadBudgetsModel", "isBarred", "(I)Z"⟩, 10) := ⟨⟨by decide +kernel, by decide +kernel⟩, List.mem_of_getElem? (i := 460) (by decide +kernel), List.mem_of_getElem? (i := 556) (by decide +kernel), List.mem_of_getElem? (i := 557) (by decide +kernel)⟩
theorem lw_p15 : lw_okq (⟨"HeadBudgetsModel", "free", "(I)I"⟩, 10) := ⟨⟨by decide +kernel, by decide +kernel⟩, List.mem_of_getElem? (i := 460) (by decide +kernel), List.mem_of_getElem? (i := 572) (by decide +kernel), List.mem_of_getElem? (i := 573) (by decide +kernel)⟩
def lw_privs_1 : List (MethodName × Nat) := [(⟨"HeadBudgets$Memory", "rememberWith", "(ILHeadBudgets$Books;III)V"⟩, 4), (⟨"HeadBudgets$Heads", "mayGive", "(II)Z"⟩, 11), (⟨"HeadBudgets", "revokeVirement", "(IIII)I"⟩, 2), (⟨"HeadBudgets", "revokeCommitment", "(II)I"⟩, 2), (⟨"HeadBudgets$Heads", "summand", "(II)I"⟩, 11), (⟨"HeadBudgets$Heads", "countAhead", "(II)I"⟩, 11), (⟨"HeadBudgets$Heads", "isRicher", "(II)Z"⟩, 11), (⟨"HeadBudgetsModel", "copy", "(II)V"⟩, 10), (⟨"HeadBudgetsModel", "isHead", "(I)Z"⟩, 10), (⟨"HeadBudgetsModel", "depth", "(I)I"⟩, 10), (⟨"HeadBudgetsModel", "aboveOf", "(I)I"⟩, 10), (⟨"HeadBudgetsModel", "remember", "(IIII)V"⟩, 10), (⟨"HeadBudgetsModel", "forget", "()V"⟩, 10), (⟨"HeadBudgetsModel", "barred", "()I"⟩, 10), (⟨"HeadBudgetsModel", "isBarred", "(I)Z"⟩, 10), (⟨"HeadBudgetsModel", "free", "(I)I"⟩, 10)]
theorem lw_r1 : ∀ q ∈ lw_privs_1, lw_okq q := List.forall_mem_cons.mpr ⟨lw_p0, List.forall_mem_cons.mpr ⟨lw_p1, List.forall_mem_cons.mpr ⟨lw_p2, List.forall_mem_cons.mpr ⟨lw_p3, List.forall_mem_cons.mpr ⟨lw_p4, List.forall_mem_cons.mpr ⟨lw_p5, List.forall_mem_cons.mpr ⟨lw_p6, List.forall_mem_cons.mpr ⟨lw_p7, List.forall_mem_cons.mpr ⟨lw_p8, List.forall_mem_cons.mpr ⟨lw_p9, List.forall_mem_cons.mpr ⟨lw_p10, List.forall_mem_cons.mpr ⟨lw_p11, List.forall_mem_cons.mpr ⟨lw_p12, List.forall_mem_cons.mpr ⟨lw_p13, List.forall_mem_cons.mpr ⟨lw_p14, List.forall_mem_cons.mpr ⟨lw_p15, fun _ h => absurd h List.not_mem_nil⟩⟩⟩⟩⟩⟩⟩⟩⟩⟩⟩⟩⟩⟩⟩⟩
theorem lw_p16 : lw_okq (⟨"HeadBudgetsModel", "isCommitment", "(I)Z"⟩, 10) := ⟨⟨by decide +kernel, by decide +kernel⟩, List.mem_of_getElem? (i := 460) (by decide +kernel), List.mem_of_getElem? (i := 583) (by decide +kernel), List.mem_of_getElem? (i := 584) (by decide +kernel)⟩
theorem lw_p17 : lw_okq (⟨"HeadBudgetsModel", "free0", "(I)I"⟩, 10) := ⟨⟨by decide +kernel, by decide +kernel⟩, List.mem_of_getElem? (i := 460) (by decide +kernel), List.mem_of_getElem? (i := 591) (by decide +kernel), List.mem_of_getElem? (i := 592) (by decide +kernel)⟩
theorem lw_p18 : lw_okq (⟨"HeadBudgetsModel", "areTwo", "(II)Z"⟩, 10) := ⟨⟨by decide +kernel, by decide +kernel⟩, List.mem_of_getElem? (i := 460) (by decide +kernel), List.mem_of_getElem? (i := 599) (by decide +kernel), List.mem_of_getElem? (i := 600) (by decide +kernel)⟩
theorem lw_p19 : lw_okq (⟨"HeadBudgetsModel", "isAllowed", "(II)Z"⟩, 10) := ⟨⟨by decide +kernel, by decide +kernel⟩, List.mem_of_getElem? (i := 460) (by decide +kernel), List.mem_of_getElem? (i := 603) (by decide +kernel), List.mem_of_getElem? (i := 604) (by decide +kernel)⟩
theorem lw_p20 : lw_okq (⟨"HeadBudgetsModel", "isBelow", "(II)Z"⟩, 10) := ⟨⟨by decide +kernel, by decide +kernel⟩, List.mem_of_getElem? (i := 460) (by decide +kernel), List.mem_of_getElem? (i := 607) (by decide +kernel), List.mem_of_getElem? (i := 608) (by decide +kernel)⟩
theorem lw_p21 : lw_okq (⟨"HeadBudgetsModel", "leaveOf", "(I)I"⟩, 10) := ⟨⟨by decide +kernel, by decide +kernel⟩, List.mem_of_getElem? (i := 460) (by decide +kernel), List.mem_of_getElem? (i := 611) (by decide +kernel), List.mem_of_getElem? (i := 612) (by decide +kernel)⟩
theorem lw_p22 : lw_okq (⟨"HeadBudgetsModel", "moves", "(III)V"⟩, 10) := ⟨⟨by decide +kernel, by decide +kernel⟩, List.mem_of_getElem? (i := 460) (by decide +kernel), List.mem_of_getElem? (i := 616) (by decide +kernel), List.mem_of_getElem? (i := 617) (by decide +kernel)⟩
theorem lw_p23 : lw_okq (⟨"HeadBudgetsModel", "lapseOf", "(I)I"⟩, 10) := ⟨⟨by decide +kernel, by decide +kernel⟩, List.mem_of_getElem? (i := 460) (by decide +kernel), List.mem_of_getElem? (i := 624) (by decide +kernel), List.mem_of_getElem? (i := 625) (by decide +kernel)⟩
theorem lw_p24 : lw_okq (⟨"HeadBudgetsModel", "canRevoke", "(I)Z"⟩, 10) := ⟨⟨by decide +kernel, by decide +kernel⟩, List.mem_of_getElem? (i := 460) (by decide +kernel), List.mem_of_getElem? (i := 632) (by decide +kernel), List.mem_of_getElem? (i := 633) (by decide +kernel)⟩
theorem lw_p25 : lw_okq (⟨"HeadBudgetsModel", "opens", "()I"⟩, 10) := ⟨⟨by decide +kernel, by decide +kernel⟩, List.mem_of_getElem? (i := 460) (by decide +kernel), List.mem_of_getElem? (i := 640) (by decide +kernel), List.mem_of_getElem? (i := 641) (by decide +kernel)⟩
theorem lw_p26 : lw_okq (⟨"HeadBudgetsModel", "sumOf", "(I)I"⟩, 10) := ⟨⟨by decide +kernel, by decide +kernel⟩, List.mem_of_getElem? (i := 460) (by decide +kernel), List.mem_of_getElem? (i := 644) (by decide +kernel), List.mem_of_getElem? (i := 645) (by decide +kernel)⟩
theorem lw_p27 : lw_okq (⟨"HeadBudgetsModel", "totalOf", "(II)I"⟩, 10) := ⟨⟨by decide +kernel, by decide +kernel⟩, List.mem_of_getElem? (i := 460) (by decide +kernel), List.mem_of_getElem? (i := 656) (by decide +kernel), List.mem_of_getElem? (i := 657) (by decide +kernel)⟩
theorem lw_p28 : lw_okq (⟨"HeadBudgetsModel", "valueOf", "(II)I"⟩, 10) := ⟨⟨by decide +kernel, by decide +kernel⟩, List.mem_of_getElem? (i := 460) (by decide +kernel), List.mem_of_getElem? (i := 660) (by decide +kernel), List.mem_of_getElem? (i := 661) (by decide +kernel)⟩
theorem lw_p29 : lw_okq (⟨"HeadBudgetsModel", "mostOf", "(II)I"⟩, 10) := ⟨⟨by decide +kernel, by decide +kernel⟩, List.mem_of_getElem? (i := 460) (by decide +kernel), List.mem_of_getElem? (i := 672) (by decide +kernel), List.mem_of_getElem? (i := 673) (by decide +kernel)⟩
theorem lw_p30 : lw_okq (⟨"HeadBudgetsModel", "isRicher", "(II)Z"⟩, 10) := ⟨⟨by decide +kernel, by decide +kernel⟩, List.mem_of_getElem? (i := 460) (by decide +kernel), List.mem_of_getElem? (i := 684) (by decide +kernel), List.mem_of_getElem? (i := 685) (by decide +kernel)⟩
def lw_privs_2 : List (MethodName × Nat) := [(⟨"HeadBudgetsModel", "isCommitment", "(I)Z"⟩, 10), (⟨"HeadBudgetsModel", "free0", "(I)I"⟩, 10), (⟨"HeadBudgetsModel", "areTwo", "(II)Z"⟩, 10), (⟨"HeadBudgetsModel", "isAllowed", "(II)Z"⟩, 10), (⟨"HeadBudgetsModel", "isBelow", "(II)Z"⟩, 10), (⟨"HeadBudgetsModel", "leaveOf", "(I)I"⟩, 10), (⟨"HeadBudgetsModel", "moves", "(III)V"⟩, 10), (⟨"HeadBudgetsModel", "lapseOf", "(I)I"⟩, 10), (⟨"HeadBudgetsModel", "canRevoke", "(I)Z"⟩, 10), (⟨"HeadBudgetsModel", "opens", "()I"⟩, 10), (⟨"HeadBudgetsModel", "sumOf", "(I)I"⟩, 10), (⟨"HeadBudgetsModel", "totalOf", "(II)I"⟩, 10), (⟨"HeadBudgetsModel", "valueOf", "(II)I"⟩, 10), (⟨"HeadBudgetsModel", "mostOf", "(II)I"⟩, 10), (⟨"HeadBudgetsModel", "isRicher", "(II)Z"⟩, 10)]
theorem lw_r2 : ∀ q ∈ lw_privs_2, lw_okq q := List.forall_mem_cons.mpr ⟨lw_p16, List.forall_mem_cons.mpr ⟨lw_p17, List.forall_mem_cons.mpr ⟨lw_p18, List.forall_mem_cons.mpr ⟨lw_p19, List.forall_mem_cons.mpr ⟨lw_p20, List.forall_mem_cons.mpr ⟨lw_p21, List.forall_mem_cons.mpr ⟨lw_p22, List.forall_mem_cons.mpr ⟨lw_p23, List.forall_mem_cons.mpr ⟨lw_p24, List.forall_mem_cons.mpr ⟨lw_p25, List.forall_mem_cons.mpr ⟨lw_p26, List.forall_mem_cons.mpr ⟨lw_p27, List.forall_mem_cons.mpr ⟨lw_p28, List.forall_mem_cons.mpr ⟨lw_p29, List.forall_mem_cons.mpr ⟨lw_p30, fun _ h => absurd h List.not_mem_nil⟩⟩⟩⟩⟩⟩⟩⟩⟩⟩⟩⟩⟩⟩⟩
def lw_privs : List (MethodName × Nat) := lw_privs_1 ++ (lw_privs_2)
def lw_tbl : List Cond := k2_sels lw_privs ++ tables_1
theorem lw_privs_ok : ∀ q ∈ lw_privs, lw_okq q := by
  show ∀ q ∈ lw_privs_1 ++ (lw_privs_2), lw_okq q
  exact List.forall_mem_append.mpr ⟨lw_r1, lw_r2⟩
-- ===== end of PART A; then your names; then what follows =====
end
section
/-! ===== BEGIN words of one list among another's, by their places ===== -/
theorem goodIn_r {big : List Cond} (ws : List Cond) (ps : List Nat) (hp : ws = ps.filterMap (fun i => big[i]?)) (h : ws.all goodWord = true) : GoodIn big ws := by
  intro w hw
  have h1 := List.all_eq_true.mp h w hw
  rw [hp] at hw
  obtain ⟨i, -, hi⟩ := List.mem_filterMap.mp hw
  have hm : w ∈ big := by first | exact List.mem_of_getElem? hi | exact List.getElem?_mem hi
  exact ⟨hm, good_of_word h1⟩
theorem goodIn_app {big a b : List Cond} (ha : GoodIn big a) (hb : GoodIn big b) : GoodIn big (a ++ b) := fun w h => (List.mem_append.mp h).elim (ha w) (hb w)
theorem goodIn_ca {big a b : List Cond} {c : Cond} (ha : GoodIn big (c :: a)) (hb : GoodIn big b) : GoodIn big (c :: (a ++ b)) := fun w h => (List.mem_cons.mp h).elim (fun e => ha w (List.mem_cons.mpr (Or.inl e))) (fun h => (List.mem_append.mp h).elim (fun h => ha w (List.mem_cons.mpr (Or.inr h))) (hb w))
theorem goodIn_sub {big ws : List Cond} (hm : ∀ w ∈ ws, w ∈ big) (h : ws.all goodWord = true) : GoodIn big ws := fun w hw => ⟨hm w hw, good_of_word (List.all_eq_true.mp h w hw)⟩
/-! ===== END ===== -/

/-! ===== BEGIN printed: names, fields, word lists, decode rows ===== -/
def RX0 : String := "HeadBudgets$Books"
def TX0 : u_T := fun k => match k with
  | 0 => ("HeadBudgets$Books", "heads", "LHeadBudgets$Heads;", true)
  | 1 => ("HeadBudgets$Books", "commitments", "LHeadBudgets$Commitments;", true)
  | 2 => ("HeadBudgets$Books", "year", "I", false)
  | 3 => ("HeadBudgets$Books", "carriedPart", "I", false)
  | 4 => ("HeadBudgets$Books", "lapsed", "I", false)
  | _ => ("HeadBudgets$Books", "spent", "I", false)
def tyX0 : Nat → FieldType := fun k => match k with
  | 0 => .object "HeadBudgets$Heads"
  | 1 => .object "HeadBudgets$Commitments"
  | 2 => .int
  | 3 => .int
  | 4 => .int
  | _ => .int
abbrev wsX00 : List Cond := u_ws RX0 TX0 6
theorem nmX0 : ∀ a, a < 6 → ∀ b, b < 6 → a ≠ b → (TX0 a).2.1 ≠ (TX0 b).2.1 := by decide +kernel
theorem tyX0_ok : ∀ k, k < 6 → parseFieldDescriptor (TX0 k).2.2.1 = some (tyX0 k) := by decide +kernel
abbrev cX0_init : ByteArray := prog_2_method_1_code
def yX0_init : MethodName := ⟨RX0, "<init>", "()V"⟩
abbrev cX0_copyFrom : ByteArray := prog_2_method_2_code
def yX0_copyFrom : MethodName := ⟨RX0, "copyFrom", "(LHeadBudgets$Books;)V"⟩
abbrev cX0_freeOpenOf : ByteArray := prog_2_method_3_code
def yX0_freeOpenOf : MethodName := ⟨RX0, "freeOpenOf", "(I)I"⟩
def RX1 : String := "HeadBudgets$Commitments"
def TX1 : u_T := fun k => match k with
  | 0 => ("HeadBudgets$Commitments", "head", "[I", true)
  | 1 => ("HeadBudgets$Commitments", "open", "[I", true)
  | 2 => ("HeadBudgets$Commitments", "paid", "[I", true)
  | 3 => ("HeadBudgets$Commitments", "year", "[I", true)
  | _ => ("HeadBudgets$Commitments", "made", "I", false)
def tyX1 : Nat → FieldType := fun k => match k with
  | 0 => .array .int
  | 1 => .array .int
  | 2 => .array .int
  | 3 => .array .int
  | _ => .int
abbrev wsX10 : List Cond := u_ws RX1 TX1 5
theorem nmX1 : ∀ a, a < 5 → ∀ b, b < 5 → a ≠ b → (TX1 a).2.1 ≠ (TX1 b).2.1 := by decide +kernel
theorem tyX1_ok : ∀ k, k < 5 → parseFieldDescriptor (TX1 k).2.2.1 = some (tyX1 k) := by decide +kernel
abbrev cX1_init : ByteArray := prog_3_method_1_code
def yX1_init : MethodName := ⟨RX1, "<init>", "()V"⟩
abbrev cX1_copyFrom : ByteArray := prog_3_method_2_code
def yX1_copyFrom : MethodName := ⟨RX1, "copyFrom", "(LHeadBudgets$Commitments;)V"⟩
abbrev cX1_has : ByteArray := prog_3_method_3_code
def yX1_has : MethodName := ⟨RX1, "has", "(I)Z"⟩
abbrev cX1_add : ByteArray := prog_3_method_4_code
def yX1_add : MethodName := ⟨RX1, "add", "(III)I"⟩
abbrev cX1_countOpen : ByteArray := prog_3_method_5_code
def yX1_countOpen : MethodName := ⟨RX1, "countOpen", "()I"⟩
def RX2 : String := "HeadBudgets$Deed"
def TX2 : u_T := fun k => match k with
  | 0 => ("HeadBudgets$Deed", "before", "LHeadBudgets$Books;", true)
  | 1 => ("HeadBudgets$Deed", "number", "I", false)
  | 2 => ("HeadBudgets$Deed", "kind", "I", false)
  | 3 => ("HeadBudgets$Deed", "subject", "I", false)
  | 4 => ("HeadBudgets$Deed", "taker", "I", false)
  | _ => ("HeadBudgets$Deed", "amount", "I", false)
def tyX2 : Nat → FieldType := fun k => match k with
  | 0 => .object "HeadBudgets$Books"
  | 1 => .int
  | 2 => .int
  | 3 => .int
  | 4 => .int
  | _ => .int
abbrev wsX20 : List Cond := u_ws RX2 TX2 6
theorem nmX2 : ∀ a, a < 6 → ∀ b, b < 6 → a ≠ b → (TX2 a).2.1 ≠ (TX2 b).2.1 := by decide +kernel
theorem tyX2_ok : ∀ k, k < 6 → parseFieldDescriptor (TX2 k).2.2.1 = some (tyX2 k) := by decide +kernel
abbrev cX2_init : ByteArray := prog_4_method_1_code
def yX2_init : MethodName := ⟨RX2, "<init>", "()V"⟩
def RX3 : String := "HeadBudgets$Heads"
def TX3 : u_T := fun k => match k with
  | 0 => ("HeadBudgets$Heads", "above", "[I", true)
  | 1 => ("HeadBudgets$Heads", "depth", "[I", true)
  | 2 => ("HeadBudgets$Heads", "rank", "[I", true)
  | 3 => ("HeadBudgets$Heads", "frozen", "[I", true)
  | 4 => ("HeadBudgets$Heads", "allotment", "[I", true)
  | 5 => ("HeadBudgets$Heads", "committed", "[I", true)
  | 6 => ("HeadBudgets$Heads", "spent", "[I", true)
  | 7 => ("HeadBudgets$Heads", "allotted", "[I", true)
  | 8 => ("HeadBudgets$Heads", "left", "[I", true)
  | 9 => ("HeadBudgets$Heads", "share", "[I", true)
  | _ => ("HeadBudgets$Heads", "made", "I", false)
def tyX3 : Nat → FieldType := fun k => match k with
  | 0 => .array .int
  | 1 => .array .int
  | 2 => .array .int
  | 3 => .array .int
  | 4 => .array .int
  | 5 => .array .int
  | 6 => .array .int
  | 7 => .array .int
  | 8 => .array .int
  | 9 => .array .int
  | _ => .int
abbrev wsX30 : List Cond := u_ws RX3 TX3 11
theorem nmX3 : ∀ a, a < 11 → ∀ b, b < 11 → a ≠ b → (TX3 a).2.1 ≠ (TX3 b).2.1 := by decide +kernel
theorem tyX3_ok : ∀ k, k < 11 → parseFieldDescriptor (TX3 k).2.2.1 = some (tyX3 k) := by decide +kernel
abbrev cX3_init : ByteArray := prog_5_method_1_code
def yX3_init : MethodName := ⟨RX3, "<init>", "()V"⟩
abbrev cX3_copyFrom : ByteArray := prog_5_method_2_code
def yX3_copyFrom : MethodName := ⟨RX3, "copyFrom", "(LHeadBudgets$Heads;)V"⟩
abbrev cX3_has : ByteArray := prog_5_method_3_code
def yX3_has : MethodName := ⟨RX3, "has", "(I)Z"⟩
abbrev cX3_hasBoth : ByteArray := prog_5_method_4_code
def yX3_hasBoth : MethodName := ⟨RX3, "hasBoth", "(II)Z"⟩
abbrev cX3_add : ByteArray := prog_5_method_5_code
def yX3_add : MethodName := ⟨RX3, "add", "(II)I"⟩
abbrev cX3_freeOf : ByteArray := prog_5_method_6_code
def yX3_freeOf : MethodName := ⟨RX3, "freeOf", "(I)I"⟩
abbrev cX3_isBarred : ByteArray := prog_5_method_7_code
def yX3_isBarred : MethodName := ⟨RX3, "isBarred", "(I)Z"⟩
abbrev cX3_countBarred : ByteArray := prog_5_method_8_code
def yX3_countBarred : MethodName := ⟨RX3, "countBarred", "()I"⟩
abbrev cX3_isWithin : ByteArray := prog_5_method_9_code
def yX3_isWithin : MethodName := ⟨RX3, "isWithin", "(II)Z"⟩
abbrev cX3_sumWithin : ByteArray := prog_5_method_10_code
def yX3_sumWithin : MethodName := ⟨RX3, "sumWithin", "(II)I"⟩
abbrev cX3_summand : ByteArray := prog_5_method_11_code
def yX3_summand : MethodName := ⟨RX3, "summand", "(II)I"⟩
abbrev cX3_changeCommitted : ByteArray := prog_5_method_12_code
def yX3_changeCommitted : MethodName := ⟨RX3, "changeCommitted", "(II)V"⟩
abbrev cX3_spendCommitted : ByteArray := prog_5_method_13_code
def yX3_spendCommitted : MethodName := ⟨RX3, "spendCommitted", "(II)V"⟩
abbrev cX3_movable : ByteArray := prog_5_method_14_code
def yX3_movable : MethodName := ⟨RX3, "movable", "(II)I"⟩
abbrev cX3_mayGive : ByteArray := prog_5_method_15_code
def yX3_mayGive : MethodName := ⟨RX3, "mayGive", "(II)Z"⟩
abbrev cX3_moveByVirement : ByteArray := prog_5_method_16_code
def yX3_moveByVirement : MethodName := ⟨RX3, "moveByVirement", "(III)V"⟩
abbrev cX3_giverOfMost : ByteArray := prog_5_method_17_code
def yX3_giverOfMost : MethodName := ⟨RX3, "giverOfMost", "(I)I"⟩
abbrev cX3_atPlace : ByteArray := prog_5_method_18_code
def yX3_atPlace : MethodName := ⟨RX3, "atPlace", "(II)I"⟩
abbrev cX3_countAhead : ByteArray := prog_5_method_19_code
def yX3_countAhead : MethodName := ⟨RX3, "countAhead", "(II)I"⟩
abbrev cX3_isRicher : ByteArray := prog_5_method_20_code
def yX3_isRicher : MethodName := ⟨RX3, "isRicher", "(II)Z"⟩
abbrev cX3_lapseWithin : ByteArray := prog_5_method_21_code
def yX3_lapseWithin : MethodName := ⟨RX3, "lapseWithin", "(II)I"⟩
abbrev cX3_carryForward : ByteArray := prog_5_method_22_code
def yX3_carryForward : MethodName := ⟨RX3, "carryForward", "(I)V"⟩
def RX4 : String := "HeadBudgets$Memory"
def TX4 : u_T := fun k => match k with
  | 0 => ("HeadBudgets$Memory", "places", "[LHeadBudgets$Deed;", true)
  | 1 => ("HeadBudgets$Memory", "oldest", "I", false)
  | 2 => ("HeadBudgets$Memory", "held", "I", false)
  | _ => ("HeadBudgets$Memory", "latestNumber", "I", false)
def tyX4 : Nat → FieldType := fun k => match k with
  | 0 => .array (.object "HeadBudgets$Deed")
  | 1 => .int
  | 2 => .int
  | _ => .int
abbrev wsX40 : List Cond := u_ws RX4 TX4 4
theorem nmX4 : ∀ a, a < 4 → ∀ b, b < 4 → a ≠ b → (TX4 a).2.1 ≠ (TX4 b).2.1 := by decide +kernel
theorem tyX4_ok : ∀ k, k < 4 → parseFieldDescriptor (TX4 k).2.2.1 = some (tyX4 k) := by decide +kernel
abbrev cX4_init : ByteArray := prog_6_method_1_code
def yX4_init : MethodName := ⟨RX4, "<init>", "()V"⟩
abbrev cX4_recall : ByteArray := prog_6_method_2_code
def yX4_recall : MethodName := ⟨RX4, "recall", "(I)LHeadBudgets$Deed;"⟩
abbrev cX4_remember : ByteArray := prog_6_method_3_code
def yX4_remember : MethodName := ⟨RX4, "remember", "(ILHeadBudgets$Books;)V"⟩
abbrev cX4_rememberCommitment : ByteArray := prog_6_method_4_code
def yX4_rememberCommitment : MethodName := ⟨RX4, "rememberCommitment", "(LHeadBudgets$Books;I)V"⟩
abbrev cX4_rememberVirement : ByteArray := prog_6_method_5_code
def yX4_rememberVirement : MethodName := ⟨RX4, "rememberVirement", "(LHeadBudgets$Books;III)V"⟩
abbrev cX4_rememberRevoking : ByteArray := prog_6_method_6_code
def yX4_rememberRevoking : MethodName := ⟨RX4, "rememberRevoking", "(LHeadBudgets$Books;I)V"⟩
abbrev cX4_rememberWith : ByteArray := prog_6_method_7_code
def yX4_rememberWith : MethodName := ⟨RX4, "rememberWith", "(ILHeadBudgets$Books;III)V"⟩
abbrev cX4_wasRevoked : ByteArray := prog_6_method_8_code
def yX4_wasRevoked : MethodName := ⟨RX4, "wasRevoked", "(I)Z"⟩
abbrev cX4_forgetLatest : ByteArray := prog_6_method_9_code
def yX4_forgetLatest : MethodName := ⟨RX4, "forgetLatest", "()I"⟩
def RX5 : String := "HeadBudgets"
def TX5 : u_T := fun k => match k with
  | 0 => ("HeadBudgets", "now", "LHeadBudgets$Books;", true)
  | _ => ("HeadBudgets", "memory", "LHeadBudgets$Memory;", true)
def tyX5 : Nat → FieldType := fun k => match k with
  | 0 => .object "HeadBudgets$Books"
  | _ => .object "HeadBudgets$Memory"
abbrev wsX50 : List Cond := u_ws RX5 TX5 2
theorem nmX5 : ∀ a, a < 2 → ∀ b, b < 2 → a ≠ b → (TX5 a).2.1 ≠ (TX5 b).2.1 := by decide +kernel
theorem tyX5_ok : ∀ k, k < 2 → parseFieldDescriptor (TX5 k).2.2.1 = some (tyX5 k) := by decide +kernel
abbrev cX5_init : ByteArray := prog_1_method_1_code
def yX5_init : MethodName := ⟨RX5, "<init>", "()V"⟩
abbrev cX5_make : ByteArray := prog_1_method_2_code
def yX5_make : MethodName := ⟨RX5, "make", "(II)I"⟩
abbrev cX5_allot : ByteArray := prog_1_method_3_code
def yX5_allot : MethodName := ⟨RX5, "allot", "(II)I"⟩
abbrev cX5_freeze : ByteArray := prog_1_method_4_code
def yX5_freeze : MethodName := ⟨RX5, "freeze", "(II)I"⟩
abbrev cX5_setShare : ByteArray := prog_1_method_5_code
def yX5_setShare : MethodName := ⟨RX5, "setShare", "(II)I"⟩
abbrev cX5_setCarried : ByteArray := prog_1_method_6_code
def yX5_setCarried : MethodName := ⟨RX5, "setCarried", "(I)I"⟩
abbrev cX5_commit : ByteArray := prog_1_method_7_code
def yX5_commit : MethodName := ⟨RX5, "commit", "(II)I"⟩
abbrev cX5_pay : ByteArray := prog_1_method_8_code
def yX5_pay : MethodName := ⟨RX5, "pay", "(II)I"⟩
abbrev cX5_release : ByteArray := prog_1_method_9_code
def yX5_release : MethodName := ⟨RX5, "release", "(I)I"⟩
abbrev cX5_vire : ByteArray := prog_1_method_10_code
def yX5_vire : MethodName := ⟨RX5, "vire", "(III)I"⟩
abbrev cX5_endYear : ByteArray := prog_1_method_11_code
def yX5_endYear : MethodName := ⟨RX5, "endYear", "()I"⟩
abbrev cX5_undo : ByteArray := prog_1_method_12_code
def yX5_undo : MethodName := ⟨RX5, "undo", "()I"⟩
abbrev cX5_revoke : ByteArray := prog_1_method_13_code
def yX5_revoke : MethodName := ⟨RX5, "revoke", "(I)I"⟩
abbrev cX5_revokeVirement : ByteArray := prog_1_method_14_code
def yX5_revokeVirement : MethodName := ⟨RX5, "revokeVirement", "(IIII)I"⟩
abbrev cX5_revokeCommitment : ByteArray := prog_1_method_15_code
def yX5_revokeCommitment : MethodName := ⟨RX5, "revokeCommitment", "(II)I"⟩
abbrev cX5_count : ByteArray := prog_1_method_16_code
def yX5_count : MethodName := ⟨RX5, "count", "(I)I"⟩
abbrev cX5_head : ByteArray := prog_1_method_17_code
def yX5_head : MethodName := ⟨RX5, "head", "(II)I"⟩
abbrev cX5_total : ByteArray := prog_1_method_18_code
def yX5_total : MethodName := ⟨RX5, "total", "(II)I"⟩
abbrev cX5_commitment : ByteArray := prog_1_method_19_code
def yX5_commitment : MethodName := ⟨RX5, "commitment", "(II)I"⟩
abbrev cX5_deed : ByteArray := prog_1_method_20_code
def yX5_deed : MethodName := ⟨RX5, "deed", "(I)I"⟩
abbrev cX5_mostFrom : ByteArray := prog_1_method_21_code
def yX5_mostFrom : MethodName := ⟨RX5, "mostFrom", "(II)I"⟩
abbrev cX5_bestGiver : ByteArray := prog_1_method_22_code
def yX5_bestGiver : MethodName := ⟨RX5, "bestGiver", "(I)I"⟩
abbrev cX5_richest : ByteArray := prog_1_method_23_code
def yX5_richest : MethodName := ⟨RX5, "richest", "(II)I"⟩
abbrev cX5_wouldLapse : ByteArray := prog_1_method_24_code
def yX5_wouldLapse : MethodName := ⟨RX5, "wouldLapse", "(I)I"⟩
abbrev cX5_isAmount : ByteArray := prog_1_method_25_code
def yX5_isAmount : MethodName := ⟨RX5, "isAmount", "(I)Z"⟩
abbrev cX5_isPercentage : ByteArray := prog_1_method_26_code
def yX5_isPercentage : MethodName := ⟨RX5, "isPercentage", "(I)Z"⟩
abbrev cX5_partOf : ByteArray := prog_1_method_27_code
def yX5_partOf : MethodName := ⟨RX5, "partOf", "(II)I"⟩
def RX6 : String := "HeadBudgetsModel"
def TX6 : u_T := fun k => match k with
  | 0 => ("HeadBudgetsModel", "row", "[I", true)
  | 1 => ("HeadBudgetsModel", "deeds", "I", false)
  | 2 => ("HeadBudgetsModel", "deedNumber", "I", false)
  | 3 => ("HeadBudgetsModel", "kinds", "[I", true)
  | 4 => ("HeadBudgetsModel", "ones", "[I", true)
  | 5 => ("HeadBudgetsModel", "others", "[I", true)
  | 6 => ("HeadBudgetsModel", "amounts", "[I", true)
  | 7 => ("HeadBudgetsModel", "years", "[I", true)
  | 8 => ("HeadBudgetsModel", "revoked", "[I", true)
  | _ => ("HeadBudgetsModel", "numbers", "[I", true)
def tyX6 : Nat → FieldType := fun k => match k with
  | 0 => .array .int
  | 1 => .int
  | 2 => .int
  | 3 => .array .int
  | 4 => .array .int
  | 5 => .array .int
  | 6 => .array .int
  | 7 => .array .int
  | 8 => .array .int
  | _ => .array .int
abbrev wsX60 : List Cond := u_ws RX6 TX6 10
theorem nmX6 : ∀ a, a < 10 → ∀ b, b < 10 → a ≠ b → (TX6 a).2.1 ≠ (TX6 b).2.1 := by decide +kernel
theorem tyX6_ok : ∀ k, k < 10 → parseFieldDescriptor (TX6 k).2.2.1 = some (tyX6 k) := by decide +kernel
abbrev cX6_init : ByteArray := prog_8_method_1_code
def yX6_init : MethodName := ⟨RX6, "<init>", "()V"⟩
abbrev cX6_in : ByteArray := prog_8_method_2_code
def yX6_in : MethodName := ⟨RX6, "in", "(III)Z"⟩
abbrev cX6_of : ByteArray := prog_8_method_3_code
def yX6_of : MethodName := ⟨RX6, "of", "(II)I"⟩
abbrev cX6_ofCommitment : ByteArray := prog_8_method_4_code
def yX6_ofCommitment : MethodName := ⟨RX6, "ofCommitment", "(II)I"⟩
abbrev cX6_isHead : ByteArray := prog_8_method_5_code
def yX6_isHead : MethodName := ⟨RX6, "isHead", "(I)Z"⟩
abbrev cX6_isCommitment : ByteArray := prog_8_method_6_code
def yX6_isCommitment : MethodName := ⟨RX6, "isCommitment", "(I)Z"⟩
abbrev cX6_isAmount : ByteArray := prog_8_method_7_code
def yX6_isAmount : MethodName := ⟨RX6, "isAmount", "(I)Z"⟩
abbrev cX6_copy : ByteArray := prog_8_method_8_code
def yX6_copy : MethodName := ⟨RX6, "copy", "(II)V"⟩
abbrev cX6_forget : ByteArray := prog_8_method_9_code
def yX6_forget : MethodName := ⟨RX6, "forget", "()V"⟩
abbrev cX6_remember : ByteArray := prog_8_method_10_code
def yX6_remember : MethodName := ⟨RX6, "remember", "(IIII)V"⟩
abbrev cX6_undo : ByteArray := prog_8_method_11_code
def yX6_undo : MethodName := ⟨RX6, "undo", "()I"⟩
abbrev cX6_deed : ByteArray := prog_8_method_12_code
def yX6_deed : MethodName := ⟨RX6, "deed", "(I)I"⟩
abbrev cX6_aboveOf : ByteArray := prog_8_method_13_code
def yX6_aboveOf : MethodName := ⟨RX6, "aboveOf", "(I)I"⟩
abbrev cX6_depth : ByteArray := prog_8_method_14_code
def yX6_depth : MethodName := ⟨RX6, "depth", "(I)I"⟩
abbrev cX6_isBelow : ByteArray := prog_8_method_15_code
def yX6_isBelow : MethodName := ⟨RX6, "isBelow", "(II)Z"⟩
abbrev cX6_isBarred : ByteArray := prog_8_method_16_code
def yX6_isBarred : MethodName := ⟨RX6, "isBarred", "(I)Z"⟩
abbrev cX6_barred : ByteArray := prog_8_method_17_code
def yX6_barred : MethodName := ⟨RX6, "barred", "()I"⟩
abbrev cX6_free : ByteArray := prog_8_method_18_code
def yX6_free : MethodName := ⟨RX6, "free", "(I)I"⟩
abbrev cX6_make : ByteArray := prog_8_method_19_code
def yX6_make : MethodName := ⟨RX6, "make", "(II)I"⟩
abbrev cX6_allot : ByteArray := prog_8_method_20_code
def yX6_allot : MethodName := ⟨RX6, "allot", "(II)I"⟩
abbrev cX6_freeze : ByteArray := prog_8_method_21_code
def yX6_freeze : MethodName := ⟨RX6, "freeze", "(II)I"⟩
abbrev cX6_setShare : ByteArray := prog_8_method_22_code
def yX6_setShare : MethodName := ⟨RX6, "setShare", "(II)I"⟩
abbrev cX6_setCarried : ByteArray := prog_8_method_23_code
def yX6_setCarried : MethodName := ⟨RX6, "setCarried", "(I)I"⟩
abbrev cX6_commit : ByteArray := prog_8_method_24_code
def yX6_commit : MethodName := ⟨RX6, "commit", "(II)I"⟩
abbrev cX6_pay : ByteArray := prog_8_method_25_code
def yX6_pay : MethodName := ⟨RX6, "pay", "(II)I"⟩
abbrev cX6_free0 : ByteArray := prog_8_method_26_code
def yX6_free0 : MethodName := ⟨RX6, "free0", "(I)I"⟩
abbrev cX6_release : ByteArray := prog_8_method_27_code
def yX6_release : MethodName := ⟨RX6, "release", "(I)I"⟩
abbrev cX6_isAllowed : ByteArray := prog_8_method_28_code
def yX6_isAllowed : MethodName := ⟨RX6, "isAllowed", "(II)Z"⟩
abbrev cX6_leaveOf : ByteArray := prog_8_method_29_code
def yX6_leaveOf : MethodName := ⟨RX6, "leaveOf", "(I)I"⟩
abbrev cX6_areTwo : ByteArray := prog_8_method_30_code
def yX6_areTwo : MethodName := ⟨RX6, "areTwo", "(II)Z"⟩
abbrev cX6_moves : ByteArray := prog_8_method_31_code
def yX6_moves : MethodName := ⟨RX6, "moves", "(III)V"⟩
abbrev cX6_vire : ByteArray := prog_8_method_32_code
def yX6_vire : MethodName := ⟨RX6, "vire", "(III)I"⟩
abbrev cX6_lapseOf : ByteArray := prog_8_method_33_code
def yX6_lapseOf : MethodName := ⟨RX6, "lapseOf", "(I)I"⟩
abbrev cX6_endYear : ByteArray := prog_8_method_34_code
def yX6_endYear : MethodName := ⟨RX6, "endYear", "()I"⟩
abbrev cX6_canRevoke : ByteArray := prog_8_method_35_code
def yX6_canRevoke : MethodName := ⟨RX6, "canRevoke", "(I)Z"⟩
abbrev cX6_revoke : ByteArray := prog_8_method_36_code
def yX6_revoke : MethodName := ⟨RX6, "revoke", "(I)I"⟩
abbrev cX6_sumOf : ByteArray := prog_8_method_37_code
def yX6_sumOf : MethodName := ⟨RX6, "sumOf", "(I)I"⟩
abbrev cX6_opens : ByteArray := prog_8_method_38_code
def yX6_opens : MethodName := ⟨RX6, "opens", "()I"⟩
abbrev cX6_count : ByteArray := prog_8_method_39_code
def yX6_count : MethodName := ⟨RX6, "count", "(I)I"⟩
abbrev cX6_head : ByteArray := prog_8_method_40_code
def yX6_head : MethodName := ⟨RX6, "head", "(II)I"⟩
abbrev cX6_valueOf : ByteArray := prog_8_method_41_code
def yX6_valueOf : MethodName := ⟨RX6, "valueOf", "(II)I"⟩
abbrev cX6_totalOf : ByteArray := prog_8_method_42_code
def yX6_totalOf : MethodName := ⟨RX6, "totalOf", "(II)I"⟩
abbrev cX6_total : ByteArray := prog_8_method_43_code
def yX6_total : MethodName := ⟨RX6, "total", "(II)I"⟩
abbrev cX6_commitment : ByteArray := prog_8_method_44_code
def yX6_commitment : MethodName := ⟨RX6, "commitment", "(II)I"⟩
abbrev cX6_mostOf : ByteArray := prog_8_method_45_code
def yX6_mostOf : MethodName := ⟨RX6, "mostOf", "(II)I"⟩
abbrev cX6_mostFrom : ByteArray := prog_8_method_46_code
def yX6_mostFrom : MethodName := ⟨RX6, "mostFrom", "(II)I"⟩
abbrev cX6_bestGiver : ByteArray := prog_8_method_47_code
def yX6_bestGiver : MethodName := ⟨RX6, "bestGiver", "(I)I"⟩
abbrev cX6_isRicher : ByteArray := prog_8_method_48_code
def yX6_isRicher : MethodName := ⟨RX6, "isRicher", "(II)Z"⟩
abbrev cX6_richest : ByteArray := prog_8_method_49_code
def yX6_richest : MethodName := ⟨RX6, "richest", "(II)I"⟩
abbrev cX6_wouldLapse : ByteArray := prog_8_method_50_code
def yX6_wouldLapse : MethodName := ⟨RX6, "wouldLapse", "(I)I"⟩
def RJ9 : String := "java/lang/Math"
def TJ9 : u_T := fun k => match k with
  | _ => ("", "", "", false)
def tyJ9 : Nat → FieldType := fun k => match k with
  | _ => .int
abbrev wsJ90 : List Cond := u_ws RJ9 TJ9 0
theorem nmJ9 : ∀ a, a < 0 → ∀ b, b < 0 → a ≠ b → (TJ9 a).2.1 ≠ (TJ9 b).2.1 := by decide +kernel
theorem tyJ9_ok : ∀ k, k < 0 → parseFieldDescriptor (TJ9 k).2.2.1 = some (tyJ9 k) := by decide +kernel
abbrev cJ9_floorMod_7cf53 : ByteArray := prog_9_method_50_code
def yJ9_floorMod_7cf53 : MethodName := ⟨RJ9, "floorMod", "(II)I"⟩
abbrev cJ9_max_7cf53 : ByteArray := prog_9_method_65_code
def yJ9_max_7cf53 : MethodName := ⟨RJ9, "max", "(II)I"⟩
abbrev cJ9_min_7cf53 : ByteArray := prog_9_method_69_code
def yJ9_min_7cf53 : MethodName := ⟨RJ9, "min", "(II)I"⟩
def RJ10 : String := "java/lang/System"
def TJ10 : u_T := fun k => match k with
  | _ => ("", "", "", false)
def tyJ10 : Nat → FieldType := fun k => match k with
  | _ => .int
abbrev wsJ100 : List Cond := u_ws RJ10 TJ10 0
theorem nmJ10 : ∀ a, a < 0 → ∀ b, b < 0 → a ≠ b → (TJ10 a).2.1 ≠ (TJ10 b).2.1 := by decide +kernel
theorem tyJ10_ok : ∀ k, k < 0 → parseFieldDescriptor (TJ10 k).2.2.1 = some (tyJ10 k) := by decide +kernel
def RL : String := "HeadBudgetsLaw"
abbrev cL_law : ByteArray := code
def yL_law : MethodName := ⟨RL, "law", "([I)Z"⟩
def wsX3_init : List Cond := .code yX3_init cX3_init 1 none :: ([.methodLink RX3 3 objectInit, .instanceMethod objectInit, .code objectInit ⟨#[0xb1]⟩ 1 none, .arrayClass .int, .fieldLink RX3 9 "HeadBudgets$Heads" "above" "[I", .fieldLink RX3 15 "HeadBudgets$Heads" "depth" "[I", .fieldLink RX3 18 "HeadBudgets$Heads" "rank" "[I", .fieldLink RX3 21 "HeadBudgets$Heads" "frozen" "[I", .fieldLink RX3 24 "HeadBudgets$Heads" "allotment" "[I", .fieldLink RX3 27 "HeadBudgets$Heads" "committed" "[I", .fieldLink RX3 30 "HeadBudgets$Heads" "spent" "[I", .fieldLink RX3 33 "HeadBudgets$Heads" "allotted" "[I", .fieldLink RX3 36 "HeadBudgets$Heads" "left" "[I", .fieldLink RX3 39 "HeadBudgets$Heads" "share" "[I"] ++ wsX30)
def wsX1_init : List Cond := .code yX1_init cX1_init 1 none :: ([.methodLink RX1 3 objectInit, .instanceMethod objectInit, .code objectInit ⟨#[0xb1]⟩ 1 none, .arrayClass .int, .fieldLink RX1 9 "HeadBudgets$Commitments" "head" "[I", .fieldLink RX1 15 "HeadBudgets$Commitments" "open" "[I", .fieldLink RX1 18 "HeadBudgets$Commitments" "paid" "[I", .fieldLink RX1 21 "HeadBudgets$Commitments" "year" "[I"] ++ wsX10)
def wsX0_init_r1 : List Cond := [Cond.methodLink RX0 3 objectInit, Cond.instanceMethod objectInit, Cond.code objectInit ⟨#[0xb1]⟩ 1 none, Cond.classLink RX0 9 RX3, Cond.instantiable RX3 11, Cond.initialized RX3, Cond.fieldLink RX0 12 "HeadBudgets$Books" "heads" "LHeadBudgets$Heads;", Cond.classLink RX0 18 RX1, Cond.instantiable RX1 5, Cond.initialized RX1, Cond.fieldLink RX0 21 "HeadBudgets$Books" "commitments" "LHeadBudgets$Commitments;", Cond.fieldLink RX0 25 "HeadBudgets$Books" "carriedPart" "I", Cond.instanceMethod yX3_init, Cond.code yX3_init cX3_init 1 none, Cond.methodLink RX3 3 objectInit, Cond.arrayClass .int, Cond.fieldLink RX3 9 "HeadBudgets$Heads" "above" "[I", Cond.fieldLink RX3 15 "HeadBudgets$Heads" "depth" "[I", Cond.fieldLink RX3 18 "HeadBudgets$Heads" "rank" "[I", Cond.fieldLink RX3 21 "HeadBudgets$Heads" "frozen" "[I", Cond.fieldLink RX3 24 "HeadBudgets$Heads" "allotment" "[I", Cond.fieldLink RX3 27 "HeadBudgets$Heads" "committed" "[I", Cond.fieldLink RX3 30 "HeadBudgets$Heads" "spent" "[I", Cond.fieldLink RX3 33 "HeadBudgets$Heads" "allotted" "[I"]
def wsX0_init_r2 : List Cond := [Cond.fieldLink RX3 36 "HeadBudgets$Heads" "left" "[I", Cond.fieldLink RX3 39 "HeadBudgets$Heads" "share" "[I", Cond.instanceMethod yX1_init, Cond.code yX1_init cX1_init 1 none, Cond.methodLink RX1 3 objectInit, Cond.fieldLink RX1 9 "HeadBudgets$Commitments" "head" "[I", Cond.fieldLink RX1 15 "HeadBudgets$Commitments" "open" "[I", Cond.fieldLink RX1 18 "HeadBudgets$Commitments" "paid" "[I", Cond.fieldLink RX1 21 "HeadBudgets$Commitments" "year" "[I"]
def wsX0_init : List Cond := .code yX0_init cX0_init 1 none :: ((wsX0_init_r1 ++ wsX0_init_r2) ++ wsX30 ++ wsX00 ++ wsX10)
def wsX3_copyFrom : List Cond := .code yX3_copyFrom cX3_copyFrom 2 none :: ([.fieldLink RX3 9 "HeadBudgets$Heads" "above" "[I", .methodLink RX3 42 arraycopyName, .native arraycopyName, .static arraycopyName, .initialized "java/lang/System", .fieldLink RX3 15 "HeadBudgets$Heads" "depth" "[I", .fieldLink RX3 18 "HeadBudgets$Heads" "rank" "[I", .fieldLink RX3 21 "HeadBudgets$Heads" "frozen" "[I", .fieldLink RX3 24 "HeadBudgets$Heads" "allotment" "[I", .fieldLink RX3 27 "HeadBudgets$Heads" "committed" "[I", .fieldLink RX3 30 "HeadBudgets$Heads" "spent" "[I", .fieldLink RX3 33 "HeadBudgets$Heads" "allotted" "[I", .fieldLink RX3 36 "HeadBudgets$Heads" "left" "[I", .fieldLink RX3 39 "HeadBudgets$Heads" "share" "[I", .fieldLink RX3 48 "HeadBudgets$Heads" "made" "I"] ++ wsX30)
def wsX1_copyFrom : List Cond := .code yX1_copyFrom cX1_copyFrom 2 none :: ([.fieldLink RX1 9 "HeadBudgets$Commitments" "head" "[I", .methodLink RX1 24 arraycopyName, .native arraycopyName, .static arraycopyName, .initialized "java/lang/System", .fieldLink RX1 15 "HeadBudgets$Commitments" "open" "[I", .fieldLink RX1 18 "HeadBudgets$Commitments" "paid" "[I", .fieldLink RX1 21 "HeadBudgets$Commitments" "year" "[I", .fieldLink RX1 30 "HeadBudgets$Commitments" "made" "I"] ++ wsX10)
def wsX0_copyFrom_r1 : List Cond := [Cond.fieldLink RX0 12 "HeadBudgets$Books" "heads" "LHeadBudgets$Heads;", Cond.fieldLink RX0 21 "HeadBudgets$Books" "commitments" "LHeadBudgets$Commitments;", Cond.fieldLink RX0 36 "HeadBudgets$Books" "year" "I", Cond.fieldLink RX0 25 "HeadBudgets$Books" "carriedPart" "I", Cond.fieldLink RX0 39 "HeadBudgets$Books" "lapsed" "I", Cond.fieldLink RX0 42 "HeadBudgets$Books" "spent" "I", Cond.methodLink RX0 29 yX3_copyFrom, Cond.instanceMethod yX3_copyFrom, Cond.selects RX3 yX3_copyFrom yX3_copyFrom, Cond.initialized RX3, Cond.code yX3_copyFrom cX3_copyFrom 2 none, Cond.fieldLink RX3 9 "HeadBudgets$Heads" "above" "[I", Cond.methodLink RX3 42 arraycopyName, Cond.native arraycopyName, Cond.static arraycopyName, Cond.initialized "java/lang/System", Cond.fieldLink RX3 15 "HeadBudgets$Heads" "depth" "[I", Cond.fieldLink RX3 18 "HeadBudgets$Heads" "rank" "[I", Cond.fieldLink RX3 21 "HeadBudgets$Heads" "frozen" "[I", Cond.fieldLink RX3 24 "HeadBudgets$Heads" "allotment" "[I", Cond.fieldLink RX3 27 "HeadBudgets$Heads" "committed" "[I", Cond.fieldLink RX3 30 "HeadBudgets$Heads" "spent" "[I", Cond.fieldLink RX3 33 "HeadBudgets$Heads" "allotted" "[I", Cond.fieldLink RX3 36 "HeadBudgets$Heads" "left" "[I"]
def wsX0_copyFrom_r2 : List Cond := [Cond.fieldLink RX3 39 "HeadBudgets$Heads" "share" "[I", Cond.fieldLink RX3 48 "HeadBudgets$Heads" "made" "I", Cond.methodLink RX0 33 yX1_copyFrom, Cond.instanceMethod yX1_copyFrom, Cond.selects RX1 yX1_copyFrom yX1_copyFrom, Cond.initialized RX1, Cond.code yX1_copyFrom cX1_copyFrom 2 none, Cond.fieldLink RX1 9 "HeadBudgets$Commitments" "head" "[I", Cond.methodLink RX1 24 arraycopyName, Cond.fieldLink RX1 15 "HeadBudgets$Commitments" "open" "[I", Cond.fieldLink RX1 18 "HeadBudgets$Commitments" "paid" "[I", Cond.fieldLink RX1 21 "HeadBudgets$Commitments" "year" "[I", Cond.fieldLink RX1 30 "HeadBudgets$Commitments" "made" "I"]
def wsX0_copyFrom : List Cond := .code yX0_copyFrom cX0_copyFrom 2 none :: ((wsX0_copyFrom_r1 ++ wsX0_copyFrom_r2) ++ wsX00 ++ wsX30 ++ wsX10)
def wsX1_has : List Cond := .code yX1_has cX1_has 2 (some .boolean) :: ([.fieldLink RX1 30 "HeadBudgets$Commitments" "made" "I"] ++ wsX10)
def wsX3_has : List Cond := .code yX3_has cX3_has 2 (some .boolean) :: ([.fieldLink RX3 48 "HeadBudgets$Heads" "made" "I"] ++ wsX30)
def wsX3_changeCommitted : List Cond := .code yX3_changeCommitted cX3_changeCommitted 3 none :: ([.fieldLink RX3 27 "HeadBudgets$Heads" "committed" "[I", .methodLink RX3 52 yX3_has, .instanceMethod yX3_has, .selects RX3 yX3_has yX3_has, .initialized RX3, .code yX3_has cX3_has 2 (some .boolean), .fieldLink RX3 48 "HeadBudgets$Heads" "made" "I"] ++ wsX30)
def wsX0_freeOpenOf : List Cond := .code yX0_freeOpenOf cX0_freeOpenOf 3 (some .int) :: ([.fieldLink RX0 21 "HeadBudgets$Books" "commitments" "LHeadBudgets$Commitments;", .fieldLink RX0 49 "HeadBudgets$Commitments" "open" "[I", .fieldLink RX0 12 "HeadBudgets$Books" "heads" "LHeadBudgets$Heads;", .fieldLink RX0 53 "HeadBudgets$Commitments" "head" "[I", .methodLink RX0 45 yX1_has, .instanceMethod yX1_has, .selects RX1 yX1_has yX1_has, .initialized RX1, .code yX1_has cX1_has 2 (some .boolean), .fieldLink RX1 30 "HeadBudgets$Commitments" "made" "I", .methodLink RX0 56 yX3_changeCommitted, .instanceMethod yX3_changeCommitted, .selects RX3 yX3_changeCommitted yX3_changeCommitted, .initialized RX3, .code yX3_changeCommitted cX3_changeCommitted 3 none, .fieldLink RX3 27 "HeadBudgets$Heads" "committed" "[I", .methodLink RX3 52 yX3_has, .instanceMethod yX3_has, .selects RX3 yX3_has yX3_has, .code yX3_has cX3_has 2 (some .boolean), .fieldLink RX3 48 "HeadBudgets$Heads" "made" "I"] ++ wsX00 ++ wsX10 ++ wsX30)
def wsX1_add : List Cond := .code yX1_add cX1_add 5 (some .int) :: ([.fieldLink RX1 30 "HeadBudgets$Commitments" "made" "I", .fieldLink RX1 9 "HeadBudgets$Commitments" "head" "[I", .fieldLink RX1 15 "HeadBudgets$Commitments" "open" "[I", .fieldLink RX1 21 "HeadBudgets$Commitments" "year" "[I"] ++ wsX10)
def wsX1_countOpen : List Cond := .code yX1_countOpen cX1_countOpen 3 (some .int) :: ([.fieldLink RX1 15 "HeadBudgets$Commitments" "open" "[I"] ++ wsX10)
def wsX2_init_r1 : List Cond := [Cond.methodLink RX2 1 objectInit, Cond.instanceMethod objectInit, Cond.code objectInit ⟨#[0xb1]⟩ 1 none, Cond.classLink RX2 7 RX0, Cond.instantiable RX0 6, Cond.initialized RX0, Cond.fieldLink RX2 10 "HeadBudgets$Deed" "before" "LHeadBudgets$Books;", Cond.instanceMethod yX0_init, Cond.code yX0_init cX0_init 1 none, Cond.methodLink RX0 3 objectInit, Cond.classLink RX0 9 RX3, Cond.instantiable RX3 11, Cond.initialized RX3, Cond.fieldLink RX0 12 "HeadBudgets$Books" "heads" "LHeadBudgets$Heads;", Cond.classLink RX0 18 RX1, Cond.instantiable RX1 5, Cond.initialized RX1, Cond.fieldLink RX0 21 "HeadBudgets$Books" "commitments" "LHeadBudgets$Commitments;", Cond.fieldLink RX0 25 "HeadBudgets$Books" "carriedPart" "I", Cond.instanceMethod yX3_init, Cond.code yX3_init cX3_init 1 none, Cond.methodLink RX3 3 objectInit, Cond.arrayClass .int, Cond.fieldLink RX3 9 "HeadBudgets$Heads" "above" "[I"]
def wsX2_init_r2 : List Cond := [Cond.fieldLink RX3 15 "HeadBudgets$Heads" "depth" "[I", Cond.fieldLink RX3 18 "HeadBudgets$Heads" "rank" "[I", Cond.fieldLink RX3 21 "HeadBudgets$Heads" "frozen" "[I", Cond.fieldLink RX3 24 "HeadBudgets$Heads" "allotment" "[I", Cond.fieldLink RX3 27 "HeadBudgets$Heads" "committed" "[I", Cond.fieldLink RX3 30 "HeadBudgets$Heads" "spent" "[I", Cond.fieldLink RX3 33 "HeadBudgets$Heads" "allotted" "[I", Cond.fieldLink RX3 36 "HeadBudgets$Heads" "left" "[I", Cond.fieldLink RX3 39 "HeadBudgets$Heads" "share" "[I", Cond.instanceMethod yX1_init, Cond.code yX1_init cX1_init 1 none, Cond.methodLink RX1 3 objectInit, Cond.fieldLink RX1 9 "HeadBudgets$Commitments" "head" "[I", Cond.fieldLink RX1 15 "HeadBudgets$Commitments" "open" "[I", Cond.fieldLink RX1 18 "HeadBudgets$Commitments" "paid" "[I", Cond.fieldLink RX1 21 "HeadBudgets$Commitments" "year" "[I"]
def wsX2_init : List Cond := .code yX2_init cX2_init 1 none :: ((wsX2_init_r1 ++ wsX2_init_r2) ++ wsX00 ++ wsX20 ++ wsX30 ++ wsX10)
def wsX3_hasBoth : List Cond := .code yX3_hasBoth cX3_hasBoth 3 (some .boolean) :: ([.methodLink RX3 52 yX3_has, .instanceMethod yX3_has, .selects RX3 yX3_has yX3_has, .initialized RX3, .code yX3_has cX3_has 2 (some .boolean), .fieldLink RX3 48 "HeadBudgets$Heads" "made" "I"] ++ wsX30)
def wsX3_add : List Cond := .code yX3_add cX3_add 4 (some .int) :: ([.fieldLink RX3 48 "HeadBudgets$Heads" "made" "I", .fieldLink RX3 9 "HeadBudgets$Heads" "above" "[I", .fieldLink RX3 15 "HeadBudgets$Heads" "depth" "[I", .fieldLink RX3 18 "HeadBudgets$Heads" "rank" "[I", .fieldLink RX3 39 "HeadBudgets$Heads" "share" "[I", .methodLink RX3 52 yX3_has, .instanceMethod yX3_has, .selects RX3 yX3_has yX3_has, .initialized RX3, .code yX3_has cX3_has 2 (some .boolean)] ++ wsX30)
def wsX3_freeOf : List Cond := .code yX3_freeOf cX3_freeOf 2 (some .int) :: ([.fieldLink RX3 24 "HeadBudgets$Heads" "allotment" "[I", .fieldLink RX3 27 "HeadBudgets$Heads" "committed" "[I", .fieldLink RX3 30 "HeadBudgets$Heads" "spent" "[I", .methodLink RX3 52 yX3_has, .instanceMethod yX3_has, .selects RX3 yX3_has yX3_has, .initialized RX3, .code yX3_has cX3_has 2 (some .boolean), .fieldLink RX3 48 "HeadBudgets$Heads" "made" "I"] ++ wsX30)
def wsX3_isBarred : List Cond := .code yX3_isBarred cX3_isBarred 4 (some .boolean) :: ([.fieldLink RX3 21 "HeadBudgets$Heads" "frozen" "[I", .fieldLink RX3 9 "HeadBudgets$Heads" "above" "[I", .methodLink RX3 52 yX3_has, .instanceMethod yX3_has, .selects RX3 yX3_has yX3_has, .initialized RX3, .code yX3_has cX3_has 2 (some .boolean), .fieldLink RX3 48 "HeadBudgets$Heads" "made" "I"] ++ wsX30)
def wsX3_countBarred : List Cond := .code yX3_countBarred cX3_countBarred 3 (some .int) :: ([.methodLink RX3 56 yX3_isBarred, .instanceMethod yX3_isBarred, .selects RX3 yX3_isBarred yX3_isBarred, .initialized RX3, .code yX3_isBarred cX3_isBarred 4 (some .boolean), .fieldLink RX3 21 "HeadBudgets$Heads" "frozen" "[I", .fieldLink RX3 9 "HeadBudgets$Heads" "above" "[I", .methodLink RX3 52 yX3_has, .instanceMethod yX3_has, .selects RX3 yX3_has yX3_has, .code yX3_has cX3_has 2 (some .boolean), .fieldLink RX3 48 "HeadBudgets$Heads" "made" "I"] ++ wsX30)
def wsX3_isWithin : List Cond := .code yX3_isWithin cX3_isWithin 5 (some .boolean) :: ([.fieldLink RX3 9 "HeadBudgets$Heads" "above" "[I", .methodLink RX3 52 yX3_has, .instanceMethod yX3_has, .selects RX3 yX3_has yX3_has, .initialized RX3, .code yX3_has cX3_has 2 (some .boolean), .fieldLink RX3 48 "HeadBudgets$Heads" "made" "I"] ++ wsX30)
def wsX3_summand : List Cond := .code yX3_summand cX3_summand 3 (some .int) :: ([.fieldLink RX3 24 "HeadBudgets$Heads" "allotment" "[I", .fieldLink RX3 27 "HeadBudgets$Heads" "committed" "[I", .fieldLink RX3 30 "HeadBudgets$Heads" "spent" "[I", .methodLink RX3 52 yX3_has, .instanceMethod yX3_has, .selects RX3 yX3_has yX3_has, .initialized RX3, .code yX3_has cX3_has 2 (some .boolean), .fieldLink RX3 48 "HeadBudgets$Heads" "made" "I", .methodLink RX3 67 yX3_freeOf, .instanceMethod yX3_freeOf, .selects RX3 yX3_freeOf yX3_freeOf, .code yX3_freeOf cX3_freeOf 2 (some .int)] ++ wsX30)
def wsX3_sumWithin : List Cond := .code yX3_sumWithin cX3_sumWithin 5 (some .int) :: ([.methodLink RX3 59 yX3_isWithin, .instanceMethod yX3_isWithin, .selects RX3 yX3_isWithin yX3_isWithin, .initialized RX3, .code yX3_isWithin cX3_isWithin 5 (some .boolean), .fieldLink RX3 9 "HeadBudgets$Heads" "above" "[I", .methodLink RX3 52 yX3_has, .instanceMethod yX3_has, .selects RX3 yX3_has yX3_has, .code yX3_has cX3_has 2 (some .boolean), .fieldLink RX3 48 "HeadBudgets$Heads" "made" "I", .methodLink RX3 63 yX3_summand, .instanceMethod yX3_summand, .selects RX3 yX3_summand yX3_summand, .code yX3_summand cX3_summand 3 (some .int), .fieldLink RX3 24 "HeadBudgets$Heads" "allotment" "[I", .fieldLink RX3 27 "HeadBudgets$Heads" "committed" "[I", .fieldLink RX3 30 "HeadBudgets$Heads" "spent" "[I", .methodLink RX3 67 yX3_freeOf, .instanceMethod yX3_freeOf, .selects RX3 yX3_freeOf yX3_freeOf, .code yX3_freeOf cX3_freeOf 2 (some .int)] ++ wsX30)
def wsX3_spendCommitted : List Cond := .code yX3_spendCommitted cX3_spendCommitted 3 none :: ([.fieldLink RX3 27 "HeadBudgets$Heads" "committed" "[I", .fieldLink RX3 30 "HeadBudgets$Heads" "spent" "[I", .methodLink RX3 52 yX3_has, .instanceMethod yX3_has, .selects RX3 yX3_has yX3_has, .initialized RX3, .code yX3_has cX3_has 2 (some .boolean), .fieldLink RX3 48 "HeadBudgets$Heads" "made" "I"] ++ wsX30)
def wsX3_mayGive : List Cond := .code yX3_mayGive cX3_mayGive 4 (some .boolean) :: ([.fieldLink RX3 9 "HeadBudgets$Heads" "above" "[I", .fieldLink RX3 18 "HeadBudgets$Heads" "rank" "[I", .methodLink RX3 71 yX3_hasBoth, .instanceMethod yX3_hasBoth, .selects RX3 yX3_hasBoth yX3_hasBoth, .initialized RX3, .code yX3_hasBoth cX3_hasBoth 3 (some .boolean), .methodLink RX3 52 yX3_has, .instanceMethod yX3_has, .selects RX3 yX3_has yX3_has, .code yX3_has cX3_has 2 (some .boolean), .fieldLink RX3 48 "HeadBudgets$Heads" "made" "I", .methodLink RX3 56 yX3_isBarred, .instanceMethod yX3_isBarred, .selects RX3 yX3_isBarred yX3_isBarred, .code yX3_isBarred cX3_isBarred 4 (some .boolean), .fieldLink RX3 21 "HeadBudgets$Heads" "frozen" "[I", .methodLink RX3 59 yX3_isWithin, .instanceMethod yX3_isWithin, .selects RX3 yX3_isWithin yX3_isWithin, .code yX3_isWithin cX3_isWithin 5 (some .boolean)] ++ wsX30)
def wsX5_partOf : List Cond := .code yX5_partOf cX5_partOf 2 (some .int) :: ([.constantLong RX5 223 (100)])
def wsX3_movable_r1 : List Cond := [Cond.fieldLink RX3 33 "HeadBudgets$Heads" "allotted" "[I", Cond.fieldLink RX3 39 "HeadBudgets$Heads" "share" "[I", Cond.fieldLink RX3 36 "HeadBudgets$Heads" "left" "[I", Cond.constant RX3 80 (100000), Cond.methodLink RX3 81 Lib.Math.min.name, Cond.static Lib.Math.min.name, Cond.initialized "java/lang/Math", Cond.code Lib.Math.min.name Lib.Math.min.code 2 (some .int), Cond.methodLink RX3 86 Lib.Math.max.name, Cond.static Lib.Math.max.name, Cond.code Lib.Math.max.name Lib.Math.max.code 2 (some .int), Cond.methodLink RX3 71 yX3_hasBoth, Cond.instanceMethod yX3_hasBoth, Cond.selects RX3 yX3_hasBoth yX3_hasBoth, Cond.initialized RX3, Cond.code yX3_hasBoth cX3_hasBoth 3 (some .boolean), Cond.methodLink RX3 52 yX3_has, Cond.instanceMethod yX3_has, Cond.selects RX3 yX3_has yX3_has, Cond.code yX3_has cX3_has 2 (some .boolean), Cond.fieldLink RX3 48 "HeadBudgets$Heads" "made" "I", Cond.methodLink RX3 74 yX3_mayGive, Cond.instanceMethod yX3_mayGive, Cond.selects RX3 yX3_mayGive yX3_mayGive]
def wsX3_movable_r2 : List Cond := [Cond.code yX3_mayGive cX3_mayGive 4 (some .boolean), Cond.fieldLink RX3 9 "HeadBudgets$Heads" "above" "[I", Cond.fieldLink RX3 18 "HeadBudgets$Heads" "rank" "[I", Cond.methodLink RX3 56 yX3_isBarred, Cond.instanceMethod yX3_isBarred, Cond.selects RX3 yX3_isBarred yX3_isBarred, Cond.code yX3_isBarred cX3_isBarred 4 (some .boolean), Cond.fieldLink RX3 21 "HeadBudgets$Heads" "frozen" "[I", Cond.methodLink RX3 59 yX3_isWithin, Cond.instanceMethod yX3_isWithin, Cond.selects RX3 yX3_isWithin yX3_isWithin, Cond.code yX3_isWithin cX3_isWithin 5 (some .boolean), Cond.static yX5_partOf, Cond.initialized RX5, Cond.code yX5_partOf cX5_partOf 2 (some .int), Cond.constantLong RX5 223 (100), Cond.methodLink RX3 67 yX3_freeOf, Cond.instanceMethod yX3_freeOf, Cond.selects RX3 yX3_freeOf yX3_freeOf, Cond.code yX3_freeOf cX3_freeOf 2 (some .int), Cond.fieldLink RX3 24 "HeadBudgets$Heads" "allotment" "[I", Cond.fieldLink RX3 27 "HeadBudgets$Heads" "committed" "[I", Cond.fieldLink RX3 30 "HeadBudgets$Heads" "spent" "[I"]
def wsX3_movable : List Cond := .code yX3_movable cX3_movable 5 (some .int) :: ((wsX3_movable_r1 ++ wsX3_movable_r2) ++ wsX30)
def wsX3_moveByVirement : List Cond := .code yX3_moveByVirement cX3_moveByVirement 4 none :: ([.fieldLink RX3 24 "HeadBudgets$Heads" "allotment" "[I", .fieldLink RX3 36 "HeadBudgets$Heads" "left" "[I", .methodLink RX3 71 yX3_hasBoth, .instanceMethod yX3_hasBoth, .selects RX3 yX3_hasBoth yX3_hasBoth, .initialized RX3, .code yX3_hasBoth cX3_hasBoth 3 (some .boolean), .methodLink RX3 52 yX3_has, .instanceMethod yX3_has, .selects RX3 yX3_has yX3_has, .code yX3_has cX3_has 2 (some .boolean), .fieldLink RX3 48 "HeadBudgets$Heads" "made" "I"] ++ wsX30)
def wsX3_giverOfMost_r1 : List Cond := [Cond.fieldLink RX3 18 "HeadBudgets$Heads" "rank" "[I", Cond.methodLink RX3 89 yX3_movable, Cond.instanceMethod yX3_movable, Cond.selects RX3 yX3_movable yX3_movable, Cond.initialized RX3, Cond.code yX3_movable cX3_movable 5 (some .int), Cond.fieldLink RX3 33 "HeadBudgets$Heads" "allotted" "[I", Cond.fieldLink RX3 39 "HeadBudgets$Heads" "share" "[I", Cond.fieldLink RX3 36 "HeadBudgets$Heads" "left" "[I", Cond.constant RX3 80 (100000), Cond.methodLink RX3 81 Lib.Math.min.name, Cond.static Lib.Math.min.name, Cond.initialized "java/lang/Math", Cond.code Lib.Math.min.name Lib.Math.min.code 2 (some .int), Cond.methodLink RX3 86 Lib.Math.max.name, Cond.static Lib.Math.max.name, Cond.code Lib.Math.max.name Lib.Math.max.code 2 (some .int), Cond.methodLink RX3 71 yX3_hasBoth, Cond.instanceMethod yX3_hasBoth, Cond.selects RX3 yX3_hasBoth yX3_hasBoth, Cond.code yX3_hasBoth cX3_hasBoth 3 (some .boolean), Cond.methodLink RX3 52 yX3_has, Cond.instanceMethod yX3_has, Cond.selects RX3 yX3_has yX3_has]
def wsX3_giverOfMost_r2 : List Cond := [Cond.code yX3_has cX3_has 2 (some .boolean), Cond.fieldLink RX3 48 "HeadBudgets$Heads" "made" "I", Cond.methodLink RX3 74 yX3_mayGive, Cond.instanceMethod yX3_mayGive, Cond.selects RX3 yX3_mayGive yX3_mayGive, Cond.code yX3_mayGive cX3_mayGive 4 (some .boolean), Cond.fieldLink RX3 9 "HeadBudgets$Heads" "above" "[I", Cond.methodLink RX3 56 yX3_isBarred, Cond.instanceMethod yX3_isBarred, Cond.selects RX3 yX3_isBarred yX3_isBarred, Cond.code yX3_isBarred cX3_isBarred 4 (some .boolean), Cond.fieldLink RX3 21 "HeadBudgets$Heads" "frozen" "[I", Cond.methodLink RX3 59 yX3_isWithin, Cond.instanceMethod yX3_isWithin, Cond.selects RX3 yX3_isWithin yX3_isWithin, Cond.code yX3_isWithin cX3_isWithin 5 (some .boolean), Cond.static yX5_partOf, Cond.initialized RX5, Cond.code yX5_partOf cX5_partOf 2 (some .int), Cond.constantLong RX5 223 (100), Cond.methodLink RX3 67 yX3_freeOf, Cond.instanceMethod yX3_freeOf, Cond.selects RX3 yX3_freeOf yX3_freeOf, Cond.code yX3_freeOf cX3_freeOf 2 (some .int)]
def wsX3_giverOfMost_r3 : List Cond := [Cond.fieldLink RX3 24 "HeadBudgets$Heads" "allotment" "[I", Cond.fieldLink RX3 27 "HeadBudgets$Heads" "committed" "[I", Cond.fieldLink RX3 30 "HeadBudgets$Heads" "spent" "[I"]
def wsX3_giverOfMost : List Cond := .code yX3_giverOfMost cX3_giverOfMost 6 (some .int) :: ((wsX3_giverOfMost_r1 ++ (wsX3_giverOfMost_r2 ++ wsX3_giverOfMost_r3)) ++ wsX30)
def wsX3_isRicher : List Cond := .code yX3_isRicher cX3_isRicher 3 (some .boolean) :: ([.fieldLink RX3 18 "HeadBudgets$Heads" "rank" "[I", .methodLink RX3 71 yX3_hasBoth, .instanceMethod yX3_hasBoth, .selects RX3 yX3_hasBoth yX3_hasBoth, .initialized RX3, .code yX3_hasBoth cX3_hasBoth 3 (some .boolean), .methodLink RX3 52 yX3_has, .instanceMethod yX3_has, .selects RX3 yX3_has yX3_has, .code yX3_has cX3_has 2 (some .boolean), .fieldLink RX3 48 "HeadBudgets$Heads" "made" "I", .methodLink RX3 67 yX3_freeOf, .instanceMethod yX3_freeOf, .selects RX3 yX3_freeOf yX3_freeOf, .code yX3_freeOf cX3_freeOf 2 (some .int), .fieldLink RX3 24 "HeadBudgets$Heads" "allotment" "[I", .fieldLink RX3 27 "HeadBudgets$Heads" "committed" "[I", .fieldLink RX3 30 "HeadBudgets$Heads" "spent" "[I"] ++ wsX30)
def wsX3_countAhead_r1 : List Cond := [Cond.methodLink RX3 59 yX3_isWithin, Cond.instanceMethod yX3_isWithin, Cond.selects RX3 yX3_isWithin yX3_isWithin, Cond.initialized RX3, Cond.code yX3_isWithin cX3_isWithin 5 (some .boolean), Cond.fieldLink RX3 9 "HeadBudgets$Heads" "above" "[I", Cond.methodLink RX3 52 yX3_has, Cond.instanceMethod yX3_has, Cond.selects RX3 yX3_has yX3_has, Cond.code yX3_has cX3_has 2 (some .boolean), Cond.fieldLink RX3 48 "HeadBudgets$Heads" "made" "I", Cond.methodLink RX3 95 yX3_isRicher, Cond.instanceMethod yX3_isRicher, Cond.selects RX3 yX3_isRicher yX3_isRicher, Cond.code yX3_isRicher cX3_isRicher 3 (some .boolean), Cond.fieldLink RX3 18 "HeadBudgets$Heads" "rank" "[I", Cond.methodLink RX3 71 yX3_hasBoth, Cond.instanceMethod yX3_hasBoth, Cond.selects RX3 yX3_hasBoth yX3_hasBoth, Cond.code yX3_hasBoth cX3_hasBoth 3 (some .boolean), Cond.methodLink RX3 67 yX3_freeOf, Cond.instanceMethod yX3_freeOf, Cond.selects RX3 yX3_freeOf yX3_freeOf, Cond.code yX3_freeOf cX3_freeOf 2 (some .int)]
def wsX3_countAhead_r2 : List Cond := [Cond.fieldLink RX3 24 "HeadBudgets$Heads" "allotment" "[I", Cond.fieldLink RX3 27 "HeadBudgets$Heads" "committed" "[I", Cond.fieldLink RX3 30 "HeadBudgets$Heads" "spent" "[I"]
def wsX3_countAhead : List Cond := .code yX3_countAhead cX3_countAhead 5 (some .int) :: ((wsX3_countAhead_r1 ++ wsX3_countAhead_r2) ++ wsX30)
def wsX3_atPlace_r1 : List Cond := [Cond.methodLink RX3 59 yX3_isWithin, Cond.instanceMethod yX3_isWithin, Cond.selects RX3 yX3_isWithin yX3_isWithin, Cond.initialized RX3, Cond.code yX3_isWithin cX3_isWithin 5 (some .boolean), Cond.fieldLink RX3 9 "HeadBudgets$Heads" "above" "[I", Cond.methodLink RX3 52 yX3_has, Cond.instanceMethod yX3_has, Cond.selects RX3 yX3_has yX3_has, Cond.code yX3_has cX3_has 2 (some .boolean), Cond.fieldLink RX3 48 "HeadBudgets$Heads" "made" "I", Cond.methodLink RX3 92 yX3_countAhead, Cond.instanceMethod yX3_countAhead, Cond.selects RX3 yX3_countAhead yX3_countAhead, Cond.code yX3_countAhead cX3_countAhead 5 (some .int), Cond.methodLink RX3 95 yX3_isRicher, Cond.instanceMethod yX3_isRicher, Cond.selects RX3 yX3_isRicher yX3_isRicher, Cond.code yX3_isRicher cX3_isRicher 3 (some .boolean), Cond.fieldLink RX3 18 "HeadBudgets$Heads" "rank" "[I", Cond.methodLink RX3 71 yX3_hasBoth, Cond.instanceMethod yX3_hasBoth, Cond.selects RX3 yX3_hasBoth yX3_hasBoth, Cond.code yX3_hasBoth cX3_hasBoth 3 (some .boolean)]
def wsX3_atPlace_r2 : List Cond := [Cond.methodLink RX3 67 yX3_freeOf, Cond.instanceMethod yX3_freeOf, Cond.selects RX3 yX3_freeOf yX3_freeOf, Cond.code yX3_freeOf cX3_freeOf 2 (some .int), Cond.fieldLink RX3 24 "HeadBudgets$Heads" "allotment" "[I", Cond.fieldLink RX3 27 "HeadBudgets$Heads" "committed" "[I", Cond.fieldLink RX3 30 "HeadBudgets$Heads" "spent" "[I"]
def wsX3_atPlace : List Cond := .code yX3_atPlace cX3_atPlace 4 (some .int) :: ((wsX3_atPlace_r1 ++ wsX3_atPlace_r2) ++ wsX30)
def wsX3_lapseWithin : List Cond := .code yX3_lapseWithin cX3_lapseWithin 6 (some .int) :: ([.methodLink RX3 59 yX3_isWithin, .instanceMethod yX3_isWithin, .selects RX3 yX3_isWithin yX3_isWithin, .initialized RX3, .code yX3_isWithin cX3_isWithin 5 (some .boolean), .fieldLink RX3 9 "HeadBudgets$Heads" "above" "[I", .methodLink RX3 52 yX3_has, .instanceMethod yX3_has, .selects RX3 yX3_has yX3_has, .code yX3_has cX3_has 2 (some .boolean), .fieldLink RX3 48 "HeadBudgets$Heads" "made" "I", .methodLink RX3 67 yX3_freeOf, .instanceMethod yX3_freeOf, .selects RX3 yX3_freeOf yX3_freeOf, .code yX3_freeOf cX3_freeOf 2 (some .int), .fieldLink RX3 24 "HeadBudgets$Heads" "allotment" "[I", .fieldLink RX3 27 "HeadBudgets$Heads" "committed" "[I", .fieldLink RX3 30 "HeadBudgets$Heads" "spent" "[I", .static yX5_partOf, .initialized RX5, .code yX5_partOf cX5_partOf 2 (some .int), .constantLong RX5 223 (100)] ++ wsX30)
def wsX3_carryForward : List Cond := .code yX3_carryForward cX3_carryForward 4 none :: ([.fieldLink RX3 24 "HeadBudgets$Heads" "allotment" "[I", .fieldLink RX3 27 "HeadBudgets$Heads" "committed" "[I", .fieldLink RX3 33 "HeadBudgets$Heads" "allotted" "[I", .fieldLink RX3 30 "HeadBudgets$Heads" "spent" "[I", .fieldLink RX3 36 "HeadBudgets$Heads" "left" "[I", .methodLink RX3 67 yX3_freeOf, .instanceMethod yX3_freeOf, .selects RX3 yX3_freeOf yX3_freeOf, .initialized RX3, .code yX3_freeOf cX3_freeOf 2 (some .int), .methodLink RX3 52 yX3_has, .instanceMethod yX3_has, .selects RX3 yX3_has yX3_has, .code yX3_has cX3_has 2 (some .boolean), .fieldLink RX3 48 "HeadBudgets$Heads" "made" "I", .static yX5_partOf, .initialized RX5, .code yX5_partOf cX5_partOf 2 (some .int), .constantLong RX5 223 (100)] ++ wsX30)
def wsX4_init_r1 : List Cond := [Cond.methodLink RX4 3 objectInit, Cond.instanceMethod objectInit, Cond.code objectInit ⟨#[0xb1]⟩ 1 none, Cond.classLink RX4 9 RX2, Cond.fieldLink RX4 11 "HeadBudgets$Memory" "places" "[LHeadBudgets$Deed;", Cond.instantiable RX2 6, Cond.initialized RX2, Cond.instanceMethod yX2_init, Cond.code yX2_init cX2_init 1 none, Cond.methodLink RX2 1 objectInit, Cond.classLink RX2 7 RX0, Cond.instantiable RX0 6, Cond.initialized RX0, Cond.fieldLink RX2 10 "HeadBudgets$Deed" "before" "LHeadBudgets$Books;", Cond.instanceMethod yX0_init, Cond.code yX0_init cX0_init 1 none, Cond.methodLink RX0 3 objectInit, Cond.classLink RX0 9 RX3, Cond.instantiable RX3 11, Cond.initialized RX3, Cond.fieldLink RX0 12 "HeadBudgets$Books" "heads" "LHeadBudgets$Heads;", Cond.classLink RX0 18 RX1, Cond.instantiable RX1 5, Cond.initialized RX1]
def wsX4_init_r2 : List Cond := [Cond.fieldLink RX0 21 "HeadBudgets$Books" "commitments" "LHeadBudgets$Commitments;", Cond.fieldLink RX0 25 "HeadBudgets$Books" "carriedPart" "I", Cond.instanceMethod yX3_init, Cond.code yX3_init cX3_init 1 none, Cond.methodLink RX3 3 objectInit, Cond.arrayClass .int, Cond.fieldLink RX3 9 "HeadBudgets$Heads" "above" "[I", Cond.fieldLink RX3 15 "HeadBudgets$Heads" "depth" "[I", Cond.fieldLink RX3 18 "HeadBudgets$Heads" "rank" "[I", Cond.fieldLink RX3 21 "HeadBudgets$Heads" "frozen" "[I", Cond.fieldLink RX3 24 "HeadBudgets$Heads" "allotment" "[I", Cond.fieldLink RX3 27 "HeadBudgets$Heads" "committed" "[I", Cond.fieldLink RX3 30 "HeadBudgets$Heads" "spent" "[I", Cond.fieldLink RX3 33 "HeadBudgets$Heads" "allotted" "[I", Cond.fieldLink RX3 36 "HeadBudgets$Heads" "left" "[I", Cond.fieldLink RX3 39 "HeadBudgets$Heads" "share" "[I", Cond.instanceMethod yX1_init, Cond.code yX1_init cX1_init 1 none, Cond.methodLink RX1 3 objectInit, Cond.fieldLink RX1 9 "HeadBudgets$Commitments" "head" "[I", Cond.fieldLink RX1 15 "HeadBudgets$Commitments" "open" "[I", Cond.fieldLink RX1 18 "HeadBudgets$Commitments" "paid" "[I", Cond.fieldLink RX1 21 "HeadBudgets$Commitments" "year" "[I"]
def wsX4_init : List Cond := .code yX4_init cX4_init 2 none :: ((wsX4_init_r1 ++ wsX4_init_r2) ++ wsX40 ++ wsX20 ++ wsX00 ++ wsX30 ++ wsX10)
def wsJ9_floorMod_7cf53 : List Cond := .code yJ9_floorMod_7cf53 cJ9_floorMod_7cf53 3 (some .int) :: ([])
def wsX4_recall : List Cond := .code yX4_recall cX4_recall 2 (some (.object "HeadBudgets$Deed")) :: ([.fieldLink RX4 18 "HeadBudgets$Memory" "held" "I", .fieldLink RX4 11 "HeadBudgets$Memory" "places" "[LHeadBudgets$Deed;", .fieldLink RX4 22 "HeadBudgets$Memory" "oldest" "I", .methodLink RX4 25 yJ9_floorMod_7cf53, .static yJ9_floorMod_7cf53, .initialized RJ9, .code yJ9_floorMod_7cf53 cJ9_floorMod_7cf53 3 (some .int)] ++ wsX40)
def wsX4_rememberWith_r1 : List Cond := [Cond.fieldLink RX4 18 "HeadBudgets$Memory" "held" "I", Cond.fieldLink RX4 22 "HeadBudgets$Memory" "oldest" "I", Cond.fieldLink RX4 35 "HeadBudgets$Memory" "latestNumber" "I", Cond.fieldLink RX4 42 "HeadBudgets$Deed" "before" "LHeadBudgets$Books;", Cond.fieldLink RX4 52 "HeadBudgets$Deed" "number" "I", Cond.fieldLink RX4 55 "HeadBudgets$Deed" "kind" "I", Cond.fieldLink RX4 58 "HeadBudgets$Deed" "subject" "I", Cond.fieldLink RX4 61 "HeadBudgets$Deed" "taker" "I", Cond.fieldLink RX4 64 "HeadBudgets$Deed" "amount" "I", Cond.methodLink RX4 25 yJ9_floorMod_7cf53, Cond.static yJ9_floorMod_7cf53, Cond.initialized RJ9, Cond.code yJ9_floorMod_7cf53 cJ9_floorMod_7cf53 3 (some .int), Cond.methodLink RX4 38 yX4_recall, Cond.instanceMethod yX4_recall, Cond.selects RX4 yX4_recall yX4_recall, Cond.initialized RX4, Cond.code yX4_recall cX4_recall 2 (some (.object "HeadBudgets$Deed")), Cond.fieldLink RX4 11 "HeadBudgets$Memory" "places" "[LHeadBudgets$Deed;", Cond.methodLink RX4 46 yX0_copyFrom, Cond.instanceMethod yX0_copyFrom, Cond.selects RX0 yX0_copyFrom yX0_copyFrom, Cond.initialized RX0, Cond.code yX0_copyFrom cX0_copyFrom 2 none]
def wsX4_rememberWith_r2 : List Cond := [Cond.fieldLink RX0 12 "HeadBudgets$Books" "heads" "LHeadBudgets$Heads;", Cond.fieldLink RX0 21 "HeadBudgets$Books" "commitments" "LHeadBudgets$Commitments;", Cond.fieldLink RX0 36 "HeadBudgets$Books" "year" "I", Cond.fieldLink RX0 25 "HeadBudgets$Books" "carriedPart" "I", Cond.fieldLink RX0 39 "HeadBudgets$Books" "lapsed" "I", Cond.fieldLink RX0 42 "HeadBudgets$Books" "spent" "I", Cond.methodLink RX0 29 yX3_copyFrom, Cond.instanceMethod yX3_copyFrom, Cond.selects RX3 yX3_copyFrom yX3_copyFrom, Cond.initialized RX3, Cond.code yX3_copyFrom cX3_copyFrom 2 none, Cond.fieldLink RX3 9 "HeadBudgets$Heads" "above" "[I", Cond.methodLink RX3 42 arraycopyName, Cond.native arraycopyName, Cond.static arraycopyName, Cond.initialized "java/lang/System", Cond.fieldLink RX3 15 "HeadBudgets$Heads" "depth" "[I", Cond.fieldLink RX3 18 "HeadBudgets$Heads" "rank" "[I", Cond.fieldLink RX3 21 "HeadBudgets$Heads" "frozen" "[I", Cond.fieldLink RX3 24 "HeadBudgets$Heads" "allotment" "[I", Cond.fieldLink RX3 27 "HeadBudgets$Heads" "committed" "[I", Cond.fieldLink RX3 30 "HeadBudgets$Heads" "spent" "[I", Cond.fieldLink RX3 33 "HeadBudgets$Heads" "allotted" "[I", Cond.fieldLink RX3 36 "HeadBudgets$Heads" "left" "[I"]
def wsX4_rememberWith_r3 : List Cond := [Cond.fieldLink RX3 39 "HeadBudgets$Heads" "share" "[I", Cond.fieldLink RX3 48 "HeadBudgets$Heads" "made" "I", Cond.methodLink RX0 33 yX1_copyFrom, Cond.instanceMethod yX1_copyFrom, Cond.selects RX1 yX1_copyFrom yX1_copyFrom, Cond.initialized RX1, Cond.code yX1_copyFrom cX1_copyFrom 2 none, Cond.fieldLink RX1 9 "HeadBudgets$Commitments" "head" "[I", Cond.methodLink RX1 24 arraycopyName, Cond.fieldLink RX1 15 "HeadBudgets$Commitments" "open" "[I", Cond.fieldLink RX1 18 "HeadBudgets$Commitments" "paid" "[I", Cond.fieldLink RX1 21 "HeadBudgets$Commitments" "year" "[I", Cond.fieldLink RX1 30 "HeadBudgets$Commitments" "made" "I"]
def wsX4_rememberWith : List Cond := .code yX4_rememberWith cX4_rememberWith 7 none :: ((wsX4_rememberWith_r1 ++ (wsX4_rememberWith_r2 ++ wsX4_rememberWith_r3)) ++ wsX40 ++ wsX20 ++ wsX00 ++ wsX30 ++ wsX10)
def wsX4_remember_r1 : List Cond := [Cond.methodLink RX4 31 yX4_rememberWith, Cond.instanceMethod yX4_rememberWith, Cond.selects RX4 yX4_rememberWith yX4_rememberWith, Cond.initialized RX4, Cond.code yX4_rememberWith cX4_rememberWith 7 none, Cond.fieldLink RX4 18 "HeadBudgets$Memory" "held" "I", Cond.fieldLink RX4 22 "HeadBudgets$Memory" "oldest" "I", Cond.fieldLink RX4 35 "HeadBudgets$Memory" "latestNumber" "I", Cond.fieldLink RX4 42 "HeadBudgets$Deed" "before" "LHeadBudgets$Books;", Cond.fieldLink RX4 52 "HeadBudgets$Deed" "number" "I", Cond.fieldLink RX4 55 "HeadBudgets$Deed" "kind" "I", Cond.fieldLink RX4 58 "HeadBudgets$Deed" "subject" "I", Cond.fieldLink RX4 61 "HeadBudgets$Deed" "taker" "I", Cond.fieldLink RX4 64 "HeadBudgets$Deed" "amount" "I", Cond.methodLink RX4 25 yJ9_floorMod_7cf53, Cond.static yJ9_floorMod_7cf53, Cond.initialized RJ9, Cond.code yJ9_floorMod_7cf53 cJ9_floorMod_7cf53 3 (some .int), Cond.methodLink RX4 38 yX4_recall, Cond.instanceMethod yX4_recall, Cond.selects RX4 yX4_recall yX4_recall, Cond.code yX4_recall cX4_recall 2 (some (.object "HeadBudgets$Deed")), Cond.fieldLink RX4 11 "HeadBudgets$Memory" "places" "[LHeadBudgets$Deed;", Cond.methodLink RX4 46 yX0_copyFrom]
def wsX4_remember_r2 : List Cond := [Cond.instanceMethod yX0_copyFrom, Cond.selects RX0 yX0_copyFrom yX0_copyFrom, Cond.initialized RX0, Cond.code yX0_copyFrom cX0_copyFrom 2 none, Cond.fieldLink RX0 12 "HeadBudgets$Books" "heads" "LHeadBudgets$Heads;", Cond.fieldLink RX0 21 "HeadBudgets$Books" "commitments" "LHeadBudgets$Commitments;", Cond.fieldLink RX0 36 "HeadBudgets$Books" "year" "I", Cond.fieldLink RX0 25 "HeadBudgets$Books" "carriedPart" "I", Cond.fieldLink RX0 39 "HeadBudgets$Books" "lapsed" "I", Cond.fieldLink RX0 42 "HeadBudgets$Books" "spent" "I", Cond.methodLink RX0 29 yX3_copyFrom, Cond.instanceMethod yX3_copyFrom, Cond.selects RX3 yX3_copyFrom yX3_copyFrom, Cond.initialized RX3, Cond.code yX3_copyFrom cX3_copyFrom 2 none, Cond.fieldLink RX3 9 "HeadBudgets$Heads" "above" "[I", Cond.methodLink RX3 42 arraycopyName, Cond.native arraycopyName, Cond.static arraycopyName, Cond.initialized "java/lang/System", Cond.fieldLink RX3 15 "HeadBudgets$Heads" "depth" "[I", Cond.fieldLink RX3 18 "HeadBudgets$Heads" "rank" "[I", Cond.fieldLink RX3 21 "HeadBudgets$Heads" "frozen" "[I", Cond.fieldLink RX3 24 "HeadBudgets$Heads" "allotment" "[I"]
def wsX4_remember_r3 : List Cond := [Cond.fieldLink RX3 27 "HeadBudgets$Heads" "committed" "[I", Cond.fieldLink RX3 30 "HeadBudgets$Heads" "spent" "[I", Cond.fieldLink RX3 33 "HeadBudgets$Heads" "allotted" "[I", Cond.fieldLink RX3 36 "HeadBudgets$Heads" "left" "[I", Cond.fieldLink RX3 39 "HeadBudgets$Heads" "share" "[I", Cond.fieldLink RX3 48 "HeadBudgets$Heads" "made" "I", Cond.methodLink RX0 33 yX1_copyFrom, Cond.instanceMethod yX1_copyFrom, Cond.selects RX1 yX1_copyFrom yX1_copyFrom, Cond.initialized RX1, Cond.code yX1_copyFrom cX1_copyFrom 2 none, Cond.fieldLink RX1 9 "HeadBudgets$Commitments" "head" "[I", Cond.methodLink RX1 24 arraycopyName, Cond.fieldLink RX1 15 "HeadBudgets$Commitments" "open" "[I", Cond.fieldLink RX1 18 "HeadBudgets$Commitments" "paid" "[I", Cond.fieldLink RX1 21 "HeadBudgets$Commitments" "year" "[I", Cond.fieldLink RX1 30 "HeadBudgets$Commitments" "made" "I"]
def wsX4_remember : List Cond := .code yX4_remember cX4_remember 3 none :: ((wsX4_remember_r1 ++ (wsX4_remember_r2 ++ wsX4_remember_r3)) ++ wsX40 ++ wsX20 ++ wsX00 ++ wsX30 ++ wsX10)
def wsX4_rememberCommitment_r1 : List Cond := [Cond.methodLink RX4 31 yX4_rememberWith, Cond.instanceMethod yX4_rememberWith, Cond.selects RX4 yX4_rememberWith yX4_rememberWith, Cond.initialized RX4, Cond.code yX4_rememberWith cX4_rememberWith 7 none, Cond.fieldLink RX4 18 "HeadBudgets$Memory" "held" "I", Cond.fieldLink RX4 22 "HeadBudgets$Memory" "oldest" "I", Cond.fieldLink RX4 35 "HeadBudgets$Memory" "latestNumber" "I", Cond.fieldLink RX4 42 "HeadBudgets$Deed" "before" "LHeadBudgets$Books;", Cond.fieldLink RX4 52 "HeadBudgets$Deed" "number" "I", Cond.fieldLink RX4 55 "HeadBudgets$Deed" "kind" "I", Cond.fieldLink RX4 58 "HeadBudgets$Deed" "subject" "I", Cond.fieldLink RX4 61 "HeadBudgets$Deed" "taker" "I", Cond.fieldLink RX4 64 "HeadBudgets$Deed" "amount" "I", Cond.methodLink RX4 25 yJ9_floorMod_7cf53, Cond.static yJ9_floorMod_7cf53, Cond.initialized RJ9, Cond.code yJ9_floorMod_7cf53 cJ9_floorMod_7cf53 3 (some .int), Cond.methodLink RX4 38 yX4_recall, Cond.instanceMethod yX4_recall, Cond.selects RX4 yX4_recall yX4_recall, Cond.code yX4_recall cX4_recall 2 (some (.object "HeadBudgets$Deed")), Cond.fieldLink RX4 11 "HeadBudgets$Memory" "places" "[LHeadBudgets$Deed;", Cond.methodLink RX4 46 yX0_copyFrom]
def wsX4_rememberCommitment_r2 : List Cond := [Cond.instanceMethod yX0_copyFrom, Cond.selects RX0 yX0_copyFrom yX0_copyFrom, Cond.initialized RX0, Cond.code yX0_copyFrom cX0_copyFrom 2 none, Cond.fieldLink RX0 12 "HeadBudgets$Books" "heads" "LHeadBudgets$Heads;", Cond.fieldLink RX0 21 "HeadBudgets$Books" "commitments" "LHeadBudgets$Commitments;", Cond.fieldLink RX0 36 "HeadBudgets$Books" "year" "I", Cond.fieldLink RX0 25 "HeadBudgets$Books" "carriedPart" "I", Cond.fieldLink RX0 39 "HeadBudgets$Books" "lapsed" "I", Cond.fieldLink RX0 42 "HeadBudgets$Books" "spent" "I", Cond.methodLink RX0 29 yX3_copyFrom, Cond.instanceMethod yX3_copyFrom, Cond.selects RX3 yX3_copyFrom yX3_copyFrom, Cond.initialized RX3, Cond.code yX3_copyFrom cX3_copyFrom 2 none, Cond.fieldLink RX3 9 "HeadBudgets$Heads" "above" "[I", Cond.methodLink RX3 42 arraycopyName, Cond.native arraycopyName, Cond.static arraycopyName, Cond.initialized "java/lang/System", Cond.fieldLink RX3 15 "HeadBudgets$Heads" "depth" "[I", Cond.fieldLink RX3 18 "HeadBudgets$Heads" "rank" "[I", Cond.fieldLink RX3 21 "HeadBudgets$Heads" "frozen" "[I", Cond.fieldLink RX3 24 "HeadBudgets$Heads" "allotment" "[I"]
def wsX4_rememberCommitment_r3 : List Cond := [Cond.fieldLink RX3 27 "HeadBudgets$Heads" "committed" "[I", Cond.fieldLink RX3 30 "HeadBudgets$Heads" "spent" "[I", Cond.fieldLink RX3 33 "HeadBudgets$Heads" "allotted" "[I", Cond.fieldLink RX3 36 "HeadBudgets$Heads" "left" "[I", Cond.fieldLink RX3 39 "HeadBudgets$Heads" "share" "[I", Cond.fieldLink RX3 48 "HeadBudgets$Heads" "made" "I", Cond.methodLink RX0 33 yX1_copyFrom, Cond.instanceMethod yX1_copyFrom, Cond.selects RX1 yX1_copyFrom yX1_copyFrom, Cond.initialized RX1, Cond.code yX1_copyFrom cX1_copyFrom 2 none, Cond.fieldLink RX1 9 "HeadBudgets$Commitments" "head" "[I", Cond.methodLink RX1 24 arraycopyName, Cond.fieldLink RX1 15 "HeadBudgets$Commitments" "open" "[I", Cond.fieldLink RX1 18 "HeadBudgets$Commitments" "paid" "[I", Cond.fieldLink RX1 21 "HeadBudgets$Commitments" "year" "[I", Cond.fieldLink RX1 30 "HeadBudgets$Commitments" "made" "I"]
def wsX4_rememberCommitment : List Cond := .code yX4_rememberCommitment cX4_rememberCommitment 3 none :: ((wsX4_rememberCommitment_r1 ++ (wsX4_rememberCommitment_r2 ++ wsX4_rememberCommitment_r3)) ++ wsX40 ++ wsX20 ++ wsX00 ++ wsX30 ++ wsX10)
def wsX4_rememberVirement_r1 : List Cond := [Cond.methodLink RX4 31 yX4_rememberWith, Cond.instanceMethod yX4_rememberWith, Cond.selects RX4 yX4_rememberWith yX4_rememberWith, Cond.initialized RX4, Cond.code yX4_rememberWith cX4_rememberWith 7 none, Cond.fieldLink RX4 18 "HeadBudgets$Memory" "held" "I", Cond.fieldLink RX4 22 "HeadBudgets$Memory" "oldest" "I", Cond.fieldLink RX4 35 "HeadBudgets$Memory" "latestNumber" "I", Cond.fieldLink RX4 42 "HeadBudgets$Deed" "before" "LHeadBudgets$Books;", Cond.fieldLink RX4 52 "HeadBudgets$Deed" "number" "I", Cond.fieldLink RX4 55 "HeadBudgets$Deed" "kind" "I", Cond.fieldLink RX4 58 "HeadBudgets$Deed" "subject" "I", Cond.fieldLink RX4 61 "HeadBudgets$Deed" "taker" "I", Cond.fieldLink RX4 64 "HeadBudgets$Deed" "amount" "I", Cond.methodLink RX4 25 yJ9_floorMod_7cf53, Cond.static yJ9_floorMod_7cf53, Cond.initialized RJ9, Cond.code yJ9_floorMod_7cf53 cJ9_floorMod_7cf53 3 (some .int), Cond.methodLink RX4 38 yX4_recall, Cond.instanceMethod yX4_recall, Cond.selects RX4 yX4_recall yX4_recall, Cond.code yX4_recall cX4_recall 2 (some (.object "HeadBudgets$Deed")), Cond.fieldLink RX4 11 "HeadBudgets$Memory" "places" "[LHeadBudgets$Deed;", Cond.methodLink RX4 46 yX0_copyFrom]
def wsX4_rememberVirement_r2 : List Cond := [Cond.instanceMethod yX0_copyFrom, Cond.selects RX0 yX0_copyFrom yX0_copyFrom, Cond.initialized RX0, Cond.code yX0_copyFrom cX0_copyFrom 2 none, Cond.fieldLink RX0 12 "HeadBudgets$Books" "heads" "LHeadBudgets$Heads;", Cond.fieldLink RX0 21 "HeadBudgets$Books" "commitments" "LHeadBudgets$Commitments;", Cond.fieldLink RX0 36 "HeadBudgets$Books" "year" "I", Cond.fieldLink RX0 25 "HeadBudgets$Books" "carriedPart" "I", Cond.fieldLink RX0 39 "HeadBudgets$Books" "lapsed" "I", Cond.fieldLink RX0 42 "HeadBudgets$Books" "spent" "I", Cond.methodLink RX0 29 yX3_copyFrom, Cond.instanceMethod yX3_copyFrom, Cond.selects RX3 yX3_copyFrom yX3_copyFrom, Cond.initialized RX3, Cond.code yX3_copyFrom cX3_copyFrom 2 none, Cond.fieldLink RX3 9 "HeadBudgets$Heads" "above" "[I", Cond.methodLink RX3 42 arraycopyName, Cond.native arraycopyName, Cond.static arraycopyName, Cond.initialized "java/lang/System", Cond.fieldLink RX3 15 "HeadBudgets$Heads" "depth" "[I", Cond.fieldLink RX3 18 "HeadBudgets$Heads" "rank" "[I", Cond.fieldLink RX3 21 "HeadBudgets$Heads" "frozen" "[I", Cond.fieldLink RX3 24 "HeadBudgets$Heads" "allotment" "[I"]
def wsX4_rememberVirement_r3 : List Cond := [Cond.fieldLink RX3 27 "HeadBudgets$Heads" "committed" "[I", Cond.fieldLink RX3 30 "HeadBudgets$Heads" "spent" "[I", Cond.fieldLink RX3 33 "HeadBudgets$Heads" "allotted" "[I", Cond.fieldLink RX3 36 "HeadBudgets$Heads" "left" "[I", Cond.fieldLink RX3 39 "HeadBudgets$Heads" "share" "[I", Cond.fieldLink RX3 48 "HeadBudgets$Heads" "made" "I", Cond.methodLink RX0 33 yX1_copyFrom, Cond.instanceMethod yX1_copyFrom, Cond.selects RX1 yX1_copyFrom yX1_copyFrom, Cond.initialized RX1, Cond.code yX1_copyFrom cX1_copyFrom 2 none, Cond.fieldLink RX1 9 "HeadBudgets$Commitments" "head" "[I", Cond.methodLink RX1 24 arraycopyName, Cond.fieldLink RX1 15 "HeadBudgets$Commitments" "open" "[I", Cond.fieldLink RX1 18 "HeadBudgets$Commitments" "paid" "[I", Cond.fieldLink RX1 21 "HeadBudgets$Commitments" "year" "[I", Cond.fieldLink RX1 30 "HeadBudgets$Commitments" "made" "I"]
def wsX4_rememberVirement : List Cond := .code yX4_rememberVirement cX4_rememberVirement 5 none :: ((wsX4_rememberVirement_r1 ++ (wsX4_rememberVirement_r2 ++ wsX4_rememberVirement_r3)) ++ wsX40 ++ wsX20 ++ wsX00 ++ wsX30 ++ wsX10)
def wsX4_rememberRevoking_r1 : List Cond := [Cond.methodLink RX4 31 yX4_rememberWith, Cond.instanceMethod yX4_rememberWith, Cond.selects RX4 yX4_rememberWith yX4_rememberWith, Cond.initialized RX4, Cond.code yX4_rememberWith cX4_rememberWith 7 none, Cond.fieldLink RX4 18 "HeadBudgets$Memory" "held" "I", Cond.fieldLink RX4 22 "HeadBudgets$Memory" "oldest" "I", Cond.fieldLink RX4 35 "HeadBudgets$Memory" "latestNumber" "I", Cond.fieldLink RX4 42 "HeadBudgets$Deed" "before" "LHeadBudgets$Books;", Cond.fieldLink RX4 52 "HeadBudgets$Deed" "number" "I", Cond.fieldLink RX4 55 "HeadBudgets$Deed" "kind" "I", Cond.fieldLink RX4 58 "HeadBudgets$Deed" "subject" "I", Cond.fieldLink RX4 61 "HeadBudgets$Deed" "taker" "I", Cond.fieldLink RX4 64 "HeadBudgets$Deed" "amount" "I", Cond.methodLink RX4 25 yJ9_floorMod_7cf53, Cond.static yJ9_floorMod_7cf53, Cond.initialized RJ9, Cond.code yJ9_floorMod_7cf53 cJ9_floorMod_7cf53 3 (some .int), Cond.methodLink RX4 38 yX4_recall, Cond.instanceMethod yX4_recall, Cond.selects RX4 yX4_recall yX4_recall, Cond.code yX4_recall cX4_recall 2 (some (.object "HeadBudgets$Deed")), Cond.fieldLink RX4 11 "HeadBudgets$Memory" "places" "[LHeadBudgets$Deed;", Cond.methodLink RX4 46 yX0_copyFrom]
def wsX4_rememberRevoking_r2 : List Cond := [Cond.instanceMethod yX0_copyFrom, Cond.selects RX0 yX0_copyFrom yX0_copyFrom, Cond.initialized RX0, Cond.code yX0_copyFrom cX0_copyFrom 2 none, Cond.fieldLink RX0 12 "HeadBudgets$Books" "heads" "LHeadBudgets$Heads;", Cond.fieldLink RX0 21 "HeadBudgets$Books" "commitments" "LHeadBudgets$Commitments;", Cond.fieldLink RX0 36 "HeadBudgets$Books" "year" "I", Cond.fieldLink RX0 25 "HeadBudgets$Books" "carriedPart" "I", Cond.fieldLink RX0 39 "HeadBudgets$Books" "lapsed" "I", Cond.fieldLink RX0 42 "HeadBudgets$Books" "spent" "I", Cond.methodLink RX0 29 yX3_copyFrom, Cond.instanceMethod yX3_copyFrom, Cond.selects RX3 yX3_copyFrom yX3_copyFrom, Cond.initialized RX3, Cond.code yX3_copyFrom cX3_copyFrom 2 none, Cond.fieldLink RX3 9 "HeadBudgets$Heads" "above" "[I", Cond.methodLink RX3 42 arraycopyName, Cond.native arraycopyName, Cond.static arraycopyName, Cond.initialized "java/lang/System", Cond.fieldLink RX3 15 "HeadBudgets$Heads" "depth" "[I", Cond.fieldLink RX3 18 "HeadBudgets$Heads" "rank" "[I", Cond.fieldLink RX3 21 "HeadBudgets$Heads" "frozen" "[I", Cond.fieldLink RX3 24 "HeadBudgets$Heads" "allotment" "[I"]
def wsX4_rememberRevoking_r3 : List Cond := [Cond.fieldLink RX3 27 "HeadBudgets$Heads" "committed" "[I", Cond.fieldLink RX3 30 "HeadBudgets$Heads" "spent" "[I", Cond.fieldLink RX3 33 "HeadBudgets$Heads" "allotted" "[I", Cond.fieldLink RX3 36 "HeadBudgets$Heads" "left" "[I", Cond.fieldLink RX3 39 "HeadBudgets$Heads" "share" "[I", Cond.fieldLink RX3 48 "HeadBudgets$Heads" "made" "I", Cond.methodLink RX0 33 yX1_copyFrom, Cond.instanceMethod yX1_copyFrom, Cond.selects RX1 yX1_copyFrom yX1_copyFrom, Cond.initialized RX1, Cond.code yX1_copyFrom cX1_copyFrom 2 none, Cond.fieldLink RX1 9 "HeadBudgets$Commitments" "head" "[I", Cond.methodLink RX1 24 arraycopyName, Cond.fieldLink RX1 15 "HeadBudgets$Commitments" "open" "[I", Cond.fieldLink RX1 18 "HeadBudgets$Commitments" "paid" "[I", Cond.fieldLink RX1 21 "HeadBudgets$Commitments" "year" "[I", Cond.fieldLink RX1 30 "HeadBudgets$Commitments" "made" "I"]
def wsX4_rememberRevoking : List Cond := .code yX4_rememberRevoking cX4_rememberRevoking 3 none :: ((wsX4_rememberRevoking_r1 ++ (wsX4_rememberRevoking_r2 ++ wsX4_rememberRevoking_r3)) ++ wsX40 ++ wsX20 ++ wsX00 ++ wsX30 ++ wsX10)
def wsX4_wasRevoked : List Cond := .code yX4_wasRevoked cX4_wasRevoked 4 (some .boolean) :: ([.fieldLink RX4 55 "HeadBudgets$Deed" "kind" "I", .fieldLink RX4 58 "HeadBudgets$Deed" "subject" "I", .methodLink RX4 38 yX4_recall, .instanceMethod yX4_recall, .selects RX4 yX4_recall yX4_recall, .initialized RX4, .code yX4_recall cX4_recall 2 (some (.object "HeadBudgets$Deed")), .fieldLink RX4 18 "HeadBudgets$Memory" "held" "I", .fieldLink RX4 11 "HeadBudgets$Memory" "places" "[LHeadBudgets$Deed;", .fieldLink RX4 22 "HeadBudgets$Memory" "oldest" "I", .methodLink RX4 25 yJ9_floorMod_7cf53, .static yJ9_floorMod_7cf53, .initialized RJ9, .code yJ9_floorMod_7cf53 cJ9_floorMod_7cf53 3 (some .int)] ++ wsX20 ++ wsX40)
def wsX4_forgetLatest : List Cond := .code yX4_forgetLatest cX4_forgetLatest 1 (some .int) :: ([.fieldLink RX4 18 "HeadBudgets$Memory" "held" "I"] ++ wsX40)
def wsX5_init_r1 : List Cond := [Cond.methodLink RX5 1 objectInit, Cond.instanceMethod objectInit, Cond.code objectInit ⟨#[0xb1]⟩ 1 none, Cond.classLink RX5 7 RX0, Cond.instantiable RX0 6, Cond.initialized RX0, Cond.fieldLink RX5 10 "HeadBudgets" "now" "LHeadBudgets$Books;", Cond.classLink RX5 16 RX4, Cond.instantiable RX4 4, Cond.initialized RX4, Cond.fieldLink RX5 19 "HeadBudgets" "memory" "LHeadBudgets$Memory;", Cond.fieldLink RX5 23 "HeadBudgets$Books" "heads" "LHeadBudgets$Heads;", Cond.instanceMethod yX0_init, Cond.code yX0_init cX0_init 1 none, Cond.methodLink RX0 3 objectInit, Cond.classLink RX0 9 RX3, Cond.instantiable RX3 11, Cond.initialized RX3, Cond.fieldLink RX0 12 "HeadBudgets$Books" "heads" "LHeadBudgets$Heads;", Cond.classLink RX0 18 RX1, Cond.instantiable RX1 5, Cond.initialized RX1, Cond.fieldLink RX0 21 "HeadBudgets$Books" "commitments" "LHeadBudgets$Commitments;", Cond.fieldLink RX0 25 "HeadBudgets$Books" "carriedPart" "I"]
def wsX5_init_r2 : List Cond := [Cond.instanceMethod yX3_init, Cond.code yX3_init cX3_init 1 none, Cond.methodLink RX3 3 objectInit, Cond.arrayClass .int, Cond.fieldLink RX3 9 "HeadBudgets$Heads" "above" "[I", Cond.fieldLink RX3 15 "HeadBudgets$Heads" "depth" "[I", Cond.fieldLink RX3 18 "HeadBudgets$Heads" "rank" "[I", Cond.fieldLink RX3 21 "HeadBudgets$Heads" "frozen" "[I", Cond.fieldLink RX3 24 "HeadBudgets$Heads" "allotment" "[I", Cond.fieldLink RX3 27 "HeadBudgets$Heads" "committed" "[I", Cond.fieldLink RX3 30 "HeadBudgets$Heads" "spent" "[I", Cond.fieldLink RX3 33 "HeadBudgets$Heads" "allotted" "[I", Cond.fieldLink RX3 36 "HeadBudgets$Heads" "left" "[I", Cond.fieldLink RX3 39 "HeadBudgets$Heads" "share" "[I", Cond.instanceMethod yX1_init, Cond.code yX1_init cX1_init 1 none, Cond.methodLink RX1 3 objectInit, Cond.fieldLink RX1 9 "HeadBudgets$Commitments" "head" "[I", Cond.fieldLink RX1 15 "HeadBudgets$Commitments" "open" "[I", Cond.fieldLink RX1 18 "HeadBudgets$Commitments" "paid" "[I", Cond.fieldLink RX1 21 "HeadBudgets$Commitments" "year" "[I", Cond.methodLink RX5 18 yX4_init, Cond.instanceMethod yX4_init, Cond.code yX4_init cX4_init 2 none]
def wsX5_init_r3 : List Cond := [Cond.methodLink RX4 3 objectInit, Cond.classLink RX4 9 RX2, Cond.fieldLink RX4 11 "HeadBudgets$Memory" "places" "[LHeadBudgets$Deed;", Cond.instantiable RX2 6, Cond.initialized RX2, Cond.instanceMethod yX2_init, Cond.code yX2_init cX2_init 1 none, Cond.methodLink RX2 1 objectInit, Cond.classLink RX2 7 RX0, Cond.fieldLink RX2 10 "HeadBudgets$Deed" "before" "LHeadBudgets$Books;", Cond.methodLink RX5 27 yX3_add, Cond.instanceMethod yX3_add, Cond.selects RX3 yX3_add yX3_add, Cond.code yX3_add cX3_add 4 (some .int), Cond.fieldLink RX3 48 "HeadBudgets$Heads" "made" "I", Cond.methodLink RX3 52 yX3_has, Cond.instanceMethod yX3_has, Cond.selects RX3 yX3_has yX3_has, Cond.code yX3_has cX3_has 2 (some .boolean)]
def wsX5_init : List Cond := .code yX5_init cX5_init 1 none :: ((wsX5_init_r1 ++ (wsX5_init_r2 ++ wsX5_init_r3)) ++ wsX00 ++ wsX50 ++ wsX40 ++ wsX30 ++ wsX10 ++ wsX20)
def wsX5_make_r1 : List Cond := [Cond.fieldLink RX5 10 "HeadBudgets" "now" "LHeadBudgets$Books;", Cond.fieldLink RX5 23 "HeadBudgets$Books" "heads" "LHeadBudgets$Heads;", Cond.fieldLink RX5 37 "HeadBudgets$Heads" "depth" "[I", Cond.fieldLink RX5 41 "HeadBudgets$Heads" "made" "I", Cond.fieldLink RX5 19 "HeadBudgets" "memory" "LHeadBudgets$Memory;", Cond.methodLink RX5 33 yX3_has, Cond.instanceMethod yX3_has, Cond.selects RX3 yX3_has yX3_has, Cond.initialized RX3, Cond.code yX3_has cX3_has 2 (some .boolean), Cond.fieldLink RX3 48 "HeadBudgets$Heads" "made" "I", Cond.methodLink RX5 45 yX4_remember, Cond.instanceMethod yX4_remember, Cond.selects RX4 yX4_remember yX4_remember, Cond.initialized RX4, Cond.code yX4_remember cX4_remember 3 none, Cond.methodLink RX4 31 yX4_rememberWith, Cond.instanceMethod yX4_rememberWith, Cond.selects RX4 yX4_rememberWith yX4_rememberWith, Cond.code yX4_rememberWith cX4_rememberWith 7 none, Cond.fieldLink RX4 18 "HeadBudgets$Memory" "held" "I", Cond.fieldLink RX4 22 "HeadBudgets$Memory" "oldest" "I", Cond.fieldLink RX4 35 "HeadBudgets$Memory" "latestNumber" "I", Cond.fieldLink RX4 42 "HeadBudgets$Deed" "before" "LHeadBudgets$Books;"]
def wsX5_make_r2 : List Cond := [Cond.fieldLink RX4 52 "HeadBudgets$Deed" "number" "I", Cond.fieldLink RX4 55 "HeadBudgets$Deed" "kind" "I", Cond.fieldLink RX4 58 "HeadBudgets$Deed" "subject" "I", Cond.fieldLink RX4 61 "HeadBudgets$Deed" "taker" "I", Cond.fieldLink RX4 64 "HeadBudgets$Deed" "amount" "I", Cond.methodLink RX4 25 yJ9_floorMod_7cf53, Cond.static yJ9_floorMod_7cf53, Cond.initialized RJ9, Cond.code yJ9_floorMod_7cf53 cJ9_floorMod_7cf53 3 (some .int), Cond.methodLink RX4 38 yX4_recall, Cond.instanceMethod yX4_recall, Cond.selects RX4 yX4_recall yX4_recall, Cond.code yX4_recall cX4_recall 2 (some (.object "HeadBudgets$Deed")), Cond.fieldLink RX4 11 "HeadBudgets$Memory" "places" "[LHeadBudgets$Deed;", Cond.methodLink RX4 46 yX0_copyFrom, Cond.instanceMethod yX0_copyFrom, Cond.selects RX0 yX0_copyFrom yX0_copyFrom, Cond.initialized RX0, Cond.code yX0_copyFrom cX0_copyFrom 2 none, Cond.fieldLink RX0 12 "HeadBudgets$Books" "heads" "LHeadBudgets$Heads;", Cond.fieldLink RX0 21 "HeadBudgets$Books" "commitments" "LHeadBudgets$Commitments;", Cond.fieldLink RX0 36 "HeadBudgets$Books" "year" "I", Cond.fieldLink RX0 25 "HeadBudgets$Books" "carriedPart" "I", Cond.fieldLink RX0 39 "HeadBudgets$Books" "lapsed" "I"]
def wsX5_make_r3 : List Cond := [Cond.fieldLink RX0 42 "HeadBudgets$Books" "spent" "I", Cond.methodLink RX0 29 yX3_copyFrom, Cond.instanceMethod yX3_copyFrom, Cond.selects RX3 yX3_copyFrom yX3_copyFrom, Cond.code yX3_copyFrom cX3_copyFrom 2 none, Cond.fieldLink RX3 9 "HeadBudgets$Heads" "above" "[I", Cond.methodLink RX3 42 arraycopyName, Cond.native arraycopyName, Cond.static arraycopyName, Cond.initialized "java/lang/System", Cond.fieldLink RX3 15 "HeadBudgets$Heads" "depth" "[I", Cond.fieldLink RX3 18 "HeadBudgets$Heads" "rank" "[I", Cond.fieldLink RX3 21 "HeadBudgets$Heads" "frozen" "[I", Cond.fieldLink RX3 24 "HeadBudgets$Heads" "allotment" "[I", Cond.fieldLink RX3 27 "HeadBudgets$Heads" "committed" "[I", Cond.fieldLink RX3 30 "HeadBudgets$Heads" "spent" "[I", Cond.fieldLink RX3 33 "HeadBudgets$Heads" "allotted" "[I", Cond.fieldLink RX3 36 "HeadBudgets$Heads" "left" "[I", Cond.fieldLink RX3 39 "HeadBudgets$Heads" "share" "[I", Cond.methodLink RX0 33 yX1_copyFrom, Cond.instanceMethod yX1_copyFrom, Cond.selects RX1 yX1_copyFrom yX1_copyFrom, Cond.initialized RX1, Cond.code yX1_copyFrom cX1_copyFrom 2 none]
def wsX5_make_r4 : List Cond := [Cond.fieldLink RX1 9 "HeadBudgets$Commitments" "head" "[I", Cond.methodLink RX1 24 arraycopyName, Cond.fieldLink RX1 15 "HeadBudgets$Commitments" "open" "[I", Cond.fieldLink RX1 18 "HeadBudgets$Commitments" "paid" "[I", Cond.fieldLink RX1 21 "HeadBudgets$Commitments" "year" "[I", Cond.fieldLink RX1 30 "HeadBudgets$Commitments" "made" "I", Cond.methodLink RX5 27 yX3_add, Cond.instanceMethod yX3_add, Cond.selects RX3 yX3_add yX3_add, Cond.code yX3_add cX3_add 4 (some .int), Cond.methodLink RX3 52 yX3_has]
def wsX5_make : List Cond := .code yX5_make cX5_make 4 (some .int) :: ((wsX5_make_r1 ++ (wsX5_make_r2 ++ (wsX5_make_r3 ++ wsX5_make_r4))) ++ wsX50 ++ wsX00 ++ wsX30 ++ wsX40 ++ wsX20 ++ wsX10)
def wsX5_isAmount : List Cond := .code yX5_isAmount cX5_isAmount 1 (some .boolean) :: ([.constant RX5 222 (100000)])
def wsX5_allot_r1 : List Cond := [Cond.fieldLink RX5 10 "HeadBudgets" "now" "LHeadBudgets$Books;", Cond.fieldLink RX5 23 "HeadBudgets$Books" "heads" "LHeadBudgets$Heads;", Cond.fieldLink RX5 52 "HeadBudgets$Heads" "allotment" "[I", Cond.constant RX5 55 (1000000), Cond.fieldLink RX5 19 "HeadBudgets" "memory" "LHeadBudgets$Memory;", Cond.fieldLink RX5 56 "HeadBudgets$Heads" "allotted" "[I", Cond.methodLink RX5 33 yX3_has, Cond.instanceMethod yX3_has, Cond.selects RX3 yX3_has yX3_has, Cond.initialized RX3, Cond.code yX3_has cX3_has 2 (some .boolean), Cond.fieldLink RX3 48 "HeadBudgets$Heads" "made" "I", Cond.methodLink RX5 49 yX5_isAmount, Cond.static yX5_isAmount, Cond.initialized RX5, Cond.code yX5_isAmount cX5_isAmount 1 (some .boolean), Cond.constant RX5 222 (100000), Cond.methodLink RX5 45 yX4_remember, Cond.instanceMethod yX4_remember, Cond.selects RX4 yX4_remember yX4_remember, Cond.initialized RX4, Cond.code yX4_remember cX4_remember 3 none, Cond.methodLink RX4 31 yX4_rememberWith, Cond.instanceMethod yX4_rememberWith]
def wsX5_allot_r2 : List Cond := [Cond.selects RX4 yX4_rememberWith yX4_rememberWith, Cond.code yX4_rememberWith cX4_rememberWith 7 none, Cond.fieldLink RX4 18 "HeadBudgets$Memory" "held" "I", Cond.fieldLink RX4 22 "HeadBudgets$Memory" "oldest" "I", Cond.fieldLink RX4 35 "HeadBudgets$Memory" "latestNumber" "I", Cond.fieldLink RX4 42 "HeadBudgets$Deed" "before" "LHeadBudgets$Books;", Cond.fieldLink RX4 52 "HeadBudgets$Deed" "number" "I", Cond.fieldLink RX4 55 "HeadBudgets$Deed" "kind" "I", Cond.fieldLink RX4 58 "HeadBudgets$Deed" "subject" "I", Cond.fieldLink RX4 61 "HeadBudgets$Deed" "taker" "I", Cond.fieldLink RX4 64 "HeadBudgets$Deed" "amount" "I", Cond.methodLink RX4 25 yJ9_floorMod_7cf53, Cond.static yJ9_floorMod_7cf53, Cond.initialized RJ9, Cond.code yJ9_floorMod_7cf53 cJ9_floorMod_7cf53 3 (some .int), Cond.methodLink RX4 38 yX4_recall, Cond.instanceMethod yX4_recall, Cond.selects RX4 yX4_recall yX4_recall, Cond.code yX4_recall cX4_recall 2 (some (.object "HeadBudgets$Deed")), Cond.fieldLink RX4 11 "HeadBudgets$Memory" "places" "[LHeadBudgets$Deed;", Cond.methodLink RX4 46 yX0_copyFrom, Cond.instanceMethod yX0_copyFrom, Cond.selects RX0 yX0_copyFrom yX0_copyFrom, Cond.initialized RX0]
def wsX5_allot_r3 : List Cond := [Cond.code yX0_copyFrom cX0_copyFrom 2 none, Cond.fieldLink RX0 12 "HeadBudgets$Books" "heads" "LHeadBudgets$Heads;", Cond.fieldLink RX0 21 "HeadBudgets$Books" "commitments" "LHeadBudgets$Commitments;", Cond.fieldLink RX0 36 "HeadBudgets$Books" "year" "I", Cond.fieldLink RX0 25 "HeadBudgets$Books" "carriedPart" "I", Cond.fieldLink RX0 39 "HeadBudgets$Books" "lapsed" "I", Cond.fieldLink RX0 42 "HeadBudgets$Books" "spent" "I", Cond.methodLink RX0 29 yX3_copyFrom, Cond.instanceMethod yX3_copyFrom, Cond.selects RX3 yX3_copyFrom yX3_copyFrom, Cond.code yX3_copyFrom cX3_copyFrom 2 none, Cond.fieldLink RX3 9 "HeadBudgets$Heads" "above" "[I", Cond.methodLink RX3 42 arraycopyName, Cond.native arraycopyName, Cond.static arraycopyName, Cond.initialized "java/lang/System", Cond.fieldLink RX3 15 "HeadBudgets$Heads" "depth" "[I", Cond.fieldLink RX3 18 "HeadBudgets$Heads" "rank" "[I", Cond.fieldLink RX3 21 "HeadBudgets$Heads" "frozen" "[I", Cond.fieldLink RX3 24 "HeadBudgets$Heads" "allotment" "[I", Cond.fieldLink RX3 27 "HeadBudgets$Heads" "committed" "[I", Cond.fieldLink RX3 30 "HeadBudgets$Heads" "spent" "[I", Cond.fieldLink RX3 33 "HeadBudgets$Heads" "allotted" "[I", Cond.fieldLink RX3 36 "HeadBudgets$Heads" "left" "[I"]
def wsX5_allot_r4 : List Cond := [Cond.fieldLink RX3 39 "HeadBudgets$Heads" "share" "[I", Cond.methodLink RX0 33 yX1_copyFrom, Cond.instanceMethod yX1_copyFrom, Cond.selects RX1 yX1_copyFrom yX1_copyFrom, Cond.initialized RX1, Cond.code yX1_copyFrom cX1_copyFrom 2 none, Cond.fieldLink RX1 9 "HeadBudgets$Commitments" "head" "[I", Cond.methodLink RX1 24 arraycopyName, Cond.fieldLink RX1 15 "HeadBudgets$Commitments" "open" "[I", Cond.fieldLink RX1 18 "HeadBudgets$Commitments" "paid" "[I", Cond.fieldLink RX1 21 "HeadBudgets$Commitments" "year" "[I", Cond.fieldLink RX1 30 "HeadBudgets$Commitments" "made" "I"]
def wsX5_allot : List Cond := .code yX5_allot cX5_allot 4 (some .int) :: ((wsX5_allot_r1 ++ (wsX5_allot_r2 ++ (wsX5_allot_r3 ++ wsX5_allot_r4))) ++ wsX50 ++ wsX00 ++ wsX30 ++ wsX40 ++ wsX20 ++ wsX10)
def wsX5_freeze_r1 : List Cond := [Cond.fieldLink RX5 10 "HeadBudgets" "now" "LHeadBudgets$Books;", Cond.fieldLink RX5 23 "HeadBudgets$Books" "heads" "LHeadBudgets$Heads;", Cond.fieldLink RX5 59 "HeadBudgets$Heads" "frozen" "[I", Cond.fieldLink RX5 19 "HeadBudgets" "memory" "LHeadBudgets$Memory;", Cond.methodLink RX5 33 yX3_has, Cond.instanceMethod yX3_has, Cond.selects RX3 yX3_has yX3_has, Cond.initialized RX3, Cond.code yX3_has cX3_has 2 (some .boolean), Cond.fieldLink RX3 48 "HeadBudgets$Heads" "made" "I", Cond.methodLink RX5 45 yX4_remember, Cond.instanceMethod yX4_remember, Cond.selects RX4 yX4_remember yX4_remember, Cond.initialized RX4, Cond.code yX4_remember cX4_remember 3 none, Cond.methodLink RX4 31 yX4_rememberWith, Cond.instanceMethod yX4_rememberWith, Cond.selects RX4 yX4_rememberWith yX4_rememberWith, Cond.code yX4_rememberWith cX4_rememberWith 7 none, Cond.fieldLink RX4 18 "HeadBudgets$Memory" "held" "I", Cond.fieldLink RX4 22 "HeadBudgets$Memory" "oldest" "I", Cond.fieldLink RX4 35 "HeadBudgets$Memory" "latestNumber" "I", Cond.fieldLink RX4 42 "HeadBudgets$Deed" "before" "LHeadBudgets$Books;", Cond.fieldLink RX4 52 "HeadBudgets$Deed" "number" "I"]
def wsX5_freeze_r2 : List Cond := [Cond.fieldLink RX4 55 "HeadBudgets$Deed" "kind" "I", Cond.fieldLink RX4 58 "HeadBudgets$Deed" "subject" "I", Cond.fieldLink RX4 61 "HeadBudgets$Deed" "taker" "I", Cond.fieldLink RX4 64 "HeadBudgets$Deed" "amount" "I", Cond.methodLink RX4 25 yJ9_floorMod_7cf53, Cond.static yJ9_floorMod_7cf53, Cond.initialized RJ9, Cond.code yJ9_floorMod_7cf53 cJ9_floorMod_7cf53 3 (some .int), Cond.methodLink RX4 38 yX4_recall, Cond.instanceMethod yX4_recall, Cond.selects RX4 yX4_recall yX4_recall, Cond.code yX4_recall cX4_recall 2 (some (.object "HeadBudgets$Deed")), Cond.fieldLink RX4 11 "HeadBudgets$Memory" "places" "[LHeadBudgets$Deed;", Cond.methodLink RX4 46 yX0_copyFrom, Cond.instanceMethod yX0_copyFrom, Cond.selects RX0 yX0_copyFrom yX0_copyFrom, Cond.initialized RX0, Cond.code yX0_copyFrom cX0_copyFrom 2 none, Cond.fieldLink RX0 12 "HeadBudgets$Books" "heads" "LHeadBudgets$Heads;", Cond.fieldLink RX0 21 "HeadBudgets$Books" "commitments" "LHeadBudgets$Commitments;", Cond.fieldLink RX0 36 "HeadBudgets$Books" "year" "I", Cond.fieldLink RX0 25 "HeadBudgets$Books" "carriedPart" "I", Cond.fieldLink RX0 39 "HeadBudgets$Books" "lapsed" "I", Cond.fieldLink RX0 42 "HeadBudgets$Books" "spent" "I"]
def wsX5_freeze_r3 : List Cond := [Cond.methodLink RX0 29 yX3_copyFrom, Cond.instanceMethod yX3_copyFrom, Cond.selects RX3 yX3_copyFrom yX3_copyFrom, Cond.code yX3_copyFrom cX3_copyFrom 2 none, Cond.fieldLink RX3 9 "HeadBudgets$Heads" "above" "[I", Cond.methodLink RX3 42 arraycopyName, Cond.native arraycopyName, Cond.static arraycopyName, Cond.initialized "java/lang/System", Cond.fieldLink RX3 15 "HeadBudgets$Heads" "depth" "[I", Cond.fieldLink RX3 18 "HeadBudgets$Heads" "rank" "[I", Cond.fieldLink RX3 21 "HeadBudgets$Heads" "frozen" "[I", Cond.fieldLink RX3 24 "HeadBudgets$Heads" "allotment" "[I", Cond.fieldLink RX3 27 "HeadBudgets$Heads" "committed" "[I", Cond.fieldLink RX3 30 "HeadBudgets$Heads" "spent" "[I", Cond.fieldLink RX3 33 "HeadBudgets$Heads" "allotted" "[I", Cond.fieldLink RX3 36 "HeadBudgets$Heads" "left" "[I", Cond.fieldLink RX3 39 "HeadBudgets$Heads" "share" "[I", Cond.methodLink RX0 33 yX1_copyFrom, Cond.instanceMethod yX1_copyFrom, Cond.selects RX1 yX1_copyFrom yX1_copyFrom, Cond.initialized RX1, Cond.code yX1_copyFrom cX1_copyFrom 2 none, Cond.fieldLink RX1 9 "HeadBudgets$Commitments" "head" "[I"]
def wsX5_freeze_r4 : List Cond := [Cond.methodLink RX1 24 arraycopyName, Cond.fieldLink RX1 15 "HeadBudgets$Commitments" "open" "[I", Cond.fieldLink RX1 18 "HeadBudgets$Commitments" "paid" "[I", Cond.fieldLink RX1 21 "HeadBudgets$Commitments" "year" "[I", Cond.fieldLink RX1 30 "HeadBudgets$Commitments" "made" "I", Cond.methodLink RX5 62 yX3_countBarred, Cond.instanceMethod yX3_countBarred, Cond.selects RX3 yX3_countBarred yX3_countBarred, Cond.code yX3_countBarred cX3_countBarred 3 (some .int), Cond.methodLink RX3 56 yX3_isBarred, Cond.instanceMethod yX3_isBarred, Cond.selects RX3 yX3_isBarred yX3_isBarred, Cond.code yX3_isBarred cX3_isBarred 4 (some .boolean), Cond.methodLink RX3 52 yX3_has]
def wsX5_freeze : List Cond := .code yX5_freeze cX5_freeze 4 (some .int) :: ((wsX5_freeze_r1 ++ (wsX5_freeze_r2 ++ (wsX5_freeze_r3 ++ wsX5_freeze_r4))) ++ wsX50 ++ wsX00 ++ wsX30 ++ wsX40 ++ wsX20 ++ wsX10)
def wsX5_isPercentage : List Cond := .code yX5_isPercentage cX5_isPercentage 1 (some .boolean) :: ([])
def wsX5_setShare_r1 : List Cond := [Cond.fieldLink RX5 10 "HeadBudgets" "now" "LHeadBudgets$Books;", Cond.fieldLink RX5 23 "HeadBudgets$Books" "heads" "LHeadBudgets$Heads;", Cond.fieldLink RX5 19 "HeadBudgets" "memory" "LHeadBudgets$Memory;", Cond.fieldLink RX5 69 "HeadBudgets$Heads" "share" "[I", Cond.methodLink RX5 33 yX3_has, Cond.instanceMethod yX3_has, Cond.selects RX3 yX3_has yX3_has, Cond.initialized RX3, Cond.code yX3_has cX3_has 2 (some .boolean), Cond.fieldLink RX3 48 "HeadBudgets$Heads" "made" "I", Cond.methodLink RX5 66 yX5_isPercentage, Cond.static yX5_isPercentage, Cond.initialized RX5, Cond.code yX5_isPercentage cX5_isPercentage 1 (some .boolean), Cond.methodLink RX5 45 yX4_remember, Cond.instanceMethod yX4_remember, Cond.selects RX4 yX4_remember yX4_remember, Cond.initialized RX4, Cond.code yX4_remember cX4_remember 3 none, Cond.methodLink RX4 31 yX4_rememberWith, Cond.instanceMethod yX4_rememberWith, Cond.selects RX4 yX4_rememberWith yX4_rememberWith, Cond.code yX4_rememberWith cX4_rememberWith 7 none, Cond.fieldLink RX4 18 "HeadBudgets$Memory" "held" "I"]
def wsX5_setShare_r2 : List Cond := [Cond.fieldLink RX4 22 "HeadBudgets$Memory" "oldest" "I", Cond.fieldLink RX4 35 "HeadBudgets$Memory" "latestNumber" "I", Cond.fieldLink RX4 42 "HeadBudgets$Deed" "before" "LHeadBudgets$Books;", Cond.fieldLink RX4 52 "HeadBudgets$Deed" "number" "I", Cond.fieldLink RX4 55 "HeadBudgets$Deed" "kind" "I", Cond.fieldLink RX4 58 "HeadBudgets$Deed" "subject" "I", Cond.fieldLink RX4 61 "HeadBudgets$Deed" "taker" "I", Cond.fieldLink RX4 64 "HeadBudgets$Deed" "amount" "I", Cond.methodLink RX4 25 yJ9_floorMod_7cf53, Cond.static yJ9_floorMod_7cf53, Cond.initialized RJ9, Cond.code yJ9_floorMod_7cf53 cJ9_floorMod_7cf53 3 (some .int), Cond.methodLink RX4 38 yX4_recall, Cond.instanceMethod yX4_recall, Cond.selects RX4 yX4_recall yX4_recall, Cond.code yX4_recall cX4_recall 2 (some (.object "HeadBudgets$Deed")), Cond.fieldLink RX4 11 "HeadBudgets$Memory" "places" "[LHeadBudgets$Deed;", Cond.methodLink RX4 46 yX0_copyFrom, Cond.instanceMethod yX0_copyFrom, Cond.selects RX0 yX0_copyFrom yX0_copyFrom, Cond.initialized RX0, Cond.code yX0_copyFrom cX0_copyFrom 2 none, Cond.fieldLink RX0 12 "HeadBudgets$Books" "heads" "LHeadBudgets$Heads;", Cond.fieldLink RX0 21 "HeadBudgets$Books" "commitments" "LHeadBudgets$Commitments;"]
def wsX5_setShare_r3 : List Cond := [Cond.fieldLink RX0 36 "HeadBudgets$Books" "year" "I", Cond.fieldLink RX0 25 "HeadBudgets$Books" "carriedPart" "I", Cond.fieldLink RX0 39 "HeadBudgets$Books" "lapsed" "I", Cond.fieldLink RX0 42 "HeadBudgets$Books" "spent" "I", Cond.methodLink RX0 29 yX3_copyFrom, Cond.instanceMethod yX3_copyFrom, Cond.selects RX3 yX3_copyFrom yX3_copyFrom, Cond.code yX3_copyFrom cX3_copyFrom 2 none, Cond.fieldLink RX3 9 "HeadBudgets$Heads" "above" "[I", Cond.methodLink RX3 42 arraycopyName, Cond.native arraycopyName, Cond.static arraycopyName, Cond.initialized "java/lang/System", Cond.fieldLink RX3 15 "HeadBudgets$Heads" "depth" "[I", Cond.fieldLink RX3 18 "HeadBudgets$Heads" "rank" "[I", Cond.fieldLink RX3 21 "HeadBudgets$Heads" "frozen" "[I", Cond.fieldLink RX3 24 "HeadBudgets$Heads" "allotment" "[I", Cond.fieldLink RX3 27 "HeadBudgets$Heads" "committed" "[I", Cond.fieldLink RX3 30 "HeadBudgets$Heads" "spent" "[I", Cond.fieldLink RX3 33 "HeadBudgets$Heads" "allotted" "[I", Cond.fieldLink RX3 36 "HeadBudgets$Heads" "left" "[I", Cond.fieldLink RX3 39 "HeadBudgets$Heads" "share" "[I", Cond.methodLink RX0 33 yX1_copyFrom, Cond.instanceMethod yX1_copyFrom]
def wsX5_setShare_r4 : List Cond := [Cond.selects RX1 yX1_copyFrom yX1_copyFrom, Cond.initialized RX1, Cond.code yX1_copyFrom cX1_copyFrom 2 none, Cond.fieldLink RX1 9 "HeadBudgets$Commitments" "head" "[I", Cond.methodLink RX1 24 arraycopyName, Cond.fieldLink RX1 15 "HeadBudgets$Commitments" "open" "[I", Cond.fieldLink RX1 18 "HeadBudgets$Commitments" "paid" "[I", Cond.fieldLink RX1 21 "HeadBudgets$Commitments" "year" "[I", Cond.fieldLink RX1 30 "HeadBudgets$Commitments" "made" "I"]
def wsX5_setShare : List Cond := .code yX5_setShare cX5_setShare 5 (some .int) :: ((wsX5_setShare_r1 ++ (wsX5_setShare_r2 ++ (wsX5_setShare_r3 ++ wsX5_setShare_r4))) ++ wsX50 ++ wsX00 ++ wsX30 ++ wsX40 ++ wsX20 ++ wsX10)
def wsX5_setCarried_r1 : List Cond := [Cond.fieldLink RX5 19 "HeadBudgets" "memory" "LHeadBudgets$Memory;", Cond.fieldLink RX5 10 "HeadBudgets" "now" "LHeadBudgets$Books;", Cond.fieldLink RX5 72 "HeadBudgets$Books" "carriedPart" "I", Cond.methodLink RX5 66 yX5_isPercentage, Cond.static yX5_isPercentage, Cond.initialized RX5, Cond.code yX5_isPercentage cX5_isPercentage 1 (some .boolean), Cond.methodLink RX5 45 yX4_remember, Cond.instanceMethod yX4_remember, Cond.selects RX4 yX4_remember yX4_remember, Cond.initialized RX4, Cond.code yX4_remember cX4_remember 3 none, Cond.methodLink RX4 31 yX4_rememberWith, Cond.instanceMethod yX4_rememberWith, Cond.selects RX4 yX4_rememberWith yX4_rememberWith, Cond.code yX4_rememberWith cX4_rememberWith 7 none, Cond.fieldLink RX4 18 "HeadBudgets$Memory" "held" "I", Cond.fieldLink RX4 22 "HeadBudgets$Memory" "oldest" "I", Cond.fieldLink RX4 35 "HeadBudgets$Memory" "latestNumber" "I", Cond.fieldLink RX4 42 "HeadBudgets$Deed" "before" "LHeadBudgets$Books;", Cond.fieldLink RX4 52 "HeadBudgets$Deed" "number" "I", Cond.fieldLink RX4 55 "HeadBudgets$Deed" "kind" "I", Cond.fieldLink RX4 58 "HeadBudgets$Deed" "subject" "I", Cond.fieldLink RX4 61 "HeadBudgets$Deed" "taker" "I"]
def wsX5_setCarried_r2 : List Cond := [Cond.fieldLink RX4 64 "HeadBudgets$Deed" "amount" "I", Cond.methodLink RX4 25 yJ9_floorMod_7cf53, Cond.static yJ9_floorMod_7cf53, Cond.initialized RJ9, Cond.code yJ9_floorMod_7cf53 cJ9_floorMod_7cf53 3 (some .int), Cond.methodLink RX4 38 yX4_recall, Cond.instanceMethod yX4_recall, Cond.selects RX4 yX4_recall yX4_recall, Cond.code yX4_recall cX4_recall 2 (some (.object "HeadBudgets$Deed")), Cond.fieldLink RX4 11 "HeadBudgets$Memory" "places" "[LHeadBudgets$Deed;", Cond.methodLink RX4 46 yX0_copyFrom, Cond.instanceMethod yX0_copyFrom, Cond.selects RX0 yX0_copyFrom yX0_copyFrom, Cond.initialized RX0, Cond.code yX0_copyFrom cX0_copyFrom 2 none, Cond.fieldLink RX0 12 "HeadBudgets$Books" "heads" "LHeadBudgets$Heads;", Cond.fieldLink RX0 21 "HeadBudgets$Books" "commitments" "LHeadBudgets$Commitments;", Cond.fieldLink RX0 36 "HeadBudgets$Books" "year" "I", Cond.fieldLink RX0 25 "HeadBudgets$Books" "carriedPart" "I", Cond.fieldLink RX0 39 "HeadBudgets$Books" "lapsed" "I", Cond.fieldLink RX0 42 "HeadBudgets$Books" "spent" "I", Cond.methodLink RX0 29 yX3_copyFrom, Cond.instanceMethod yX3_copyFrom, Cond.selects RX3 yX3_copyFrom yX3_copyFrom]
def wsX5_setCarried_r3 : List Cond := [Cond.initialized RX3, Cond.code yX3_copyFrom cX3_copyFrom 2 none, Cond.fieldLink RX3 9 "HeadBudgets$Heads" "above" "[I", Cond.methodLink RX3 42 arraycopyName, Cond.native arraycopyName, Cond.static arraycopyName, Cond.initialized "java/lang/System", Cond.fieldLink RX3 15 "HeadBudgets$Heads" "depth" "[I", Cond.fieldLink RX3 18 "HeadBudgets$Heads" "rank" "[I", Cond.fieldLink RX3 21 "HeadBudgets$Heads" "frozen" "[I", Cond.fieldLink RX3 24 "HeadBudgets$Heads" "allotment" "[I", Cond.fieldLink RX3 27 "HeadBudgets$Heads" "committed" "[I", Cond.fieldLink RX3 30 "HeadBudgets$Heads" "spent" "[I", Cond.fieldLink RX3 33 "HeadBudgets$Heads" "allotted" "[I", Cond.fieldLink RX3 36 "HeadBudgets$Heads" "left" "[I", Cond.fieldLink RX3 39 "HeadBudgets$Heads" "share" "[I", Cond.fieldLink RX3 48 "HeadBudgets$Heads" "made" "I", Cond.methodLink RX0 33 yX1_copyFrom, Cond.instanceMethod yX1_copyFrom, Cond.selects RX1 yX1_copyFrom yX1_copyFrom, Cond.initialized RX1, Cond.code yX1_copyFrom cX1_copyFrom 2 none, Cond.fieldLink RX1 9 "HeadBudgets$Commitments" "head" "[I", Cond.methodLink RX1 24 arraycopyName]
def wsX5_setCarried_r4 : List Cond := [Cond.fieldLink RX1 15 "HeadBudgets$Commitments" "open" "[I", Cond.fieldLink RX1 18 "HeadBudgets$Commitments" "paid" "[I", Cond.fieldLink RX1 21 "HeadBudgets$Commitments" "year" "[I", Cond.fieldLink RX1 30 "HeadBudgets$Commitments" "made" "I"]
def wsX5_setCarried : List Cond := .code yX5_setCarried cX5_setCarried 3 (some .int) :: ((wsX5_setCarried_r1 ++ (wsX5_setCarried_r2 ++ (wsX5_setCarried_r3 ++ wsX5_setCarried_r4))) ++ wsX50 ++ wsX00 ++ wsX40 ++ wsX20 ++ wsX30 ++ wsX10)
def wsX5_commit_r1 : List Cond := [Cond.fieldLink RX5 10 "HeadBudgets" "now" "LHeadBudgets$Books;", Cond.fieldLink RX5 23 "HeadBudgets$Books" "heads" "LHeadBudgets$Heads;", Cond.fieldLink RX5 82 "HeadBudgets$Books" "commitments" "LHeadBudgets$Commitments;", Cond.fieldLink RX5 86 "HeadBudgets$Commitments" "made" "I", Cond.fieldLink RX5 19 "HeadBudgets" "memory" "LHeadBudgets$Memory;", Cond.fieldLink RX5 97 "HeadBudgets$Books" "year" "I", Cond.methodLink RX5 33 yX3_has, Cond.instanceMethod yX3_has, Cond.selects RX3 yX3_has yX3_has, Cond.initialized RX3, Cond.code yX3_has cX3_has 2 (some .boolean), Cond.fieldLink RX3 48 "HeadBudgets$Heads" "made" "I", Cond.methodLink RX5 49 yX5_isAmount, Cond.static yX5_isAmount, Cond.initialized RX5, Cond.code yX5_isAmount cX5_isAmount 1 (some .boolean), Cond.constant RX5 222 (100000), Cond.methodLink RX5 75 yX3_isBarred, Cond.instanceMethod yX3_isBarred, Cond.selects RX3 yX3_isBarred yX3_isBarred, Cond.code yX3_isBarred cX3_isBarred 4 (some .boolean), Cond.fieldLink RX3 21 "HeadBudgets$Heads" "frozen" "[I", Cond.fieldLink RX3 9 "HeadBudgets$Heads" "above" "[I", Cond.methodLink RX3 52 yX3_has]
def wsX5_commit_r2 : List Cond := [Cond.methodLink RX5 78 yX3_freeOf, Cond.instanceMethod yX3_freeOf, Cond.selects RX3 yX3_freeOf yX3_freeOf, Cond.code yX3_freeOf cX3_freeOf 2 (some .int), Cond.fieldLink RX3 24 "HeadBudgets$Heads" "allotment" "[I", Cond.fieldLink RX3 27 "HeadBudgets$Heads" "committed" "[I", Cond.fieldLink RX3 30 "HeadBudgets$Heads" "spent" "[I", Cond.methodLink RX5 89 yX4_rememberCommitment, Cond.instanceMethod yX4_rememberCommitment, Cond.selects RX4 yX4_rememberCommitment yX4_rememberCommitment, Cond.initialized RX4, Cond.code yX4_rememberCommitment cX4_rememberCommitment 3 none, Cond.methodLink RX4 31 yX4_rememberWith, Cond.instanceMethod yX4_rememberWith, Cond.selects RX4 yX4_rememberWith yX4_rememberWith, Cond.code yX4_rememberWith cX4_rememberWith 7 none, Cond.fieldLink RX4 18 "HeadBudgets$Memory" "held" "I", Cond.fieldLink RX4 22 "HeadBudgets$Memory" "oldest" "I", Cond.fieldLink RX4 35 "HeadBudgets$Memory" "latestNumber" "I", Cond.fieldLink RX4 42 "HeadBudgets$Deed" "before" "LHeadBudgets$Books;", Cond.fieldLink RX4 52 "HeadBudgets$Deed" "number" "I", Cond.fieldLink RX4 55 "HeadBudgets$Deed" "kind" "I", Cond.fieldLink RX4 58 "HeadBudgets$Deed" "subject" "I", Cond.fieldLink RX4 61 "HeadBudgets$Deed" "taker" "I"]
def wsX5_commit_r3 : List Cond := [Cond.fieldLink RX4 64 "HeadBudgets$Deed" "amount" "I", Cond.methodLink RX4 25 yJ9_floorMod_7cf53, Cond.static yJ9_floorMod_7cf53, Cond.initialized RJ9, Cond.code yJ9_floorMod_7cf53 cJ9_floorMod_7cf53 3 (some .int), Cond.methodLink RX4 38 yX4_recall, Cond.instanceMethod yX4_recall, Cond.selects RX4 yX4_recall yX4_recall, Cond.code yX4_recall cX4_recall 2 (some (.object "HeadBudgets$Deed")), Cond.fieldLink RX4 11 "HeadBudgets$Memory" "places" "[LHeadBudgets$Deed;", Cond.methodLink RX4 46 yX0_copyFrom, Cond.instanceMethod yX0_copyFrom, Cond.selects RX0 yX0_copyFrom yX0_copyFrom, Cond.initialized RX0, Cond.code yX0_copyFrom cX0_copyFrom 2 none, Cond.fieldLink RX0 12 "HeadBudgets$Books" "heads" "LHeadBudgets$Heads;", Cond.fieldLink RX0 21 "HeadBudgets$Books" "commitments" "LHeadBudgets$Commitments;", Cond.fieldLink RX0 36 "HeadBudgets$Books" "year" "I", Cond.fieldLink RX0 25 "HeadBudgets$Books" "carriedPart" "I", Cond.fieldLink RX0 39 "HeadBudgets$Books" "lapsed" "I", Cond.fieldLink RX0 42 "HeadBudgets$Books" "spent" "I", Cond.methodLink RX0 29 yX3_copyFrom, Cond.instanceMethod yX3_copyFrom, Cond.selects RX3 yX3_copyFrom yX3_copyFrom]
def wsX5_commit_r4 : List Cond := [Cond.code yX3_copyFrom cX3_copyFrom 2 none, Cond.methodLink RX3 42 arraycopyName, Cond.native arraycopyName, Cond.static arraycopyName, Cond.initialized "java/lang/System", Cond.fieldLink RX3 15 "HeadBudgets$Heads" "depth" "[I", Cond.fieldLink RX3 18 "HeadBudgets$Heads" "rank" "[I", Cond.fieldLink RX3 33 "HeadBudgets$Heads" "allotted" "[I", Cond.fieldLink RX3 36 "HeadBudgets$Heads" "left" "[I", Cond.fieldLink RX3 39 "HeadBudgets$Heads" "share" "[I", Cond.methodLink RX0 33 yX1_copyFrom, Cond.instanceMethod yX1_copyFrom, Cond.selects RX1 yX1_copyFrom yX1_copyFrom, Cond.initialized RX1, Cond.code yX1_copyFrom cX1_copyFrom 2 none, Cond.fieldLink RX1 9 "HeadBudgets$Commitments" "head" "[I", Cond.methodLink RX1 24 arraycopyName, Cond.fieldLink RX1 15 "HeadBudgets$Commitments" "open" "[I", Cond.fieldLink RX1 18 "HeadBudgets$Commitments" "paid" "[I", Cond.fieldLink RX1 21 "HeadBudgets$Commitments" "year" "[I", Cond.fieldLink RX1 30 "HeadBudgets$Commitments" "made" "I", Cond.methodLink RX5 93 yX3_changeCommitted, Cond.instanceMethod yX3_changeCommitted, Cond.selects RX3 yX3_changeCommitted yX3_changeCommitted]
def wsX5_commit_r5 : List Cond := [Cond.code yX3_changeCommitted cX3_changeCommitted 3 none, Cond.methodLink RX5 100 yX1_add, Cond.instanceMethod yX1_add, Cond.selects RX1 yX1_add yX1_add, Cond.code yX1_add cX1_add 5 (some .int)]
def wsX5_commit : List Cond := .code yX5_commit cX5_commit 4 (some .int) :: ((wsX5_commit_r1 ++ (wsX5_commit_r2 ++ (wsX5_commit_r3 ++ (wsX5_commit_r4 ++ wsX5_commit_r5)))) ++ wsX50 ++ wsX00 ++ wsX10 ++ wsX30 ++ wsX40 ++ wsX20)
def wsX5_pay_r1 : List Cond := [Cond.fieldLink RX5 10 "HeadBudgets" "now" "LHeadBudgets$Books;", Cond.fieldLink RX5 82 "HeadBudgets$Books" "commitments" "LHeadBudgets$Commitments;", Cond.fieldLink RX5 104 "HeadBudgets$Commitments" "open" "[I", Cond.fieldLink RX5 19 "HeadBudgets" "memory" "LHeadBudgets$Memory;", Cond.fieldLink RX5 107 "HeadBudgets$Commitments" "paid" "[I", Cond.fieldLink RX5 23 "HeadBudgets$Books" "heads" "LHeadBudgets$Heads;", Cond.fieldLink RX5 110 "HeadBudgets$Commitments" "head" "[I", Cond.fieldLink RX5 116 "HeadBudgets$Books" "spent" "I", Cond.methodLink RX5 103 yX1_has, Cond.instanceMethod yX1_has, Cond.selects RX1 yX1_has yX1_has, Cond.initialized RX1, Cond.code yX1_has cX1_has 2 (some .boolean), Cond.fieldLink RX1 30 "HeadBudgets$Commitments" "made" "I", Cond.methodLink RX5 49 yX5_isAmount, Cond.static yX5_isAmount, Cond.initialized RX5, Cond.code yX5_isAmount cX5_isAmount 1 (some .boolean), Cond.constant RX5 222 (100000), Cond.methodLink RX5 45 yX4_remember, Cond.instanceMethod yX4_remember, Cond.selects RX4 yX4_remember yX4_remember, Cond.initialized RX4, Cond.code yX4_remember cX4_remember 3 none]
def wsX5_pay_r2 : List Cond := [Cond.methodLink RX4 31 yX4_rememberWith, Cond.instanceMethod yX4_rememberWith, Cond.selects RX4 yX4_rememberWith yX4_rememberWith, Cond.code yX4_rememberWith cX4_rememberWith 7 none, Cond.fieldLink RX4 18 "HeadBudgets$Memory" "held" "I", Cond.fieldLink RX4 22 "HeadBudgets$Memory" "oldest" "I", Cond.fieldLink RX4 35 "HeadBudgets$Memory" "latestNumber" "I", Cond.fieldLink RX4 42 "HeadBudgets$Deed" "before" "LHeadBudgets$Books;", Cond.fieldLink RX4 52 "HeadBudgets$Deed" "number" "I", Cond.fieldLink RX4 55 "HeadBudgets$Deed" "kind" "I", Cond.fieldLink RX4 58 "HeadBudgets$Deed" "subject" "I", Cond.fieldLink RX4 61 "HeadBudgets$Deed" "taker" "I", Cond.fieldLink RX4 64 "HeadBudgets$Deed" "amount" "I", Cond.methodLink RX4 25 yJ9_floorMod_7cf53, Cond.static yJ9_floorMod_7cf53, Cond.initialized RJ9, Cond.code yJ9_floorMod_7cf53 cJ9_floorMod_7cf53 3 (some .int), Cond.methodLink RX4 38 yX4_recall, Cond.instanceMethod yX4_recall, Cond.selects RX4 yX4_recall yX4_recall, Cond.code yX4_recall cX4_recall 2 (some (.object "HeadBudgets$Deed")), Cond.fieldLink RX4 11 "HeadBudgets$Memory" "places" "[LHeadBudgets$Deed;", Cond.methodLink RX4 46 yX0_copyFrom, Cond.instanceMethod yX0_copyFrom]
def wsX5_pay_r3 : List Cond := [Cond.selects RX0 yX0_copyFrom yX0_copyFrom, Cond.initialized RX0, Cond.code yX0_copyFrom cX0_copyFrom 2 none, Cond.fieldLink RX0 12 "HeadBudgets$Books" "heads" "LHeadBudgets$Heads;", Cond.fieldLink RX0 21 "HeadBudgets$Books" "commitments" "LHeadBudgets$Commitments;", Cond.fieldLink RX0 36 "HeadBudgets$Books" "year" "I", Cond.fieldLink RX0 25 "HeadBudgets$Books" "carriedPart" "I", Cond.fieldLink RX0 39 "HeadBudgets$Books" "lapsed" "I", Cond.fieldLink RX0 42 "HeadBudgets$Books" "spent" "I", Cond.methodLink RX0 29 yX3_copyFrom, Cond.instanceMethod yX3_copyFrom, Cond.selects RX3 yX3_copyFrom yX3_copyFrom, Cond.initialized RX3, Cond.code yX3_copyFrom cX3_copyFrom 2 none, Cond.fieldLink RX3 9 "HeadBudgets$Heads" "above" "[I", Cond.methodLink RX3 42 arraycopyName, Cond.native arraycopyName, Cond.static arraycopyName, Cond.initialized "java/lang/System", Cond.fieldLink RX3 15 "HeadBudgets$Heads" "depth" "[I", Cond.fieldLink RX3 18 "HeadBudgets$Heads" "rank" "[I", Cond.fieldLink RX3 21 "HeadBudgets$Heads" "frozen" "[I", Cond.fieldLink RX3 24 "HeadBudgets$Heads" "allotment" "[I", Cond.fieldLink RX3 27 "HeadBudgets$Heads" "committed" "[I"]
def wsX5_pay_r4 : List Cond := [Cond.fieldLink RX3 30 "HeadBudgets$Heads" "spent" "[I", Cond.fieldLink RX3 33 "HeadBudgets$Heads" "allotted" "[I", Cond.fieldLink RX3 36 "HeadBudgets$Heads" "left" "[I", Cond.fieldLink RX3 39 "HeadBudgets$Heads" "share" "[I", Cond.fieldLink RX3 48 "HeadBudgets$Heads" "made" "I", Cond.methodLink RX0 33 yX1_copyFrom, Cond.instanceMethod yX1_copyFrom, Cond.selects RX1 yX1_copyFrom yX1_copyFrom, Cond.code yX1_copyFrom cX1_copyFrom 2 none, Cond.fieldLink RX1 9 "HeadBudgets$Commitments" "head" "[I", Cond.methodLink RX1 24 arraycopyName, Cond.fieldLink RX1 15 "HeadBudgets$Commitments" "open" "[I", Cond.fieldLink RX1 18 "HeadBudgets$Commitments" "paid" "[I", Cond.fieldLink RX1 21 "HeadBudgets$Commitments" "year" "[I", Cond.methodLink RX5 113 yX3_spendCommitted, Cond.instanceMethod yX3_spendCommitted, Cond.selects RX3 yX3_spendCommitted yX3_spendCommitted, Cond.code yX3_spendCommitted cX3_spendCommitted 3 none, Cond.methodLink RX3 52 yX3_has, Cond.instanceMethod yX3_has, Cond.selects RX3 yX3_has yX3_has, Cond.code yX3_has cX3_has 2 (some .boolean)]
def wsX5_pay : List Cond := .code yX5_pay cX5_pay 4 (some .int) :: ((wsX5_pay_r1 ++ (wsX5_pay_r2 ++ (wsX5_pay_r3 ++ wsX5_pay_r4))) ++ wsX50 ++ wsX00 ++ wsX10 ++ wsX40 ++ wsX20 ++ wsX30)
def wsX5_release_r1 : List Cond := [Cond.fieldLink RX5 10 "HeadBudgets" "now" "LHeadBudgets$Books;", Cond.fieldLink RX5 82 "HeadBudgets$Books" "commitments" "LHeadBudgets$Commitments;", Cond.fieldLink RX5 104 "HeadBudgets$Commitments" "open" "[I", Cond.fieldLink RX5 19 "HeadBudgets" "memory" "LHeadBudgets$Memory;", Cond.methodLink RX5 103 yX1_has, Cond.instanceMethod yX1_has, Cond.selects RX1 yX1_has yX1_has, Cond.initialized RX1, Cond.code yX1_has cX1_has 2 (some .boolean), Cond.fieldLink RX1 30 "HeadBudgets$Commitments" "made" "I", Cond.methodLink RX5 45 yX4_remember, Cond.instanceMethod yX4_remember, Cond.selects RX4 yX4_remember yX4_remember, Cond.initialized RX4, Cond.code yX4_remember cX4_remember 3 none, Cond.methodLink RX4 31 yX4_rememberWith, Cond.instanceMethod yX4_rememberWith, Cond.selects RX4 yX4_rememberWith yX4_rememberWith, Cond.code yX4_rememberWith cX4_rememberWith 7 none, Cond.fieldLink RX4 18 "HeadBudgets$Memory" "held" "I", Cond.fieldLink RX4 22 "HeadBudgets$Memory" "oldest" "I", Cond.fieldLink RX4 35 "HeadBudgets$Memory" "latestNumber" "I", Cond.fieldLink RX4 42 "HeadBudgets$Deed" "before" "LHeadBudgets$Books;", Cond.fieldLink RX4 52 "HeadBudgets$Deed" "number" "I"]
def wsX5_release_r2 : List Cond := [Cond.fieldLink RX4 55 "HeadBudgets$Deed" "kind" "I", Cond.fieldLink RX4 58 "HeadBudgets$Deed" "subject" "I", Cond.fieldLink RX4 61 "HeadBudgets$Deed" "taker" "I", Cond.fieldLink RX4 64 "HeadBudgets$Deed" "amount" "I", Cond.methodLink RX4 25 yJ9_floorMod_7cf53, Cond.static yJ9_floorMod_7cf53, Cond.initialized RJ9, Cond.code yJ9_floorMod_7cf53 cJ9_floorMod_7cf53 3 (some .int), Cond.methodLink RX4 38 yX4_recall, Cond.instanceMethod yX4_recall, Cond.selects RX4 yX4_recall yX4_recall, Cond.code yX4_recall cX4_recall 2 (some (.object "HeadBudgets$Deed")), Cond.fieldLink RX4 11 "HeadBudgets$Memory" "places" "[LHeadBudgets$Deed;", Cond.methodLink RX4 46 yX0_copyFrom, Cond.instanceMethod yX0_copyFrom, Cond.selects RX0 yX0_copyFrom yX0_copyFrom, Cond.initialized RX0, Cond.code yX0_copyFrom cX0_copyFrom 2 none, Cond.fieldLink RX0 12 "HeadBudgets$Books" "heads" "LHeadBudgets$Heads;", Cond.fieldLink RX0 21 "HeadBudgets$Books" "commitments" "LHeadBudgets$Commitments;", Cond.fieldLink RX0 36 "HeadBudgets$Books" "year" "I", Cond.fieldLink RX0 25 "HeadBudgets$Books" "carriedPart" "I", Cond.fieldLink RX0 39 "HeadBudgets$Books" "lapsed" "I", Cond.fieldLink RX0 42 "HeadBudgets$Books" "spent" "I"]
def wsX5_release_r3 : List Cond := [Cond.methodLink RX0 29 yX3_copyFrom, Cond.instanceMethod yX3_copyFrom, Cond.selects RX3 yX3_copyFrom yX3_copyFrom, Cond.initialized RX3, Cond.code yX3_copyFrom cX3_copyFrom 2 none, Cond.fieldLink RX3 9 "HeadBudgets$Heads" "above" "[I", Cond.methodLink RX3 42 arraycopyName, Cond.native arraycopyName, Cond.static arraycopyName, Cond.initialized "java/lang/System", Cond.fieldLink RX3 15 "HeadBudgets$Heads" "depth" "[I", Cond.fieldLink RX3 18 "HeadBudgets$Heads" "rank" "[I", Cond.fieldLink RX3 21 "HeadBudgets$Heads" "frozen" "[I", Cond.fieldLink RX3 24 "HeadBudgets$Heads" "allotment" "[I", Cond.fieldLink RX3 27 "HeadBudgets$Heads" "committed" "[I", Cond.fieldLink RX3 30 "HeadBudgets$Heads" "spent" "[I", Cond.fieldLink RX3 33 "HeadBudgets$Heads" "allotted" "[I", Cond.fieldLink RX3 36 "HeadBudgets$Heads" "left" "[I", Cond.fieldLink RX3 39 "HeadBudgets$Heads" "share" "[I", Cond.fieldLink RX3 48 "HeadBudgets$Heads" "made" "I", Cond.methodLink RX0 33 yX1_copyFrom, Cond.instanceMethod yX1_copyFrom, Cond.selects RX1 yX1_copyFrom yX1_copyFrom, Cond.code yX1_copyFrom cX1_copyFrom 2 none]
def wsX5_release_r4 : List Cond := [Cond.fieldLink RX1 9 "HeadBudgets$Commitments" "head" "[I", Cond.methodLink RX1 24 arraycopyName, Cond.fieldLink RX1 15 "HeadBudgets$Commitments" "open" "[I", Cond.fieldLink RX1 18 "HeadBudgets$Commitments" "paid" "[I", Cond.fieldLink RX1 21 "HeadBudgets$Commitments" "year" "[I", Cond.methodLink RX5 119 yX0_freeOpenOf, Cond.instanceMethod yX0_freeOpenOf, Cond.selects RX0 yX0_freeOpenOf yX0_freeOpenOf, Cond.code yX0_freeOpenOf cX0_freeOpenOf 3 (some .int), Cond.fieldLink RX0 49 "HeadBudgets$Commitments" "open" "[I", Cond.fieldLink RX0 53 "HeadBudgets$Commitments" "head" "[I", Cond.methodLink RX0 45 yX1_has, Cond.methodLink RX0 56 yX3_changeCommitted, Cond.instanceMethod yX3_changeCommitted, Cond.selects RX3 yX3_changeCommitted yX3_changeCommitted, Cond.code yX3_changeCommitted cX3_changeCommitted 3 none, Cond.methodLink RX3 52 yX3_has, Cond.instanceMethod yX3_has, Cond.selects RX3 yX3_has yX3_has, Cond.code yX3_has cX3_has 2 (some .boolean)]
def wsX5_release : List Cond := .code yX5_release cX5_release 2 (some .int) :: ((wsX5_release_r1 ++ (wsX5_release_r2 ++ (wsX5_release_r3 ++ wsX5_release_r4))) ++ wsX50 ++ wsX00 ++ wsX10 ++ wsX40 ++ wsX20 ++ wsX30)
def wsX5_vire_r1 : List Cond := [Cond.fieldLink RX5 10 "HeadBudgets" "now" "LHeadBudgets$Books;", Cond.fieldLink RX5 23 "HeadBudgets$Books" "heads" "LHeadBudgets$Heads;", Cond.fieldLink RX5 19 "HeadBudgets" "memory" "LHeadBudgets$Memory;", Cond.methodLink RX5 122 yX3_hasBoth, Cond.instanceMethod yX3_hasBoth, Cond.selects RX3 yX3_hasBoth yX3_hasBoth, Cond.initialized RX3, Cond.code yX3_hasBoth cX3_hasBoth 3 (some .boolean), Cond.methodLink RX3 52 yX3_has, Cond.instanceMethod yX3_has, Cond.selects RX3 yX3_has yX3_has, Cond.code yX3_has cX3_has 2 (some .boolean), Cond.fieldLink RX3 48 "HeadBudgets$Heads" "made" "I", Cond.methodLink RX5 49 yX5_isAmount, Cond.static yX5_isAmount, Cond.initialized RX5, Cond.code yX5_isAmount cX5_isAmount 1 (some .boolean), Cond.constant RX5 222 (100000), Cond.methodLink RX5 126 yX3_movable, Cond.instanceMethod yX3_movable, Cond.selects RX3 yX3_movable yX3_movable, Cond.code yX3_movable cX3_movable 5 (some .int), Cond.fieldLink RX3 33 "HeadBudgets$Heads" "allotted" "[I", Cond.fieldLink RX3 39 "HeadBudgets$Heads" "share" "[I"]
def wsX5_vire_r2 : List Cond := [Cond.fieldLink RX3 36 "HeadBudgets$Heads" "left" "[I", Cond.constant RX3 80 (100000), Cond.methodLink RX3 81 Lib.Math.min.name, Cond.static Lib.Math.min.name, Cond.initialized "java/lang/Math", Cond.code Lib.Math.min.name Lib.Math.min.code 2 (some .int), Cond.methodLink RX3 86 Lib.Math.max.name, Cond.static Lib.Math.max.name, Cond.code Lib.Math.max.name Lib.Math.max.code 2 (some .int), Cond.methodLink RX3 71 yX3_hasBoth, Cond.methodLink RX3 74 yX3_mayGive, Cond.instanceMethod yX3_mayGive, Cond.selects RX3 yX3_mayGive yX3_mayGive, Cond.code yX3_mayGive cX3_mayGive 4 (some .boolean), Cond.fieldLink RX3 9 "HeadBudgets$Heads" "above" "[I", Cond.fieldLink RX3 18 "HeadBudgets$Heads" "rank" "[I", Cond.methodLink RX3 56 yX3_isBarred, Cond.instanceMethod yX3_isBarred, Cond.selects RX3 yX3_isBarred yX3_isBarred, Cond.code yX3_isBarred cX3_isBarred 4 (some .boolean), Cond.fieldLink RX3 21 "HeadBudgets$Heads" "frozen" "[I", Cond.methodLink RX3 59 yX3_isWithin, Cond.instanceMethod yX3_isWithin, Cond.selects RX3 yX3_isWithin yX3_isWithin]
def wsX5_vire_r3 : List Cond := [Cond.code yX3_isWithin cX3_isWithin 5 (some .boolean), Cond.static yX5_partOf, Cond.code yX5_partOf cX5_partOf 2 (some .int), Cond.constantLong RX5 223 (100), Cond.methodLink RX3 67 yX3_freeOf, Cond.instanceMethod yX3_freeOf, Cond.selects RX3 yX3_freeOf yX3_freeOf, Cond.code yX3_freeOf cX3_freeOf 2 (some .int), Cond.fieldLink RX3 24 "HeadBudgets$Heads" "allotment" "[I", Cond.fieldLink RX3 27 "HeadBudgets$Heads" "committed" "[I", Cond.fieldLink RX3 30 "HeadBudgets$Heads" "spent" "[I", Cond.methodLink RX5 129 yX4_rememberVirement, Cond.instanceMethod yX4_rememberVirement, Cond.selects RX4 yX4_rememberVirement yX4_rememberVirement, Cond.initialized RX4, Cond.code yX4_rememberVirement cX4_rememberVirement 5 none, Cond.methodLink RX4 31 yX4_rememberWith, Cond.instanceMethod yX4_rememberWith, Cond.selects RX4 yX4_rememberWith yX4_rememberWith, Cond.code yX4_rememberWith cX4_rememberWith 7 none, Cond.fieldLink RX4 18 "HeadBudgets$Memory" "held" "I", Cond.fieldLink RX4 22 "HeadBudgets$Memory" "oldest" "I", Cond.fieldLink RX4 35 "HeadBudgets$Memory" "latestNumber" "I", Cond.fieldLink RX4 42 "HeadBudgets$Deed" "before" "LHeadBudgets$Books;"]
def wsX5_vire_r4 : List Cond := [Cond.fieldLink RX4 52 "HeadBudgets$Deed" "number" "I", Cond.fieldLink RX4 55 "HeadBudgets$Deed" "kind" "I", Cond.fieldLink RX4 58 "HeadBudgets$Deed" "subject" "I", Cond.fieldLink RX4 61 "HeadBudgets$Deed" "taker" "I", Cond.fieldLink RX4 64 "HeadBudgets$Deed" "amount" "I", Cond.methodLink RX4 25 yJ9_floorMod_7cf53, Cond.static yJ9_floorMod_7cf53, Cond.initialized RJ9, Cond.code yJ9_floorMod_7cf53 cJ9_floorMod_7cf53 3 (some .int), Cond.methodLink RX4 38 yX4_recall, Cond.instanceMethod yX4_recall, Cond.selects RX4 yX4_recall yX4_recall, Cond.code yX4_recall cX4_recall 2 (some (.object "HeadBudgets$Deed")), Cond.fieldLink RX4 11 "HeadBudgets$Memory" "places" "[LHeadBudgets$Deed;", Cond.methodLink RX4 46 yX0_copyFrom, Cond.instanceMethod yX0_copyFrom, Cond.selects RX0 yX0_copyFrom yX0_copyFrom, Cond.initialized RX0, Cond.code yX0_copyFrom cX0_copyFrom 2 none, Cond.fieldLink RX0 12 "HeadBudgets$Books" "heads" "LHeadBudgets$Heads;", Cond.fieldLink RX0 21 "HeadBudgets$Books" "commitments" "LHeadBudgets$Commitments;", Cond.fieldLink RX0 36 "HeadBudgets$Books" "year" "I", Cond.fieldLink RX0 25 "HeadBudgets$Books" "carriedPart" "I", Cond.fieldLink RX0 39 "HeadBudgets$Books" "lapsed" "I"]
def wsX5_vire_r5 : List Cond := [Cond.fieldLink RX0 42 "HeadBudgets$Books" "spent" "I", Cond.methodLink RX0 29 yX3_copyFrom, Cond.instanceMethod yX3_copyFrom, Cond.selects RX3 yX3_copyFrom yX3_copyFrom, Cond.code yX3_copyFrom cX3_copyFrom 2 none, Cond.methodLink RX3 42 arraycopyName, Cond.native arraycopyName, Cond.static arraycopyName, Cond.initialized "java/lang/System", Cond.fieldLink RX3 15 "HeadBudgets$Heads" "depth" "[I", Cond.methodLink RX0 33 yX1_copyFrom, Cond.instanceMethod yX1_copyFrom, Cond.selects RX1 yX1_copyFrom yX1_copyFrom, Cond.initialized RX1, Cond.code yX1_copyFrom cX1_copyFrom 2 none, Cond.fieldLink RX1 9 "HeadBudgets$Commitments" "head" "[I", Cond.methodLink RX1 24 arraycopyName, Cond.fieldLink RX1 15 "HeadBudgets$Commitments" "open" "[I", Cond.fieldLink RX1 18 "HeadBudgets$Commitments" "paid" "[I", Cond.fieldLink RX1 21 "HeadBudgets$Commitments" "year" "[I", Cond.fieldLink RX1 30 "HeadBudgets$Commitments" "made" "I", Cond.methodLink RX5 133 yX3_moveByVirement, Cond.instanceMethod yX3_moveByVirement, Cond.selects RX3 yX3_moveByVirement yX3_moveByVirement]
def wsX5_vire_r6 : List Cond := [Cond.code yX3_moveByVirement cX3_moveByVirement 4 none, Cond.methodLink RX5 78 yX3_freeOf]
def wsX5_vire : List Cond := .code yX5_vire cX5_vire 5 (some .int) :: ((wsX5_vire_r1 ++ (wsX5_vire_r2 ++ (wsX5_vire_r3 ++ (wsX5_vire_r4 ++ (wsX5_vire_r5 ++ wsX5_vire_r6))))) ++ wsX50 ++ wsX00 ++ wsX30 ++ wsX40 ++ wsX20 ++ wsX10)
def wsX5_endYear_r1 : List Cond := [Cond.fieldLink RX5 10 "HeadBudgets" "now" "LHeadBudgets$Books;", Cond.fieldLink RX5 97 "HeadBudgets$Books" "year" "I", Cond.fieldLink RX5 19 "HeadBudgets" "memory" "LHeadBudgets$Memory;", Cond.fieldLink RX5 23 "HeadBudgets$Books" "heads" "LHeadBudgets$Heads;", Cond.fieldLink RX5 72 "HeadBudgets$Books" "carriedPart" "I", Cond.fieldLink RX5 144 "HeadBudgets$Books" "lapsed" "I", Cond.methodLink RX5 45 yX4_remember, Cond.instanceMethod yX4_remember, Cond.selects RX4 yX4_remember yX4_remember, Cond.initialized RX4, Cond.code yX4_remember cX4_remember 3 none, Cond.methodLink RX4 31 yX4_rememberWith, Cond.instanceMethod yX4_rememberWith, Cond.selects RX4 yX4_rememberWith yX4_rememberWith, Cond.code yX4_rememberWith cX4_rememberWith 7 none, Cond.fieldLink RX4 18 "HeadBudgets$Memory" "held" "I", Cond.fieldLink RX4 22 "HeadBudgets$Memory" "oldest" "I", Cond.fieldLink RX4 35 "HeadBudgets$Memory" "latestNumber" "I", Cond.fieldLink RX4 42 "HeadBudgets$Deed" "before" "LHeadBudgets$Books;", Cond.fieldLink RX4 52 "HeadBudgets$Deed" "number" "I", Cond.fieldLink RX4 55 "HeadBudgets$Deed" "kind" "I", Cond.fieldLink RX4 58 "HeadBudgets$Deed" "subject" "I", Cond.fieldLink RX4 61 "HeadBudgets$Deed" "taker" "I", Cond.fieldLink RX4 64 "HeadBudgets$Deed" "amount" "I"]
def wsX5_endYear_r2 : List Cond := [Cond.methodLink RX4 25 yJ9_floorMod_7cf53, Cond.static yJ9_floorMod_7cf53, Cond.initialized RJ9, Cond.code yJ9_floorMod_7cf53 cJ9_floorMod_7cf53 3 (some .int), Cond.methodLink RX4 38 yX4_recall, Cond.instanceMethod yX4_recall, Cond.selects RX4 yX4_recall yX4_recall, Cond.code yX4_recall cX4_recall 2 (some (.object "HeadBudgets$Deed")), Cond.fieldLink RX4 11 "HeadBudgets$Memory" "places" "[LHeadBudgets$Deed;", Cond.methodLink RX4 46 yX0_copyFrom, Cond.instanceMethod yX0_copyFrom, Cond.selects RX0 yX0_copyFrom yX0_copyFrom, Cond.initialized RX0, Cond.code yX0_copyFrom cX0_copyFrom 2 none, Cond.fieldLink RX0 12 "HeadBudgets$Books" "heads" "LHeadBudgets$Heads;", Cond.fieldLink RX0 21 "HeadBudgets$Books" "commitments" "LHeadBudgets$Commitments;", Cond.fieldLink RX0 36 "HeadBudgets$Books" "year" "I", Cond.fieldLink RX0 25 "HeadBudgets$Books" "carriedPart" "I", Cond.fieldLink RX0 39 "HeadBudgets$Books" "lapsed" "I", Cond.fieldLink RX0 42 "HeadBudgets$Books" "spent" "I", Cond.methodLink RX0 29 yX3_copyFrom, Cond.instanceMethod yX3_copyFrom, Cond.selects RX3 yX3_copyFrom yX3_copyFrom, Cond.initialized RX3]
def wsX5_endYear_r3 : List Cond := [Cond.code yX3_copyFrom cX3_copyFrom 2 none, Cond.fieldLink RX3 9 "HeadBudgets$Heads" "above" "[I", Cond.methodLink RX3 42 arraycopyName, Cond.native arraycopyName, Cond.static arraycopyName, Cond.initialized "java/lang/System", Cond.fieldLink RX3 15 "HeadBudgets$Heads" "depth" "[I", Cond.fieldLink RX3 18 "HeadBudgets$Heads" "rank" "[I", Cond.fieldLink RX3 21 "HeadBudgets$Heads" "frozen" "[I", Cond.fieldLink RX3 24 "HeadBudgets$Heads" "allotment" "[I", Cond.fieldLink RX3 27 "HeadBudgets$Heads" "committed" "[I", Cond.fieldLink RX3 30 "HeadBudgets$Heads" "spent" "[I", Cond.fieldLink RX3 33 "HeadBudgets$Heads" "allotted" "[I", Cond.fieldLink RX3 36 "HeadBudgets$Heads" "left" "[I", Cond.fieldLink RX3 39 "HeadBudgets$Heads" "share" "[I", Cond.fieldLink RX3 48 "HeadBudgets$Heads" "made" "I", Cond.methodLink RX0 33 yX1_copyFrom, Cond.instanceMethod yX1_copyFrom, Cond.selects RX1 yX1_copyFrom yX1_copyFrom, Cond.initialized RX1, Cond.code yX1_copyFrom cX1_copyFrom 2 none, Cond.fieldLink RX1 9 "HeadBudgets$Commitments" "head" "[I", Cond.methodLink RX1 24 arraycopyName, Cond.fieldLink RX1 15 "HeadBudgets$Commitments" "open" "[I"]
def wsX5_endYear_r4 : List Cond := [Cond.fieldLink RX1 18 "HeadBudgets$Commitments" "paid" "[I", Cond.fieldLink RX1 21 "HeadBudgets$Commitments" "year" "[I", Cond.fieldLink RX1 30 "HeadBudgets$Commitments" "made" "I", Cond.methodLink RX5 137 yX3_lapseWithin, Cond.instanceMethod yX3_lapseWithin, Cond.selects RX3 yX3_lapseWithin yX3_lapseWithin, Cond.code yX3_lapseWithin cX3_lapseWithin 6 (some .int), Cond.methodLink RX3 59 yX3_isWithin, Cond.instanceMethod yX3_isWithin, Cond.selects RX3 yX3_isWithin yX3_isWithin, Cond.code yX3_isWithin cX3_isWithin 5 (some .boolean), Cond.methodLink RX3 52 yX3_has, Cond.instanceMethod yX3_has, Cond.selects RX3 yX3_has yX3_has, Cond.code yX3_has cX3_has 2 (some .boolean), Cond.methodLink RX3 67 yX3_freeOf, Cond.instanceMethod yX3_freeOf, Cond.selects RX3 yX3_freeOf yX3_freeOf, Cond.code yX3_freeOf cX3_freeOf 2 (some .int), Cond.static yX5_partOf, Cond.initialized RX5, Cond.code yX5_partOf cX5_partOf 2 (some .int), Cond.constantLong RX5 223 (100), Cond.methodLink RX5 140 yX3_carryForward]
def wsX5_endYear_r5 : List Cond := [Cond.instanceMethod yX3_carryForward, Cond.selects RX3 yX3_carryForward yX3_carryForward, Cond.code yX3_carryForward cX3_carryForward 4 none]
def wsX5_endYear : List Cond := .code yX5_endYear cX5_endYear 2 (some .int) :: ((wsX5_endYear_r1 ++ (wsX5_endYear_r2 ++ (wsX5_endYear_r3 ++ (wsX5_endYear_r4 ++ wsX5_endYear_r5)))) ++ wsX50 ++ wsX00 ++ wsX40 ++ wsX20 ++ wsX30 ++ wsX10)
def wsX5_undo_r1 : List Cond := [Cond.fieldLink RX5 19 "HeadBudgets" "memory" "LHeadBudgets$Memory;", Cond.fieldLink RX5 10 "HeadBudgets" "now" "LHeadBudgets$Books;", Cond.fieldLink RX5 151 "HeadBudgets$Deed" "before" "LHeadBudgets$Books;", Cond.methodLink RX5 147 yX4_recall, Cond.instanceMethod yX4_recall, Cond.selects RX4 yX4_recall yX4_recall, Cond.initialized RX4, Cond.code yX4_recall cX4_recall 2 (some (.object "HeadBudgets$Deed")), Cond.fieldLink RX4 18 "HeadBudgets$Memory" "held" "I", Cond.fieldLink RX4 11 "HeadBudgets$Memory" "places" "[LHeadBudgets$Deed;", Cond.fieldLink RX4 22 "HeadBudgets$Memory" "oldest" "I", Cond.methodLink RX4 25 yJ9_floorMod_7cf53, Cond.static yJ9_floorMod_7cf53, Cond.initialized RJ9, Cond.code yJ9_floorMod_7cf53 cJ9_floorMod_7cf53 3 (some .int), Cond.methodLink RX5 156 yX0_copyFrom, Cond.instanceMethod yX0_copyFrom, Cond.selects RX0 yX0_copyFrom yX0_copyFrom, Cond.initialized RX0, Cond.code yX0_copyFrom cX0_copyFrom 2 none, Cond.fieldLink RX0 12 "HeadBudgets$Books" "heads" "LHeadBudgets$Heads;", Cond.fieldLink RX0 21 "HeadBudgets$Books" "commitments" "LHeadBudgets$Commitments;", Cond.fieldLink RX0 36 "HeadBudgets$Books" "year" "I", Cond.fieldLink RX0 25 "HeadBudgets$Books" "carriedPart" "I"]
def wsX5_undo_r2 : List Cond := [Cond.fieldLink RX0 39 "HeadBudgets$Books" "lapsed" "I", Cond.fieldLink RX0 42 "HeadBudgets$Books" "spent" "I", Cond.methodLink RX0 29 yX3_copyFrom, Cond.instanceMethod yX3_copyFrom, Cond.selects RX3 yX3_copyFrom yX3_copyFrom, Cond.initialized RX3, Cond.code yX3_copyFrom cX3_copyFrom 2 none, Cond.fieldLink RX3 9 "HeadBudgets$Heads" "above" "[I", Cond.methodLink RX3 42 arraycopyName, Cond.native arraycopyName, Cond.static arraycopyName, Cond.initialized "java/lang/System", Cond.fieldLink RX3 15 "HeadBudgets$Heads" "depth" "[I", Cond.fieldLink RX3 18 "HeadBudgets$Heads" "rank" "[I", Cond.fieldLink RX3 21 "HeadBudgets$Heads" "frozen" "[I", Cond.fieldLink RX3 24 "HeadBudgets$Heads" "allotment" "[I", Cond.fieldLink RX3 27 "HeadBudgets$Heads" "committed" "[I", Cond.fieldLink RX3 30 "HeadBudgets$Heads" "spent" "[I", Cond.fieldLink RX3 33 "HeadBudgets$Heads" "allotted" "[I", Cond.fieldLink RX3 36 "HeadBudgets$Heads" "left" "[I", Cond.fieldLink RX3 39 "HeadBudgets$Heads" "share" "[I", Cond.fieldLink RX3 48 "HeadBudgets$Heads" "made" "I", Cond.methodLink RX0 33 yX1_copyFrom, Cond.instanceMethod yX1_copyFrom]
def wsX5_undo_r3 : List Cond := [Cond.selects RX1 yX1_copyFrom yX1_copyFrom, Cond.initialized RX1, Cond.code yX1_copyFrom cX1_copyFrom 2 none, Cond.fieldLink RX1 9 "HeadBudgets$Commitments" "head" "[I", Cond.methodLink RX1 24 arraycopyName, Cond.fieldLink RX1 15 "HeadBudgets$Commitments" "open" "[I", Cond.fieldLink RX1 18 "HeadBudgets$Commitments" "paid" "[I", Cond.fieldLink RX1 21 "HeadBudgets$Commitments" "year" "[I", Cond.fieldLink RX1 30 "HeadBudgets$Commitments" "made" "I", Cond.methodLink RX5 160 yX4_forgetLatest, Cond.instanceMethod yX4_forgetLatest, Cond.selects RX4 yX4_forgetLatest yX4_forgetLatest, Cond.code yX4_forgetLatest cX4_forgetLatest 1 (some .int)]
def wsX5_undo : List Cond := .code yX5_undo cX5_undo 2 (some .int) :: ((wsX5_undo_r1 ++ (wsX5_undo_r2 ++ wsX5_undo_r3)) ++ wsX50 ++ wsX20 ++ wsX40 ++ wsX00 ++ wsX30 ++ wsX10)
def wsX5_revokeVirement_r1 : List Cond := [Cond.fieldLink RX5 10 "HeadBudgets" "now" "LHeadBudgets$Books;", Cond.fieldLink RX5 23 "HeadBudgets$Books" "heads" "LHeadBudgets$Heads;", Cond.fieldLink RX5 19 "HeadBudgets" "memory" "LHeadBudgets$Memory;", Cond.methodLink RX5 78 yX3_freeOf, Cond.instanceMethod yX3_freeOf, Cond.selects RX3 yX3_freeOf yX3_freeOf, Cond.initialized RX3, Cond.code yX3_freeOf cX3_freeOf 2 (some .int), Cond.fieldLink RX3 24 "HeadBudgets$Heads" "allotment" "[I", Cond.fieldLink RX3 27 "HeadBudgets$Heads" "committed" "[I", Cond.fieldLink RX3 30 "HeadBudgets$Heads" "spent" "[I", Cond.methodLink RX3 52 yX3_has, Cond.instanceMethod yX3_has, Cond.selects RX3 yX3_has yX3_has, Cond.code yX3_has cX3_has 2 (some .boolean), Cond.fieldLink RX3 48 "HeadBudgets$Heads" "made" "I", Cond.methodLink RX5 188 yX4_rememberRevoking, Cond.instanceMethod yX4_rememberRevoking, Cond.selects RX4 yX4_rememberRevoking yX4_rememberRevoking, Cond.initialized RX4, Cond.code yX4_rememberRevoking cX4_rememberRevoking 3 none, Cond.methodLink RX4 31 yX4_rememberWith, Cond.instanceMethod yX4_rememberWith, Cond.selects RX4 yX4_rememberWith yX4_rememberWith]
def wsX5_revokeVirement_r2 : List Cond := [Cond.code yX4_rememberWith cX4_rememberWith 7 none, Cond.fieldLink RX4 18 "HeadBudgets$Memory" "held" "I", Cond.fieldLink RX4 22 "HeadBudgets$Memory" "oldest" "I", Cond.fieldLink RX4 35 "HeadBudgets$Memory" "latestNumber" "I", Cond.fieldLink RX4 42 "HeadBudgets$Deed" "before" "LHeadBudgets$Books;", Cond.fieldLink RX4 52 "HeadBudgets$Deed" "number" "I", Cond.fieldLink RX4 55 "HeadBudgets$Deed" "kind" "I", Cond.fieldLink RX4 58 "HeadBudgets$Deed" "subject" "I", Cond.fieldLink RX4 61 "HeadBudgets$Deed" "taker" "I", Cond.fieldLink RX4 64 "HeadBudgets$Deed" "amount" "I", Cond.methodLink RX4 25 yJ9_floorMod_7cf53, Cond.static yJ9_floorMod_7cf53, Cond.initialized RJ9, Cond.code yJ9_floorMod_7cf53 cJ9_floorMod_7cf53 3 (some .int), Cond.methodLink RX4 38 yX4_recall, Cond.instanceMethod yX4_recall, Cond.selects RX4 yX4_recall yX4_recall, Cond.code yX4_recall cX4_recall 2 (some (.object "HeadBudgets$Deed")), Cond.fieldLink RX4 11 "HeadBudgets$Memory" "places" "[LHeadBudgets$Deed;", Cond.methodLink RX4 46 yX0_copyFrom, Cond.instanceMethod yX0_copyFrom, Cond.selects RX0 yX0_copyFrom yX0_copyFrom, Cond.initialized RX0, Cond.code yX0_copyFrom cX0_copyFrom 2 none]
def wsX5_revokeVirement_r3 : List Cond := [Cond.fieldLink RX0 12 "HeadBudgets$Books" "heads" "LHeadBudgets$Heads;", Cond.fieldLink RX0 21 "HeadBudgets$Books" "commitments" "LHeadBudgets$Commitments;", Cond.fieldLink RX0 36 "HeadBudgets$Books" "year" "I", Cond.fieldLink RX0 25 "HeadBudgets$Books" "carriedPart" "I", Cond.fieldLink RX0 39 "HeadBudgets$Books" "lapsed" "I", Cond.fieldLink RX0 42 "HeadBudgets$Books" "spent" "I", Cond.methodLink RX0 29 yX3_copyFrom, Cond.instanceMethod yX3_copyFrom, Cond.selects RX3 yX3_copyFrom yX3_copyFrom, Cond.code yX3_copyFrom cX3_copyFrom 2 none, Cond.fieldLink RX3 9 "HeadBudgets$Heads" "above" "[I", Cond.methodLink RX3 42 arraycopyName, Cond.native arraycopyName, Cond.static arraycopyName, Cond.initialized "java/lang/System", Cond.fieldLink RX3 15 "HeadBudgets$Heads" "depth" "[I", Cond.fieldLink RX3 18 "HeadBudgets$Heads" "rank" "[I", Cond.fieldLink RX3 21 "HeadBudgets$Heads" "frozen" "[I", Cond.fieldLink RX3 33 "HeadBudgets$Heads" "allotted" "[I", Cond.fieldLink RX3 36 "HeadBudgets$Heads" "left" "[I", Cond.fieldLink RX3 39 "HeadBudgets$Heads" "share" "[I", Cond.methodLink RX0 33 yX1_copyFrom, Cond.instanceMethod yX1_copyFrom, Cond.selects RX1 yX1_copyFrom yX1_copyFrom]
def wsX5_revokeVirement_r4 : List Cond := [Cond.initialized RX1, Cond.code yX1_copyFrom cX1_copyFrom 2 none, Cond.fieldLink RX1 9 "HeadBudgets$Commitments" "head" "[I", Cond.methodLink RX1 24 arraycopyName, Cond.fieldLink RX1 15 "HeadBudgets$Commitments" "open" "[I", Cond.fieldLink RX1 18 "HeadBudgets$Commitments" "paid" "[I", Cond.fieldLink RX1 21 "HeadBudgets$Commitments" "year" "[I", Cond.fieldLink RX1 30 "HeadBudgets$Commitments" "made" "I", Cond.methodLink RX5 133 yX3_moveByVirement, Cond.instanceMethod yX3_moveByVirement, Cond.selects RX3 yX3_moveByVirement yX3_moveByVirement, Cond.code yX3_moveByVirement cX3_moveByVirement 4 none, Cond.methodLink RX3 71 yX3_hasBoth, Cond.instanceMethod yX3_hasBoth, Cond.selects RX3 yX3_hasBoth yX3_hasBoth, Cond.code yX3_hasBoth cX3_hasBoth 3 (some .boolean)]
def wsX5_revokeVirement : List Cond := .code yX5_revokeVirement cX5_revokeVirement 5 (some .int) :: ((wsX5_revokeVirement_r1 ++ (wsX5_revokeVirement_r2 ++ (wsX5_revokeVirement_r3 ++ wsX5_revokeVirement_r4))) ++ wsX50 ++ wsX00 ++ wsX30 ++ wsX40 ++ wsX20 ++ wsX10)
def wsX5_revokeCommitment_r1 : List Cond := [Cond.fieldLink RX5 10 "HeadBudgets" "now" "LHeadBudgets$Books;", Cond.fieldLink RX5 82 "HeadBudgets$Books" "commitments" "LHeadBudgets$Commitments;", Cond.fieldLink RX5 104 "HeadBudgets$Commitments" "open" "[I", Cond.fieldLink RX5 19 "HeadBudgets" "memory" "LHeadBudgets$Memory;", Cond.methodLink RX5 103 yX1_has, Cond.instanceMethod yX1_has, Cond.selects RX1 yX1_has yX1_has, Cond.initialized RX1, Cond.code yX1_has cX1_has 2 (some .boolean), Cond.fieldLink RX1 30 "HeadBudgets$Commitments" "made" "I", Cond.methodLink RX5 188 yX4_rememberRevoking, Cond.instanceMethod yX4_rememberRevoking, Cond.selects RX4 yX4_rememberRevoking yX4_rememberRevoking, Cond.initialized RX4, Cond.code yX4_rememberRevoking cX4_rememberRevoking 3 none, Cond.methodLink RX4 31 yX4_rememberWith, Cond.instanceMethod yX4_rememberWith, Cond.selects RX4 yX4_rememberWith yX4_rememberWith, Cond.code yX4_rememberWith cX4_rememberWith 7 none, Cond.fieldLink RX4 18 "HeadBudgets$Memory" "held" "I", Cond.fieldLink RX4 22 "HeadBudgets$Memory" "oldest" "I", Cond.fieldLink RX4 35 "HeadBudgets$Memory" "latestNumber" "I", Cond.fieldLink RX4 42 "HeadBudgets$Deed" "before" "LHeadBudgets$Books;", Cond.fieldLink RX4 52 "HeadBudgets$Deed" "number" "I"]
def wsX5_revokeCommitment_r2 : List Cond := [Cond.fieldLink RX4 55 "HeadBudgets$Deed" "kind" "I", Cond.fieldLink RX4 58 "HeadBudgets$Deed" "subject" "I", Cond.fieldLink RX4 61 "HeadBudgets$Deed" "taker" "I", Cond.fieldLink RX4 64 "HeadBudgets$Deed" "amount" "I", Cond.methodLink RX4 25 yJ9_floorMod_7cf53, Cond.static yJ9_floorMod_7cf53, Cond.initialized RJ9, Cond.code yJ9_floorMod_7cf53 cJ9_floorMod_7cf53 3 (some .int), Cond.methodLink RX4 38 yX4_recall, Cond.instanceMethod yX4_recall, Cond.selects RX4 yX4_recall yX4_recall, Cond.code yX4_recall cX4_recall 2 (some (.object "HeadBudgets$Deed")), Cond.fieldLink RX4 11 "HeadBudgets$Memory" "places" "[LHeadBudgets$Deed;", Cond.methodLink RX4 46 yX0_copyFrom, Cond.instanceMethod yX0_copyFrom, Cond.selects RX0 yX0_copyFrom yX0_copyFrom, Cond.initialized RX0, Cond.code yX0_copyFrom cX0_copyFrom 2 none, Cond.fieldLink RX0 12 "HeadBudgets$Books" "heads" "LHeadBudgets$Heads;", Cond.fieldLink RX0 21 "HeadBudgets$Books" "commitments" "LHeadBudgets$Commitments;", Cond.fieldLink RX0 36 "HeadBudgets$Books" "year" "I", Cond.fieldLink RX0 25 "HeadBudgets$Books" "carriedPart" "I", Cond.fieldLink RX0 39 "HeadBudgets$Books" "lapsed" "I", Cond.fieldLink RX0 42 "HeadBudgets$Books" "spent" "I"]
def wsX5_revokeCommitment_r3 : List Cond := [Cond.methodLink RX0 29 yX3_copyFrom, Cond.instanceMethod yX3_copyFrom, Cond.selects RX3 yX3_copyFrom yX3_copyFrom, Cond.initialized RX3, Cond.code yX3_copyFrom cX3_copyFrom 2 none, Cond.fieldLink RX3 9 "HeadBudgets$Heads" "above" "[I", Cond.methodLink RX3 42 arraycopyName, Cond.native arraycopyName, Cond.static arraycopyName, Cond.initialized "java/lang/System", Cond.fieldLink RX3 15 "HeadBudgets$Heads" "depth" "[I", Cond.fieldLink RX3 18 "HeadBudgets$Heads" "rank" "[I", Cond.fieldLink RX3 21 "HeadBudgets$Heads" "frozen" "[I", Cond.fieldLink RX3 24 "HeadBudgets$Heads" "allotment" "[I", Cond.fieldLink RX3 27 "HeadBudgets$Heads" "committed" "[I", Cond.fieldLink RX3 30 "HeadBudgets$Heads" "spent" "[I", Cond.fieldLink RX3 33 "HeadBudgets$Heads" "allotted" "[I", Cond.fieldLink RX3 36 "HeadBudgets$Heads" "left" "[I", Cond.fieldLink RX3 39 "HeadBudgets$Heads" "share" "[I", Cond.fieldLink RX3 48 "HeadBudgets$Heads" "made" "I", Cond.methodLink RX0 33 yX1_copyFrom, Cond.instanceMethod yX1_copyFrom, Cond.selects RX1 yX1_copyFrom yX1_copyFrom, Cond.code yX1_copyFrom cX1_copyFrom 2 none]
def wsX5_revokeCommitment_r4 : List Cond := [Cond.fieldLink RX1 9 "HeadBudgets$Commitments" "head" "[I", Cond.methodLink RX1 24 arraycopyName, Cond.fieldLink RX1 15 "HeadBudgets$Commitments" "open" "[I", Cond.fieldLink RX1 18 "HeadBudgets$Commitments" "paid" "[I", Cond.fieldLink RX1 21 "HeadBudgets$Commitments" "year" "[I", Cond.methodLink RX5 119 yX0_freeOpenOf, Cond.instanceMethod yX0_freeOpenOf, Cond.selects RX0 yX0_freeOpenOf yX0_freeOpenOf, Cond.code yX0_freeOpenOf cX0_freeOpenOf 3 (some .int), Cond.fieldLink RX0 49 "HeadBudgets$Commitments" "open" "[I", Cond.fieldLink RX0 53 "HeadBudgets$Commitments" "head" "[I", Cond.methodLink RX0 45 yX1_has, Cond.methodLink RX0 56 yX3_changeCommitted, Cond.instanceMethod yX3_changeCommitted, Cond.selects RX3 yX3_changeCommitted yX3_changeCommitted, Cond.code yX3_changeCommitted cX3_changeCommitted 3 none, Cond.methodLink RX3 52 yX3_has, Cond.instanceMethod yX3_has, Cond.selects RX3 yX3_has yX3_has, Cond.code yX3_has cX3_has 2 (some .boolean)]
def wsX5_revokeCommitment : List Cond := .code yX5_revokeCommitment cX5_revokeCommitment 3 (some .int) :: ((wsX5_revokeCommitment_r1 ++ (wsX5_revokeCommitment_r2 ++ (wsX5_revokeCommitment_r3 ++ wsX5_revokeCommitment_r4))) ++ wsX50 ++ wsX00 ++ wsX10 ++ wsX40 ++ wsX20 ++ wsX30)
def wsX5_revoke_r1 : List Cond := [Cond.fieldLink RX5 19 "HeadBudgets" "memory" "LHeadBudgets$Memory;", Cond.fieldLink RX5 151 "HeadBudgets$Deed" "before" "LHeadBudgets$Books;", Cond.fieldLink RX5 97 "HeadBudgets$Books" "year" "I", Cond.fieldLink RX5 10 "HeadBudgets" "now" "LHeadBudgets$Books;", Cond.fieldLink RX5 163 "HeadBudgets$Deed" "number" "I", Cond.fieldLink RX5 169 "HeadBudgets$Deed" "kind" "I", Cond.fieldLink RX5 172 "HeadBudgets$Deed" "subject" "I", Cond.fieldLink RX5 175 "HeadBudgets$Deed" "taker" "I", Cond.fieldLink RX5 178 "HeadBudgets$Deed" "amount" "I", Cond.methodLink RX5 147 yX4_recall, Cond.instanceMethod yX4_recall, Cond.selects RX4 yX4_recall yX4_recall, Cond.initialized RX4, Cond.code yX4_recall cX4_recall 2 (some (.object "HeadBudgets$Deed")), Cond.fieldLink RX4 18 "HeadBudgets$Memory" "held" "I", Cond.fieldLink RX4 11 "HeadBudgets$Memory" "places" "[LHeadBudgets$Deed;", Cond.fieldLink RX4 22 "HeadBudgets$Memory" "oldest" "I", Cond.methodLink RX4 25 yJ9_floorMod_7cf53, Cond.static yJ9_floorMod_7cf53, Cond.initialized RJ9, Cond.code yJ9_floorMod_7cf53 cJ9_floorMod_7cf53 3 (some .int), Cond.methodLink RX5 166 yX4_wasRevoked, Cond.instanceMethod yX4_wasRevoked, Cond.selects RX4 yX4_wasRevoked yX4_wasRevoked]
def wsX5_revoke_r2 : List Cond := [Cond.code yX4_wasRevoked cX4_wasRevoked 4 (some .boolean), Cond.fieldLink RX4 55 "HeadBudgets$Deed" "kind" "I", Cond.fieldLink RX4 58 "HeadBudgets$Deed" "subject" "I", Cond.methodLink RX4 38 yX4_recall, Cond.methodLink RX5 181 yX5_revokeVirement, Cond.instanceMethod yX5_revokeVirement, Cond.selects RX5 yX5_revokeVirement yX5_revokeVirement, Cond.initialized RX5, Cond.code yX5_revokeVirement cX5_revokeVirement 5 (some .int), Cond.fieldLink RX5 23 "HeadBudgets$Books" "heads" "LHeadBudgets$Heads;", Cond.methodLink RX5 78 yX3_freeOf, Cond.instanceMethod yX3_freeOf, Cond.selects RX3 yX3_freeOf yX3_freeOf, Cond.initialized RX3, Cond.code yX3_freeOf cX3_freeOf 2 (some .int), Cond.fieldLink RX3 24 "HeadBudgets$Heads" "allotment" "[I", Cond.fieldLink RX3 27 "HeadBudgets$Heads" "committed" "[I", Cond.fieldLink RX3 30 "HeadBudgets$Heads" "spent" "[I", Cond.methodLink RX3 52 yX3_has, Cond.instanceMethod yX3_has, Cond.selects RX3 yX3_has yX3_has, Cond.code yX3_has cX3_has 2 (some .boolean), Cond.fieldLink RX3 48 "HeadBudgets$Heads" "made" "I", Cond.methodLink RX5 188 yX4_rememberRevoking]
def wsX5_revoke_r3 : List Cond := [Cond.instanceMethod yX4_rememberRevoking, Cond.selects RX4 yX4_rememberRevoking yX4_rememberRevoking, Cond.code yX4_rememberRevoking cX4_rememberRevoking 3 none, Cond.methodLink RX4 31 yX4_rememberWith, Cond.instanceMethod yX4_rememberWith, Cond.selects RX4 yX4_rememberWith yX4_rememberWith, Cond.code yX4_rememberWith cX4_rememberWith 7 none, Cond.fieldLink RX4 35 "HeadBudgets$Memory" "latestNumber" "I", Cond.fieldLink RX4 42 "HeadBudgets$Deed" "before" "LHeadBudgets$Books;", Cond.fieldLink RX4 52 "HeadBudgets$Deed" "number" "I", Cond.fieldLink RX4 61 "HeadBudgets$Deed" "taker" "I", Cond.fieldLink RX4 64 "HeadBudgets$Deed" "amount" "I", Cond.methodLink RX4 46 yX0_copyFrom, Cond.instanceMethod yX0_copyFrom, Cond.selects RX0 yX0_copyFrom yX0_copyFrom, Cond.initialized RX0, Cond.code yX0_copyFrom cX0_copyFrom 2 none, Cond.fieldLink RX0 12 "HeadBudgets$Books" "heads" "LHeadBudgets$Heads;", Cond.fieldLink RX0 21 "HeadBudgets$Books" "commitments" "LHeadBudgets$Commitments;", Cond.fieldLink RX0 36 "HeadBudgets$Books" "year" "I", Cond.fieldLink RX0 25 "HeadBudgets$Books" "carriedPart" "I", Cond.fieldLink RX0 39 "HeadBudgets$Books" "lapsed" "I", Cond.fieldLink RX0 42 "HeadBudgets$Books" "spent" "I", Cond.methodLink RX0 29 yX3_copyFrom]
def wsX5_revoke_r4 : List Cond := [Cond.instanceMethod yX3_copyFrom, Cond.selects RX3 yX3_copyFrom yX3_copyFrom, Cond.code yX3_copyFrom cX3_copyFrom 2 none, Cond.fieldLink RX3 9 "HeadBudgets$Heads" "above" "[I", Cond.methodLink RX3 42 arraycopyName, Cond.native arraycopyName, Cond.static arraycopyName, Cond.initialized "java/lang/System", Cond.fieldLink RX3 15 "HeadBudgets$Heads" "depth" "[I", Cond.fieldLink RX3 18 "HeadBudgets$Heads" "rank" "[I", Cond.fieldLink RX3 21 "HeadBudgets$Heads" "frozen" "[I", Cond.fieldLink RX3 33 "HeadBudgets$Heads" "allotted" "[I", Cond.fieldLink RX3 36 "HeadBudgets$Heads" "left" "[I", Cond.fieldLink RX3 39 "HeadBudgets$Heads" "share" "[I", Cond.methodLink RX0 33 yX1_copyFrom, Cond.instanceMethod yX1_copyFrom, Cond.selects RX1 yX1_copyFrom yX1_copyFrom, Cond.initialized RX1, Cond.code yX1_copyFrom cX1_copyFrom 2 none, Cond.fieldLink RX1 9 "HeadBudgets$Commitments" "head" "[I", Cond.methodLink RX1 24 arraycopyName, Cond.fieldLink RX1 15 "HeadBudgets$Commitments" "open" "[I", Cond.fieldLink RX1 18 "HeadBudgets$Commitments" "paid" "[I", Cond.fieldLink RX1 21 "HeadBudgets$Commitments" "year" "[I"]
def wsX5_revoke_r5 : List Cond := [Cond.fieldLink RX1 30 "HeadBudgets$Commitments" "made" "I", Cond.methodLink RX5 133 yX3_moveByVirement, Cond.instanceMethod yX3_moveByVirement, Cond.selects RX3 yX3_moveByVirement yX3_moveByVirement, Cond.code yX3_moveByVirement cX3_moveByVirement 4 none, Cond.methodLink RX3 71 yX3_hasBoth, Cond.instanceMethod yX3_hasBoth, Cond.selects RX3 yX3_hasBoth yX3_hasBoth, Cond.code yX3_hasBoth cX3_hasBoth 3 (some .boolean), Cond.methodLink RX5 185 yX5_revokeCommitment, Cond.instanceMethod yX5_revokeCommitment, Cond.selects RX5 yX5_revokeCommitment yX5_revokeCommitment, Cond.code yX5_revokeCommitment cX5_revokeCommitment 3 (some .int), Cond.fieldLink RX5 82 "HeadBudgets$Books" "commitments" "LHeadBudgets$Commitments;", Cond.fieldLink RX5 104 "HeadBudgets$Commitments" "open" "[I", Cond.methodLink RX5 103 yX1_has, Cond.instanceMethod yX1_has, Cond.selects RX1 yX1_has yX1_has, Cond.code yX1_has cX1_has 2 (some .boolean), Cond.methodLink RX5 119 yX0_freeOpenOf, Cond.instanceMethod yX0_freeOpenOf, Cond.selects RX0 yX0_freeOpenOf yX0_freeOpenOf, Cond.code yX0_freeOpenOf cX0_freeOpenOf 3 (some .int), Cond.fieldLink RX0 49 "HeadBudgets$Commitments" "open" "[I"]
def wsX5_revoke_r6 : List Cond := [Cond.fieldLink RX0 53 "HeadBudgets$Commitments" "head" "[I", Cond.methodLink RX0 45 yX1_has, Cond.methodLink RX0 56 yX3_changeCommitted, Cond.instanceMethod yX3_changeCommitted, Cond.selects RX3 yX3_changeCommitted yX3_changeCommitted, Cond.code yX3_changeCommitted cX3_changeCommitted 3 none]
def wsX5_revoke : List Cond := .code yX5_revoke cX5_revoke 3 (some .int) :: ((wsX5_revoke_r1 ++ (wsX5_revoke_r2 ++ (wsX5_revoke_r3 ++ (wsX5_revoke_r4 ++ (wsX5_revoke_r5 ++ wsX5_revoke_r6))))) ++ wsX50 ++ wsX20 ++ wsX00 ++ wsX40 ++ wsX30 ++ wsX10)
def wsX5_count_r1 : List Cond := [Cond.fieldLink RX5 10 "HeadBudgets" "now" "LHeadBudgets$Books;", Cond.fieldLink RX5 97 "HeadBudgets$Books" "year" "I", Cond.fieldLink RX5 23 "HeadBudgets$Books" "heads" "LHeadBudgets$Heads;", Cond.fieldLink RX5 41 "HeadBudgets$Heads" "made" "I", Cond.fieldLink RX5 82 "HeadBudgets$Books" "commitments" "LHeadBudgets$Commitments;", Cond.fieldLink RX5 86 "HeadBudgets$Commitments" "made" "I", Cond.fieldLink RX5 72 "HeadBudgets$Books" "carriedPart" "I", Cond.fieldLink RX5 144 "HeadBudgets$Books" "lapsed" "I", Cond.fieldLink RX5 116 "HeadBudgets$Books" "spent" "I", Cond.fieldLink RX5 19 "HeadBudgets" "memory" "LHeadBudgets$Memory;", Cond.fieldLink RX5 197 "HeadBudgets$Memory" "held" "I", Cond.methodLink RX5 191 yX1_countOpen, Cond.instanceMethod yX1_countOpen, Cond.selects RX1 yX1_countOpen yX1_countOpen, Cond.initialized RX1, Cond.code yX1_countOpen cX1_countOpen 3 (some .int), Cond.fieldLink RX1 15 "HeadBudgets$Commitments" "open" "[I", Cond.methodLink RX5 62 yX3_countBarred, Cond.instanceMethod yX3_countBarred, Cond.selects RX3 yX3_countBarred yX3_countBarred, Cond.initialized RX3, Cond.code yX3_countBarred cX3_countBarred 3 (some .int), Cond.methodLink RX3 56 yX3_isBarred, Cond.instanceMethod yX3_isBarred]
def wsX5_count_r2 : List Cond := [Cond.selects RX3 yX3_isBarred yX3_isBarred, Cond.code yX3_isBarred cX3_isBarred 4 (some .boolean), Cond.fieldLink RX3 21 "HeadBudgets$Heads" "frozen" "[I", Cond.fieldLink RX3 9 "HeadBudgets$Heads" "above" "[I", Cond.methodLink RX3 52 yX3_has, Cond.instanceMethod yX3_has, Cond.selects RX3 yX3_has yX3_has, Cond.code yX3_has cX3_has 2 (some .boolean), Cond.fieldLink RX3 48 "HeadBudgets$Heads" "made" "I", Cond.methodLink RX5 194 yX3_sumWithin, Cond.instanceMethod yX3_sumWithin, Cond.selects RX3 yX3_sumWithin yX3_sumWithin, Cond.code yX3_sumWithin cX3_sumWithin 5 (some .int), Cond.methodLink RX3 59 yX3_isWithin, Cond.instanceMethod yX3_isWithin, Cond.selects RX3 yX3_isWithin yX3_isWithin, Cond.code yX3_isWithin cX3_isWithin 5 (some .boolean), Cond.methodLink RX3 63 yX3_summand, Cond.instanceMethod yX3_summand, Cond.selects RX3 yX3_summand yX3_summand, Cond.code yX3_summand cX3_summand 3 (some .int), Cond.fieldLink RX3 24 "HeadBudgets$Heads" "allotment" "[I", Cond.fieldLink RX3 27 "HeadBudgets$Heads" "committed" "[I", Cond.fieldLink RX3 30 "HeadBudgets$Heads" "spent" "[I"]
def wsX5_count_r3 : List Cond := [Cond.methodLink RX3 67 yX3_freeOf, Cond.instanceMethod yX3_freeOf, Cond.selects RX3 yX3_freeOf yX3_freeOf, Cond.code yX3_freeOf cX3_freeOf 2 (some .int)]
def wsX5_count : List Cond := .code yX5_count cX5_count 2 (some .int) :: ((wsX5_count_r1 ++ (wsX5_count_r2 ++ wsX5_count_r3)) ++ wsX50 ++ wsX00 ++ wsX30 ++ wsX10 ++ wsX40)
def wsX5_head_r1 : List Cond := [Cond.fieldLink RX5 10 "HeadBudgets" "now" "LHeadBudgets$Books;", Cond.fieldLink RX5 23 "HeadBudgets$Books" "heads" "LHeadBudgets$Heads;", Cond.fieldLink RX5 200 "HeadBudgets$Heads" "above" "[I", Cond.fieldLink RX5 37 "HeadBudgets$Heads" "depth" "[I", Cond.fieldLink RX5 203 "HeadBudgets$Heads" "rank" "[I", Cond.fieldLink RX5 59 "HeadBudgets$Heads" "frozen" "[I", Cond.fieldLink RX5 52 "HeadBudgets$Heads" "allotment" "[I", Cond.fieldLink RX5 206 "HeadBudgets$Heads" "committed" "[I", Cond.fieldLink RX5 209 "HeadBudgets$Heads" "spent" "[I", Cond.fieldLink RX5 56 "HeadBudgets$Heads" "allotted" "[I", Cond.fieldLink RX5 211 "HeadBudgets$Heads" "left" "[I", Cond.fieldLink RX5 69 "HeadBudgets$Heads" "share" "[I", Cond.methodLink RX5 33 yX3_has, Cond.instanceMethod yX3_has, Cond.selects RX3 yX3_has yX3_has, Cond.initialized RX3, Cond.code yX3_has cX3_has 2 (some .boolean), Cond.fieldLink RX3 48 "HeadBudgets$Heads" "made" "I", Cond.methodLink RX5 75 yX3_isBarred, Cond.instanceMethod yX3_isBarred, Cond.selects RX3 yX3_isBarred yX3_isBarred, Cond.code yX3_isBarred cX3_isBarred 4 (some .boolean), Cond.fieldLink RX3 21 "HeadBudgets$Heads" "frozen" "[I", Cond.fieldLink RX3 9 "HeadBudgets$Heads" "above" "[I"]
def wsX5_head_r2 : List Cond := [Cond.methodLink RX3 52 yX3_has, Cond.methodLink RX5 78 yX3_freeOf, Cond.instanceMethod yX3_freeOf, Cond.selects RX3 yX3_freeOf yX3_freeOf, Cond.code yX3_freeOf cX3_freeOf 2 (some .int), Cond.fieldLink RX3 24 "HeadBudgets$Heads" "allotment" "[I", Cond.fieldLink RX3 27 "HeadBudgets$Heads" "committed" "[I", Cond.fieldLink RX3 30 "HeadBudgets$Heads" "spent" "[I"]
def wsX5_head : List Cond := .code yX5_head cX5_head 4 (some .int) :: ((wsX5_head_r1 ++ wsX5_head_r2) ++ wsX50 ++ wsX00 ++ wsX30)
def wsX5_total_r1 : List Cond := [Cond.fieldLink RX5 10 "HeadBudgets" "now" "LHeadBudgets$Books;", Cond.fieldLink RX5 23 "HeadBudgets$Books" "heads" "LHeadBudgets$Heads;", Cond.methodLink RX5 33 yX3_has, Cond.instanceMethod yX3_has, Cond.selects RX3 yX3_has yX3_has, Cond.initialized RX3, Cond.code yX3_has cX3_has 2 (some .boolean), Cond.fieldLink RX3 48 "HeadBudgets$Heads" "made" "I", Cond.methodLink RX5 194 yX3_sumWithin, Cond.instanceMethod yX3_sumWithin, Cond.selects RX3 yX3_sumWithin yX3_sumWithin, Cond.code yX3_sumWithin cX3_sumWithin 5 (some .int), Cond.methodLink RX3 59 yX3_isWithin, Cond.instanceMethod yX3_isWithin, Cond.selects RX3 yX3_isWithin yX3_isWithin, Cond.code yX3_isWithin cX3_isWithin 5 (some .boolean), Cond.fieldLink RX3 9 "HeadBudgets$Heads" "above" "[I", Cond.methodLink RX3 52 yX3_has, Cond.methodLink RX3 63 yX3_summand, Cond.instanceMethod yX3_summand, Cond.selects RX3 yX3_summand yX3_summand, Cond.code yX3_summand cX3_summand 3 (some .int), Cond.fieldLink RX3 24 "HeadBudgets$Heads" "allotment" "[I", Cond.fieldLink RX3 27 "HeadBudgets$Heads" "committed" "[I"]
def wsX5_total_r2 : List Cond := [Cond.fieldLink RX3 30 "HeadBudgets$Heads" "spent" "[I", Cond.methodLink RX3 67 yX3_freeOf, Cond.instanceMethod yX3_freeOf, Cond.selects RX3 yX3_freeOf yX3_freeOf, Cond.code yX3_freeOf cX3_freeOf 2 (some .int)]
def wsX5_total : List Cond := .code yX5_total cX5_total 3 (some .int) :: ((wsX5_total_r1 ++ wsX5_total_r2) ++ wsX50 ++ wsX00 ++ wsX30)
def wsX5_commitment : List Cond := .code yX5_commitment cX5_commitment 4 (some .int) :: ([.fieldLink RX5 10 "HeadBudgets" "now" "LHeadBudgets$Books;", .fieldLink RX5 82 "HeadBudgets$Books" "commitments" "LHeadBudgets$Commitments;", .fieldLink RX5 110 "HeadBudgets$Commitments" "head" "[I", .fieldLink RX5 104 "HeadBudgets$Commitments" "open" "[I", .fieldLink RX5 107 "HeadBudgets$Commitments" "paid" "[I", .fieldLink RX5 214 "HeadBudgets$Commitments" "year" "[I", .methodLink RX5 103 yX1_has, .instanceMethod yX1_has, .selects RX1 yX1_has yX1_has, .initialized RX1, .code yX1_has cX1_has 2 (some .boolean), .fieldLink RX1 30 "HeadBudgets$Commitments" "made" "I"] ++ wsX50 ++ wsX00 ++ wsX10)
def wsX5_deed : List Cond := .code yX5_deed cX5_deed 3 (some .int) :: ([.fieldLink RX5 19 "HeadBudgets" "memory" "LHeadBudgets$Memory;", .fieldLink RX5 169 "HeadBudgets$Deed" "kind" "I", .methodLink RX5 147 yX4_recall, .instanceMethod yX4_recall, .selects RX4 yX4_recall yX4_recall, .initialized RX4, .code yX4_recall cX4_recall 2 (some (.object "HeadBudgets$Deed")), .fieldLink RX4 18 "HeadBudgets$Memory" "held" "I", .fieldLink RX4 11 "HeadBudgets$Memory" "places" "[LHeadBudgets$Deed;", .fieldLink RX4 22 "HeadBudgets$Memory" "oldest" "I", .methodLink RX4 25 yJ9_floorMod_7cf53, .static yJ9_floorMod_7cf53, .initialized RJ9, .code yJ9_floorMod_7cf53 cJ9_floorMod_7cf53 3 (some .int)] ++ wsX50 ++ wsX20 ++ wsX40)
def wsX5_mostFrom_r1 : List Cond := [Cond.fieldLink RX5 10 "HeadBudgets" "now" "LHeadBudgets$Books;", Cond.fieldLink RX5 23 "HeadBudgets$Books" "heads" "LHeadBudgets$Heads;", Cond.methodLink RX5 122 yX3_hasBoth, Cond.instanceMethod yX3_hasBoth, Cond.selects RX3 yX3_hasBoth yX3_hasBoth, Cond.initialized RX3, Cond.code yX3_hasBoth cX3_hasBoth 3 (some .boolean), Cond.methodLink RX3 52 yX3_has, Cond.instanceMethod yX3_has, Cond.selects RX3 yX3_has yX3_has, Cond.code yX3_has cX3_has 2 (some .boolean), Cond.fieldLink RX3 48 "HeadBudgets$Heads" "made" "I", Cond.methodLink RX5 126 yX3_movable, Cond.instanceMethod yX3_movable, Cond.selects RX3 yX3_movable yX3_movable, Cond.code yX3_movable cX3_movable 5 (some .int), Cond.fieldLink RX3 33 "HeadBudgets$Heads" "allotted" "[I", Cond.fieldLink RX3 39 "HeadBudgets$Heads" "share" "[I", Cond.fieldLink RX3 36 "HeadBudgets$Heads" "left" "[I", Cond.constant RX3 80 (100000), Cond.methodLink RX3 81 Lib.Math.min.name, Cond.static Lib.Math.min.name, Cond.initialized "java/lang/Math", Cond.code Lib.Math.min.name Lib.Math.min.code 2 (some .int)]
def wsX5_mostFrom_r2 : List Cond := [Cond.methodLink RX3 86 Lib.Math.max.name, Cond.static Lib.Math.max.name, Cond.code Lib.Math.max.name Lib.Math.max.code 2 (some .int), Cond.methodLink RX3 71 yX3_hasBoth, Cond.methodLink RX3 74 yX3_mayGive, Cond.instanceMethod yX3_mayGive, Cond.selects RX3 yX3_mayGive yX3_mayGive, Cond.code yX3_mayGive cX3_mayGive 4 (some .boolean), Cond.fieldLink RX3 9 "HeadBudgets$Heads" "above" "[I", Cond.fieldLink RX3 18 "HeadBudgets$Heads" "rank" "[I", Cond.methodLink RX3 56 yX3_isBarred, Cond.instanceMethod yX3_isBarred, Cond.selects RX3 yX3_isBarred yX3_isBarred, Cond.code yX3_isBarred cX3_isBarred 4 (some .boolean), Cond.fieldLink RX3 21 "HeadBudgets$Heads" "frozen" "[I", Cond.methodLink RX3 59 yX3_isWithin, Cond.instanceMethod yX3_isWithin, Cond.selects RX3 yX3_isWithin yX3_isWithin, Cond.code yX3_isWithin cX3_isWithin 5 (some .boolean), Cond.static yX5_partOf, Cond.initialized RX5, Cond.code yX5_partOf cX5_partOf 2 (some .int), Cond.constantLong RX5 223 (100), Cond.methodLink RX3 67 yX3_freeOf]
def wsX5_mostFrom_r3 : List Cond := [Cond.instanceMethod yX3_freeOf, Cond.selects RX3 yX3_freeOf yX3_freeOf, Cond.code yX3_freeOf cX3_freeOf 2 (some .int), Cond.fieldLink RX3 24 "HeadBudgets$Heads" "allotment" "[I", Cond.fieldLink RX3 27 "HeadBudgets$Heads" "committed" "[I", Cond.fieldLink RX3 30 "HeadBudgets$Heads" "spent" "[I"]
def wsX5_mostFrom : List Cond := .code yX5_mostFrom cX5_mostFrom 3 (some .int) :: ((wsX5_mostFrom_r1 ++ (wsX5_mostFrom_r2 ++ wsX5_mostFrom_r3)) ++ wsX50 ++ wsX00 ++ wsX30)
def wsX5_bestGiver_r1 : List Cond := [Cond.fieldLink RX5 10 "HeadBudgets" "now" "LHeadBudgets$Books;", Cond.fieldLink RX5 23 "HeadBudgets$Books" "heads" "LHeadBudgets$Heads;", Cond.methodLink RX5 33 yX3_has, Cond.instanceMethod yX3_has, Cond.selects RX3 yX3_has yX3_has, Cond.initialized RX3, Cond.code yX3_has cX3_has 2 (some .boolean), Cond.fieldLink RX3 48 "HeadBudgets$Heads" "made" "I", Cond.methodLink RX5 216 yX3_giverOfMost, Cond.instanceMethod yX3_giverOfMost, Cond.selects RX3 yX3_giverOfMost yX3_giverOfMost, Cond.code yX3_giverOfMost cX3_giverOfMost 6 (some .int), Cond.fieldLink RX3 18 "HeadBudgets$Heads" "rank" "[I", Cond.methodLink RX3 89 yX3_movable, Cond.instanceMethod yX3_movable, Cond.selects RX3 yX3_movable yX3_movable, Cond.code yX3_movable cX3_movable 5 (some .int), Cond.fieldLink RX3 33 "HeadBudgets$Heads" "allotted" "[I", Cond.fieldLink RX3 39 "HeadBudgets$Heads" "share" "[I", Cond.fieldLink RX3 36 "HeadBudgets$Heads" "left" "[I", Cond.constant RX3 80 (100000), Cond.methodLink RX3 81 Lib.Math.min.name, Cond.static Lib.Math.min.name, Cond.initialized "java/lang/Math"]
def wsX5_bestGiver_r2 : List Cond := [Cond.code Lib.Math.min.name Lib.Math.min.code 2 (some .int), Cond.methodLink RX3 86 Lib.Math.max.name, Cond.static Lib.Math.max.name, Cond.code Lib.Math.max.name Lib.Math.max.code 2 (some .int), Cond.methodLink RX3 71 yX3_hasBoth, Cond.instanceMethod yX3_hasBoth, Cond.selects RX3 yX3_hasBoth yX3_hasBoth, Cond.code yX3_hasBoth cX3_hasBoth 3 (some .boolean), Cond.methodLink RX3 52 yX3_has, Cond.methodLink RX3 74 yX3_mayGive, Cond.instanceMethod yX3_mayGive, Cond.selects RX3 yX3_mayGive yX3_mayGive, Cond.code yX3_mayGive cX3_mayGive 4 (some .boolean), Cond.fieldLink RX3 9 "HeadBudgets$Heads" "above" "[I", Cond.methodLink RX3 56 yX3_isBarred, Cond.instanceMethod yX3_isBarred, Cond.selects RX3 yX3_isBarred yX3_isBarred, Cond.code yX3_isBarred cX3_isBarred 4 (some .boolean), Cond.fieldLink RX3 21 "HeadBudgets$Heads" "frozen" "[I", Cond.methodLink RX3 59 yX3_isWithin, Cond.instanceMethod yX3_isWithin, Cond.selects RX3 yX3_isWithin yX3_isWithin, Cond.code yX3_isWithin cX3_isWithin 5 (some .boolean), Cond.static yX5_partOf]
def wsX5_bestGiver_r3 : List Cond := [Cond.initialized RX5, Cond.code yX5_partOf cX5_partOf 2 (some .int), Cond.constantLong RX5 223 (100), Cond.methodLink RX3 67 yX3_freeOf, Cond.instanceMethod yX3_freeOf, Cond.selects RX3 yX3_freeOf yX3_freeOf, Cond.code yX3_freeOf cX3_freeOf 2 (some .int), Cond.fieldLink RX3 24 "HeadBudgets$Heads" "allotment" "[I", Cond.fieldLink RX3 27 "HeadBudgets$Heads" "committed" "[I", Cond.fieldLink RX3 30 "HeadBudgets$Heads" "spent" "[I"]
def wsX5_bestGiver : List Cond := .code yX5_bestGiver cX5_bestGiver 2 (some .int) :: ((wsX5_bestGiver_r1 ++ (wsX5_bestGiver_r2 ++ wsX5_bestGiver_r3)) ++ wsX50 ++ wsX00 ++ wsX30)
def wsX5_richest_r1 : List Cond := [Cond.fieldLink RX5 10 "HeadBudgets" "now" "LHeadBudgets$Books;", Cond.fieldLink RX5 23 "HeadBudgets$Books" "heads" "LHeadBudgets$Heads;", Cond.methodLink RX5 33 yX3_has, Cond.instanceMethod yX3_has, Cond.selects RX3 yX3_has yX3_has, Cond.initialized RX3, Cond.code yX3_has cX3_has 2 (some .boolean), Cond.fieldLink RX3 48 "HeadBudgets$Heads" "made" "I", Cond.methodLink RX5 219 yX3_atPlace, Cond.instanceMethod yX3_atPlace, Cond.selects RX3 yX3_atPlace yX3_atPlace, Cond.code yX3_atPlace cX3_atPlace 4 (some .int), Cond.methodLink RX3 59 yX3_isWithin, Cond.instanceMethod yX3_isWithin, Cond.selects RX3 yX3_isWithin yX3_isWithin, Cond.code yX3_isWithin cX3_isWithin 5 (some .boolean), Cond.fieldLink RX3 9 "HeadBudgets$Heads" "above" "[I", Cond.methodLink RX3 52 yX3_has, Cond.methodLink RX3 92 yX3_countAhead, Cond.instanceMethod yX3_countAhead, Cond.selects RX3 yX3_countAhead yX3_countAhead, Cond.code yX3_countAhead cX3_countAhead 5 (some .int), Cond.methodLink RX3 95 yX3_isRicher, Cond.instanceMethod yX3_isRicher]
def wsX5_richest_r2 : List Cond := [Cond.selects RX3 yX3_isRicher yX3_isRicher, Cond.code yX3_isRicher cX3_isRicher 3 (some .boolean), Cond.fieldLink RX3 18 "HeadBudgets$Heads" "rank" "[I", Cond.methodLink RX3 71 yX3_hasBoth, Cond.instanceMethod yX3_hasBoth, Cond.selects RX3 yX3_hasBoth yX3_hasBoth, Cond.code yX3_hasBoth cX3_hasBoth 3 (some .boolean), Cond.methodLink RX3 67 yX3_freeOf, Cond.instanceMethod yX3_freeOf, Cond.selects RX3 yX3_freeOf yX3_freeOf, Cond.code yX3_freeOf cX3_freeOf 2 (some .int), Cond.fieldLink RX3 24 "HeadBudgets$Heads" "allotment" "[I", Cond.fieldLink RX3 27 "HeadBudgets$Heads" "committed" "[I", Cond.fieldLink RX3 30 "HeadBudgets$Heads" "spent" "[I"]
def wsX5_richest : List Cond := .code yX5_richest cX5_richest 3 (some .int) :: ((wsX5_richest_r1 ++ wsX5_richest_r2) ++ wsX50 ++ wsX00 ++ wsX30)
def wsX5_wouldLapse_r1 : List Cond := [Cond.fieldLink RX5 10 "HeadBudgets" "now" "LHeadBudgets$Books;", Cond.fieldLink RX5 23 "HeadBudgets$Books" "heads" "LHeadBudgets$Heads;", Cond.fieldLink RX5 72 "HeadBudgets$Books" "carriedPart" "I", Cond.methodLink RX5 33 yX3_has, Cond.instanceMethod yX3_has, Cond.selects RX3 yX3_has yX3_has, Cond.initialized RX3, Cond.code yX3_has cX3_has 2 (some .boolean), Cond.fieldLink RX3 48 "HeadBudgets$Heads" "made" "I", Cond.methodLink RX5 137 yX3_lapseWithin, Cond.instanceMethod yX3_lapseWithin, Cond.selects RX3 yX3_lapseWithin yX3_lapseWithin, Cond.code yX3_lapseWithin cX3_lapseWithin 6 (some .int), Cond.methodLink RX3 59 yX3_isWithin, Cond.instanceMethod yX3_isWithin, Cond.selects RX3 yX3_isWithin yX3_isWithin, Cond.code yX3_isWithin cX3_isWithin 5 (some .boolean), Cond.fieldLink RX3 9 "HeadBudgets$Heads" "above" "[I", Cond.methodLink RX3 52 yX3_has, Cond.methodLink RX3 67 yX3_freeOf, Cond.instanceMethod yX3_freeOf, Cond.selects RX3 yX3_freeOf yX3_freeOf, Cond.code yX3_freeOf cX3_freeOf 2 (some .int), Cond.fieldLink RX3 24 "HeadBudgets$Heads" "allotment" "[I"]
def wsX5_wouldLapse_r2 : List Cond := [Cond.fieldLink RX3 27 "HeadBudgets$Heads" "committed" "[I", Cond.fieldLink RX3 30 "HeadBudgets$Heads" "spent" "[I", Cond.static yX5_partOf, Cond.initialized RX5, Cond.code yX5_partOf cX5_partOf 2 (some .int), Cond.constantLong RX5 223 (100)]
def wsX5_wouldLapse : List Cond := .code yX5_wouldLapse cX5_wouldLapse 2 (some .int) :: ((wsX5_wouldLapse_r1 ++ wsX5_wouldLapse_r2) ++ wsX50 ++ wsX00 ++ wsX30)
def wsX6_of : List Cond := .code yX6_of cX6_of 2 (some .int) :: ([])
def wsX6_init : List Cond := .code yX6_init cX6_init 1 none :: ([.methodLink RX6 1 objectInit, .instanceMethod objectInit, .code objectInit ⟨#[0xb1]⟩ 1 none, .arrayClass .int, .fieldLink RX6 7 "HeadBudgetsModel" "row" "[I", .fieldLink RX6 13 "HeadBudgetsModel" "kinds" "[I", .fieldLink RX6 16 "HeadBudgetsModel" "ones" "[I", .fieldLink RX6 19 "HeadBudgetsModel" "others" "[I", .fieldLink RX6 22 "HeadBudgetsModel" "amounts" "[I", .fieldLink RX6 25 "HeadBudgetsModel" "years" "[I", .fieldLink RX6 28 "HeadBudgetsModel" "revoked" "[I", .fieldLink RX6 31 "HeadBudgetsModel" "numbers" "[I", .methodLink RX6 34 yX6_of, .static yX6_of, .initialized RX6, .code yX6_of cX6_of 2 (some .int)] ++ wsX60)
def wsX6_in : List Cond := .code yX6_in cX6_in 3 (some .boolean) :: ([])
def wsX6_ofCommitment : List Cond := .code yX6_ofCommitment cX6_ofCommitment 2 (some .int) :: ([])
def wsX6_isHead : List Cond := .code yX6_isHead cX6_isHead 2 (some .boolean) :: ([.fieldLink RX6 7 "HeadBudgetsModel" "row" "[I", .methodLink RX6 38 yX6_in, .static yX6_in, .initialized RX6, .code yX6_in cX6_in 3 (some .boolean)] ++ wsX60)
def wsX6_isCommitment : List Cond := .code yX6_isCommitment cX6_isCommitment 2 (some .boolean) :: ([.fieldLink RX6 7 "HeadBudgetsModel" "row" "[I", .methodLink RX6 38 yX6_in, .static yX6_in, .initialized RX6, .code yX6_in cX6_in 3 (some .boolean)] ++ wsX60)
def wsX6_isAmount : List Cond := .code yX6_isAmount cX6_isAmount 1 (some .boolean) :: ([.constant RX6 42 (100000), .methodLink RX6 38 yX6_in, .static yX6_in, .initialized RX6, .code yX6_in cX6_in 3 (some .boolean)])
def wsX6_copy : List Cond := .code yX6_copy cX6_copy 4 none :: ([.fieldLink RX6 7 "HeadBudgetsModel" "row" "[I"] ++ wsX60)
def wsX6_forget : List Cond := .code yX6_forget cX6_forget 2 none :: ([.fieldLink RX6 13 "HeadBudgetsModel" "kinds" "[I", .fieldLink RX6 16 "HeadBudgetsModel" "ones" "[I", .fieldLink RX6 19 "HeadBudgetsModel" "others" "[I", .fieldLink RX6 22 "HeadBudgetsModel" "amounts" "[I", .fieldLink RX6 25 "HeadBudgetsModel" "years" "[I", .fieldLink RX6 28 "HeadBudgetsModel" "revoked" "[I", .fieldLink RX6 31 "HeadBudgetsModel" "numbers" "[I", .fieldLink RX6 47 "HeadBudgetsModel" "deeds" "I", .methodLink RX6 43 yX6_copy, .instanceMethod yX6_copy, .selects RX6 yX6_copy yX6_copy, .initialized RX6, .code yX6_copy cX6_copy 4 none, .fieldLink RX6 7 "HeadBudgetsModel" "row" "[I"] ++ wsX60)
def wsX6_remember : List Cond := .code yX6_remember cX6_remember 5 none :: ([.fieldLink RX6 47 "HeadBudgetsModel" "deeds" "I", .fieldLink RX6 13 "HeadBudgetsModel" "kinds" "[I", .fieldLink RX6 16 "HeadBudgetsModel" "ones" "[I", .fieldLink RX6 19 "HeadBudgetsModel" "others" "[I", .fieldLink RX6 22 "HeadBudgetsModel" "amounts" "[I", .fieldLink RX6 25 "HeadBudgetsModel" "years" "[I", .fieldLink RX6 7 "HeadBudgetsModel" "row" "[I", .fieldLink RX6 28 "HeadBudgetsModel" "revoked" "[I", .fieldLink RX6 31 "HeadBudgetsModel" "numbers" "[I", .fieldLink RX6 54 "HeadBudgetsModel" "deedNumber" "I", .methodLink RX6 51 yX6_forget, .instanceMethod yX6_forget, .selects RX6 yX6_forget yX6_forget, .initialized RX6, .code yX6_forget cX6_forget 2 none, .methodLink RX6 43 yX6_copy, .instanceMethod yX6_copy, .selects RX6 yX6_copy yX6_copy, .code yX6_copy cX6_copy 4 none] ++ wsX60)
def wsX6_undo : List Cond := .code yX6_undo cX6_undo 2 (some .int) :: ([.fieldLink RX6 47 "HeadBudgetsModel" "deeds" "I", .fieldLink RX6 13 "HeadBudgetsModel" "kinds" "[I", .fieldLink RX6 28 "HeadBudgetsModel" "revoked" "[I", .fieldLink RX6 31 "HeadBudgetsModel" "numbers" "[I", .fieldLink RX6 16 "HeadBudgetsModel" "ones" "[I", .methodLink RX6 43 yX6_copy, .instanceMethod yX6_copy, .selects RX6 yX6_copy yX6_copy, .initialized RX6, .code yX6_copy cX6_copy 4 none, .fieldLink RX6 7 "HeadBudgetsModel" "row" "[I"] ++ wsX60)
def wsX6_deed : List Cond := .code yX6_deed cX6_deed 2 (some .int) :: ([.fieldLink RX6 47 "HeadBudgetsModel" "deeds" "I", .fieldLink RX6 13 "HeadBudgetsModel" "kinds" "[I"] ++ wsX60)
def wsX6_aboveOf : List Cond := .code yX6_aboveOf cX6_aboveOf 2 (some .int) :: ([.fieldLink RX6 7 "HeadBudgetsModel" "row" "[I", .methodLink RX6 34 yX6_of, .static yX6_of, .initialized RX6, .code yX6_of cX6_of 2 (some .int)] ++ wsX60)
def wsX6_depth : List Cond := .code yX6_depth cX6_depth 4 (some .int) :: ([.methodLink RX6 57 yX6_aboveOf, .instanceMethod yX6_aboveOf, .selects RX6 yX6_aboveOf yX6_aboveOf, .initialized RX6, .code yX6_aboveOf cX6_aboveOf 2 (some .int), .fieldLink RX6 7 "HeadBudgetsModel" "row" "[I", .methodLink RX6 34 yX6_of, .static yX6_of, .code yX6_of cX6_of 2 (some .int)] ++ wsX60)
def wsX6_isBelow : List Cond := .code yX6_isBelow cX6_isBelow 4 (some .boolean) :: ([.methodLink RX6 57 yX6_aboveOf, .instanceMethod yX6_aboveOf, .selects RX6 yX6_aboveOf yX6_aboveOf, .initialized RX6, .code yX6_aboveOf cX6_aboveOf 2 (some .int), .fieldLink RX6 7 "HeadBudgetsModel" "row" "[I", .methodLink RX6 34 yX6_of, .static yX6_of, .code yX6_of cX6_of 2 (some .int)] ++ wsX60)
def wsX6_isBarred : List Cond := .code yX6_isBarred cX6_isBarred 3 (some .boolean) :: ([.fieldLink RX6 7 "HeadBudgetsModel" "row" "[I", .methodLink RX6 34 yX6_of, .static yX6_of, .initialized RX6, .code yX6_of cX6_of 2 (some .int), .methodLink RX6 57 yX6_aboveOf, .instanceMethod yX6_aboveOf, .selects RX6 yX6_aboveOf yX6_aboveOf, .code yX6_aboveOf cX6_aboveOf 2 (some .int)] ++ wsX60)
def wsX6_barred : List Cond := .code yX6_barred cX6_barred 3 (some .int) :: ([.fieldLink RX6 7 "HeadBudgetsModel" "row" "[I", .methodLink RX6 61 yX6_isBarred, .instanceMethod yX6_isBarred, .selects RX6 yX6_isBarred yX6_isBarred, .initialized RX6, .code yX6_isBarred cX6_isBarred 3 (some .boolean), .methodLink RX6 34 yX6_of, .static yX6_of, .code yX6_of cX6_of 2 (some .int), .methodLink RX6 57 yX6_aboveOf, .instanceMethod yX6_aboveOf, .selects RX6 yX6_aboveOf yX6_aboveOf, .code yX6_aboveOf cX6_aboveOf 2 (some .int)] ++ wsX60)
def wsX6_free : List Cond := .code yX6_free cX6_free 2 (some .int) :: ([.fieldLink RX6 7 "HeadBudgetsModel" "row" "[I", .methodLink RX6 34 yX6_of, .static yX6_of, .initialized RX6, .code yX6_of cX6_of 2 (some .int)] ++ wsX60)
def wsX6_make_r1 : List Cond := [Cond.fieldLink RX6 7 "HeadBudgetsModel" "row" "[I", Cond.methodLink RX6 65 yX6_isHead, Cond.instanceMethod yX6_isHead, Cond.selects RX6 yX6_isHead yX6_isHead, Cond.initialized RX6, Cond.code yX6_isHead cX6_isHead 2 (some .boolean), Cond.methodLink RX6 38 yX6_in, Cond.static yX6_in, Cond.code yX6_in cX6_in 3 (some .boolean), Cond.methodLink RX6 68 yX6_depth, Cond.instanceMethod yX6_depth, Cond.selects RX6 yX6_depth yX6_depth, Cond.code yX6_depth cX6_depth 4 (some .int), Cond.methodLink RX6 57 yX6_aboveOf, Cond.instanceMethod yX6_aboveOf, Cond.selects RX6 yX6_aboveOf yX6_aboveOf, Cond.code yX6_aboveOf cX6_aboveOf 2 (some .int), Cond.methodLink RX6 34 yX6_of, Cond.static yX6_of, Cond.code yX6_of cX6_of 2 (some .int), Cond.methodLink RX6 71 yX6_remember, Cond.instanceMethod yX6_remember, Cond.selects RX6 yX6_remember yX6_remember, Cond.code yX6_remember cX6_remember 5 none]
def wsX6_make_r2 : List Cond := [Cond.fieldLink RX6 47 "HeadBudgetsModel" "deeds" "I", Cond.fieldLink RX6 13 "HeadBudgetsModel" "kinds" "[I", Cond.fieldLink RX6 16 "HeadBudgetsModel" "ones" "[I", Cond.fieldLink RX6 19 "HeadBudgetsModel" "others" "[I", Cond.fieldLink RX6 22 "HeadBudgetsModel" "amounts" "[I", Cond.fieldLink RX6 25 "HeadBudgetsModel" "years" "[I", Cond.fieldLink RX6 28 "HeadBudgetsModel" "revoked" "[I", Cond.fieldLink RX6 31 "HeadBudgetsModel" "numbers" "[I", Cond.fieldLink RX6 54 "HeadBudgetsModel" "deedNumber" "I", Cond.methodLink RX6 51 yX6_forget, Cond.instanceMethod yX6_forget, Cond.selects RX6 yX6_forget yX6_forget, Cond.code yX6_forget cX6_forget 2 none, Cond.methodLink RX6 43 yX6_copy, Cond.instanceMethod yX6_copy, Cond.selects RX6 yX6_copy yX6_copy, Cond.code yX6_copy cX6_copy 4 none]
def wsX6_make : List Cond := .code yX6_make cX6_make 4 (some .int) :: ((wsX6_make_r1 ++ wsX6_make_r2) ++ wsX60)
def wsX6_allot_r1 : List Cond := [Cond.fieldLink RX6 7 "HeadBudgetsModel" "row" "[I", Cond.constant RX6 78 (1000000), Cond.methodLink RX6 65 yX6_isHead, Cond.instanceMethod yX6_isHead, Cond.selects RX6 yX6_isHead yX6_isHead, Cond.initialized RX6, Cond.code yX6_isHead cX6_isHead 2 (some .boolean), Cond.methodLink RX6 38 yX6_in, Cond.static yX6_in, Cond.code yX6_in cX6_in 3 (some .boolean), Cond.methodLink RX6 75 yX6_isAmount, Cond.static yX6_isAmount, Cond.code yX6_isAmount cX6_isAmount 1 (some .boolean), Cond.constant RX6 42 (100000), Cond.methodLink RX6 34 yX6_of, Cond.static yX6_of, Cond.code yX6_of cX6_of 2 (some .int), Cond.methodLink RX6 71 yX6_remember, Cond.instanceMethod yX6_remember, Cond.selects RX6 yX6_remember yX6_remember, Cond.code yX6_remember cX6_remember 5 none, Cond.fieldLink RX6 47 "HeadBudgetsModel" "deeds" "I", Cond.fieldLink RX6 13 "HeadBudgetsModel" "kinds" "[I", Cond.fieldLink RX6 16 "HeadBudgetsModel" "ones" "[I"]
def wsX6_allot_r2 : List Cond := [Cond.fieldLink RX6 19 "HeadBudgetsModel" "others" "[I", Cond.fieldLink RX6 22 "HeadBudgetsModel" "amounts" "[I", Cond.fieldLink RX6 25 "HeadBudgetsModel" "years" "[I", Cond.fieldLink RX6 28 "HeadBudgetsModel" "revoked" "[I", Cond.fieldLink RX6 31 "HeadBudgetsModel" "numbers" "[I", Cond.fieldLink RX6 54 "HeadBudgetsModel" "deedNumber" "I", Cond.methodLink RX6 51 yX6_forget, Cond.instanceMethod yX6_forget, Cond.selects RX6 yX6_forget yX6_forget, Cond.code yX6_forget cX6_forget 2 none, Cond.methodLink RX6 43 yX6_copy, Cond.instanceMethod yX6_copy, Cond.selects RX6 yX6_copy yX6_copy, Cond.code yX6_copy cX6_copy 4 none]
def wsX6_allot : List Cond := .code yX6_allot cX6_allot 3 (some .int) :: ((wsX6_allot_r1 ++ wsX6_allot_r2) ++ wsX60)
def wsX6_freeze_r1 : List Cond := [Cond.fieldLink RX6 7 "HeadBudgetsModel" "row" "[I", Cond.methodLink RX6 65 yX6_isHead, Cond.instanceMethod yX6_isHead, Cond.selects RX6 yX6_isHead yX6_isHead, Cond.initialized RX6, Cond.code yX6_isHead cX6_isHead 2 (some .boolean), Cond.methodLink RX6 38 yX6_in, Cond.static yX6_in, Cond.code yX6_in cX6_in 3 (some .boolean), Cond.methodLink RX6 34 yX6_of, Cond.static yX6_of, Cond.code yX6_of cX6_of 2 (some .int), Cond.methodLink RX6 71 yX6_remember, Cond.instanceMethod yX6_remember, Cond.selects RX6 yX6_remember yX6_remember, Cond.code yX6_remember cX6_remember 5 none, Cond.fieldLink RX6 47 "HeadBudgetsModel" "deeds" "I", Cond.fieldLink RX6 13 "HeadBudgetsModel" "kinds" "[I", Cond.fieldLink RX6 16 "HeadBudgetsModel" "ones" "[I", Cond.fieldLink RX6 19 "HeadBudgetsModel" "others" "[I", Cond.fieldLink RX6 22 "HeadBudgetsModel" "amounts" "[I", Cond.fieldLink RX6 25 "HeadBudgetsModel" "years" "[I", Cond.fieldLink RX6 28 "HeadBudgetsModel" "revoked" "[I", Cond.fieldLink RX6 31 "HeadBudgetsModel" "numbers" "[I"]
def wsX6_freeze_r2 : List Cond := [Cond.fieldLink RX6 54 "HeadBudgetsModel" "deedNumber" "I", Cond.methodLink RX6 51 yX6_forget, Cond.instanceMethod yX6_forget, Cond.selects RX6 yX6_forget yX6_forget, Cond.code yX6_forget cX6_forget 2 none, Cond.methodLink RX6 43 yX6_copy, Cond.instanceMethod yX6_copy, Cond.selects RX6 yX6_copy yX6_copy, Cond.code yX6_copy cX6_copy 4 none, Cond.methodLink RX6 79 yX6_barred, Cond.instanceMethod yX6_barred, Cond.selects RX6 yX6_barred yX6_barred, Cond.code yX6_barred cX6_barred 3 (some .int), Cond.methodLink RX6 61 yX6_isBarred, Cond.instanceMethod yX6_isBarred, Cond.selects RX6 yX6_isBarred yX6_isBarred, Cond.code yX6_isBarred cX6_isBarred 3 (some .boolean), Cond.methodLink RX6 57 yX6_aboveOf, Cond.instanceMethod yX6_aboveOf, Cond.selects RX6 yX6_aboveOf yX6_aboveOf, Cond.code yX6_aboveOf cX6_aboveOf 2 (some .int)]
def wsX6_freeze : List Cond := .code yX6_freeze cX6_freeze 3 (some .int) :: ((wsX6_freeze_r1 ++ wsX6_freeze_r2) ++ wsX60)
def wsX6_setShare_r1 : List Cond := [Cond.fieldLink RX6 7 "HeadBudgetsModel" "row" "[I", Cond.methodLink RX6 65 yX6_isHead, Cond.instanceMethod yX6_isHead, Cond.selects RX6 yX6_isHead yX6_isHead, Cond.initialized RX6, Cond.code yX6_isHead cX6_isHead 2 (some .boolean), Cond.methodLink RX6 38 yX6_in, Cond.static yX6_in, Cond.code yX6_in cX6_in 3 (some .boolean), Cond.methodLink RX6 71 yX6_remember, Cond.instanceMethod yX6_remember, Cond.selects RX6 yX6_remember yX6_remember, Cond.code yX6_remember cX6_remember 5 none, Cond.fieldLink RX6 47 "HeadBudgetsModel" "deeds" "I", Cond.fieldLink RX6 13 "HeadBudgetsModel" "kinds" "[I", Cond.fieldLink RX6 16 "HeadBudgetsModel" "ones" "[I", Cond.fieldLink RX6 19 "HeadBudgetsModel" "others" "[I", Cond.fieldLink RX6 22 "HeadBudgetsModel" "amounts" "[I", Cond.fieldLink RX6 25 "HeadBudgetsModel" "years" "[I", Cond.fieldLink RX6 28 "HeadBudgetsModel" "revoked" "[I", Cond.fieldLink RX6 31 "HeadBudgetsModel" "numbers" "[I", Cond.fieldLink RX6 54 "HeadBudgetsModel" "deedNumber" "I", Cond.methodLink RX6 51 yX6_forget, Cond.instanceMethod yX6_forget]
def wsX6_setShare_r2 : List Cond := [Cond.selects RX6 yX6_forget yX6_forget, Cond.code yX6_forget cX6_forget 2 none, Cond.methodLink RX6 43 yX6_copy, Cond.instanceMethod yX6_copy, Cond.selects RX6 yX6_copy yX6_copy, Cond.code yX6_copy cX6_copy 4 none, Cond.methodLink RX6 34 yX6_of, Cond.static yX6_of, Cond.code yX6_of cX6_of 2 (some .int)]
def wsX6_setShare : List Cond := .code yX6_setShare cX6_setShare 4 (some .int) :: ((wsX6_setShare_r1 ++ wsX6_setShare_r2) ++ wsX60)
def wsX6_setCarried_r1 : List Cond := [Cond.fieldLink RX6 7 "HeadBudgetsModel" "row" "[I", Cond.methodLink RX6 38 yX6_in, Cond.static yX6_in, Cond.initialized RX6, Cond.code yX6_in cX6_in 3 (some .boolean), Cond.methodLink RX6 71 yX6_remember, Cond.instanceMethod yX6_remember, Cond.selects RX6 yX6_remember yX6_remember, Cond.code yX6_remember cX6_remember 5 none, Cond.fieldLink RX6 47 "HeadBudgetsModel" "deeds" "I", Cond.fieldLink RX6 13 "HeadBudgetsModel" "kinds" "[I", Cond.fieldLink RX6 16 "HeadBudgetsModel" "ones" "[I", Cond.fieldLink RX6 19 "HeadBudgetsModel" "others" "[I", Cond.fieldLink RX6 22 "HeadBudgetsModel" "amounts" "[I", Cond.fieldLink RX6 25 "HeadBudgetsModel" "years" "[I", Cond.fieldLink RX6 28 "HeadBudgetsModel" "revoked" "[I", Cond.fieldLink RX6 31 "HeadBudgetsModel" "numbers" "[I", Cond.fieldLink RX6 54 "HeadBudgetsModel" "deedNumber" "I", Cond.methodLink RX6 51 yX6_forget, Cond.instanceMethod yX6_forget, Cond.selects RX6 yX6_forget yX6_forget, Cond.code yX6_forget cX6_forget 2 none, Cond.methodLink RX6 43 yX6_copy, Cond.instanceMethod yX6_copy]
def wsX6_setCarried_r2 : List Cond := [Cond.selects RX6 yX6_copy yX6_copy, Cond.code yX6_copy cX6_copy 4 none]
def wsX6_setCarried : List Cond := .code yX6_setCarried cX6_setCarried 3 (some .int) :: ((wsX6_setCarried_r1 ++ wsX6_setCarried_r2) ++ wsX60)
def wsX6_commit_r1 : List Cond := [Cond.fieldLink RX6 7 "HeadBudgetsModel" "row" "[I", Cond.methodLink RX6 65 yX6_isHead, Cond.instanceMethod yX6_isHead, Cond.selects RX6 yX6_isHead yX6_isHead, Cond.initialized RX6, Cond.code yX6_isHead cX6_isHead 2 (some .boolean), Cond.methodLink RX6 38 yX6_in, Cond.static yX6_in, Cond.code yX6_in cX6_in 3 (some .boolean), Cond.methodLink RX6 75 yX6_isAmount, Cond.static yX6_isAmount, Cond.code yX6_isAmount cX6_isAmount 1 (some .boolean), Cond.constant RX6 42 (100000), Cond.methodLink RX6 61 yX6_isBarred, Cond.instanceMethod yX6_isBarred, Cond.selects RX6 yX6_isBarred yX6_isBarred, Cond.code yX6_isBarred cX6_isBarred 3 (some .boolean), Cond.methodLink RX6 34 yX6_of, Cond.static yX6_of, Cond.code yX6_of cX6_of 2 (some .int), Cond.methodLink RX6 57 yX6_aboveOf, Cond.instanceMethod yX6_aboveOf, Cond.selects RX6 yX6_aboveOf yX6_aboveOf, Cond.code yX6_aboveOf cX6_aboveOf 2 (some .int)]
def wsX6_commit_r2 : List Cond := [Cond.methodLink RX6 83 yX6_free, Cond.instanceMethod yX6_free, Cond.selects RX6 yX6_free yX6_free, Cond.code yX6_free cX6_free 2 (some .int), Cond.methodLink RX6 71 yX6_remember, Cond.instanceMethod yX6_remember, Cond.selects RX6 yX6_remember yX6_remember, Cond.code yX6_remember cX6_remember 5 none, Cond.fieldLink RX6 47 "HeadBudgetsModel" "deeds" "I", Cond.fieldLink RX6 13 "HeadBudgetsModel" "kinds" "[I", Cond.fieldLink RX6 16 "HeadBudgetsModel" "ones" "[I", Cond.fieldLink RX6 19 "HeadBudgetsModel" "others" "[I", Cond.fieldLink RX6 22 "HeadBudgetsModel" "amounts" "[I", Cond.fieldLink RX6 25 "HeadBudgetsModel" "years" "[I", Cond.fieldLink RX6 28 "HeadBudgetsModel" "revoked" "[I", Cond.fieldLink RX6 31 "HeadBudgetsModel" "numbers" "[I", Cond.fieldLink RX6 54 "HeadBudgetsModel" "deedNumber" "I", Cond.methodLink RX6 51 yX6_forget, Cond.instanceMethod yX6_forget, Cond.selects RX6 yX6_forget yX6_forget, Cond.code yX6_forget cX6_forget 2 none, Cond.methodLink RX6 43 yX6_copy, Cond.instanceMethod yX6_copy, Cond.selects RX6 yX6_copy yX6_copy]
def wsX6_commit_r3 : List Cond := [Cond.code yX6_copy cX6_copy 4 none, Cond.methodLink RX6 86 yX6_ofCommitment, Cond.static yX6_ofCommitment, Cond.code yX6_ofCommitment cX6_ofCommitment 2 (some .int)]
def wsX6_commit : List Cond := .code yX6_commit cX6_commit 4 (some .int) :: ((wsX6_commit_r1 ++ (wsX6_commit_r2 ++ wsX6_commit_r3)) ++ wsX60)
def wsX6_pay_r1 : List Cond := [Cond.fieldLink RX6 7 "HeadBudgetsModel" "row" "[I", Cond.methodLink RX6 89 yX6_isCommitment, Cond.instanceMethod yX6_isCommitment, Cond.selects RX6 yX6_isCommitment yX6_isCommitment, Cond.initialized RX6, Cond.code yX6_isCommitment cX6_isCommitment 2 (some .boolean), Cond.methodLink RX6 38 yX6_in, Cond.static yX6_in, Cond.code yX6_in cX6_in 3 (some .boolean), Cond.methodLink RX6 75 yX6_isAmount, Cond.static yX6_isAmount, Cond.code yX6_isAmount cX6_isAmount 1 (some .boolean), Cond.constant RX6 42 (100000), Cond.methodLink RX6 86 yX6_ofCommitment, Cond.static yX6_ofCommitment, Cond.code yX6_ofCommitment cX6_ofCommitment 2 (some .int), Cond.methodLink RX6 71 yX6_remember, Cond.instanceMethod yX6_remember, Cond.selects RX6 yX6_remember yX6_remember, Cond.code yX6_remember cX6_remember 5 none, Cond.fieldLink RX6 47 "HeadBudgetsModel" "deeds" "I", Cond.fieldLink RX6 13 "HeadBudgetsModel" "kinds" "[I", Cond.fieldLink RX6 16 "HeadBudgetsModel" "ones" "[I", Cond.fieldLink RX6 19 "HeadBudgetsModel" "others" "[I"]
def wsX6_pay_r2 : List Cond := [Cond.fieldLink RX6 22 "HeadBudgetsModel" "amounts" "[I", Cond.fieldLink RX6 25 "HeadBudgetsModel" "years" "[I", Cond.fieldLink RX6 28 "HeadBudgetsModel" "revoked" "[I", Cond.fieldLink RX6 31 "HeadBudgetsModel" "numbers" "[I", Cond.fieldLink RX6 54 "HeadBudgetsModel" "deedNumber" "I", Cond.methodLink RX6 51 yX6_forget, Cond.instanceMethod yX6_forget, Cond.selects RX6 yX6_forget yX6_forget, Cond.code yX6_forget cX6_forget 2 none, Cond.methodLink RX6 43 yX6_copy, Cond.instanceMethod yX6_copy, Cond.selects RX6 yX6_copy yX6_copy, Cond.code yX6_copy cX6_copy 4 none, Cond.methodLink RX6 34 yX6_of, Cond.static yX6_of, Cond.code yX6_of cX6_of 2 (some .int)]
def wsX6_pay : List Cond := .code yX6_pay cX6_pay 4 (some .int) :: ((wsX6_pay_r1 ++ wsX6_pay_r2) ++ wsX60)
def wsX6_free0 : List Cond := .code yX6_free0 cX6_free0 3 (some .int) :: ([.fieldLink RX6 7 "HeadBudgetsModel" "row" "[I", .methodLink RX6 86 yX6_ofCommitment, .static yX6_ofCommitment, .initialized RX6, .code yX6_ofCommitment cX6_ofCommitment 2 (some .int), .methodLink RX6 34 yX6_of, .static yX6_of, .code yX6_of cX6_of 2 (some .int)] ++ wsX60)
def wsX6_release_r1 : List Cond := [Cond.fieldLink RX6 7 "HeadBudgetsModel" "row" "[I", Cond.methodLink RX6 89 yX6_isCommitment, Cond.instanceMethod yX6_isCommitment, Cond.selects RX6 yX6_isCommitment yX6_isCommitment, Cond.initialized RX6, Cond.code yX6_isCommitment cX6_isCommitment 2 (some .boolean), Cond.methodLink RX6 38 yX6_in, Cond.static yX6_in, Cond.code yX6_in cX6_in 3 (some .boolean), Cond.methodLink RX6 86 yX6_ofCommitment, Cond.static yX6_ofCommitment, Cond.code yX6_ofCommitment cX6_ofCommitment 2 (some .int), Cond.methodLink RX6 71 yX6_remember, Cond.instanceMethod yX6_remember, Cond.selects RX6 yX6_remember yX6_remember, Cond.code yX6_remember cX6_remember 5 none, Cond.fieldLink RX6 47 "HeadBudgetsModel" "deeds" "I", Cond.fieldLink RX6 13 "HeadBudgetsModel" "kinds" "[I", Cond.fieldLink RX6 16 "HeadBudgetsModel" "ones" "[I", Cond.fieldLink RX6 19 "HeadBudgetsModel" "others" "[I", Cond.fieldLink RX6 22 "HeadBudgetsModel" "amounts" "[I", Cond.fieldLink RX6 25 "HeadBudgetsModel" "years" "[I", Cond.fieldLink RX6 28 "HeadBudgetsModel" "revoked" "[I", Cond.fieldLink RX6 31 "HeadBudgetsModel" "numbers" "[I"]
def wsX6_release_r2 : List Cond := [Cond.fieldLink RX6 54 "HeadBudgetsModel" "deedNumber" "I", Cond.methodLink RX6 51 yX6_forget, Cond.instanceMethod yX6_forget, Cond.selects RX6 yX6_forget yX6_forget, Cond.code yX6_forget cX6_forget 2 none, Cond.methodLink RX6 43 yX6_copy, Cond.instanceMethod yX6_copy, Cond.selects RX6 yX6_copy yX6_copy, Cond.code yX6_copy cX6_copy 4 none, Cond.methodLink RX6 92 yX6_free0, Cond.instanceMethod yX6_free0, Cond.selects RX6 yX6_free0 yX6_free0, Cond.code yX6_free0 cX6_free0 3 (some .int), Cond.methodLink RX6 34 yX6_of, Cond.static yX6_of, Cond.code yX6_of cX6_of 2 (some .int)]
def wsX6_release : List Cond := .code yX6_release cX6_release 2 (some .int) :: ((wsX6_release_r1 ++ wsX6_release_r2) ++ wsX60)
def wsX6_isAllowed : List Cond := .code yX6_isAllowed cX6_isAllowed 4 (some .boolean) :: ([.fieldLink RX6 7 "HeadBudgetsModel" "row" "[I", .methodLink RX6 95 yX6_isBelow, .instanceMethod yX6_isBelow, .selects RX6 yX6_isBelow yX6_isBelow, .initialized RX6, .code yX6_isBelow cX6_isBelow 4 (some .boolean), .methodLink RX6 57 yX6_aboveOf, .instanceMethod yX6_aboveOf, .selects RX6 yX6_aboveOf yX6_aboveOf, .code yX6_aboveOf cX6_aboveOf 2 (some .int), .methodLink RX6 34 yX6_of, .static yX6_of, .code yX6_of cX6_of 2 (some .int), .methodLink RX6 61 yX6_isBarred, .instanceMethod yX6_isBarred, .selects RX6 yX6_isBarred yX6_isBarred, .code yX6_isBarred cX6_isBarred 3 (some .boolean)] ++ wsX60)
def wsX6_leaveOf : List Cond := .code yX6_leaveOf cX6_leaveOf 2 (some .int) :: ([.fieldLink RX6 7 "HeadBudgetsModel" "row" "[I", .constantLong RX6 99 (100), .methodLink RX6 34 yX6_of, .static yX6_of, .initialized RX6, .code yX6_of cX6_of 2 (some .int)] ++ wsX60)
def wsX6_areTwo : List Cond := .code yX6_areTwo cX6_areTwo 3 (some .boolean) :: ([.methodLink RX6 65 yX6_isHead, .instanceMethod yX6_isHead, .selects RX6 yX6_isHead yX6_isHead, .initialized RX6, .code yX6_isHead cX6_isHead 2 (some .boolean), .fieldLink RX6 7 "HeadBudgetsModel" "row" "[I", .methodLink RX6 38 yX6_in, .static yX6_in, .code yX6_in cX6_in 3 (some .boolean)] ++ wsX60)
def wsX6_moves : List Cond := .code yX6_moves cX6_moves 4 none :: ([.fieldLink RX6 7 "HeadBudgetsModel" "row" "[I", .methodLink RX6 34 yX6_of, .static yX6_of, .initialized RX6, .code yX6_of cX6_of 2 (some .int)] ++ wsX60)
def wsX6_vire_r1 : List Cond := [Cond.fieldLink RX6 7 "HeadBudgetsModel" "row" "[I", Cond.methodLink RX6 101 yX6_areTwo, Cond.instanceMethod yX6_areTwo, Cond.selects RX6 yX6_areTwo yX6_areTwo, Cond.initialized RX6, Cond.code yX6_areTwo cX6_areTwo 3 (some .boolean), Cond.methodLink RX6 65 yX6_isHead, Cond.instanceMethod yX6_isHead, Cond.selects RX6 yX6_isHead yX6_isHead, Cond.code yX6_isHead cX6_isHead 2 (some .boolean), Cond.methodLink RX6 38 yX6_in, Cond.static yX6_in, Cond.code yX6_in cX6_in 3 (some .boolean), Cond.methodLink RX6 75 yX6_isAmount, Cond.static yX6_isAmount, Cond.code yX6_isAmount cX6_isAmount 1 (some .boolean), Cond.constant RX6 42 (100000), Cond.methodLink RX6 83 yX6_free, Cond.instanceMethod yX6_free, Cond.selects RX6 yX6_free yX6_free, Cond.code yX6_free cX6_free 2 (some .int), Cond.methodLink RX6 34 yX6_of, Cond.static yX6_of, Cond.code yX6_of cX6_of 2 (some .int)]
def wsX6_vire_r2 : List Cond := [Cond.methodLink RX6 104 yX6_isAllowed, Cond.instanceMethod yX6_isAllowed, Cond.selects RX6 yX6_isAllowed yX6_isAllowed, Cond.code yX6_isAllowed cX6_isAllowed 4 (some .boolean), Cond.methodLink RX6 95 yX6_isBelow, Cond.instanceMethod yX6_isBelow, Cond.selects RX6 yX6_isBelow yX6_isBelow, Cond.code yX6_isBelow cX6_isBelow 4 (some .boolean), Cond.methodLink RX6 57 yX6_aboveOf, Cond.instanceMethod yX6_aboveOf, Cond.selects RX6 yX6_aboveOf yX6_aboveOf, Cond.code yX6_aboveOf cX6_aboveOf 2 (some .int), Cond.methodLink RX6 61 yX6_isBarred, Cond.instanceMethod yX6_isBarred, Cond.selects RX6 yX6_isBarred yX6_isBarred, Cond.code yX6_isBarred cX6_isBarred 3 (some .boolean), Cond.methodLink RX6 107 yX6_leaveOf, Cond.instanceMethod yX6_leaveOf, Cond.selects RX6 yX6_leaveOf yX6_leaveOf, Cond.code yX6_leaveOf cX6_leaveOf 2 (some .int), Cond.constantLong RX6 99 (100), Cond.methodLink RX6 71 yX6_remember, Cond.instanceMethod yX6_remember, Cond.selects RX6 yX6_remember yX6_remember]
def wsX6_vire_r3 : List Cond := [Cond.code yX6_remember cX6_remember 5 none, Cond.fieldLink RX6 47 "HeadBudgetsModel" "deeds" "I", Cond.fieldLink RX6 13 "HeadBudgetsModel" "kinds" "[I", Cond.fieldLink RX6 16 "HeadBudgetsModel" "ones" "[I", Cond.fieldLink RX6 19 "HeadBudgetsModel" "others" "[I", Cond.fieldLink RX6 22 "HeadBudgetsModel" "amounts" "[I", Cond.fieldLink RX6 25 "HeadBudgetsModel" "years" "[I", Cond.fieldLink RX6 28 "HeadBudgetsModel" "revoked" "[I", Cond.fieldLink RX6 31 "HeadBudgetsModel" "numbers" "[I", Cond.fieldLink RX6 54 "HeadBudgetsModel" "deedNumber" "I", Cond.methodLink RX6 51 yX6_forget, Cond.instanceMethod yX6_forget, Cond.selects RX6 yX6_forget yX6_forget, Cond.code yX6_forget cX6_forget 2 none, Cond.methodLink RX6 43 yX6_copy, Cond.instanceMethod yX6_copy, Cond.selects RX6 yX6_copy yX6_copy, Cond.code yX6_copy cX6_copy 4 none, Cond.methodLink RX6 110 yX6_moves, Cond.instanceMethod yX6_moves, Cond.selects RX6 yX6_moves yX6_moves, Cond.code yX6_moves cX6_moves 4 none]
def wsX6_vire : List Cond := .code yX6_vire cX6_vire 4 (some .int) :: ((wsX6_vire_r1 ++ (wsX6_vire_r2 ++ wsX6_vire_r3)) ++ wsX60)
def wsX6_lapseOf : List Cond := .code yX6_lapseOf cX6_lapseOf 2 (some .int) :: ([.fieldLink RX6 7 "HeadBudgetsModel" "row" "[I", .constantLong RX6 99 (100), .methodLink RX6 83 yX6_free, .instanceMethod yX6_free, .selects RX6 yX6_free yX6_free, .initialized RX6, .code yX6_free cX6_free 2 (some .int), .methodLink RX6 34 yX6_of, .static yX6_of, .code yX6_of cX6_of 2 (some .int)] ++ wsX60)
def wsX6_endYear_r1 : List Cond := [Cond.fieldLink RX6 7 "HeadBudgetsModel" "row" "[I", Cond.methodLink RX6 71 yX6_remember, Cond.instanceMethod yX6_remember, Cond.selects RX6 yX6_remember yX6_remember, Cond.initialized RX6, Cond.code yX6_remember cX6_remember 5 none, Cond.fieldLink RX6 47 "HeadBudgetsModel" "deeds" "I", Cond.fieldLink RX6 13 "HeadBudgetsModel" "kinds" "[I", Cond.fieldLink RX6 16 "HeadBudgetsModel" "ones" "[I", Cond.fieldLink RX6 19 "HeadBudgetsModel" "others" "[I", Cond.fieldLink RX6 22 "HeadBudgetsModel" "amounts" "[I", Cond.fieldLink RX6 25 "HeadBudgetsModel" "years" "[I", Cond.fieldLink RX6 28 "HeadBudgetsModel" "revoked" "[I", Cond.fieldLink RX6 31 "HeadBudgetsModel" "numbers" "[I", Cond.fieldLink RX6 54 "HeadBudgetsModel" "deedNumber" "I", Cond.methodLink RX6 51 yX6_forget, Cond.instanceMethod yX6_forget, Cond.selects RX6 yX6_forget yX6_forget, Cond.code yX6_forget cX6_forget 2 none, Cond.methodLink RX6 43 yX6_copy, Cond.instanceMethod yX6_copy, Cond.selects RX6 yX6_copy yX6_copy, Cond.code yX6_copy cX6_copy 4 none, Cond.methodLink RX6 114 yX6_lapseOf]
def wsX6_endYear_r2 : List Cond := [Cond.instanceMethod yX6_lapseOf, Cond.selects RX6 yX6_lapseOf yX6_lapseOf, Cond.code yX6_lapseOf cX6_lapseOf 2 (some .int), Cond.constantLong RX6 99 (100), Cond.methodLink RX6 83 yX6_free, Cond.instanceMethod yX6_free, Cond.selects RX6 yX6_free yX6_free, Cond.code yX6_free cX6_free 2 (some .int), Cond.methodLink RX6 34 yX6_of, Cond.static yX6_of, Cond.code yX6_of cX6_of 2 (some .int)]
def wsX6_endYear : List Cond := .code yX6_endYear cX6_endYear 4 (some .int) :: ((wsX6_endYear_r1 ++ wsX6_endYear_r2) ++ wsX60)
def wsX6_canRevoke : List Cond := .code yX6_canRevoke cX6_canRevoke 2 (some .boolean) :: ([.fieldLink RX6 28 "HeadBudgetsModel" "revoked" "[I", .fieldLink RX6 25 "HeadBudgetsModel" "years" "[I", .fieldLink RX6 7 "HeadBudgetsModel" "row" "[I", .fieldLink RX6 13 "HeadBudgetsModel" "kinds" "[I", .fieldLink RX6 22 "HeadBudgetsModel" "amounts" "[I", .fieldLink RX6 19 "HeadBudgetsModel" "others" "[I", .fieldLink RX6 16 "HeadBudgetsModel" "ones" "[I", .methodLink RX6 83 yX6_free, .instanceMethod yX6_free, .selects RX6 yX6_free yX6_free, .initialized RX6, .code yX6_free cX6_free 2 (some .int), .methodLink RX6 34 yX6_of, .static yX6_of, .code yX6_of cX6_of 2 (some .int), .methodLink RX6 86 yX6_ofCommitment, .static yX6_ofCommitment, .code yX6_ofCommitment cX6_ofCommitment 2 (some .int)] ++ wsX60)
def wsX6_revoke_r1 : List Cond := [Cond.fieldLink RX6 47 "HeadBudgetsModel" "deeds" "I", Cond.fieldLink RX6 13 "HeadBudgetsModel" "kinds" "[I", Cond.fieldLink RX6 16 "HeadBudgetsModel" "ones" "[I", Cond.fieldLink RX6 19 "HeadBudgetsModel" "others" "[I", Cond.fieldLink RX6 22 "HeadBudgetsModel" "amounts" "[I", Cond.fieldLink RX6 28 "HeadBudgetsModel" "revoked" "[I", Cond.fieldLink RX6 31 "HeadBudgetsModel" "numbers" "[I", Cond.fieldLink RX6 7 "HeadBudgetsModel" "row" "[I", Cond.methodLink RX6 117 yX6_canRevoke, Cond.instanceMethod yX6_canRevoke, Cond.selects RX6 yX6_canRevoke yX6_canRevoke, Cond.initialized RX6, Cond.code yX6_canRevoke cX6_canRevoke 2 (some .boolean), Cond.fieldLink RX6 25 "HeadBudgetsModel" "years" "[I", Cond.methodLink RX6 83 yX6_free, Cond.instanceMethod yX6_free, Cond.selects RX6 yX6_free yX6_free, Cond.code yX6_free cX6_free 2 (some .int), Cond.methodLink RX6 34 yX6_of, Cond.static yX6_of, Cond.code yX6_of cX6_of 2 (some .int), Cond.methodLink RX6 86 yX6_ofCommitment, Cond.static yX6_ofCommitment, Cond.code yX6_ofCommitment cX6_ofCommitment 2 (some .int)]
def wsX6_revoke_r2 : List Cond := [Cond.methodLink RX6 71 yX6_remember, Cond.instanceMethod yX6_remember, Cond.selects RX6 yX6_remember yX6_remember, Cond.code yX6_remember cX6_remember 5 none, Cond.fieldLink RX6 54 "HeadBudgetsModel" "deedNumber" "I", Cond.methodLink RX6 51 yX6_forget, Cond.instanceMethod yX6_forget, Cond.selects RX6 yX6_forget yX6_forget, Cond.code yX6_forget cX6_forget 2 none, Cond.methodLink RX6 43 yX6_copy, Cond.instanceMethod yX6_copy, Cond.selects RX6 yX6_copy yX6_copy, Cond.code yX6_copy cX6_copy 4 none, Cond.methodLink RX6 92 yX6_free0, Cond.instanceMethod yX6_free0, Cond.selects RX6 yX6_free0 yX6_free0, Cond.code yX6_free0 cX6_free0 3 (some .int), Cond.methodLink RX6 110 yX6_moves, Cond.instanceMethod yX6_moves, Cond.selects RX6 yX6_moves yX6_moves, Cond.code yX6_moves cX6_moves 4 none]
def wsX6_revoke : List Cond := .code yX6_revoke cX6_revoke 7 (some .int) :: ((wsX6_revoke_r1 ++ wsX6_revoke_r2) ++ wsX60)
def wsX6_sumOf : List Cond := .code yX6_sumOf cX6_sumOf 4 (some .int) :: ([.fieldLink RX6 7 "HeadBudgetsModel" "row" "[I", .methodLink RX6 34 yX6_of, .static yX6_of, .initialized RX6, .code yX6_of cX6_of 2 (some .int)] ++ wsX60)
def wsX6_opens : List Cond := .code yX6_opens cX6_opens 3 (some .int) :: ([.fieldLink RX6 7 "HeadBudgetsModel" "row" "[I", .methodLink RX6 86 yX6_ofCommitment, .static yX6_ofCommitment, .initialized RX6, .code yX6_ofCommitment cX6_ofCommitment 2 (some .int)] ++ wsX60)
def wsX6_count_r1 : List Cond := [Cond.fieldLink RX6 7 "HeadBudgetsModel" "row" "[I", Cond.fieldLink RX6 47 "HeadBudgetsModel" "deeds" "I", Cond.methodLink RX6 120 yX6_opens, Cond.instanceMethod yX6_opens, Cond.selects RX6 yX6_opens yX6_opens, Cond.initialized RX6, Cond.code yX6_opens cX6_opens 3 (some .int), Cond.methodLink RX6 86 yX6_ofCommitment, Cond.static yX6_ofCommitment, Cond.code yX6_ofCommitment cX6_ofCommitment 2 (some .int), Cond.methodLink RX6 79 yX6_barred, Cond.instanceMethod yX6_barred, Cond.selects RX6 yX6_barred yX6_barred, Cond.code yX6_barred cX6_barred 3 (some .int), Cond.methodLink RX6 61 yX6_isBarred, Cond.instanceMethod yX6_isBarred, Cond.selects RX6 yX6_isBarred yX6_isBarred, Cond.code yX6_isBarred cX6_isBarred 3 (some .boolean), Cond.methodLink RX6 34 yX6_of, Cond.static yX6_of, Cond.code yX6_of cX6_of 2 (some .int), Cond.methodLink RX6 57 yX6_aboveOf, Cond.instanceMethod yX6_aboveOf, Cond.selects RX6 yX6_aboveOf yX6_aboveOf]
def wsX6_count_r2 : List Cond := [Cond.code yX6_aboveOf cX6_aboveOf 2 (some .int), Cond.methodLink RX6 123 yX6_sumOf, Cond.instanceMethod yX6_sumOf, Cond.selects RX6 yX6_sumOf yX6_sumOf, Cond.code yX6_sumOf cX6_sumOf 4 (some .int)]
def wsX6_count : List Cond := .code yX6_count cX6_count 2 (some .int) :: ((wsX6_count_r1 ++ wsX6_count_r2) ++ wsX60)
def wsX6_head_r1 : List Cond := [Cond.fieldLink RX6 7 "HeadBudgetsModel" "row" "[I", Cond.methodLink RX6 65 yX6_isHead, Cond.instanceMethod yX6_isHead, Cond.selects RX6 yX6_isHead yX6_isHead, Cond.initialized RX6, Cond.code yX6_isHead cX6_isHead 2 (some .boolean), Cond.methodLink RX6 38 yX6_in, Cond.static yX6_in, Cond.code yX6_in cX6_in 3 (some .boolean), Cond.methodLink RX6 57 yX6_aboveOf, Cond.instanceMethod yX6_aboveOf, Cond.selects RX6 yX6_aboveOf yX6_aboveOf, Cond.code yX6_aboveOf cX6_aboveOf 2 (some .int), Cond.methodLink RX6 34 yX6_of, Cond.static yX6_of, Cond.code yX6_of cX6_of 2 (some .int), Cond.methodLink RX6 68 yX6_depth, Cond.instanceMethod yX6_depth, Cond.selects RX6 yX6_depth yX6_depth, Cond.code yX6_depth cX6_depth 4 (some .int), Cond.methodLink RX6 61 yX6_isBarred, Cond.instanceMethod yX6_isBarred, Cond.selects RX6 yX6_isBarred yX6_isBarred, Cond.code yX6_isBarred cX6_isBarred 3 (some .boolean)]
def wsX6_head_r2 : List Cond := [Cond.methodLink RX6 83 yX6_free, Cond.instanceMethod yX6_free, Cond.selects RX6 yX6_free yX6_free, Cond.code yX6_free cX6_free 2 (some .int)]
def wsX6_head : List Cond := .code yX6_head cX6_head 3 (some .int) :: ((wsX6_head_r1 ++ wsX6_head_r2) ++ wsX60)
def wsX6_valueOf : List Cond := .code yX6_valueOf cX6_valueOf 3 (some .int) :: ([.fieldLink RX6 7 "HeadBudgetsModel" "row" "[I", .methodLink RX6 34 yX6_of, .static yX6_of, .initialized RX6, .code yX6_of cX6_of 2 (some .int), .methodLink RX6 83 yX6_free, .instanceMethod yX6_free, .selects RX6 yX6_free yX6_free, .code yX6_free cX6_free 2 (some .int), .methodLink RX6 114 yX6_lapseOf, .instanceMethod yX6_lapseOf, .selects RX6 yX6_lapseOf yX6_lapseOf, .code yX6_lapseOf cX6_lapseOf 2 (some .int), .constantLong RX6 99 (100)] ++ wsX60)
def wsX6_totalOf_r1 : List Cond := [Cond.fieldLink RX6 7 "HeadBudgetsModel" "row" "[I", Cond.methodLink RX6 95 yX6_isBelow, Cond.instanceMethod yX6_isBelow, Cond.selects RX6 yX6_isBelow yX6_isBelow, Cond.initialized RX6, Cond.code yX6_isBelow cX6_isBelow 4 (some .boolean), Cond.methodLink RX6 57 yX6_aboveOf, Cond.instanceMethod yX6_aboveOf, Cond.selects RX6 yX6_aboveOf yX6_aboveOf, Cond.code yX6_aboveOf cX6_aboveOf 2 (some .int), Cond.methodLink RX6 34 yX6_of, Cond.static yX6_of, Cond.code yX6_of cX6_of 2 (some .int), Cond.methodLink RX6 126 yX6_valueOf, Cond.instanceMethod yX6_valueOf, Cond.selects RX6 yX6_valueOf yX6_valueOf, Cond.code yX6_valueOf cX6_valueOf 3 (some .int), Cond.methodLink RX6 83 yX6_free, Cond.instanceMethod yX6_free, Cond.selects RX6 yX6_free yX6_free, Cond.code yX6_free cX6_free 2 (some .int), Cond.methodLink RX6 114 yX6_lapseOf, Cond.instanceMethod yX6_lapseOf, Cond.selects RX6 yX6_lapseOf yX6_lapseOf]
def wsX6_totalOf_r2 : List Cond := [Cond.code yX6_lapseOf cX6_lapseOf 2 (some .int), Cond.constantLong RX6 99 (100)]
def wsX6_totalOf : List Cond := .code yX6_totalOf cX6_totalOf 5 (some .int) :: ((wsX6_totalOf_r1 ++ wsX6_totalOf_r2) ++ wsX60)
def wsX6_total_r1 : List Cond := [Cond.methodLink RX6 65 yX6_isHead, Cond.instanceMethod yX6_isHead, Cond.selects RX6 yX6_isHead yX6_isHead, Cond.initialized RX6, Cond.code yX6_isHead cX6_isHead 2 (some .boolean), Cond.fieldLink RX6 7 "HeadBudgetsModel" "row" "[I", Cond.methodLink RX6 38 yX6_in, Cond.static yX6_in, Cond.code yX6_in cX6_in 3 (some .boolean), Cond.methodLink RX6 129 yX6_totalOf, Cond.instanceMethod yX6_totalOf, Cond.selects RX6 yX6_totalOf yX6_totalOf, Cond.code yX6_totalOf cX6_totalOf 5 (some .int), Cond.methodLink RX6 95 yX6_isBelow, Cond.instanceMethod yX6_isBelow, Cond.selects RX6 yX6_isBelow yX6_isBelow, Cond.code yX6_isBelow cX6_isBelow 4 (some .boolean), Cond.methodLink RX6 57 yX6_aboveOf, Cond.instanceMethod yX6_aboveOf, Cond.selects RX6 yX6_aboveOf yX6_aboveOf, Cond.code yX6_aboveOf cX6_aboveOf 2 (some .int), Cond.methodLink RX6 34 yX6_of, Cond.static yX6_of, Cond.code yX6_of cX6_of 2 (some .int)]
def wsX6_total_r2 : List Cond := [Cond.methodLink RX6 126 yX6_valueOf, Cond.instanceMethod yX6_valueOf, Cond.selects RX6 yX6_valueOf yX6_valueOf, Cond.code yX6_valueOf cX6_valueOf 3 (some .int), Cond.methodLink RX6 83 yX6_free, Cond.instanceMethod yX6_free, Cond.selects RX6 yX6_free yX6_free, Cond.code yX6_free cX6_free 2 (some .int), Cond.methodLink RX6 114 yX6_lapseOf, Cond.instanceMethod yX6_lapseOf, Cond.selects RX6 yX6_lapseOf yX6_lapseOf, Cond.code yX6_lapseOf cX6_lapseOf 2 (some .int), Cond.constantLong RX6 99 (100)]
def wsX6_total : List Cond := .code yX6_total cX6_total 3 (some .int) :: ((wsX6_total_r1 ++ wsX6_total_r2) ++ wsX60)
def wsX6_commitment : List Cond := .code yX6_commitment cX6_commitment 3 (some .int) :: ([.fieldLink RX6 7 "HeadBudgetsModel" "row" "[I", .methodLink RX6 89 yX6_isCommitment, .instanceMethod yX6_isCommitment, .selects RX6 yX6_isCommitment yX6_isCommitment, .initialized RX6, .code yX6_isCommitment cX6_isCommitment 2 (some .boolean), .methodLink RX6 38 yX6_in, .static yX6_in, .code yX6_in cX6_in 3 (some .boolean), .methodLink RX6 86 yX6_ofCommitment, .static yX6_ofCommitment, .code yX6_ofCommitment cX6_ofCommitment 2 (some .int)] ++ wsX60)
def wsX6_mostOf_r1 : List Cond := [Cond.constant RX6 42 (100000), Cond.methodLink RX6 104 yX6_isAllowed, Cond.instanceMethod yX6_isAllowed, Cond.selects RX6 yX6_isAllowed yX6_isAllowed, Cond.initialized RX6, Cond.code yX6_isAllowed cX6_isAllowed 4 (some .boolean), Cond.fieldLink RX6 7 "HeadBudgetsModel" "row" "[I", Cond.methodLink RX6 95 yX6_isBelow, Cond.instanceMethod yX6_isBelow, Cond.selects RX6 yX6_isBelow yX6_isBelow, Cond.code yX6_isBelow cX6_isBelow 4 (some .boolean), Cond.methodLink RX6 57 yX6_aboveOf, Cond.instanceMethod yX6_aboveOf, Cond.selects RX6 yX6_aboveOf yX6_aboveOf, Cond.code yX6_aboveOf cX6_aboveOf 2 (some .int), Cond.methodLink RX6 34 yX6_of, Cond.static yX6_of, Cond.code yX6_of cX6_of 2 (some .int), Cond.methodLink RX6 61 yX6_isBarred, Cond.instanceMethod yX6_isBarred, Cond.selects RX6 yX6_isBarred yX6_isBarred, Cond.code yX6_isBarred cX6_isBarred 3 (some .boolean), Cond.methodLink RX6 83 yX6_free, Cond.instanceMethod yX6_free]
def wsX6_mostOf_r2 : List Cond := [Cond.selects RX6 yX6_free yX6_free, Cond.code yX6_free cX6_free 2 (some .int), Cond.methodLink RX6 107 yX6_leaveOf, Cond.instanceMethod yX6_leaveOf, Cond.selects RX6 yX6_leaveOf yX6_leaveOf, Cond.code yX6_leaveOf cX6_leaveOf 2 (some .int), Cond.constantLong RX6 99 (100)]
def wsX6_mostOf : List Cond := .code yX6_mostOf cX6_mostOf 4 (some .int) :: ((wsX6_mostOf_r1 ++ wsX6_mostOf_r2) ++ wsX60)
def wsX6_mostFrom_r1 : List Cond := [Cond.methodLink RX6 101 yX6_areTwo, Cond.instanceMethod yX6_areTwo, Cond.selects RX6 yX6_areTwo yX6_areTwo, Cond.initialized RX6, Cond.code yX6_areTwo cX6_areTwo 3 (some .boolean), Cond.methodLink RX6 65 yX6_isHead, Cond.instanceMethod yX6_isHead, Cond.selects RX6 yX6_isHead yX6_isHead, Cond.code yX6_isHead cX6_isHead 2 (some .boolean), Cond.fieldLink RX6 7 "HeadBudgetsModel" "row" "[I", Cond.methodLink RX6 38 yX6_in, Cond.static yX6_in, Cond.code yX6_in cX6_in 3 (some .boolean), Cond.methodLink RX6 132 yX6_mostOf, Cond.instanceMethod yX6_mostOf, Cond.selects RX6 yX6_mostOf yX6_mostOf, Cond.code yX6_mostOf cX6_mostOf 4 (some .int), Cond.constant RX6 42 (100000), Cond.methodLink RX6 104 yX6_isAllowed, Cond.instanceMethod yX6_isAllowed, Cond.selects RX6 yX6_isAllowed yX6_isAllowed, Cond.code yX6_isAllowed cX6_isAllowed 4 (some .boolean), Cond.methodLink RX6 95 yX6_isBelow, Cond.instanceMethod yX6_isBelow]
def wsX6_mostFrom_r2 : List Cond := [Cond.selects RX6 yX6_isBelow yX6_isBelow, Cond.code yX6_isBelow cX6_isBelow 4 (some .boolean), Cond.methodLink RX6 57 yX6_aboveOf, Cond.instanceMethod yX6_aboveOf, Cond.selects RX6 yX6_aboveOf yX6_aboveOf, Cond.code yX6_aboveOf cX6_aboveOf 2 (some .int), Cond.methodLink RX6 34 yX6_of, Cond.static yX6_of, Cond.code yX6_of cX6_of 2 (some .int), Cond.methodLink RX6 61 yX6_isBarred, Cond.instanceMethod yX6_isBarred, Cond.selects RX6 yX6_isBarred yX6_isBarred, Cond.code yX6_isBarred cX6_isBarred 3 (some .boolean), Cond.methodLink RX6 83 yX6_free, Cond.instanceMethod yX6_free, Cond.selects RX6 yX6_free yX6_free, Cond.code yX6_free cX6_free 2 (some .int), Cond.methodLink RX6 107 yX6_leaveOf, Cond.instanceMethod yX6_leaveOf, Cond.selects RX6 yX6_leaveOf yX6_leaveOf, Cond.code yX6_leaveOf cX6_leaveOf 2 (some .int), Cond.constantLong RX6 99 (100)]
def wsX6_mostFrom : List Cond := .code yX6_mostFrom cX6_mostFrom 3 (some .int) :: ((wsX6_mostFrom_r1 ++ wsX6_mostFrom_r2) ++ wsX60)
def wsX6_bestGiver_r1 : List Cond := [Cond.fieldLink RX6 7 "HeadBudgetsModel" "row" "[I", Cond.methodLink RX6 65 yX6_isHead, Cond.instanceMethod yX6_isHead, Cond.selects RX6 yX6_isHead yX6_isHead, Cond.initialized RX6, Cond.code yX6_isHead cX6_isHead 2 (some .boolean), Cond.methodLink RX6 38 yX6_in, Cond.static yX6_in, Cond.code yX6_in cX6_in 3 (some .boolean), Cond.methodLink RX6 132 yX6_mostOf, Cond.instanceMethod yX6_mostOf, Cond.selects RX6 yX6_mostOf yX6_mostOf, Cond.code yX6_mostOf cX6_mostOf 4 (some .int), Cond.constant RX6 42 (100000), Cond.methodLink RX6 104 yX6_isAllowed, Cond.instanceMethod yX6_isAllowed, Cond.selects RX6 yX6_isAllowed yX6_isAllowed, Cond.code yX6_isAllowed cX6_isAllowed 4 (some .boolean), Cond.methodLink RX6 95 yX6_isBelow, Cond.instanceMethod yX6_isBelow, Cond.selects RX6 yX6_isBelow yX6_isBelow, Cond.code yX6_isBelow cX6_isBelow 4 (some .boolean), Cond.methodLink RX6 57 yX6_aboveOf, Cond.instanceMethod yX6_aboveOf]
def wsX6_bestGiver_r2 : List Cond := [Cond.selects RX6 yX6_aboveOf yX6_aboveOf, Cond.code yX6_aboveOf cX6_aboveOf 2 (some .int), Cond.methodLink RX6 34 yX6_of, Cond.static yX6_of, Cond.code yX6_of cX6_of 2 (some .int), Cond.methodLink RX6 61 yX6_isBarred, Cond.instanceMethod yX6_isBarred, Cond.selects RX6 yX6_isBarred yX6_isBarred, Cond.code yX6_isBarred cX6_isBarred 3 (some .boolean), Cond.methodLink RX6 83 yX6_free, Cond.instanceMethod yX6_free, Cond.selects RX6 yX6_free yX6_free, Cond.code yX6_free cX6_free 2 (some .int), Cond.methodLink RX6 107 yX6_leaveOf, Cond.instanceMethod yX6_leaveOf, Cond.selects RX6 yX6_leaveOf yX6_leaveOf, Cond.code yX6_leaveOf cX6_leaveOf 2 (some .int), Cond.constantLong RX6 99 (100)]
def wsX6_bestGiver : List Cond := .code yX6_bestGiver cX6_bestGiver 7 (some .int) :: ((wsX6_bestGiver_r1 ++ wsX6_bestGiver_r2) ++ wsX60)
def wsX6_isRicher : List Cond := .code yX6_isRicher cX6_isRicher 5 (some .boolean) :: ([.fieldLink RX6 7 "HeadBudgetsModel" "row" "[I", .methodLink RX6 83 yX6_free, .instanceMethod yX6_free, .selects RX6 yX6_free yX6_free, .initialized RX6, .code yX6_free cX6_free 2 (some .int), .methodLink RX6 34 yX6_of, .static yX6_of, .code yX6_of cX6_of 2 (some .int)] ++ wsX60)
def wsX6_richest_r1 : List Cond := [Cond.fieldLink RX6 7 "HeadBudgetsModel" "row" "[I", Cond.methodLink RX6 65 yX6_isHead, Cond.instanceMethod yX6_isHead, Cond.selects RX6 yX6_isHead yX6_isHead, Cond.initialized RX6, Cond.code yX6_isHead cX6_isHead 2 (some .boolean), Cond.methodLink RX6 38 yX6_in, Cond.static yX6_in, Cond.code yX6_in cX6_in 3 (some .boolean), Cond.methodLink RX6 95 yX6_isBelow, Cond.instanceMethod yX6_isBelow, Cond.selects RX6 yX6_isBelow yX6_isBelow, Cond.code yX6_isBelow cX6_isBelow 4 (some .boolean), Cond.methodLink RX6 57 yX6_aboveOf, Cond.instanceMethod yX6_aboveOf, Cond.selects RX6 yX6_aboveOf yX6_aboveOf, Cond.code yX6_aboveOf cX6_aboveOf 2 (some .int), Cond.methodLink RX6 34 yX6_of, Cond.static yX6_of, Cond.code yX6_of cX6_of 2 (some .int), Cond.methodLink RX6 135 yX6_isRicher, Cond.instanceMethod yX6_isRicher, Cond.selects RX6 yX6_isRicher yX6_isRicher, Cond.code yX6_isRicher cX6_isRicher 5 (some .boolean)]
def wsX6_richest_r2 : List Cond := [Cond.methodLink RX6 83 yX6_free, Cond.instanceMethod yX6_free, Cond.selects RX6 yX6_free yX6_free, Cond.code yX6_free cX6_free 2 (some .int)]
def wsX6_richest : List Cond := .code yX6_richest cX6_richest 6 (some .int) :: ((wsX6_richest_r1 ++ wsX6_richest_r2) ++ wsX60)
def wsX6_wouldLapse_r1 : List Cond := [Cond.methodLink RX6 65 yX6_isHead, Cond.instanceMethod yX6_isHead, Cond.selects RX6 yX6_isHead yX6_isHead, Cond.initialized RX6, Cond.code yX6_isHead cX6_isHead 2 (some .boolean), Cond.fieldLink RX6 7 "HeadBudgetsModel" "row" "[I", Cond.methodLink RX6 38 yX6_in, Cond.static yX6_in, Cond.code yX6_in cX6_in 3 (some .boolean), Cond.methodLink RX6 129 yX6_totalOf, Cond.instanceMethod yX6_totalOf, Cond.selects RX6 yX6_totalOf yX6_totalOf, Cond.code yX6_totalOf cX6_totalOf 5 (some .int), Cond.methodLink RX6 95 yX6_isBelow, Cond.instanceMethod yX6_isBelow, Cond.selects RX6 yX6_isBelow yX6_isBelow, Cond.code yX6_isBelow cX6_isBelow 4 (some .boolean), Cond.methodLink RX6 57 yX6_aboveOf, Cond.instanceMethod yX6_aboveOf, Cond.selects RX6 yX6_aboveOf yX6_aboveOf, Cond.code yX6_aboveOf cX6_aboveOf 2 (some .int), Cond.methodLink RX6 34 yX6_of, Cond.static yX6_of, Cond.code yX6_of cX6_of 2 (some .int)]
def wsX6_wouldLapse_r2 : List Cond := [Cond.methodLink RX6 126 yX6_valueOf, Cond.instanceMethod yX6_valueOf, Cond.selects RX6 yX6_valueOf yX6_valueOf, Cond.code yX6_valueOf cX6_valueOf 3 (some .int), Cond.methodLink RX6 83 yX6_free, Cond.instanceMethod yX6_free, Cond.selects RX6 yX6_free yX6_free, Cond.code yX6_free cX6_free 2 (some .int), Cond.methodLink RX6 114 yX6_lapseOf, Cond.instanceMethod yX6_lapseOf, Cond.selects RX6 yX6_lapseOf yX6_lapseOf, Cond.code yX6_lapseOf cX6_lapseOf 2 (some .int), Cond.constantLong RX6 99 (100)]
def wsX6_wouldLapse : List Cond := .code yX6_wouldLapse cX6_wouldLapse 2 (some .int) :: ((wsX6_wouldLapse_r1 ++ wsX6_wouldLapse_r2) ++ wsX60)
def wsJ9_max_7cf53 : List Cond := .code yJ9_max_7cf53 cJ9_max_7cf53 2 (some .int) :: ([])
def wsJ9_min_7cf53 : List Cond := .code yJ9_min_7cf53 cJ9_min_7cf53 2 (some .int) :: ([])
end
section
theorem inJ9 : ∀ w ∈ wsJ90, w ∈ lw_tbl := by decide +kernel
theorem inJ10 : ∀ w ∈ wsJ100, w ∈ lw_tbl := by decide +kernel
set_option maxRecDepth 20000 in
theorem ggX0_init_X3_init : GoodIn wsX0_init wsX3_init := goodIn_r _ [14, 15, 2, 3, 16, 17, 18, 19, 20, 21, 22, 23, 24, 25, 26, 34, 35, 36, 37, 38, 39, 40, 41, 42, 43, 44] (by decide +kernel) (by decide +kernel)
set_option maxRecDepth 20000 in
theorem gX0_init_X3_init_n11 : GoodIn wsX0_init (wsX3_init) := ggX0_init_X3_init
set_option maxRecDepth 20000 in
theorem ggX0_init_X1_init : GoodIn wsX0_init wsX1_init := goodIn_r _ [28, 29, 2, 3, 16, 30, 31, 32, 33, 51, 52, 53, 54, 55] (by decide +kernel) (by decide +kernel)
set_option maxRecDepth 20000 in
theorem gX0_init_X1_init_n20 : GoodIn wsX0_init (wsX1_init) := ggX0_init_X1_init
theorem dX0_init_0 : decode cX0_init 0 = .ok (.aload_n 0, 1) := by decide +kernel
theorem dX0_init_1 : decode cX0_init 1 = .ok (.invokespecial 3, 3) := by decide +kernel
theorem dX0_init_4 : decode cX0_init 4 = .ok (.aload_n 0, 1) := by decide +kernel
theorem dX0_init_5 : decode cX0_init 5 = .ok (.new 9, 3) := by decide +kernel
theorem dX0_init_8 : decode cX0_init 8 = .ok (.dup, 1) := by decide +kernel
theorem dX0_init_9 : decode cX0_init 9 = .ok (.invokespecial 11, 3) := by decide +kernel
theorem dX0_init_12 : decode cX0_init 12 = .ok (.putfield 12, 3) := by decide +kernel
theorem dX0_init_15 : decode cX0_init 15 = .ok (.aload_n 0, 1) := by decide +kernel
theorem dX0_init_16 : decode cX0_init 16 = .ok (.new 18, 3) := by decide +kernel
theorem dX0_init_19 : decode cX0_init 19 = .ok (.dup, 1) := by decide +kernel
theorem dX0_init_20 : decode cX0_init 20 = .ok (.invokespecial 20, 3) := by decide +kernel
theorem dX0_init_23 : decode cX0_init 23 = .ok (.putfield 21, 3) := by decide +kernel
theorem dX0_init_26 : decode cX0_init 26 = .ok (.aload_n 0, 1) := by decide +kernel
theorem dX0_init_27 : decode cX0_init 27 = .ok (.bipush 10, 2) := by decide +kernel
theorem dX0_init_29 : decode cX0_init 29 = .ok (.putfield 25, 3) := by decide +kernel
theorem dX0_init_32 : decode cX0_init 32 = .ok (.return_, 1) := by decide +kernel
set_option maxRecDepth 20000 in
theorem ggX0_copyFrom_X3_copyFrom : GoodIn wsX0_copyFrom wsX3_copyFrom := goodIn_r _ [11, 12, 13, 14, 15, 16, 17, 18, 19, 20, 21, 22, 23, 24, 25, 26, 44, 45, 46, 47, 48, 49, 50, 51, 52, 53, 54] (by decide +kernel) (by decide +kernel)
set_option maxRecDepth 20000 in
theorem gX0_copyFrom_X3_copyFrom : GoodIn wsX0_copyFrom (wsV RX0 29 RX3 yX3_copyFrom wsX3_copyFrom) := goodIn_app (goodIn_of _ (by decide +kernel)) ggX0_copyFrom_X3_copyFrom
set_option maxRecDepth 20000 in
theorem ggX0_copyFrom_X1_copyFrom : GoodIn wsX0_copyFrom wsX1_copyFrom := goodIn_r _ [31, 32, 33, 14, 15, 16, 34, 35, 36, 37, 55, 56, 57, 58, 59] (by decide +kernel) (by decide +kernel)
set_option maxRecDepth 20000 in
theorem gX0_copyFrom_X1_copyFrom : GoodIn wsX0_copyFrom (wsV RX0 33 RX1 yX1_copyFrom wsX1_copyFrom) := goodIn_app (goodIn_of _ (by decide +kernel)) ggX0_copyFrom_X1_copyFrom
theorem dX0_copyFrom_0 : decode cX0_copyFrom 0 = .ok (.aload_n 0, 1) := by decide +kernel
theorem dX0_copyFrom_1 : decode cX0_copyFrom 1 = .ok (.getfield 12, 3) := by decide +kernel
theorem dX0_copyFrom_4 : decode cX0_copyFrom 4 = .ok (.aload_n 1, 1) := by decide +kernel
theorem dX0_copyFrom_5 : decode cX0_copyFrom 5 = .ok (.getfield 12, 3) := by decide +kernel
theorem dX0_copyFrom_8 : decode cX0_copyFrom 8 = .ok (.invokevirtual 29, 3) := by decide +kernel
theorem dX0_copyFrom_11 : decode cX0_copyFrom 11 = .ok (.aload_n 0, 1) := by decide +kernel
theorem dX0_copyFrom_12 : decode cX0_copyFrom 12 = .ok (.getfield 21, 3) := by decide +kernel
theorem dX0_copyFrom_15 : decode cX0_copyFrom 15 = .ok (.aload_n 1, 1) := by decide +kernel
theorem dX0_copyFrom_16 : decode cX0_copyFrom 16 = .ok (.getfield 21, 3) := by decide +kernel
theorem dX0_copyFrom_19 : decode cX0_copyFrom 19 = .ok (.invokevirtual 33, 3) := by decide +kernel
theorem dX0_copyFrom_22 : decode cX0_copyFrom 22 = .ok (.aload_n 0, 1) := by decide +kernel
theorem dX0_copyFrom_23 : decode cX0_copyFrom 23 = .ok (.aload_n 1, 1) := by decide +kernel
theorem dX0_copyFrom_24 : decode cX0_copyFrom 24 = .ok (.getfield 36, 3) := by decide +kernel
theorem dX0_copyFrom_27 : decode cX0_copyFrom 27 = .ok (.putfield 36, 3) := by decide +kernel
theorem dX0_copyFrom_30 : decode cX0_copyFrom 30 = .ok (.aload_n 0, 1) := by decide +kernel
theorem dX0_copyFrom_31 : decode cX0_copyFrom 31 = .ok (.aload_n 1, 1) := by decide +kernel
theorem dX0_copyFrom_32 : decode cX0_copyFrom 32 = .ok (.getfield 25, 3) := by decide +kernel
theorem dX0_copyFrom_35 : decode cX0_copyFrom 35 = .ok (.putfield 25, 3) := by decide +kernel
theorem dX0_copyFrom_38 : decode cX0_copyFrom 38 = .ok (.aload_n 0, 1) := by decide +kernel
theorem dX0_copyFrom_39 : decode cX0_copyFrom 39 = .ok (.aload_n 1, 1) := by decide +kernel
theorem dX0_copyFrom_40 : decode cX0_copyFrom 40 = .ok (.getfield 39, 3) := by decide +kernel
theorem dX0_copyFrom_43 : decode cX0_copyFrom 43 = .ok (.putfield 39, 3) := by decide +kernel
theorem dX0_copyFrom_46 : decode cX0_copyFrom 46 = .ok (.aload_n 0, 1) := by decide +kernel
theorem dX0_copyFrom_47 : decode cX0_copyFrom 47 = .ok (.aload_n 1, 1) := by decide +kernel
theorem dX0_copyFrom_48 : decode cX0_copyFrom 48 = .ok (.getfield 42, 3) := by decide +kernel
theorem dX0_copyFrom_51 : decode cX0_copyFrom 51 = .ok (.putfield 42, 3) := by decide +kernel
theorem dX0_copyFrom_54 : decode cX0_copyFrom 54 = .ok (.return_, 1) := by decide +kernel
set_option maxRecDepth 20000 in
theorem ggX0_freeOpenOf_X1_has : GoodIn wsX0_freeOpenOf wsX1_has := goodIn_r _ [9, 10, 28, 29, 30, 31, 32] (by decide +kernel) (by decide +kernel)
set_option maxRecDepth 20000 in
theorem gX0_freeOpenOf_X1_has : GoodIn wsX0_freeOpenOf (wsV RX0 45 RX1 yX1_has wsX1_has) := goodIn_app (goodIn_of _ (by decide +kernel)) ggX0_freeOpenOf_X1_has
set_option maxRecDepth 20000 in
theorem ggX0_freeOpenOf_X3_changeCommitted : GoodIn wsX0_freeOpenOf wsX3_changeCommitted := goodIn_r _ [15, 16, 17, 18, 19, 14, 20, 21, 33, 34, 35, 36, 37, 38, 39, 40, 41, 42, 43] (by decide +kernel) (by decide +kernel)
set_option maxRecDepth 20000 in
theorem gX0_freeOpenOf_X3_changeCommitted : GoodIn wsX0_freeOpenOf (wsV RX0 56 RX3 yX3_changeCommitted wsX3_changeCommitted) := goodIn_app (goodIn_of _ (by decide +kernel)) ggX0_freeOpenOf_X3_changeCommitted
theorem dX0_freeOpenOf_0 : decode cX0_freeOpenOf 0 = .ok (.aload_n 0, 1) := by decide +kernel
theorem dX0_freeOpenOf_1 : decode cX0_freeOpenOf 1 = .ok (.getfield 21, 3) := by decide +kernel
theorem dX0_freeOpenOf_4 : decode cX0_freeOpenOf 4 = .ok (.iload_n 1, 1) := by decide +kernel
theorem dX0_freeOpenOf_5 : decode cX0_freeOpenOf 5 = .ok (.invokevirtual 45, 3) := by decide +kernel
theorem dX0_freeOpenOf_8 : decode cX0_freeOpenOf 8 = .ok (.ifCond .ne 5, 3) := by decide +kernel
theorem dX0_freeOpenOf_11 : decode cX0_freeOpenOf 11 = .ok (.iconst 0, 1) := by decide +kernel
theorem dX0_freeOpenOf_12 : decode cX0_freeOpenOf 12 = .ok (.ireturn, 1) := by decide +kernel
theorem dX0_freeOpenOf_13 : decode cX0_freeOpenOf 13 = .ok (.aload_n 0, 1) := by decide +kernel
theorem dX0_freeOpenOf_14 : decode cX0_freeOpenOf 14 = .ok (.getfield 21, 3) := by decide +kernel
theorem dX0_freeOpenOf_17 : decode cX0_freeOpenOf 17 = .ok (.getfield 49, 3) := by decide +kernel
theorem dX0_freeOpenOf_20 : decode cX0_freeOpenOf 20 = .ok (.iload_n 1, 1) := by decide +kernel
theorem dX0_freeOpenOf_21 : decode cX0_freeOpenOf 21 = .ok (.iaload, 1) := by decide +kernel
theorem dX0_freeOpenOf_22 : decode cX0_freeOpenOf 22 = .ok (.istore_n 2, 1) := by decide +kernel
theorem dX0_freeOpenOf_23 : decode cX0_freeOpenOf 23 = .ok (.aload_n 0, 1) := by decide +kernel
theorem dX0_freeOpenOf_24 : decode cX0_freeOpenOf 24 = .ok (.getfield 21, 3) := by decide +kernel
theorem dX0_freeOpenOf_27 : decode cX0_freeOpenOf 27 = .ok (.getfield 49, 3) := by decide +kernel
theorem dX0_freeOpenOf_30 : decode cX0_freeOpenOf 30 = .ok (.iload_n 1, 1) := by decide +kernel
theorem dX0_freeOpenOf_31 : decode cX0_freeOpenOf 31 = .ok (.iconst 0, 1) := by decide +kernel
theorem dX0_freeOpenOf_32 : decode cX0_freeOpenOf 32 = .ok (.iastore, 1) := by decide +kernel
theorem dX0_freeOpenOf_33 : decode cX0_freeOpenOf 33 = .ok (.aload_n 0, 1) := by decide +kernel
theorem dX0_freeOpenOf_34 : decode cX0_freeOpenOf 34 = .ok (.getfield 12, 3) := by decide +kernel
theorem dX0_freeOpenOf_37 : decode cX0_freeOpenOf 37 = .ok (.aload_n 0, 1) := by decide +kernel
theorem dX0_freeOpenOf_38 : decode cX0_freeOpenOf 38 = .ok (.getfield 21, 3) := by decide +kernel
theorem dX0_freeOpenOf_41 : decode cX0_freeOpenOf 41 = .ok (.getfield 53, 3) := by decide +kernel
theorem dX0_freeOpenOf_44 : decode cX0_freeOpenOf 44 = .ok (.iload_n 1, 1) := by decide +kernel
theorem dX0_freeOpenOf_45 : decode cX0_freeOpenOf 45 = .ok (.iaload, 1) := by decide +kernel
theorem dX0_freeOpenOf_46 : decode cX0_freeOpenOf 46 = .ok (.iload_n 2, 1) := by decide +kernel
theorem dX0_freeOpenOf_47 : decode cX0_freeOpenOf 47 = .ok (.ineg, 1) := by decide +kernel
theorem dX0_freeOpenOf_48 : decode cX0_freeOpenOf 48 = .ok (.invokevirtual 56, 3) := by decide +kernel
theorem dX0_freeOpenOf_51 : decode cX0_freeOpenOf 51 = .ok (.iload_n 2, 1) := by decide +kernel
theorem dX0_freeOpenOf_52 : decode cX0_freeOpenOf 52 = .ok (.ireturn, 1) := by decide +kernel
theorem dX1_init_0 : decode cX1_init 0 = .ok (.aload_n 0, 1) := by decide +kernel
theorem dX1_init_1 : decode cX1_init 1 = .ok (.invokespecial 3, 3) := by decide +kernel
theorem dX1_init_4 : decode cX1_init 4 = .ok (.aload_n 0, 1) := by decide +kernel
theorem dX1_init_5 : decode cX1_init 5 = .ok (.bipush 40, 2) := by decide +kernel
theorem dX1_init_7 : decode cX1_init 7 = .ok (.newarray .int, 2) := by decide +kernel
theorem dX1_init_9 : decode cX1_init 9 = .ok (.putfield 9, 3) := by decide +kernel
theorem dX1_init_12 : decode cX1_init 12 = .ok (.aload_n 0, 1) := by decide +kernel
theorem dX1_init_13 : decode cX1_init 13 = .ok (.bipush 40, 2) := by decide +kernel
theorem dX1_init_15 : decode cX1_init 15 = .ok (.newarray .int, 2) := by decide +kernel
theorem dX1_init_17 : decode cX1_init 17 = .ok (.putfield 15, 3) := by decide +kernel
theorem dX1_init_20 : decode cX1_init 20 = .ok (.aload_n 0, 1) := by decide +kernel
theorem dX1_init_21 : decode cX1_init 21 = .ok (.bipush 40, 2) := by decide +kernel
theorem dX1_init_23 : decode cX1_init 23 = .ok (.newarray .int, 2) := by decide +kernel
theorem dX1_init_25 : decode cX1_init 25 = .ok (.putfield 18, 3) := by decide +kernel
theorem dX1_init_28 : decode cX1_init 28 = .ok (.aload_n 0, 1) := by decide +kernel
theorem dX1_init_29 : decode cX1_init 29 = .ok (.bipush 40, 2) := by decide +kernel
theorem dX1_init_31 : decode cX1_init 31 = .ok (.newarray .int, 2) := by decide +kernel
theorem dX1_init_33 : decode cX1_init 33 = .ok (.putfield 21, 3) := by decide +kernel
theorem dX1_init_36 : decode cX1_init 36 = .ok (.return_, 1) := by decide +kernel
theorem dX1_copyFrom_0 : decode cX1_copyFrom 0 = .ok (.aload_n 1, 1) := by decide +kernel
theorem dX1_copyFrom_1 : decode cX1_copyFrom 1 = .ok (.getfield 9, 3) := by decide +kernel
theorem dX1_copyFrom_4 : decode cX1_copyFrom 4 = .ok (.iconst 0, 1) := by decide +kernel
theorem dX1_copyFrom_5 : decode cX1_copyFrom 5 = .ok (.aload_n 0, 1) := by decide +kernel
theorem dX1_copyFrom_6 : decode cX1_copyFrom 6 = .ok (.getfield 9, 3) := by decide +kernel
theorem dX1_copyFrom_9 : decode cX1_copyFrom 9 = .ok (.iconst 0, 1) := by decide +kernel
theorem dX1_copyFrom_10 : decode cX1_copyFrom 10 = .ok (.bipush 40, 2) := by decide +kernel
theorem dX1_copyFrom_12 : decode cX1_copyFrom 12 = .ok (.invokestatic 24, 3) := by decide +kernel
theorem dX1_copyFrom_15 : decode cX1_copyFrom 15 = .ok (.aload_n 1, 1) := by decide +kernel
theorem dX1_copyFrom_16 : decode cX1_copyFrom 16 = .ok (.getfield 15, 3) := by decide +kernel
theorem dX1_copyFrom_19 : decode cX1_copyFrom 19 = .ok (.iconst 0, 1) := by decide +kernel
theorem dX1_copyFrom_20 : decode cX1_copyFrom 20 = .ok (.aload_n 0, 1) := by decide +kernel
theorem dX1_copyFrom_21 : decode cX1_copyFrom 21 = .ok (.getfield 15, 3) := by decide +kernel
theorem dX1_copyFrom_24 : decode cX1_copyFrom 24 = .ok (.iconst 0, 1) := by decide +kernel
theorem dX1_copyFrom_25 : decode cX1_copyFrom 25 = .ok (.bipush 40, 2) := by decide +kernel
theorem dX1_copyFrom_27 : decode cX1_copyFrom 27 = .ok (.invokestatic 24, 3) := by decide +kernel
theorem dX1_copyFrom_30 : decode cX1_copyFrom 30 = .ok (.aload_n 1, 1) := by decide +kernel
theorem dX1_copyFrom_31 : decode cX1_copyFrom 31 = .ok (.getfield 18, 3) := by decide +kernel
theorem dX1_copyFrom_34 : decode cX1_copyFrom 34 = .ok (.iconst 0, 1) := by decide +kernel
theorem dX1_copyFrom_35 : decode cX1_copyFrom 35 = .ok (.aload_n 0, 1) := by decide +kernel
theorem dX1_copyFrom_36 : decode cX1_copyFrom 36 = .ok (.getfield 18, 3) := by decide +kernel
theorem dX1_copyFrom_39 : decode cX1_copyFrom 39 = .ok (.iconst 0, 1) := by decide +kernel
theorem dX1_copyFrom_40 : decode cX1_copyFrom 40 = .ok (.bipush 40, 2) := by decide +kernel
theorem dX1_copyFrom_42 : decode cX1_copyFrom 42 = .ok (.invokestatic 24, 3) := by decide +kernel
theorem dX1_copyFrom_45 : decode cX1_copyFrom 45 = .ok (.aload_n 1, 1) := by decide +kernel
theorem dX1_copyFrom_46 : decode cX1_copyFrom 46 = .ok (.getfield 21, 3) := by decide +kernel
theorem dX1_copyFrom_49 : decode cX1_copyFrom 49 = .ok (.iconst 0, 1) := by decide +kernel
theorem dX1_copyFrom_50 : decode cX1_copyFrom 50 = .ok (.aload_n 0, 1) := by decide +kernel
theorem dX1_copyFrom_51 : decode cX1_copyFrom 51 = .ok (.getfield 21, 3) := by decide +kernel
theorem dX1_copyFrom_54 : decode cX1_copyFrom 54 = .ok (.iconst 0, 1) := by decide +kernel
theorem dX1_copyFrom_55 : decode cX1_copyFrom 55 = .ok (.bipush 40, 2) := by decide +kernel
theorem dX1_copyFrom_57 : decode cX1_copyFrom 57 = .ok (.invokestatic 24, 3) := by decide +kernel
theorem dX1_copyFrom_60 : decode cX1_copyFrom 60 = .ok (.aload_n 0, 1) := by decide +kernel
theorem dX1_copyFrom_61 : decode cX1_copyFrom 61 = .ok (.aload_n 1, 1) := by decide +kernel
theorem dX1_copyFrom_62 : decode cX1_copyFrom 62 = .ok (.getfield 30, 3) := by decide +kernel
theorem dX1_copyFrom_65 : decode cX1_copyFrom 65 = .ok (.putfield 30, 3) := by decide +kernel
theorem dX1_copyFrom_68 : decode cX1_copyFrom 68 = .ok (.return_, 1) := by decide +kernel
theorem dX1_has_0 : decode cX1_has 0 = .ok (.iload_n 1, 1) := by decide +kernel
theorem dX1_has_1 : decode cX1_has 1 = .ok (.ifCond .lt 21, 3) := by decide +kernel
theorem dX1_has_4 : decode cX1_has 4 = .ok (.iload_n 1, 1) := by decide +kernel
theorem dX1_has_5 : decode cX1_has 5 = .ok (.aload_n 0, 1) := by decide +kernel
theorem dX1_has_6 : decode cX1_has 6 = .ok (.getfield 30, 3) := by decide +kernel
theorem dX1_has_9 : decode cX1_has 9 = .ok (.if_icmp .ge 13, 3) := by decide +kernel
theorem dX1_has_12 : decode cX1_has 12 = .ok (.iload_n 1, 1) := by decide +kernel
theorem dX1_has_13 : decode cX1_has 13 = .ok (.bipush 40, 2) := by decide +kernel
theorem dX1_has_15 : decode cX1_has 15 = .ok (.if_icmp .ge 7, 3) := by decide +kernel
theorem dX1_has_18 : decode cX1_has 18 = .ok (.iconst 1, 1) := by decide +kernel
theorem dX1_has_19 : decode cX1_has 19 = .ok (.goto 4, 3) := by decide +kernel
theorem dX1_has_22 : decode cX1_has 22 = .ok (.iconst 0, 1) := by decide +kernel
theorem dX1_has_23 : decode cX1_has 23 = .ok (.ireturn, 1) := by decide +kernel
theorem dX1_add_0 : decode cX1_add 0 = .ok (.aload_n 0, 1) := by decide +kernel
theorem dX1_add_1 : decode cX1_add 1 = .ok (.getfield 30, 3) := by decide +kernel
theorem dX1_add_4 : decode cX1_add 4 = .ok (.istore 4, 2) := by decide +kernel
theorem dX1_add_6 : decode cX1_add 6 = .ok (.iload 4, 2) := by decide +kernel
theorem dX1_add_8 : decode cX1_add 8 = .ok (.ifCond .lt 10, 3) := by decide +kernel
theorem dX1_add_11 : decode cX1_add 11 = .ok (.iload 4, 2) := by decide +kernel
theorem dX1_add_13 : decode cX1_add 13 = .ok (.bipush 40, 2) := by decide +kernel
theorem dX1_add_15 : decode cX1_add 15 = .ok (.if_icmp .lt 6, 3) := by decide +kernel
theorem dX1_add_18 : decode cX1_add 18 = .ok (.bipush (-3), 2) := by decide +kernel
theorem dX1_add_20 : decode cX1_add 20 = .ok (.ireturn, 1) := by decide +kernel
theorem dX1_add_21 : decode cX1_add 21 = .ok (.aload_n 0, 1) := by decide +kernel
theorem dX1_add_22 : decode cX1_add 22 = .ok (.getfield 9, 3) := by decide +kernel
theorem dX1_add_25 : decode cX1_add 25 = .ok (.iload 4, 2) := by decide +kernel
theorem dX1_add_27 : decode cX1_add 27 = .ok (.iload_n 1, 1) := by decide +kernel
theorem dX1_add_28 : decode cX1_add 28 = .ok (.iastore, 1) := by decide +kernel
theorem dX1_add_29 : decode cX1_add 29 = .ok (.aload_n 0, 1) := by decide +kernel
theorem dX1_add_30 : decode cX1_add 30 = .ok (.getfield 15, 3) := by decide +kernel
theorem dX1_add_33 : decode cX1_add 33 = .ok (.iload 4, 2) := by decide +kernel
theorem dX1_add_35 : decode cX1_add 35 = .ok (.iload_n 2, 1) := by decide +kernel
theorem dX1_add_36 : decode cX1_add 36 = .ok (.iastore, 1) := by decide +kernel
theorem dX1_add_37 : decode cX1_add 37 = .ok (.aload_n 0, 1) := by decide +kernel
theorem dX1_add_38 : decode cX1_add 38 = .ok (.getfield 21, 3) := by decide +kernel
theorem dX1_add_41 : decode cX1_add 41 = .ok (.iload 4, 2) := by decide +kernel
theorem dX1_add_43 : decode cX1_add 43 = .ok (.iload_n 3, 1) := by decide +kernel
theorem dX1_add_44 : decode cX1_add 44 = .ok (.iastore, 1) := by decide +kernel
theorem dX1_add_45 : decode cX1_add 45 = .ok (.aload_n 0, 1) := by decide +kernel
theorem dX1_add_46 : decode cX1_add 46 = .ok (.dup, 1) := by decide +kernel
theorem dX1_add_47 : decode cX1_add 47 = .ok (.getfield 30, 3) := by decide +kernel
theorem dX1_add_50 : decode cX1_add 50 = .ok (.iconst 1, 1) := by decide +kernel
theorem dX1_add_51 : decode cX1_add 51 = .ok (.iadd, 1) := by decide +kernel
theorem dX1_add_52 : decode cX1_add 52 = .ok (.putfield 30, 3) := by decide +kernel
theorem dX1_add_55 : decode cX1_add 55 = .ok (.iload 4, 2) := by decide +kernel
theorem dX1_add_57 : decode cX1_add 57 = .ok (.ireturn, 1) := by decide +kernel
theorem dX1_countOpen_0 : decode cX1_countOpen 0 = .ok (.iconst 0, 1) := by decide +kernel
theorem dX1_countOpen_1 : decode cX1_countOpen 1 = .ok (.istore_n 1, 1) := by decide +kernel
theorem dX1_countOpen_2 : decode cX1_countOpen 2 = .ok (.iconst 0, 1) := by decide +kernel
theorem dX1_countOpen_3 : decode cX1_countOpen 3 = .ok (.istore_n 2, 1) := by decide +kernel
theorem dX1_countOpen_4 : decode cX1_countOpen 4 = .ok (.iload_n 2, 1) := by decide +kernel
theorem dX1_countOpen_5 : decode cX1_countOpen 5 = .ok (.bipush 40, 2) := by decide +kernel
theorem dX1_countOpen_7 : decode cX1_countOpen 7 = .ok (.if_icmp .ge 21, 3) := by decide +kernel
theorem dX1_countOpen_10 : decode cX1_countOpen 10 = .ok (.aload_n 0, 1) := by decide +kernel
theorem dX1_countOpen_11 : decode cX1_countOpen 11 = .ok (.getfield 15, 3) := by decide +kernel
theorem dX1_countOpen_14 : decode cX1_countOpen 14 = .ok (.iload_n 2, 1) := by decide +kernel
theorem dX1_countOpen_15 : decode cX1_countOpen 15 = .ok (.iaload, 1) := by decide +kernel
theorem dX1_countOpen_16 : decode cX1_countOpen 16 = .ok (.ifCond .le 6, 3) := by decide +kernel
theorem dX1_countOpen_19 : decode cX1_countOpen 19 = .ok (.iinc 1 1, 3) := by decide +kernel
theorem dX1_countOpen_22 : decode cX1_countOpen 22 = .ok (.iinc 2 1, 3) := by decide +kernel
theorem dX1_countOpen_25 : decode cX1_countOpen 25 = .ok (.goto (-21), 3) := by decide +kernel
theorem dX1_countOpen_28 : decode cX1_countOpen 28 = .ok (.iload_n 1, 1) := by decide +kernel
theorem dX1_countOpen_29 : decode cX1_countOpen 29 = .ok (.ireturn, 1) := by decide +kernel
set_option maxRecDepth 20000 in
theorem ggX2_init_X0_init : GoodIn wsX2_init wsX0_init := goodIn_r _ [9, 10, 2, 3, 11, 12, 13, 14, 15, 16, 17, 18, 19, 20, 21, 22, 23, 24, 25, 26, 27, 28, 29, 30, 31, 32, 33, 34, 35, 36, 37, 38, 39, 40, 53, 54, 55, 56, 57, 58, 59, 60, 61, 62, 63, 41, 42, 43, 44, 45, 46, 64, 65, 66, 67, 68] (by decide +kernel) (by decide +kernel)
set_option maxRecDepth 20000 in
theorem gX2_init_X0_init_n9 : GoodIn wsX2_init (wsX0_init) := ggX2_init_X0_init
theorem dX2_init_0 : decode cX2_init 0 = .ok (.aload_n 0, 1) := by decide +kernel
theorem dX2_init_1 : decode cX2_init 1 = .ok (.invokespecial 1, 3) := by decide +kernel
theorem dX2_init_4 : decode cX2_init 4 = .ok (.aload_n 0, 1) := by decide +kernel
theorem dX2_init_5 : decode cX2_init 5 = .ok (.new 7, 3) := by decide +kernel
theorem dX2_init_8 : decode cX2_init 8 = .ok (.dup, 1) := by decide +kernel
theorem dX2_init_9 : decode cX2_init 9 = .ok (.invokespecial 9, 3) := by decide +kernel
theorem dX2_init_12 : decode cX2_init 12 = .ok (.putfield 10, 3) := by decide +kernel
theorem dX2_init_15 : decode cX2_init 15 = .ok (.return_, 1) := by decide +kernel
theorem dX3_init_0 : decode cX3_init 0 = .ok (.aload_n 0, 1) := by decide +kernel
theorem dX3_init_1 : decode cX3_init 1 = .ok (.invokespecial 3, 3) := by decide +kernel
theorem dX3_init_4 : decode cX3_init 4 = .ok (.aload_n 0, 1) := by decide +kernel
theorem dX3_init_5 : decode cX3_init 5 = .ok (.bipush 20, 2) := by decide +kernel
theorem dX3_init_7 : decode cX3_init 7 = .ok (.newarray .int, 2) := by decide +kernel
theorem dX3_init_9 : decode cX3_init 9 = .ok (.putfield 9, 3) := by decide +kernel
theorem dX3_init_12 : decode cX3_init 12 = .ok (.aload_n 0, 1) := by decide +kernel
theorem dX3_init_13 : decode cX3_init 13 = .ok (.bipush 20, 2) := by decide +kernel
theorem dX3_init_15 : decode cX3_init 15 = .ok (.newarray .int, 2) := by decide +kernel
theorem dX3_init_17 : decode cX3_init 17 = .ok (.putfield 15, 3) := by decide +kernel
theorem dX3_init_20 : decode cX3_init 20 = .ok (.aload_n 0, 1) := by decide +kernel
theorem dX3_init_21 : decode cX3_init 21 = .ok (.bipush 20, 2) := by decide +kernel
theorem dX3_init_23 : decode cX3_init 23 = .ok (.newarray .int, 2) := by decide +kernel
theorem dX3_init_25 : decode cX3_init 25 = .ok (.putfield 18, 3) := by decide +kernel
theorem dX3_init_28 : decode cX3_init 28 = .ok (.aload_n 0, 1) := by decide +kernel
theorem dX3_init_29 : decode cX3_init 29 = .ok (.bipush 20, 2) := by decide +kernel
theorem dX3_init_31 : decode cX3_init 31 = .ok (.newarray .int, 2) := by decide +kernel
theorem dX3_init_33 : decode cX3_init 33 = .ok (.putfield 21, 3) := by decide +kernel
theorem dX3_init_36 : decode cX3_init 36 = .ok (.aload_n 0, 1) := by decide +kernel
theorem dX3_init_37 : decode cX3_init 37 = .ok (.bipush 20, 2) := by decide +kernel
theorem dX3_init_39 : decode cX3_init 39 = .ok (.newarray .int, 2) := by decide +kernel
theorem dX3_init_41 : decode cX3_init 41 = .ok (.putfield 24, 3) := by decide +kernel
theorem dX3_init_44 : decode cX3_init 44 = .ok (.aload_n 0, 1) := by decide +kernel
theorem dX3_init_45 : decode cX3_init 45 = .ok (.bipush 20, 2) := by decide +kernel
theorem dX3_init_47 : decode cX3_init 47 = .ok (.newarray .int, 2) := by decide +kernel
theorem dX3_init_49 : decode cX3_init 49 = .ok (.putfield 27, 3) := by decide +kernel
theorem dX3_init_52 : decode cX3_init 52 = .ok (.aload_n 0, 1) := by decide +kernel
theorem dX3_init_53 : decode cX3_init 53 = .ok (.bipush 20, 2) := by decide +kernel
theorem dX3_init_55 : decode cX3_init 55 = .ok (.newarray .int, 2) := by decide +kernel
theorem dX3_init_57 : decode cX3_init 57 = .ok (.putfield 30, 3) := by decide +kernel
theorem dX3_init_60 : decode cX3_init 60 = .ok (.aload_n 0, 1) := by decide +kernel
theorem dX3_init_61 : decode cX3_init 61 = .ok (.bipush 20, 2) := by decide +kernel
theorem dX3_init_63 : decode cX3_init 63 = .ok (.newarray .int, 2) := by decide +kernel
theorem dX3_init_65 : decode cX3_init 65 = .ok (.putfield 33, 3) := by decide +kernel
theorem dX3_init_68 : decode cX3_init 68 = .ok (.aload_n 0, 1) := by decide +kernel
theorem dX3_init_69 : decode cX3_init 69 = .ok (.bipush 20, 2) := by decide +kernel
theorem dX3_init_71 : decode cX3_init 71 = .ok (.newarray .int, 2) := by decide +kernel
theorem dX3_init_73 : decode cX3_init 73 = .ok (.putfield 36, 3) := by decide +kernel
theorem dX3_init_76 : decode cX3_init 76 = .ok (.aload_n 0, 1) := by decide +kernel
theorem dX3_init_77 : decode cX3_init 77 = .ok (.bipush 20, 2) := by decide +kernel
theorem dX3_init_79 : decode cX3_init 79 = .ok (.newarray .int, 2) := by decide +kernel
theorem dX3_init_81 : decode cX3_init 81 = .ok (.putfield 39, 3) := by decide +kernel
theorem dX3_init_84 : decode cX3_init 84 = .ok (.return_, 1) := by decide +kernel
theorem dX3_copyFrom_0 : decode cX3_copyFrom 0 = .ok (.aload_n 1, 1) := by decide +kernel
theorem dX3_copyFrom_1 : decode cX3_copyFrom 1 = .ok (.getfield 9, 3) := by decide +kernel
theorem dX3_copyFrom_4 : decode cX3_copyFrom 4 = .ok (.iconst 0, 1) := by decide +kernel
theorem dX3_copyFrom_5 : decode cX3_copyFrom 5 = .ok (.aload_n 0, 1) := by decide +kernel
theorem dX3_copyFrom_6 : decode cX3_copyFrom 6 = .ok (.getfield 9, 3) := by decide +kernel
theorem dX3_copyFrom_9 : decode cX3_copyFrom 9 = .ok (.iconst 0, 1) := by decide +kernel
theorem dX3_copyFrom_10 : decode cX3_copyFrom 10 = .ok (.bipush 20, 2) := by decide +kernel
theorem dX3_copyFrom_12 : decode cX3_copyFrom 12 = .ok (.invokestatic 42, 3) := by decide +kernel
theorem dX3_copyFrom_15 : decode cX3_copyFrom 15 = .ok (.aload_n 1, 1) := by decide +kernel
theorem dX3_copyFrom_16 : decode cX3_copyFrom 16 = .ok (.getfield 15, 3) := by decide +kernel
theorem dX3_copyFrom_19 : decode cX3_copyFrom 19 = .ok (.iconst 0, 1) := by decide +kernel
theorem dX3_copyFrom_20 : decode cX3_copyFrom 20 = .ok (.aload_n 0, 1) := by decide +kernel
theorem dX3_copyFrom_21 : decode cX3_copyFrom 21 = .ok (.getfield 15, 3) := by decide +kernel
theorem dX3_copyFrom_24 : decode cX3_copyFrom 24 = .ok (.iconst 0, 1) := by decide +kernel
theorem dX3_copyFrom_25 : decode cX3_copyFrom 25 = .ok (.bipush 20, 2) := by decide +kernel
theorem dX3_copyFrom_27 : decode cX3_copyFrom 27 = .ok (.invokestatic 42, 3) := by decide +kernel
theorem dX3_copyFrom_30 : decode cX3_copyFrom 30 = .ok (.aload_n 1, 1) := by decide +kernel
theorem dX3_copyFrom_31 : decode cX3_copyFrom 31 = .ok (.getfield 18, 3) := by decide +kernel
theorem dX3_copyFrom_34 : decode cX3_copyFrom 34 = .ok (.iconst 0, 1) := by decide +kernel
theorem dX3_copyFrom_35 : decode cX3_copyFrom 35 = .ok (.aload_n 0, 1) := by decide +kernel
theorem dX3_copyFrom_36 : decode cX3_copyFrom 36 = .ok (.getfield 18, 3) := by decide +kernel
theorem dX3_copyFrom_39 : decode cX3_copyFrom 39 = .ok (.iconst 0, 1) := by decide +kernel
theorem dX3_copyFrom_40 : decode cX3_copyFrom 40 = .ok (.bipush 20, 2) := by decide +kernel
theorem dX3_copyFrom_42 : decode cX3_copyFrom 42 = .ok (.invokestatic 42, 3) := by decide +kernel
theorem dX3_copyFrom_45 : decode cX3_copyFrom 45 = .ok (.aload_n 1, 1) := by decide +kernel
theorem dX3_copyFrom_46 : decode cX3_copyFrom 46 = .ok (.getfield 21, 3) := by decide +kernel
theorem dX3_copyFrom_49 : decode cX3_copyFrom 49 = .ok (.iconst 0, 1) := by decide +kernel
theorem dX3_copyFrom_50 : decode cX3_copyFrom 50 = .ok (.aload_n 0, 1) := by decide +kernel
theorem dX3_copyFrom_51 : decode cX3_copyFrom 51 = .ok (.getfield 21, 3) := by decide +kernel
theorem dX3_copyFrom_54 : decode cX3_copyFrom 54 = .ok (.iconst 0, 1) := by decide +kernel
theorem dX3_copyFrom_55 : decode cX3_copyFrom 55 = .ok (.bipush 20, 2) := by decide +kernel
theorem dX3_copyFrom_57 : decode cX3_copyFrom 57 = .ok (.invokestatic 42, 3) := by decide +kernel
theorem dX3_copyFrom_60 : decode cX3_copyFrom 60 = .ok (.aload_n 1, 1) := by decide +kernel
theorem dX3_copyFrom_61 : decode cX3_copyFrom 61 = .ok (.getfield 24, 3) := by decide +kernel
theorem dX3_copyFrom_64 : decode cX3_copyFrom 64 = .ok (.iconst 0, 1) := by decide +kernel
theorem dX3_copyFrom_65 : decode cX3_copyFrom 65 = .ok (.aload_n 0, 1) := by decide +kernel
theorem dX3_copyFrom_66 : decode cX3_copyFrom 66 = .ok (.getfield 24, 3) := by decide +kernel
theorem dX3_copyFrom_69 : decode cX3_copyFrom 69 = .ok (.iconst 0, 1) := by decide +kernel
theorem dX3_copyFrom_70 : decode cX3_copyFrom 70 = .ok (.bipush 20, 2) := by decide +kernel
theorem dX3_copyFrom_72 : decode cX3_copyFrom 72 = .ok (.invokestatic 42, 3) := by decide +kernel
theorem dX3_copyFrom_75 : decode cX3_copyFrom 75 = .ok (.aload_n 1, 1) := by decide +kernel
theorem dX3_copyFrom_76 : decode cX3_copyFrom 76 = .ok (.getfield 27, 3) := by decide +kernel
theorem dX3_copyFrom_79 : decode cX3_copyFrom 79 = .ok (.iconst 0, 1) := by decide +kernel
theorem dX3_copyFrom_80 : decode cX3_copyFrom 80 = .ok (.aload_n 0, 1) := by decide +kernel
theorem dX3_copyFrom_81 : decode cX3_copyFrom 81 = .ok (.getfield 27, 3) := by decide +kernel
theorem dX3_copyFrom_84 : decode cX3_copyFrom 84 = .ok (.iconst 0, 1) := by decide +kernel
theorem dX3_copyFrom_85 : decode cX3_copyFrom 85 = .ok (.bipush 20, 2) := by decide +kernel
theorem dX3_copyFrom_87 : decode cX3_copyFrom 87 = .ok (.invokestatic 42, 3) := by decide +kernel
theorem dX3_copyFrom_90 : decode cX3_copyFrom 90 = .ok (.aload_n 1, 1) := by decide +kernel
theorem dX3_copyFrom_91 : decode cX3_copyFrom 91 = .ok (.getfield 30, 3) := by decide +kernel
theorem dX3_copyFrom_94 : decode cX3_copyFrom 94 = .ok (.iconst 0, 1) := by decide +kernel
theorem dX3_copyFrom_95 : decode cX3_copyFrom 95 = .ok (.aload_n 0, 1) := by decide +kernel
theorem dX3_copyFrom_96 : decode cX3_copyFrom 96 = .ok (.getfield 30, 3) := by decide +kernel
theorem dX3_copyFrom_99 : decode cX3_copyFrom 99 = .ok (.iconst 0, 1) := by decide +kernel
theorem dX3_copyFrom_100 : decode cX3_copyFrom 100 = .ok (.bipush 20, 2) := by decide +kernel
theorem dX3_copyFrom_102 : decode cX3_copyFrom 102 = .ok (.invokestatic 42, 3) := by decide +kernel
theorem dX3_copyFrom_105 : decode cX3_copyFrom 105 = .ok (.aload_n 1, 1) := by decide +kernel
theorem dX3_copyFrom_106 : decode cX3_copyFrom 106 = .ok (.getfield 33, 3) := by decide +kernel
theorem dX3_copyFrom_109 : decode cX3_copyFrom 109 = .ok (.iconst 0, 1) := by decide +kernel
theorem dX3_copyFrom_110 : decode cX3_copyFrom 110 = .ok (.aload_n 0, 1) := by decide +kernel
theorem dX3_copyFrom_111 : decode cX3_copyFrom 111 = .ok (.getfield 33, 3) := by decide +kernel
theorem dX3_copyFrom_114 : decode cX3_copyFrom 114 = .ok (.iconst 0, 1) := by decide +kernel
theorem dX3_copyFrom_115 : decode cX3_copyFrom 115 = .ok (.bipush 20, 2) := by decide +kernel
theorem dX3_copyFrom_117 : decode cX3_copyFrom 117 = .ok (.invokestatic 42, 3) := by decide +kernel
theorem dX3_copyFrom_120 : decode cX3_copyFrom 120 = .ok (.aload_n 1, 1) := by decide +kernel
theorem dX3_copyFrom_121 : decode cX3_copyFrom 121 = .ok (.getfield 36, 3) := by decide +kernel
theorem dX3_copyFrom_124 : decode cX3_copyFrom 124 = .ok (.iconst 0, 1) := by decide +kernel
theorem dX3_copyFrom_125 : decode cX3_copyFrom 125 = .ok (.aload_n 0, 1) := by decide +kernel
theorem dX3_copyFrom_126 : decode cX3_copyFrom 126 = .ok (.getfield 36, 3) := by decide +kernel
theorem dX3_copyFrom_129 : decode cX3_copyFrom 129 = .ok (.iconst 0, 1) := by decide +kernel
theorem dX3_copyFrom_130 : decode cX3_copyFrom 130 = .ok (.bipush 20, 2) := by decide +kernel
theorem dX3_copyFrom_132 : decode cX3_copyFrom 132 = .ok (.invokestatic 42, 3) := by decide +kernel
theorem dX3_copyFrom_135 : decode cX3_copyFrom 135 = .ok (.aload_n 1, 1) := by decide +kernel
theorem dX3_copyFrom_136 : decode cX3_copyFrom 136 = .ok (.getfield 39, 3) := by decide +kernel
theorem dX3_copyFrom_139 : decode cX3_copyFrom 139 = .ok (.iconst 0, 1) := by decide +kernel
theorem dX3_copyFrom_140 : decode cX3_copyFrom 140 = .ok (.aload_n 0, 1) := by decide +kernel
theorem dX3_copyFrom_141 : decode cX3_copyFrom 141 = .ok (.getfield 39, 3) := by decide +kernel
theorem dX3_copyFrom_144 : decode cX3_copyFrom 144 = .ok (.iconst 0, 1) := by decide +kernel
theorem dX3_copyFrom_145 : decode cX3_copyFrom 145 = .ok (.bipush 20, 2) := by decide +kernel
theorem dX3_copyFrom_147 : decode cX3_copyFrom 147 = .ok (.invokestatic 42, 3) := by decide +kernel
theorem dX3_copyFrom_150 : decode cX3_copyFrom 150 = .ok (.aload_n 0, 1) := by decide +kernel
theorem dX3_copyFrom_151 : decode cX3_copyFrom 151 = .ok (.aload_n 1, 1) := by decide +kernel
theorem dX3_copyFrom_152 : decode cX3_copyFrom 152 = .ok (.getfield 48, 3) := by decide +kernel
theorem dX3_copyFrom_155 : decode cX3_copyFrom 155 = .ok (.putfield 48, 3) := by decide +kernel
theorem dX3_copyFrom_158 : decode cX3_copyFrom 158 = .ok (.return_, 1) := by decide +kernel
theorem dX3_has_0 : decode cX3_has 0 = .ok (.iload_n 1, 1) := by decide +kernel
theorem dX3_has_1 : decode cX3_has 1 = .ok (.ifCond .lt 21, 3) := by decide +kernel
theorem dX3_has_4 : decode cX3_has 4 = .ok (.iload_n 1, 1) := by decide +kernel
theorem dX3_has_5 : decode cX3_has 5 = .ok (.aload_n 0, 1) := by decide +kernel
theorem dX3_has_6 : decode cX3_has 6 = .ok (.getfield 48, 3) := by decide +kernel
theorem dX3_has_9 : decode cX3_has 9 = .ok (.if_icmp .ge 13, 3) := by decide +kernel
theorem dX3_has_12 : decode cX3_has 12 = .ok (.iload_n 1, 1) := by decide +kernel
theorem dX3_has_13 : decode cX3_has 13 = .ok (.bipush 20, 2) := by decide +kernel
theorem dX3_has_15 : decode cX3_has 15 = .ok (.if_icmp .ge 7, 3) := by decide +kernel
theorem dX3_has_18 : decode cX3_has 18 = .ok (.iconst 1, 1) := by decide +kernel
theorem dX3_has_19 : decode cX3_has 19 = .ok (.goto 4, 3) := by decide +kernel
theorem dX3_has_22 : decode cX3_has 22 = .ok (.iconst 0, 1) := by decide +kernel
theorem dX3_has_23 : decode cX3_has 23 = .ok (.ireturn, 1) := by decide +kernel
set_option maxRecDepth 20000 in
theorem ggX3_hasBoth_X3_has : GoodIn wsX3_hasBoth wsX3_has := goodIn_r _ [5, 6, 7, 8, 9, 10, 11, 12, 13, 14, 15, 16, 17] (by decide +kernel) (by decide +kernel)
set_option maxRecDepth 20000 in
theorem gX3_hasBoth_X3_has : GoodIn wsX3_hasBoth (wsV RX3 52 RX3 yX3_has wsX3_has) := goodIn_app (goodIn_of _ (by decide +kernel)) ggX3_hasBoth_X3_has
theorem dX3_hasBoth_0 : decode cX3_hasBoth 0 = .ok (.aload_n 0, 1) := by decide +kernel
theorem dX3_hasBoth_1 : decode cX3_hasBoth 1 = .ok (.iload_n 1, 1) := by decide +kernel
theorem dX3_hasBoth_2 : decode cX3_hasBoth 2 = .ok (.invokevirtual 52, 3) := by decide +kernel
theorem dX3_hasBoth_5 : decode cX3_hasBoth 5 = .ok (.ifCond .eq 20, 3) := by decide +kernel
theorem dX3_hasBoth_8 : decode cX3_hasBoth 8 = .ok (.aload_n 0, 1) := by decide +kernel
theorem dX3_hasBoth_9 : decode cX3_hasBoth 9 = .ok (.iload_n 2, 1) := by decide +kernel
theorem dX3_hasBoth_10 : decode cX3_hasBoth 10 = .ok (.invokevirtual 52, 3) := by decide +kernel
theorem dX3_hasBoth_13 : decode cX3_hasBoth 13 = .ok (.ifCond .eq 12, 3) := by decide +kernel
theorem dX3_hasBoth_16 : decode cX3_hasBoth 16 = .ok (.iload_n 1, 1) := by decide +kernel
theorem dX3_hasBoth_17 : decode cX3_hasBoth 17 = .ok (.iload_n 2, 1) := by decide +kernel
theorem dX3_hasBoth_18 : decode cX3_hasBoth 18 = .ok (.if_icmp .eq 7, 3) := by decide +kernel
theorem dX3_hasBoth_21 : decode cX3_hasBoth 21 = .ok (.iconst 1, 1) := by decide +kernel
theorem dX3_hasBoth_22 : decode cX3_hasBoth 22 = .ok (.goto 4, 3) := by decide +kernel
theorem dX3_hasBoth_25 : decode cX3_hasBoth 25 = .ok (.iconst 0, 1) := by decide +kernel
theorem dX3_hasBoth_26 : decode cX3_hasBoth 26 = .ok (.ireturn, 1) := by decide +kernel
set_option maxRecDepth 20000 in
theorem ggX3_add_X3_has : GoodIn wsX3_add wsX3_has := goodIn_r _ [10, 1, 11, 12, 13, 14, 15, 16, 17, 18, 19, 20, 21] (by decide +kernel) (by decide +kernel)
set_option maxRecDepth 20000 in
theorem gX3_add_X3_has : GoodIn wsX3_add (wsV RX3 52 RX3 yX3_has wsX3_has) := goodIn_app (goodIn_of _ (by decide +kernel)) ggX3_add_X3_has
theorem dX3_add_0 : decode cX3_add 0 = .ok (.aload_n 0, 1) := by decide +kernel
theorem dX3_add_1 : decode cX3_add 1 = .ok (.getfield 48, 3) := by decide +kernel
theorem dX3_add_4 : decode cX3_add 4 = .ok (.istore_n 3, 1) := by decide +kernel
theorem dX3_add_5 : decode cX3_add 5 = .ok (.iload_n 3, 1) := by decide +kernel
theorem dX3_add_6 : decode cX3_add 6 = .ok (.ifCond .lt 9, 3) := by decide +kernel
theorem dX3_add_9 : decode cX3_add 9 = .ok (.iload_n 3, 1) := by decide +kernel
theorem dX3_add_10 : decode cX3_add 10 = .ok (.bipush 20, 2) := by decide +kernel
theorem dX3_add_12 : decode cX3_add 12 = .ok (.if_icmp .lt 6, 3) := by decide +kernel
theorem dX3_add_15 : decode cX3_add 15 = .ok (.bipush (-3), 2) := by decide +kernel
theorem dX3_add_17 : decode cX3_add 17 = .ok (.ireturn, 1) := by decide +kernel
theorem dX3_add_18 : decode cX3_add 18 = .ok (.aload_n 0, 1) := by decide +kernel
theorem dX3_add_19 : decode cX3_add 19 = .ok (.getfield 9, 3) := by decide +kernel
theorem dX3_add_22 : decode cX3_add 22 = .ok (.iload_n 3, 1) := by decide +kernel
theorem dX3_add_23 : decode cX3_add 23 = .ok (.iload_n 1, 1) := by decide +kernel
theorem dX3_add_24 : decode cX3_add 24 = .ok (.iastore, 1) := by decide +kernel
theorem dX3_add_25 : decode cX3_add 25 = .ok (.aload_n 0, 1) := by decide +kernel
theorem dX3_add_26 : decode cX3_add 26 = .ok (.getfield 15, 3) := by decide +kernel
theorem dX3_add_29 : decode cX3_add 29 = .ok (.iload_n 3, 1) := by decide +kernel
theorem dX3_add_30 : decode cX3_add 30 = .ok (.aload_n 0, 1) := by decide +kernel
theorem dX3_add_31 : decode cX3_add 31 = .ok (.iload_n 1, 1) := by decide +kernel
theorem dX3_add_32 : decode cX3_add 32 = .ok (.invokevirtual 52, 3) := by decide +kernel
theorem dX3_add_35 : decode cX3_add 35 = .ok (.ifCond .eq 14, 3) := by decide +kernel
theorem dX3_add_38 : decode cX3_add 38 = .ok (.aload_n 0, 1) := by decide +kernel
theorem dX3_add_39 : decode cX3_add 39 = .ok (.getfield 15, 3) := by decide +kernel
theorem dX3_add_42 : decode cX3_add 42 = .ok (.iload_n 1, 1) := by decide +kernel
theorem dX3_add_43 : decode cX3_add 43 = .ok (.iaload, 1) := by decide +kernel
theorem dX3_add_44 : decode cX3_add 44 = .ok (.iconst 1, 1) := by decide +kernel
theorem dX3_add_45 : decode cX3_add 45 = .ok (.iadd, 1) := by decide +kernel
theorem dX3_add_46 : decode cX3_add 46 = .ok (.goto 4, 3) := by decide +kernel
theorem dX3_add_49 : decode cX3_add 49 = .ok (.iconst 0, 1) := by decide +kernel
theorem dX3_add_50 : decode cX3_add 50 = .ok (.iastore, 1) := by decide +kernel
theorem dX3_add_51 : decode cX3_add 51 = .ok (.aload_n 0, 1) := by decide +kernel
theorem dX3_add_52 : decode cX3_add 52 = .ok (.getfield 18, 3) := by decide +kernel
theorem dX3_add_55 : decode cX3_add 55 = .ok (.iload_n 3, 1) := by decide +kernel
theorem dX3_add_56 : decode cX3_add 56 = .ok (.iload_n 2, 1) := by decide +kernel
theorem dX3_add_57 : decode cX3_add 57 = .ok (.iastore, 1) := by decide +kernel
theorem dX3_add_58 : decode cX3_add 58 = .ok (.aload_n 0, 1) := by decide +kernel
theorem dX3_add_59 : decode cX3_add 59 = .ok (.getfield 39, 3) := by decide +kernel
theorem dX3_add_62 : decode cX3_add 62 = .ok (.iload_n 3, 1) := by decide +kernel
theorem dX3_add_63 : decode cX3_add 63 = .ok (.bipush 50, 2) := by decide +kernel
theorem dX3_add_65 : decode cX3_add 65 = .ok (.iastore, 1) := by decide +kernel
theorem dX3_add_66 : decode cX3_add 66 = .ok (.aload_n 0, 1) := by decide +kernel
theorem dX3_add_67 : decode cX3_add 67 = .ok (.dup, 1) := by decide +kernel
theorem dX3_add_68 : decode cX3_add 68 = .ok (.getfield 48, 3) := by decide +kernel
theorem dX3_add_71 : decode cX3_add 71 = .ok (.iconst 1, 1) := by decide +kernel
theorem dX3_add_72 : decode cX3_add 72 = .ok (.iadd, 1) := by decide +kernel
theorem dX3_add_73 : decode cX3_add 73 = .ok (.putfield 48, 3) := by decide +kernel
theorem dX3_add_76 : decode cX3_add 76 = .ok (.iload_n 3, 1) := by decide +kernel
theorem dX3_add_77 : decode cX3_add 77 = .ok (.ireturn, 1) := by decide +kernel
set_option maxRecDepth 20000 in
theorem ggX3_freeOf_X3_has : GoodIn wsX3_freeOf wsX3_has := goodIn_r _ [8, 9, 10, 11, 12, 13, 14, 15, 16, 17, 18, 19, 20] (by decide +kernel) (by decide +kernel)
set_option maxRecDepth 20000 in
theorem gX3_freeOf_X3_has : GoodIn wsX3_freeOf (wsV RX3 52 RX3 yX3_has wsX3_has) := goodIn_app (goodIn_of _ (by decide +kernel)) ggX3_freeOf_X3_has
theorem dX3_freeOf_0 : decode cX3_freeOf 0 = .ok (.aload_n 0, 1) := by decide +kernel
theorem dX3_freeOf_1 : decode cX3_freeOf 1 = .ok (.iload_n 1, 1) := by decide +kernel
theorem dX3_freeOf_2 : decode cX3_freeOf 2 = .ok (.invokevirtual 52, 3) := by decide +kernel
theorem dX3_freeOf_5 : decode cX3_freeOf 5 = .ok (.ifCond .eq 26, 3) := by decide +kernel
theorem dX3_freeOf_8 : decode cX3_freeOf 8 = .ok (.aload_n 0, 1) := by decide +kernel
theorem dX3_freeOf_9 : decode cX3_freeOf 9 = .ok (.getfield 24, 3) := by decide +kernel
theorem dX3_freeOf_12 : decode cX3_freeOf 12 = .ok (.iload_n 1, 1) := by decide +kernel
theorem dX3_freeOf_13 : decode cX3_freeOf 13 = .ok (.iaload, 1) := by decide +kernel
theorem dX3_freeOf_14 : decode cX3_freeOf 14 = .ok (.aload_n 0, 1) := by decide +kernel
theorem dX3_freeOf_15 : decode cX3_freeOf 15 = .ok (.getfield 27, 3) := by decide +kernel
theorem dX3_freeOf_18 : decode cX3_freeOf 18 = .ok (.iload_n 1, 1) := by decide +kernel
theorem dX3_freeOf_19 : decode cX3_freeOf 19 = .ok (.iaload, 1) := by decide +kernel
theorem dX3_freeOf_20 : decode cX3_freeOf 20 = .ok (.isub, 1) := by decide +kernel
theorem dX3_freeOf_21 : decode cX3_freeOf 21 = .ok (.aload_n 0, 1) := by decide +kernel
theorem dX3_freeOf_22 : decode cX3_freeOf 22 = .ok (.getfield 30, 3) := by decide +kernel
theorem dX3_freeOf_25 : decode cX3_freeOf 25 = .ok (.iload_n 1, 1) := by decide +kernel
theorem dX3_freeOf_26 : decode cX3_freeOf 26 = .ok (.iaload, 1) := by decide +kernel
theorem dX3_freeOf_27 : decode cX3_freeOf 27 = .ok (.isub, 1) := by decide +kernel
theorem dX3_freeOf_28 : decode cX3_freeOf 28 = .ok (.goto 4, 3) := by decide +kernel
theorem dX3_freeOf_31 : decode cX3_freeOf 31 = .ok (.iconst 0, 1) := by decide +kernel
theorem dX3_freeOf_32 : decode cX3_freeOf 32 = .ok (.ireturn, 1) := by decide +kernel
set_option maxRecDepth 20000 in
theorem ggX3_isBarred_X3_has : GoodIn wsX3_isBarred wsX3_has := goodIn_r _ [7, 8, 9, 10, 11, 12, 13, 14, 15, 16, 17, 18, 19] (by decide +kernel) (by decide +kernel)
set_option maxRecDepth 20000 in
theorem gX3_isBarred_X3_has : GoodIn wsX3_isBarred (wsV RX3 52 RX3 yX3_has wsX3_has) := goodIn_app (goodIn_of _ (by decide +kernel)) ggX3_isBarred_X3_has
theorem dX3_isBarred_0 : decode cX3_isBarred 0 = .ok (.iload_n 1, 1) := by decide +kernel
theorem dX3_isBarred_1 : decode cX3_isBarred 1 = .ok (.istore_n 2, 1) := by decide +kernel
theorem dX3_isBarred_2 : decode cX3_isBarred 2 = .ok (.iconst 0, 1) := by decide +kernel
theorem dX3_isBarred_3 : decode cX3_isBarred 3 = .ok (.istore_n 3, 1) := by decide +kernel
theorem dX3_isBarred_4 : decode cX3_isBarred 4 = .ok (.iload_n 3, 1) := by decide +kernel
theorem dX3_isBarred_5 : decode cX3_isBarred 5 = .ok (.iconst 4, 1) := by decide +kernel
theorem dX3_isBarred_6 : decode cX3_isBarred 6 = .ok (.if_icmp .gt 36, 3) := by decide +kernel
theorem dX3_isBarred_9 : decode cX3_isBarred 9 = .ok (.aload_n 0, 1) := by decide +kernel
theorem dX3_isBarred_10 : decode cX3_isBarred 10 = .ok (.iload_n 2, 1) := by decide +kernel
theorem dX3_isBarred_11 : decode cX3_isBarred 11 = .ok (.invokevirtual 52, 3) := by decide +kernel
theorem dX3_isBarred_14 : decode cX3_isBarred 14 = .ok (.ifCond .eq 28, 3) := by decide +kernel
theorem dX3_isBarred_17 : decode cX3_isBarred 17 = .ok (.aload_n 0, 1) := by decide +kernel
theorem dX3_isBarred_18 : decode cX3_isBarred 18 = .ok (.getfield 21, 3) := by decide +kernel
theorem dX3_isBarred_21 : decode cX3_isBarred 21 = .ok (.iload_n 2, 1) := by decide +kernel
theorem dX3_isBarred_22 : decode cX3_isBarred 22 = .ok (.iaload, 1) := by decide +kernel
theorem dX3_isBarred_23 : decode cX3_isBarred 23 = .ok (.iconst 1, 1) := by decide +kernel
theorem dX3_isBarred_24 : decode cX3_isBarred 24 = .ok (.if_icmp .ne 5, 3) := by decide +kernel
theorem dX3_isBarred_27 : decode cX3_isBarred 27 = .ok (.iconst 1, 1) := by decide +kernel
theorem dX3_isBarred_28 : decode cX3_isBarred 28 = .ok (.ireturn, 1) := by decide +kernel
theorem dX3_isBarred_29 : decode cX3_isBarred 29 = .ok (.aload_n 0, 1) := by decide +kernel
theorem dX3_isBarred_30 : decode cX3_isBarred 30 = .ok (.getfield 9, 3) := by decide +kernel
theorem dX3_isBarred_33 : decode cX3_isBarred 33 = .ok (.iload_n 2, 1) := by decide +kernel
theorem dX3_isBarred_34 : decode cX3_isBarred 34 = .ok (.iaload, 1) := by decide +kernel
theorem dX3_isBarred_35 : decode cX3_isBarred 35 = .ok (.istore_n 2, 1) := by decide +kernel
theorem dX3_isBarred_36 : decode cX3_isBarred 36 = .ok (.iinc 3 1, 3) := by decide +kernel
theorem dX3_isBarred_39 : decode cX3_isBarred 39 = .ok (.goto (-35), 3) := by decide +kernel
theorem dX3_isBarred_42 : decode cX3_isBarred 42 = .ok (.iconst 0, 1) := by decide +kernel
theorem dX3_isBarred_43 : decode cX3_isBarred 43 = .ok (.ireturn, 1) := by decide +kernel
set_option maxRecDepth 20000 in
theorem ggX3_countBarred_X3_isBarred : GoodIn wsX3_countBarred wsX3_isBarred := goodIn_r _ [5, 6, 7, 8, 9, 10, 4, 11, 12, 13, 14, 15, 16, 17, 18, 19, 20, 21, 22, 23] (by decide +kernel) (by decide +kernel)
set_option maxRecDepth 20000 in
theorem gX3_countBarred_X3_isBarred : GoodIn wsX3_countBarred (wsV RX3 56 RX3 yX3_isBarred wsX3_isBarred) := goodIn_app (goodIn_of _ (by decide +kernel)) ggX3_countBarred_X3_isBarred
theorem dX3_countBarred_0 : decode cX3_countBarred 0 = .ok (.iconst 0, 1) := by decide +kernel
theorem dX3_countBarred_1 : decode cX3_countBarred 1 = .ok (.istore_n 1, 1) := by decide +kernel
theorem dX3_countBarred_2 : decode cX3_countBarred 2 = .ok (.iconst 0, 1) := by decide +kernel
theorem dX3_countBarred_3 : decode cX3_countBarred 3 = .ok (.istore_n 2, 1) := by decide +kernel
theorem dX3_countBarred_4 : decode cX3_countBarred 4 = .ok (.iload_n 2, 1) := by decide +kernel
theorem dX3_countBarred_5 : decode cX3_countBarred 5 = .ok (.bipush 20, 2) := by decide +kernel
theorem dX3_countBarred_7 : decode cX3_countBarred 7 = .ok (.if_icmp .ge 20, 3) := by decide +kernel
theorem dX3_countBarred_10 : decode cX3_countBarred 10 = .ok (.aload_n 0, 1) := by decide +kernel
theorem dX3_countBarred_11 : decode cX3_countBarred 11 = .ok (.iload_n 2, 1) := by decide +kernel
theorem dX3_countBarred_12 : decode cX3_countBarred 12 = .ok (.invokevirtual 56, 3) := by decide +kernel
theorem dX3_countBarred_15 : decode cX3_countBarred 15 = .ok (.ifCond .eq 6, 3) := by decide +kernel
theorem dX3_countBarred_18 : decode cX3_countBarred 18 = .ok (.iinc 1 1, 3) := by decide +kernel
theorem dX3_countBarred_21 : decode cX3_countBarred 21 = .ok (.iinc 2 1, 3) := by decide +kernel
theorem dX3_countBarred_24 : decode cX3_countBarred 24 = .ok (.goto (-20), 3) := by decide +kernel
theorem dX3_countBarred_27 : decode cX3_countBarred 27 = .ok (.iload_n 1, 1) := by decide +kernel
theorem dX3_countBarred_28 : decode cX3_countBarred 28 = .ok (.ireturn, 1) := by decide +kernel
set_option maxRecDepth 20000 in
theorem ggX3_isWithin_X3_has : GoodIn wsX3_isWithin wsX3_has := goodIn_r _ [6, 7, 8, 9, 10, 11, 12, 13, 14, 15, 16, 17, 18] (by decide +kernel) (by decide +kernel)
set_option maxRecDepth 20000 in
theorem gX3_isWithin_X3_has : GoodIn wsX3_isWithin (wsV RX3 52 RX3 yX3_has wsX3_has) := goodIn_app (goodIn_of _ (by decide +kernel)) ggX3_isWithin_X3_has
theorem dX3_isWithin_0 : decode cX3_isWithin 0 = .ok (.iload_n 1, 1) := by decide +kernel
theorem dX3_isWithin_1 : decode cX3_isWithin 1 = .ok (.istore_n 3, 1) := by decide +kernel
theorem dX3_isWithin_2 : decode cX3_isWithin 2 = .ok (.iconst 0, 1) := by decide +kernel
theorem dX3_isWithin_3 : decode cX3_isWithin 3 = .ok (.istore 4, 2) := by decide +kernel
theorem dX3_isWithin_5 : decode cX3_isWithin 5 = .ok (.iload 4, 2) := by decide +kernel
theorem dX3_isWithin_7 : decode cX3_isWithin 7 = .ok (.iconst 4, 1) := by decide +kernel
theorem dX3_isWithin_8 : decode cX3_isWithin 8 = .ok (.if_icmp .gt 31, 3) := by decide +kernel
theorem dX3_isWithin_11 : decode cX3_isWithin 11 = .ok (.aload_n 0, 1) := by decide +kernel
theorem dX3_isWithin_12 : decode cX3_isWithin 12 = .ok (.iload_n 3, 1) := by decide +kernel
theorem dX3_isWithin_13 : decode cX3_isWithin 13 = .ok (.invokevirtual 52, 3) := by decide +kernel
theorem dX3_isWithin_16 : decode cX3_isWithin 16 = .ok (.ifCond .eq 23, 3) := by decide +kernel
theorem dX3_isWithin_19 : decode cX3_isWithin 19 = .ok (.iload_n 3, 1) := by decide +kernel
theorem dX3_isWithin_20 : decode cX3_isWithin 20 = .ok (.iload_n 2, 1) := by decide +kernel
theorem dX3_isWithin_21 : decode cX3_isWithin 21 = .ok (.if_icmp .ne 5, 3) := by decide +kernel
theorem dX3_isWithin_24 : decode cX3_isWithin 24 = .ok (.iconst 1, 1) := by decide +kernel
theorem dX3_isWithin_25 : decode cX3_isWithin 25 = .ok (.ireturn, 1) := by decide +kernel
theorem dX3_isWithin_26 : decode cX3_isWithin 26 = .ok (.aload_n 0, 1) := by decide +kernel
theorem dX3_isWithin_27 : decode cX3_isWithin 27 = .ok (.getfield 9, 3) := by decide +kernel
theorem dX3_isWithin_30 : decode cX3_isWithin 30 = .ok (.iload_n 3, 1) := by decide +kernel
theorem dX3_isWithin_31 : decode cX3_isWithin 31 = .ok (.iaload, 1) := by decide +kernel
theorem dX3_isWithin_32 : decode cX3_isWithin 32 = .ok (.istore_n 3, 1) := by decide +kernel
theorem dX3_isWithin_33 : decode cX3_isWithin 33 = .ok (.iinc 4 1, 3) := by decide +kernel
theorem dX3_isWithin_36 : decode cX3_isWithin 36 = .ok (.goto (-31), 3) := by decide +kernel
theorem dX3_isWithin_39 : decode cX3_isWithin 39 = .ok (.iconst 0, 1) := by decide +kernel
theorem dX3_isWithin_40 : decode cX3_isWithin 40 = .ok (.ireturn, 1) := by decide +kernel
set_option maxRecDepth 20000 in
theorem ggX3_sumWithin_X3_isWithin : GoodIn wsX3_sumWithin wsX3_isWithin := goodIn_r _ [5, 6, 7, 8, 9, 4, 10, 11, 23, 24, 25, 26, 27, 28, 29, 30, 31, 32, 33] (by decide +kernel) (by decide +kernel)
set_option maxRecDepth 20000 in
theorem gX3_sumWithin_X3_isWithin : GoodIn wsX3_sumWithin (wsV RX3 59 RX3 yX3_isWithin wsX3_isWithin) := goodIn_app (goodIn_of _ (by decide +kernel)) ggX3_sumWithin_X3_isWithin
set_option maxRecDepth 20000 in
theorem ggX3_sumWithin_X3_summand : GoodIn wsX3_sumWithin wsX3_summand := goodIn_r _ [15, 16, 17, 18, 7, 8, 9, 4, 10, 11, 19, 20, 21, 22, 23, 24, 25, 26, 27, 28, 29, 30, 31, 32, 33] (by decide +kernel) (by decide +kernel)
set_option maxRecDepth 20000 in
theorem gX3_sumWithin_X3_summand : GoodIn wsX3_sumWithin (wsV RX3 63 RX3 yX3_summand wsX3_summand) := goodIn_app (goodIn_of _ (by decide +kernel)) ggX3_sumWithin_X3_summand
theorem dX3_sumWithin_0 : decode cX3_sumWithin 0 = .ok (.iconst 0, 1) := by decide +kernel
theorem dX3_sumWithin_1 : decode cX3_sumWithin 1 = .ok (.istore_n 3, 1) := by decide +kernel
theorem dX3_sumWithin_2 : decode cX3_sumWithin 2 = .ok (.iconst 0, 1) := by decide +kernel
theorem dX3_sumWithin_3 : decode cX3_sumWithin 3 = .ok (.istore 4, 2) := by decide +kernel
theorem dX3_sumWithin_5 : decode cX3_sumWithin 5 = .ok (.iload 4, 2) := by decide +kernel
theorem dX3_sumWithin_7 : decode cX3_sumWithin 7 = .ok (.bipush 20, 2) := by decide +kernel
theorem dX3_sumWithin_9 : decode cX3_sumWithin 9 = .ok (.if_icmp .ge 29, 3) := by decide +kernel
theorem dX3_sumWithin_12 : decode cX3_sumWithin 12 = .ok (.aload_n 0, 1) := by decide +kernel
theorem dX3_sumWithin_13 : decode cX3_sumWithin 13 = .ok (.iload 4, 2) := by decide +kernel
theorem dX3_sumWithin_15 : decode cX3_sumWithin 15 = .ok (.iload_n 1, 1) := by decide +kernel
theorem dX3_sumWithin_16 : decode cX3_sumWithin 16 = .ok (.invokevirtual 59, 3) := by decide +kernel
theorem dX3_sumWithin_19 : decode cX3_sumWithin 19 = .ok (.ifCond .eq 13, 3) := by decide +kernel
theorem dX3_sumWithin_22 : decode cX3_sumWithin 22 = .ok (.iload_n 3, 1) := by decide +kernel
theorem dX3_sumWithin_23 : decode cX3_sumWithin 23 = .ok (.aload_n 0, 1) := by decide +kernel
theorem dX3_sumWithin_24 : decode cX3_sumWithin 24 = .ok (.iload 4, 2) := by decide +kernel
theorem dX3_sumWithin_26 : decode cX3_sumWithin 26 = .ok (.iload_n 2, 1) := by decide +kernel
theorem dX3_sumWithin_27 : decode cX3_sumWithin 27 = .ok (.invokevirtual 63, 3) := by decide +kernel
theorem dX3_sumWithin_30 : decode cX3_sumWithin 30 = .ok (.iadd, 1) := by decide +kernel
theorem dX3_sumWithin_31 : decode cX3_sumWithin 31 = .ok (.istore_n 3, 1) := by decide +kernel
theorem dX3_sumWithin_32 : decode cX3_sumWithin 32 = .ok (.iinc 4 1, 3) := by decide +kernel
theorem dX3_sumWithin_35 : decode cX3_sumWithin 35 = .ok (.goto (-30), 3) := by decide +kernel
theorem dX3_sumWithin_38 : decode cX3_sumWithin 38 = .ok (.iload_n 3, 1) := by decide +kernel
theorem dX3_sumWithin_39 : decode cX3_sumWithin 39 = .ok (.ireturn, 1) := by decide +kernel
set_option maxRecDepth 20000 in
theorem ggX3_summand_X3_has : GoodIn wsX3_summand wsX3_has := goodIn_r _ [8, 9, 14, 15, 16, 17, 18, 19, 20, 21, 22, 23, 24] (by decide +kernel) (by decide +kernel)
set_option maxRecDepth 20000 in
theorem gX3_summand_X3_has : GoodIn wsX3_summand (wsV RX3 52 RX3 yX3_has wsX3_has) := goodIn_app (goodIn_of _ (by decide +kernel)) ggX3_summand_X3_has
set_option maxRecDepth 20000 in
theorem ggX3_summand_X3_freeOf : GoodIn wsX3_summand wsX3_freeOf := goodIn_r _ [13, 1, 2, 3, 4, 5, 6, 7, 8, 9, 14, 15, 16, 17, 18, 19, 20, 21, 22, 23, 24] (by decide +kernel) (by decide +kernel)
set_option maxRecDepth 20000 in
theorem gX3_summand_X3_freeOf : GoodIn wsX3_summand (wsV RX3 67 RX3 yX3_freeOf wsX3_freeOf) := goodIn_app (goodIn_of _ (by decide +kernel)) ggX3_summand_X3_freeOf
theorem dX3_summand_0 : decode cX3_summand 0 = .ok (.aload_n 0, 1) := by decide +kernel
theorem dX3_summand_1 : decode cX3_summand 1 = .ok (.iload_n 1, 1) := by decide +kernel
theorem dX3_summand_2 : decode cX3_summand 2 = .ok (.invokevirtual 52, 3) := by decide +kernel
theorem dX3_summand_5 : decode cX3_summand 5 = .ok (.ifCond .ne 5, 3) := by decide +kernel
theorem dX3_summand_8 : decode cX3_summand 8 = .ok (.iconst 0, 1) := by decide +kernel
theorem dX3_summand_9 : decode cX3_summand 9 = .ok (.ireturn, 1) := by decide +kernel
theorem dX3_summand_10 : decode cX3_summand 10 = .ok (.iload_n 2, 1) := by decide +kernel
theorem dX3_summand_11 : decode cX3_summand 11 = .ok (.tableswitch 56 0 3 #[29, 36, 43, 50], 29) := by decide +kernel
theorem dX3_summand_40 : decode cX3_summand 40 = .ok (.aload_n 0, 1) := by decide +kernel
theorem dX3_summand_41 : decode cX3_summand 41 = .ok (.getfield 24, 3) := by decide +kernel
theorem dX3_summand_44 : decode cX3_summand 44 = .ok (.iload_n 1, 1) := by decide +kernel
theorem dX3_summand_45 : decode cX3_summand 45 = .ok (.iaload, 1) := by decide +kernel
theorem dX3_summand_46 : decode cX3_summand 46 = .ok (.ireturn, 1) := by decide +kernel
theorem dX3_summand_47 : decode cX3_summand 47 = .ok (.aload_n 0, 1) := by decide +kernel
theorem dX3_summand_48 : decode cX3_summand 48 = .ok (.getfield 27, 3) := by decide +kernel
theorem dX3_summand_51 : decode cX3_summand 51 = .ok (.iload_n 1, 1) := by decide +kernel
theorem dX3_summand_52 : decode cX3_summand 52 = .ok (.iaload, 1) := by decide +kernel
theorem dX3_summand_53 : decode cX3_summand 53 = .ok (.ireturn, 1) := by decide +kernel
theorem dX3_summand_54 : decode cX3_summand 54 = .ok (.aload_n 0, 1) := by decide +kernel
theorem dX3_summand_55 : decode cX3_summand 55 = .ok (.getfield 30, 3) := by decide +kernel
theorem dX3_summand_58 : decode cX3_summand 58 = .ok (.iload_n 1, 1) := by decide +kernel
theorem dX3_summand_59 : decode cX3_summand 59 = .ok (.iaload, 1) := by decide +kernel
theorem dX3_summand_60 : decode cX3_summand 60 = .ok (.ireturn, 1) := by decide +kernel
theorem dX3_summand_61 : decode cX3_summand 61 = .ok (.aload_n 0, 1) := by decide +kernel
theorem dX3_summand_62 : decode cX3_summand 62 = .ok (.iload_n 1, 1) := by decide +kernel
theorem dX3_summand_63 : decode cX3_summand 63 = .ok (.invokevirtual 67, 3) := by decide +kernel
theorem dX3_summand_66 : decode cX3_summand 66 = .ok (.ireturn, 1) := by decide +kernel
theorem dX3_summand_67 : decode cX3_summand 67 = .ok (.iconst 1, 1) := by decide +kernel
theorem dX3_summand_68 : decode cX3_summand 68 = .ok (.ireturn, 1) := by decide +kernel
set_option maxRecDepth 20000 in
theorem ggX3_changeCommitted_X3_has : GoodIn wsX3_changeCommitted wsX3_has := goodIn_r _ [6, 7, 8, 9, 10, 11, 12, 13, 14, 15, 16, 17, 18] (by decide +kernel) (by decide +kernel)
set_option maxRecDepth 20000 in
theorem gX3_changeCommitted_X3_has : GoodIn wsX3_changeCommitted (wsV RX3 52 RX3 yX3_has wsX3_has) := goodIn_app (goodIn_of _ (by decide +kernel)) ggX3_changeCommitted_X3_has
theorem dX3_changeCommitted_0 : decode cX3_changeCommitted 0 = .ok (.aload_n 0, 1) := by decide +kernel
theorem dX3_changeCommitted_1 : decode cX3_changeCommitted 1 = .ok (.iload_n 1, 1) := by decide +kernel
theorem dX3_changeCommitted_2 : decode cX3_changeCommitted 2 = .ok (.invokevirtual 52, 3) := by decide +kernel
theorem dX3_changeCommitted_5 : decode cX3_changeCommitted 5 = .ok (.ifCond .eq 13, 3) := by decide +kernel
theorem dX3_changeCommitted_8 : decode cX3_changeCommitted 8 = .ok (.aload_n 0, 1) := by decide +kernel
theorem dX3_changeCommitted_9 : decode cX3_changeCommitted 9 = .ok (.getfield 27, 3) := by decide +kernel
theorem dX3_changeCommitted_12 : decode cX3_changeCommitted 12 = .ok (.iload_n 1, 1) := by decide +kernel
theorem dX3_changeCommitted_13 : decode cX3_changeCommitted 13 = .ok (.dup2, 1) := by decide +kernel
theorem dX3_changeCommitted_14 : decode cX3_changeCommitted 14 = .ok (.iaload, 1) := by decide +kernel
theorem dX3_changeCommitted_15 : decode cX3_changeCommitted 15 = .ok (.iload_n 2, 1) := by decide +kernel
theorem dX3_changeCommitted_16 : decode cX3_changeCommitted 16 = .ok (.iadd, 1) := by decide +kernel
theorem dX3_changeCommitted_17 : decode cX3_changeCommitted 17 = .ok (.iastore, 1) := by decide +kernel
theorem dX3_changeCommitted_18 : decode cX3_changeCommitted 18 = .ok (.return_, 1) := by decide +kernel
set_option maxRecDepth 20000 in
theorem ggX3_spendCommitted_X3_has : GoodIn wsX3_spendCommitted wsX3_has := goodIn_r _ [7, 8, 9, 10, 11, 12, 13, 14, 15, 16, 17, 18, 19] (by decide +kernel) (by decide +kernel)
set_option maxRecDepth 20000 in
theorem gX3_spendCommitted_X3_has : GoodIn wsX3_spendCommitted (wsV RX3 52 RX3 yX3_has wsX3_has) := goodIn_app (goodIn_of _ (by decide +kernel)) ggX3_spendCommitted_X3_has
theorem dX3_spendCommitted_0 : decode cX3_spendCommitted 0 = .ok (.aload_n 0, 1) := by decide +kernel
theorem dX3_spendCommitted_1 : decode cX3_spendCommitted 1 = .ok (.iload_n 1, 1) := by decide +kernel
theorem dX3_spendCommitted_2 : decode cX3_spendCommitted 2 = .ok (.invokevirtual 52, 3) := by decide +kernel
theorem dX3_spendCommitted_5 : decode cX3_spendCommitted 5 = .ok (.ifCond .eq 23, 3) := by decide +kernel
theorem dX3_spendCommitted_8 : decode cX3_spendCommitted 8 = .ok (.aload_n 0, 1) := by decide +kernel
theorem dX3_spendCommitted_9 : decode cX3_spendCommitted 9 = .ok (.getfield 27, 3) := by decide +kernel
theorem dX3_spendCommitted_12 : decode cX3_spendCommitted 12 = .ok (.iload_n 1, 1) := by decide +kernel
theorem dX3_spendCommitted_13 : decode cX3_spendCommitted 13 = .ok (.dup2, 1) := by decide +kernel
theorem dX3_spendCommitted_14 : decode cX3_spendCommitted 14 = .ok (.iaload, 1) := by decide +kernel
theorem dX3_spendCommitted_15 : decode cX3_spendCommitted 15 = .ok (.iload_n 2, 1) := by decide +kernel
theorem dX3_spendCommitted_16 : decode cX3_spendCommitted 16 = .ok (.isub, 1) := by decide +kernel
theorem dX3_spendCommitted_17 : decode cX3_spendCommitted 17 = .ok (.iastore, 1) := by decide +kernel
theorem dX3_spendCommitted_18 : decode cX3_spendCommitted 18 = .ok (.aload_n 0, 1) := by decide +kernel
theorem dX3_spendCommitted_19 : decode cX3_spendCommitted 19 = .ok (.getfield 30, 3) := by decide +kernel
theorem dX3_spendCommitted_22 : decode cX3_spendCommitted 22 = .ok (.iload_n 1, 1) := by decide +kernel
theorem dX3_spendCommitted_23 : decode cX3_spendCommitted 23 = .ok (.dup2, 1) := by decide +kernel
theorem dX3_spendCommitted_24 : decode cX3_spendCommitted 24 = .ok (.iaload, 1) := by decide +kernel
theorem dX3_spendCommitted_25 : decode cX3_spendCommitted 25 = .ok (.iload_n 2, 1) := by decide +kernel
theorem dX3_spendCommitted_26 : decode cX3_spendCommitted 26 = .ok (.iadd, 1) := by decide +kernel
theorem dX3_spendCommitted_27 : decode cX3_spendCommitted 27 = .ok (.iastore, 1) := by decide +kernel
theorem dX3_spendCommitted_28 : decode cX3_spendCommitted 28 = .ok (.return_, 1) := by decide +kernel
set_option maxRecDepth 20000 in
theorem ggX3_movable_X3_hasBoth : GoodIn wsX3_movable wsX3_hasBoth := goodIn_r _ [16, 17, 18, 19, 15, 20, 21, 48, 49, 50, 51, 52, 53, 54, 55, 56, 57, 58] (by decide +kernel) (by decide +kernel)
set_option maxRecDepth 20000 in
theorem gX3_movable_X3_hasBoth : GoodIn wsX3_movable (wsV RX3 71 RX3 yX3_hasBoth wsX3_hasBoth) := goodIn_app (goodIn_of _ (by decide +kernel)) ggX3_movable_X3_hasBoth
set_option maxRecDepth 20000 in
theorem ggX3_movable_X3_mayGive : GoodIn wsX3_movable wsX3_mayGive := goodIn_r _ [25, 26, 27, 12, 13, 14, 15, 16, 17, 18, 19, 20, 21, 28, 29, 30, 31, 32, 33, 34, 35, 36, 48, 49, 50, 51, 52, 53, 54, 55, 56, 57, 58] (by decide +kernel) (by decide +kernel)
set_option maxRecDepth 20000 in
theorem gX3_movable_X3_mayGive : GoodIn wsX3_movable (wsV RX3 74 RX3 yX3_mayGive wsX3_mayGive) := goodIn_app (goodIn_of _ (by decide +kernel)) ggX3_movable_X3_mayGive
set_option maxRecDepth 20000 in
theorem ggX3_movable_X5_partOf : GoodIn wsX3_movable wsX5_partOf := goodIn_r _ [39, 40] (by decide +kernel) (by decide +kernel)
set_option maxRecDepth 20000 in
theorem gX3_movable_X5_partOf_n77 : GoodIn wsX3_movable (wsX5_partOf) := ggX3_movable_X5_partOf
set_option maxRecDepth 20000 in
theorem ggX3_movable_X3_freeOf : GoodIn wsX3_movable wsX3_freeOf := goodIn_r _ [44, 45, 46, 47, 17, 18, 19, 15, 20, 21, 48, 49, 50, 51, 52, 53, 54, 55, 56, 57, 58] (by decide +kernel) (by decide +kernel)
set_option maxRecDepth 20000 in
theorem gX3_movable_X3_freeOf : GoodIn wsX3_movable (wsV RX3 67 RX3 yX3_freeOf wsX3_freeOf) := goodIn_app (goodIn_of _ (by decide +kernel)) ggX3_movable_X3_freeOf
theorem dX3_movable_0 : decode cX3_movable 0 = .ok (.aload_n 0, 1) := by decide +kernel
theorem dX3_movable_1 : decode cX3_movable 1 = .ok (.iload_n 1, 1) := by decide +kernel
theorem dX3_movable_2 : decode cX3_movable 2 = .ok (.iload_n 2, 1) := by decide +kernel
theorem dX3_movable_3 : decode cX3_movable 3 = .ok (.invokevirtual 71, 3) := by decide +kernel
theorem dX3_movable_6 : decode cX3_movable 6 = .ok (.ifCond .eq 12, 3) := by decide +kernel
theorem dX3_movable_9 : decode cX3_movable 9 = .ok (.aload_n 0, 1) := by decide +kernel
theorem dX3_movable_10 : decode cX3_movable 10 = .ok (.iload_n 1, 1) := by decide +kernel
theorem dX3_movable_11 : decode cX3_movable 11 = .ok (.iload_n 2, 1) := by decide +kernel
theorem dX3_movable_12 : decode cX3_movable 12 = .ok (.invokevirtual 74, 3) := by decide +kernel
theorem dX3_movable_15 : decode cX3_movable 15 = .ok (.ifCond .ne 5, 3) := by decide +kernel
theorem dX3_movable_18 : decode cX3_movable 18 = .ok (.iconst 0, 1) := by decide +kernel
theorem dX3_movable_19 : decode cX3_movable 19 = .ok (.ireturn, 1) := by decide +kernel
theorem dX3_movable_20 : decode cX3_movable 20 = .ok (.aload_n 0, 1) := by decide +kernel
theorem dX3_movable_21 : decode cX3_movable 21 = .ok (.getfield 33, 3) := by decide +kernel
theorem dX3_movable_24 : decode cX3_movable 24 = .ok (.iload_n 1, 1) := by decide +kernel
theorem dX3_movable_25 : decode cX3_movable 25 = .ok (.iaload, 1) := by decide +kernel
theorem dX3_movable_26 : decode cX3_movable 26 = .ok (.aload_n 0, 1) := by decide +kernel
theorem dX3_movable_27 : decode cX3_movable 27 = .ok (.getfield 39, 3) := by decide +kernel
theorem dX3_movable_30 : decode cX3_movable 30 = .ok (.iload_n 1, 1) := by decide +kernel
theorem dX3_movable_31 : decode cX3_movable 31 = .ok (.iaload, 1) := by decide +kernel
theorem dX3_movable_32 : decode cX3_movable 32 = .ok (.invokestatic 77, 3) := by decide +kernel
theorem dX3_movable_35 : decode cX3_movable 35 = .ok (.aload_n 0, 1) := by decide +kernel
theorem dX3_movable_36 : decode cX3_movable 36 = .ok (.getfield 36, 3) := by decide +kernel
theorem dX3_movable_39 : decode cX3_movable 39 = .ok (.iload_n 1, 1) := by decide +kernel
theorem dX3_movable_40 : decode cX3_movable 40 = .ok (.iaload, 1) := by decide +kernel
theorem dX3_movable_41 : decode cX3_movable 41 = .ok (.isub, 1) := by decide +kernel
theorem dX3_movable_42 : decode cX3_movable 42 = .ok (.istore_n 3, 1) := by decide +kernel
theorem dX3_movable_43 : decode cX3_movable 43 = .ok (.ldc 80, 2) := by decide +kernel
theorem dX3_movable_45 : decode cX3_movable 45 = .ok (.aload_n 0, 1) := by decide +kernel
theorem dX3_movable_46 : decode cX3_movable 46 = .ok (.iload_n 1, 1) := by decide +kernel
theorem dX3_movable_47 : decode cX3_movable 47 = .ok (.invokevirtual 67, 3) := by decide +kernel
theorem dX3_movable_50 : decode cX3_movable 50 = .ok (.iload_n 3, 1) := by decide +kernel
theorem dX3_movable_51 : decode cX3_movable 51 = .ok (.invokestatic 81, 3) := by decide +kernel
theorem dX3_movable_54 : decode cX3_movable 54 = .ok (.invokestatic 81, 3) := by decide +kernel
theorem dX3_movable_57 : decode cX3_movable 57 = .ok (.istore 4, 2) := by decide +kernel
theorem dX3_movable_59 : decode cX3_movable 59 = .ok (.iconst 0, 1) := by decide +kernel
theorem dX3_movable_60 : decode cX3_movable 60 = .ok (.iload 4, 2) := by decide +kernel
theorem dX3_movable_62 : decode cX3_movable 62 = .ok (.invokestatic 86, 3) := by decide +kernel
theorem dX3_movable_65 : decode cX3_movable 65 = .ok (.ireturn, 1) := by decide +kernel
set_option maxRecDepth 20000 in
theorem ggX3_mayGive_X3_hasBoth : GoodIn wsX3_mayGive wsX3_hasBoth := goodIn_r _ [7, 8, 9, 10, 6, 11, 12, 22, 23, 24, 25, 26, 27, 28, 29, 30, 31, 32] (by decide +kernel) (by decide +kernel)
set_option maxRecDepth 20000 in
theorem gX3_mayGive_X3_hasBoth : GoodIn wsX3_mayGive (wsV RX3 71 RX3 yX3_hasBoth wsX3_hasBoth) := goodIn_app (goodIn_of _ (by decide +kernel)) ggX3_mayGive_X3_hasBoth
set_option maxRecDepth 20000 in
theorem ggX3_mayGive_X3_isBarred : GoodIn wsX3_mayGive wsX3_isBarred := goodIn_r _ [16, 17, 1, 8, 9, 10, 6, 11, 12, 22, 23, 24, 25, 26, 27, 28, 29, 30, 31, 32] (by decide +kernel) (by decide +kernel)
set_option maxRecDepth 20000 in
theorem gX3_mayGive_X3_isBarred : GoodIn wsX3_mayGive (wsV RX3 56 RX3 yX3_isBarred wsX3_isBarred) := goodIn_app (goodIn_of _ (by decide +kernel)) ggX3_mayGive_X3_isBarred
set_option maxRecDepth 20000 in
theorem ggX3_mayGive_X3_isWithin : GoodIn wsX3_mayGive wsX3_isWithin := goodIn_r _ [21, 1, 8, 9, 10, 6, 11, 12, 22, 23, 24, 25, 26, 27, 28, 29, 30, 31, 32] (by decide +kernel) (by decide +kernel)
set_option maxRecDepth 20000 in
theorem gX3_mayGive_X3_isWithin : GoodIn wsX3_mayGive (wsV RX3 59 RX3 yX3_isWithin wsX3_isWithin) := goodIn_app (goodIn_of _ (by decide +kernel)) ggX3_mayGive_X3_isWithin
theorem dX3_mayGive_0 : decode cX3_mayGive 0 = .ok (.aload_n 0, 1) := by decide +kernel
theorem dX3_mayGive_1 : decode cX3_mayGive 1 = .ok (.iload_n 1, 1) := by decide +kernel
theorem dX3_mayGive_2 : decode cX3_mayGive 2 = .ok (.iload_n 2, 1) := by decide +kernel
theorem dX3_mayGive_3 : decode cX3_mayGive 3 = .ok (.invokevirtual 71, 3) := by decide +kernel
theorem dX3_mayGive_6 : decode cX3_mayGive 6 = .ok (.ifCond .eq 19, 3) := by decide +kernel
theorem dX3_mayGive_9 : decode cX3_mayGive 9 = .ok (.aload_n 0, 1) := by decide +kernel
theorem dX3_mayGive_10 : decode cX3_mayGive 10 = .ok (.iload_n 1, 1) := by decide +kernel
theorem dX3_mayGive_11 : decode cX3_mayGive 11 = .ok (.invokevirtual 56, 3) := by decide +kernel
theorem dX3_mayGive_14 : decode cX3_mayGive 14 = .ok (.ifCond .ne 11, 3) := by decide +kernel
theorem dX3_mayGive_17 : decode cX3_mayGive 17 = .ok (.aload_n 0, 1) := by decide +kernel
theorem dX3_mayGive_18 : decode cX3_mayGive 18 = .ok (.iload_n 2, 1) := by decide +kernel
theorem dX3_mayGive_19 : decode cX3_mayGive 19 = .ok (.invokevirtual 56, 3) := by decide +kernel
theorem dX3_mayGive_22 : decode cX3_mayGive 22 = .ok (.ifCond .eq 5, 3) := by decide +kernel
theorem dX3_mayGive_25 : decode cX3_mayGive 25 = .ok (.iconst 0, 1) := by decide +kernel
theorem dX3_mayGive_26 : decode cX3_mayGive 26 = .ok (.ireturn, 1) := by decide +kernel
theorem dX3_mayGive_27 : decode cX3_mayGive 27 = .ok (.aload_n 0, 1) := by decide +kernel
theorem dX3_mayGive_28 : decode cX3_mayGive 28 = .ok (.iload_n 1, 1) := by decide +kernel
theorem dX3_mayGive_29 : decode cX3_mayGive 29 = .ok (.iload_n 2, 1) := by decide +kernel
theorem dX3_mayGive_30 : decode cX3_mayGive 30 = .ok (.invokevirtual 59, 3) := by decide +kernel
theorem dX3_mayGive_33 : decode cX3_mayGive 33 = .ok (.ifCond .ne 27, 3) := by decide +kernel
theorem dX3_mayGive_36 : decode cX3_mayGive 36 = .ok (.aload_n 0, 1) := by decide +kernel
theorem dX3_mayGive_37 : decode cX3_mayGive 37 = .ok (.iload_n 2, 1) := by decide +kernel
theorem dX3_mayGive_38 : decode cX3_mayGive 38 = .ok (.iload_n 1, 1) := by decide +kernel
theorem dX3_mayGive_39 : decode cX3_mayGive 39 = .ok (.invokevirtual 59, 3) := by decide +kernel
theorem dX3_mayGive_42 : decode cX3_mayGive 42 = .ok (.ifCond .ne 18, 3) := by decide +kernel
theorem dX3_mayGive_45 : decode cX3_mayGive 45 = .ok (.aload_n 0, 1) := by decide +kernel
theorem dX3_mayGive_46 : decode cX3_mayGive 46 = .ok (.getfield 9, 3) := by decide +kernel
theorem dX3_mayGive_49 : decode cX3_mayGive 49 = .ok (.iload_n 1, 1) := by decide +kernel
theorem dX3_mayGive_50 : decode cX3_mayGive 50 = .ok (.iaload, 1) := by decide +kernel
theorem dX3_mayGive_51 : decode cX3_mayGive 51 = .ok (.aload_n 0, 1) := by decide +kernel
theorem dX3_mayGive_52 : decode cX3_mayGive 52 = .ok (.getfield 9, 3) := by decide +kernel
theorem dX3_mayGive_55 : decode cX3_mayGive 55 = .ok (.iload_n 2, 1) := by decide +kernel
theorem dX3_mayGive_56 : decode cX3_mayGive 56 = .ok (.iaload, 1) := by decide +kernel
theorem dX3_mayGive_57 : decode cX3_mayGive 57 = .ok (.if_icmp .ne 7, 3) := by decide +kernel
theorem dX3_mayGive_60 : decode cX3_mayGive 60 = .ok (.iconst 1, 1) := by decide +kernel
theorem dX3_mayGive_61 : decode cX3_mayGive 61 = .ok (.goto 4, 3) := by decide +kernel
theorem dX3_mayGive_64 : decode cX3_mayGive 64 = .ok (.iconst 0, 1) := by decide +kernel
theorem dX3_mayGive_65 : decode cX3_mayGive 65 = .ok (.istore_n 3, 1) := by decide +kernel
theorem dX3_mayGive_66 : decode cX3_mayGive 66 = .ok (.iload_n 3, 1) := by decide +kernel
theorem dX3_mayGive_67 : decode cX3_mayGive 67 = .ok (.ifCond .ne 18, 3) := by decide +kernel
theorem dX3_mayGive_70 : decode cX3_mayGive 70 = .ok (.aload_n 0, 1) := by decide +kernel
theorem dX3_mayGive_71 : decode cX3_mayGive 71 = .ok (.getfield 18, 3) := by decide +kernel
theorem dX3_mayGive_74 : decode cX3_mayGive 74 = .ok (.iload_n 1, 1) := by decide +kernel
theorem dX3_mayGive_75 : decode cX3_mayGive 75 = .ok (.iaload, 1) := by decide +kernel
theorem dX3_mayGive_76 : decode cX3_mayGive 76 = .ok (.aload_n 0, 1) := by decide +kernel
theorem dX3_mayGive_77 : decode cX3_mayGive 77 = .ok (.getfield 18, 3) := by decide +kernel
theorem dX3_mayGive_80 : decode cX3_mayGive 80 = .ok (.iload_n 2, 1) := by decide +kernel
theorem dX3_mayGive_81 : decode cX3_mayGive 81 = .ok (.iaload, 1) := by decide +kernel
theorem dX3_mayGive_82 : decode cX3_mayGive 82 = .ok (.if_icmp .gt 7, 3) := by decide +kernel
theorem dX3_mayGive_85 : decode cX3_mayGive 85 = .ok (.iconst 1, 1) := by decide +kernel
theorem dX3_mayGive_86 : decode cX3_mayGive 86 = .ok (.goto 4, 3) := by decide +kernel
theorem dX3_mayGive_89 : decode cX3_mayGive 89 = .ok (.iconst 0, 1) := by decide +kernel
theorem dX3_mayGive_90 : decode cX3_mayGive 90 = .ok (.ireturn, 1) := by decide +kernel
set_option maxRecDepth 20000 in
theorem ggX3_moveByVirement_X3_hasBoth : GoodIn wsX3_moveByVirement wsX3_hasBoth := goodIn_r _ [7, 8, 9, 10, 6, 11, 12, 13, 14, 15, 16, 17, 18, 19, 20, 21, 22, 23] (by decide +kernel) (by decide +kernel)
set_option maxRecDepth 20000 in
theorem gX3_moveByVirement_X3_hasBoth : GoodIn wsX3_moveByVirement (wsV RX3 71 RX3 yX3_hasBoth wsX3_hasBoth) := goodIn_app (goodIn_of _ (by decide +kernel)) ggX3_moveByVirement_X3_hasBoth
theorem dX3_moveByVirement_0 : decode cX3_moveByVirement 0 = .ok (.aload_n 0, 1) := by decide +kernel
theorem dX3_moveByVirement_1 : decode cX3_moveByVirement 1 = .ok (.iload_n 1, 1) := by decide +kernel
theorem dX3_moveByVirement_2 : decode cX3_moveByVirement 2 = .ok (.iload_n 2, 1) := by decide +kernel
theorem dX3_moveByVirement_3 : decode cX3_moveByVirement 3 = .ok (.invokevirtual 71, 3) := by decide +kernel
theorem dX3_moveByVirement_6 : decode cX3_moveByVirement 6 = .ok (.ifCond .eq 33, 3) := by decide +kernel
theorem dX3_moveByVirement_9 : decode cX3_moveByVirement 9 = .ok (.aload_n 0, 1) := by decide +kernel
theorem dX3_moveByVirement_10 : decode cX3_moveByVirement 10 = .ok (.getfield 24, 3) := by decide +kernel
theorem dX3_moveByVirement_13 : decode cX3_moveByVirement 13 = .ok (.iload_n 1, 1) := by decide +kernel
theorem dX3_moveByVirement_14 : decode cX3_moveByVirement 14 = .ok (.dup2, 1) := by decide +kernel
theorem dX3_moveByVirement_15 : decode cX3_moveByVirement 15 = .ok (.iaload, 1) := by decide +kernel
theorem dX3_moveByVirement_16 : decode cX3_moveByVirement 16 = .ok (.iload_n 3, 1) := by decide +kernel
theorem dX3_moveByVirement_17 : decode cX3_moveByVirement 17 = .ok (.isub, 1) := by decide +kernel
theorem dX3_moveByVirement_18 : decode cX3_moveByVirement 18 = .ok (.iastore, 1) := by decide +kernel
theorem dX3_moveByVirement_19 : decode cX3_moveByVirement 19 = .ok (.aload_n 0, 1) := by decide +kernel
theorem dX3_moveByVirement_20 : decode cX3_moveByVirement 20 = .ok (.getfield 36, 3) := by decide +kernel
theorem dX3_moveByVirement_23 : decode cX3_moveByVirement 23 = .ok (.iload_n 1, 1) := by decide +kernel
theorem dX3_moveByVirement_24 : decode cX3_moveByVirement 24 = .ok (.dup2, 1) := by decide +kernel
theorem dX3_moveByVirement_25 : decode cX3_moveByVirement 25 = .ok (.iaload, 1) := by decide +kernel
theorem dX3_moveByVirement_26 : decode cX3_moveByVirement 26 = .ok (.iload_n 3, 1) := by decide +kernel
theorem dX3_moveByVirement_27 : decode cX3_moveByVirement 27 = .ok (.iadd, 1) := by decide +kernel
theorem dX3_moveByVirement_28 : decode cX3_moveByVirement 28 = .ok (.iastore, 1) := by decide +kernel
theorem dX3_moveByVirement_29 : decode cX3_moveByVirement 29 = .ok (.aload_n 0, 1) := by decide +kernel
theorem dX3_moveByVirement_30 : decode cX3_moveByVirement 30 = .ok (.getfield 24, 3) := by decide +kernel
theorem dX3_moveByVirement_33 : decode cX3_moveByVirement 33 = .ok (.iload_n 2, 1) := by decide +kernel
theorem dX3_moveByVirement_34 : decode cX3_moveByVirement 34 = .ok (.dup2, 1) := by decide +kernel
theorem dX3_moveByVirement_35 : decode cX3_moveByVirement 35 = .ok (.iaload, 1) := by decide +kernel
theorem dX3_moveByVirement_36 : decode cX3_moveByVirement 36 = .ok (.iload_n 3, 1) := by decide +kernel
theorem dX3_moveByVirement_37 : decode cX3_moveByVirement 37 = .ok (.iadd, 1) := by decide +kernel
theorem dX3_moveByVirement_38 : decode cX3_moveByVirement 38 = .ok (.iastore, 1) := by decide +kernel
theorem dX3_moveByVirement_39 : decode cX3_moveByVirement 39 = .ok (.return_, 1) := by decide +kernel
set_option maxRecDepth 20000 in
theorem ggX3_giverOfMost_X3_movable : GoodIn wsX3_giverOfMost wsX3_movable := goodIn_r _ [6, 7, 8, 9, 10, 11, 12, 13, 14, 15, 16, 17, 18, 19, 20, 5, 21, 22, 23, 24, 25, 26, 27, 28, 29, 30, 31, 1, 32, 33, 34, 35, 36, 37, 38, 39, 40, 41, 42, 43, 44, 45, 46, 47, 48, 49, 50, 51, 52, 53, 54, 55, 56, 57, 58, 59, 60, 61, 62] (by decide +kernel) (by decide +kernel)
set_option maxRecDepth 20000 in
theorem gX3_giverOfMost_X3_movable : GoodIn wsX3_giverOfMost (wsV RX3 89 RX3 yX3_movable wsX3_movable) := goodIn_app (goodIn_of _ (by decide +kernel)) ggX3_giverOfMost_X3_movable
set_option maxRecDepth 20000 in
theorem ggX3_giverOfMost_X3_has : GoodIn wsX3_giverOfMost wsX3_has := goodIn_r _ [25, 26, 52, 53, 54, 55, 56, 57, 58, 59, 60, 61, 62] (by decide +kernel) (by decide +kernel)
set_option maxRecDepth 20000 in
theorem gX3_giverOfMost_X3_has : GoodIn wsX3_giverOfMost (wsV RX3 52 RX3 yX3_has wsX3_has) := goodIn_app (goodIn_of _ (by decide +kernel)) ggX3_giverOfMost_X3_has
theorem dX3_giverOfMost_0 : decode cX3_giverOfMost 0 = .ok (.bipush (-9), 2) := by decide +kernel
theorem dX3_giverOfMost_2 : decode cX3_giverOfMost 2 = .ok (.istore_n 2, 1) := by decide +kernel
theorem dX3_giverOfMost_3 : decode cX3_giverOfMost 3 = .ok (.iconst 0, 1) := by decide +kernel
theorem dX3_giverOfMost_4 : decode cX3_giverOfMost 4 = .ok (.istore_n 3, 1) := by decide +kernel
theorem dX3_giverOfMost_5 : decode cX3_giverOfMost 5 = .ok (.iconst 0, 1) := by decide +kernel
theorem dX3_giverOfMost_6 : decode cX3_giverOfMost 6 = .ok (.istore 4, 2) := by decide +kernel
theorem dX3_giverOfMost_8 : decode cX3_giverOfMost 8 = .ok (.iload 4, 2) := by decide +kernel
theorem dX3_giverOfMost_10 : decode cX3_giverOfMost 10 = .ok (.bipush 20, 2) := by decide +kernel
theorem dX3_giverOfMost_12 : decode cX3_giverOfMost 12 = .ok (.if_icmp .ge 60, 3) := by decide +kernel
theorem dX3_giverOfMost_15 : decode cX3_giverOfMost 15 = .ok (.aload_n 0, 1) := by decide +kernel
theorem dX3_giverOfMost_16 : decode cX3_giverOfMost 16 = .ok (.iload 4, 2) := by decide +kernel
theorem dX3_giverOfMost_18 : decode cX3_giverOfMost 18 = .ok (.iload_n 1, 1) := by decide +kernel
theorem dX3_giverOfMost_19 : decode cX3_giverOfMost 19 = .ok (.invokevirtual 89, 3) := by decide +kernel
theorem dX3_giverOfMost_22 : decode cX3_giverOfMost 22 = .ok (.istore 5, 2) := by decide +kernel
theorem dX3_giverOfMost_24 : decode cX3_giverOfMost 24 = .ok (.iload 5, 2) := by decide +kernel
theorem dX3_giverOfMost_26 : decode cX3_giverOfMost 26 = .ok (.iload_n 3, 1) := by decide +kernel
theorem dX3_giverOfMost_27 : decode cX3_giverOfMost 27 = .ok (.if_icmp .gt 33, 3) := by decide +kernel
theorem dX3_giverOfMost_30 : decode cX3_giverOfMost 30 = .ok (.iload 5, 2) := by decide +kernel
theorem dX3_giverOfMost_32 : decode cX3_giverOfMost 32 = .ok (.iload_n 3, 1) := by decide +kernel
theorem dX3_giverOfMost_33 : decode cX3_giverOfMost 33 = .ok (.if_icmp .ne 33, 3) := by decide +kernel
theorem dX3_giverOfMost_36 : decode cX3_giverOfMost 36 = .ok (.aload_n 0, 1) := by decide +kernel
theorem dX3_giverOfMost_37 : decode cX3_giverOfMost 37 = .ok (.iload_n 2, 1) := by decide +kernel
theorem dX3_giverOfMost_38 : decode cX3_giverOfMost 38 = .ok (.invokevirtual 52, 3) := by decide +kernel
theorem dX3_giverOfMost_41 : decode cX3_giverOfMost 41 = .ok (.ifCond .eq 25, 3) := by decide +kernel
theorem dX3_giverOfMost_44 : decode cX3_giverOfMost 44 = .ok (.aload_n 0, 1) := by decide +kernel
theorem dX3_giverOfMost_45 : decode cX3_giverOfMost 45 = .ok (.getfield 18, 3) := by decide +kernel
theorem dX3_giverOfMost_48 : decode cX3_giverOfMost 48 = .ok (.iload 4, 2) := by decide +kernel
theorem dX3_giverOfMost_50 : decode cX3_giverOfMost 50 = .ok (.iaload, 1) := by decide +kernel
theorem dX3_giverOfMost_51 : decode cX3_giverOfMost 51 = .ok (.aload_n 0, 1) := by decide +kernel
theorem dX3_giverOfMost_52 : decode cX3_giverOfMost 52 = .ok (.getfield 18, 3) := by decide +kernel
theorem dX3_giverOfMost_55 : decode cX3_giverOfMost 55 = .ok (.iload_n 2, 1) := by decide +kernel
theorem dX3_giverOfMost_56 : decode cX3_giverOfMost 56 = .ok (.iaload, 1) := by decide +kernel
theorem dX3_giverOfMost_57 : decode cX3_giverOfMost 57 = .ok (.if_icmp .le 9, 3) := by decide +kernel
theorem dX3_giverOfMost_60 : decode cX3_giverOfMost 60 = .ok (.iload 4, 2) := by decide +kernel
theorem dX3_giverOfMost_62 : decode cX3_giverOfMost 62 = .ok (.istore_n 2, 1) := by decide +kernel
theorem dX3_giverOfMost_63 : decode cX3_giverOfMost 63 = .ok (.iload 5, 2) := by decide +kernel
theorem dX3_giverOfMost_65 : decode cX3_giverOfMost 65 = .ok (.istore_n 3, 1) := by decide +kernel
theorem dX3_giverOfMost_66 : decode cX3_giverOfMost 66 = .ok (.iinc 4 1, 3) := by decide +kernel
theorem dX3_giverOfMost_69 : decode cX3_giverOfMost 69 = .ok (.goto (-61), 3) := by decide +kernel
theorem dX3_giverOfMost_72 : decode cX3_giverOfMost 72 = .ok (.iload_n 2, 1) := by decide +kernel
theorem dX3_giverOfMost_73 : decode cX3_giverOfMost 73 = .ok (.ireturn, 1) := by decide +kernel
set_option maxRecDepth 20000 in
theorem ggX3_atPlace_X3_isWithin : GoodIn wsX3_atPlace wsX3_isWithin := goodIn_r _ [5, 6, 7, 8, 9, 4, 10, 11, 32, 33, 34, 35, 36, 37, 38, 39, 40, 41, 42] (by decide +kernel) (by decide +kernel)
set_option maxRecDepth 20000 in
theorem gX3_atPlace_X3_isWithin : GoodIn wsX3_atPlace (wsV RX3 59 RX3 yX3_isWithin wsX3_isWithin) := goodIn_app (goodIn_of _ (by decide +kernel)) ggX3_atPlace_X3_isWithin
set_option maxRecDepth 20000 in
theorem ggX3_atPlace_X3_countAhead : GoodIn wsX3_atPlace wsX3_countAhead := goodIn_r _ [15, 1, 2, 3, 4, 5, 6, 7, 8, 9, 10, 11, 16, 17, 18, 19, 20, 21, 22, 23, 24, 25, 26, 27, 28, 29, 30, 31, 32, 33, 34, 35, 36, 37, 38, 39, 40, 41, 42] (by decide +kernel) (by decide +kernel)
set_option maxRecDepth 20000 in
theorem gX3_atPlace_X3_countAhead : GoodIn wsX3_atPlace (wsV RX3 92 RX3 yX3_countAhead wsX3_countAhead) := goodIn_app (goodIn_of _ (by decide +kernel)) ggX3_atPlace_X3_countAhead
theorem dX3_atPlace_0 : decode cX3_atPlace 0 = .ok (.iconst 0, 1) := by decide +kernel
theorem dX3_atPlace_1 : decode cX3_atPlace 1 = .ok (.istore_n 3, 1) := by decide +kernel
theorem dX3_atPlace_2 : decode cX3_atPlace 2 = .ok (.iload_n 3, 1) := by decide +kernel
theorem dX3_atPlace_3 : decode cX3_atPlace 3 = .ok (.bipush 20, 2) := by decide +kernel
theorem dX3_atPlace_5 : decode cX3_atPlace 5 = .ok (.if_icmp .ge 35, 3) := by decide +kernel
theorem dX3_atPlace_8 : decode cX3_atPlace 8 = .ok (.iload_n 3, 1) := by decide +kernel
theorem dX3_atPlace_9 : decode cX3_atPlace 9 = .ok (.iload_n 1, 1) := by decide +kernel
theorem dX3_atPlace_10 : decode cX3_atPlace 10 = .ok (.if_icmp .eq 24, 3) := by decide +kernel
theorem dX3_atPlace_13 : decode cX3_atPlace 13 = .ok (.aload_n 0, 1) := by decide +kernel
theorem dX3_atPlace_14 : decode cX3_atPlace 14 = .ok (.iload_n 3, 1) := by decide +kernel
theorem dX3_atPlace_15 : decode cX3_atPlace 15 = .ok (.iload_n 1, 1) := by decide +kernel
theorem dX3_atPlace_16 : decode cX3_atPlace 16 = .ok (.invokevirtual 59, 3) := by decide +kernel
theorem dX3_atPlace_19 : decode cX3_atPlace 19 = .ok (.ifCond .eq 15, 3) := by decide +kernel
theorem dX3_atPlace_22 : decode cX3_atPlace 22 = .ok (.aload_n 0, 1) := by decide +kernel
theorem dX3_atPlace_23 : decode cX3_atPlace 23 = .ok (.iload_n 3, 1) := by decide +kernel
theorem dX3_atPlace_24 : decode cX3_atPlace 24 = .ok (.iload_n 1, 1) := by decide +kernel
theorem dX3_atPlace_25 : decode cX3_atPlace 25 = .ok (.invokevirtual 92, 3) := by decide +kernel
theorem dX3_atPlace_28 : decode cX3_atPlace 28 = .ok (.iload_n 2, 1) := by decide +kernel
theorem dX3_atPlace_29 : decode cX3_atPlace 29 = .ok (.if_icmp .ne 5, 3) := by decide +kernel
theorem dX3_atPlace_32 : decode cX3_atPlace 32 = .ok (.iload_n 3, 1) := by decide +kernel
theorem dX3_atPlace_33 : decode cX3_atPlace 33 = .ok (.ireturn, 1) := by decide +kernel
theorem dX3_atPlace_34 : decode cX3_atPlace 34 = .ok (.iinc 3 1, 3) := by decide +kernel
theorem dX3_atPlace_37 : decode cX3_atPlace 37 = .ok (.goto (-35), 3) := by decide +kernel
theorem dX3_atPlace_40 : decode cX3_atPlace 40 = .ok (.bipush (-9), 2) := by decide +kernel
theorem dX3_atPlace_42 : decode cX3_atPlace 42 = .ok (.ireturn, 1) := by decide +kernel
set_option maxRecDepth 20000 in
theorem ggX3_countAhead_X3_isWithin : GoodIn wsX3_countAhead wsX3_isWithin := goodIn_r _ [5, 6, 7, 8, 9, 4, 10, 11, 28, 29, 30, 31, 32, 33, 34, 35, 36, 37, 38] (by decide +kernel) (by decide +kernel)
set_option maxRecDepth 20000 in
theorem gX3_countAhead_X3_isWithin : GoodIn wsX3_countAhead (wsV RX3 59 RX3 yX3_isWithin wsX3_isWithin) := goodIn_app (goodIn_of _ (by decide +kernel)) ggX3_countAhead_X3_isWithin
set_option maxRecDepth 20000 in
theorem ggX3_countAhead_X3_isRicher : GoodIn wsX3_countAhead wsX3_isRicher := goodIn_r _ [15, 16, 17, 18, 19, 4, 20, 7, 8, 9, 10, 11, 21, 22, 23, 24, 25, 26, 27, 28, 29, 30, 31, 32, 33, 34, 35, 36, 37, 38] (by decide +kernel) (by decide +kernel)
set_option maxRecDepth 20000 in
theorem gX3_countAhead_X3_isRicher : GoodIn wsX3_countAhead (wsV RX3 95 RX3 yX3_isRicher wsX3_isRicher) := goodIn_app (goodIn_of _ (by decide +kernel)) ggX3_countAhead_X3_isRicher
theorem dX3_countAhead_0 : decode cX3_countAhead 0 = .ok (.iconst 0, 1) := by decide +kernel
theorem dX3_countAhead_1 : decode cX3_countAhead 1 = .ok (.istore_n 3, 1) := by decide +kernel
theorem dX3_countAhead_2 : decode cX3_countAhead 2 = .ok (.iconst 0, 1) := by decide +kernel
theorem dX3_countAhead_3 : decode cX3_countAhead 3 = .ok (.istore 4, 2) := by decide +kernel
theorem dX3_countAhead_5 : decode cX3_countAhead 5 = .ok (.iload 4, 2) := by decide +kernel
theorem dX3_countAhead_7 : decode cX3_countAhead 7 = .ok (.bipush 20, 2) := by decide +kernel
theorem dX3_countAhead_9 : decode cX3_countAhead 9 = .ok (.if_icmp .ge 38, 3) := by decide +kernel
theorem dX3_countAhead_12 : decode cX3_countAhead 12 = .ok (.iload 4, 2) := by decide +kernel
theorem dX3_countAhead_14 : decode cX3_countAhead 14 = .ok (.iload_n 2, 1) := by decide +kernel
theorem dX3_countAhead_15 : decode cX3_countAhead 15 = .ok (.if_icmp .eq 26, 3) := by decide +kernel
theorem dX3_countAhead_18 : decode cX3_countAhead 18 = .ok (.aload_n 0, 1) := by decide +kernel
theorem dX3_countAhead_19 : decode cX3_countAhead 19 = .ok (.iload 4, 2) := by decide +kernel
theorem dX3_countAhead_21 : decode cX3_countAhead 21 = .ok (.iload_n 2, 1) := by decide +kernel
theorem dX3_countAhead_22 : decode cX3_countAhead 22 = .ok (.invokevirtual 59, 3) := by decide +kernel
theorem dX3_countAhead_25 : decode cX3_countAhead 25 = .ok (.ifCond .eq 16, 3) := by decide +kernel
theorem dX3_countAhead_28 : decode cX3_countAhead 28 = .ok (.aload_n 0, 1) := by decide +kernel
theorem dX3_countAhead_29 : decode cX3_countAhead 29 = .ok (.iload 4, 2) := by decide +kernel
theorem dX3_countAhead_31 : decode cX3_countAhead 31 = .ok (.iload_n 1, 1) := by decide +kernel
theorem dX3_countAhead_32 : decode cX3_countAhead 32 = .ok (.invokevirtual 95, 3) := by decide +kernel
theorem dX3_countAhead_35 : decode cX3_countAhead 35 = .ok (.ifCond .eq 6, 3) := by decide +kernel
theorem dX3_countAhead_38 : decode cX3_countAhead 38 = .ok (.iinc 3 1, 3) := by decide +kernel
theorem dX3_countAhead_41 : decode cX3_countAhead 41 = .ok (.iinc 4 1, 3) := by decide +kernel
theorem dX3_countAhead_44 : decode cX3_countAhead 44 = .ok (.goto (-39), 3) := by decide +kernel
theorem dX3_countAhead_47 : decode cX3_countAhead 47 = .ok (.iload_n 3, 1) := by decide +kernel
theorem dX3_countAhead_48 : decode cX3_countAhead 48 = .ok (.ireturn, 1) := by decide +kernel
set_option maxRecDepth 20000 in
theorem ggX3_isRicher_X3_hasBoth : GoodIn wsX3_isRicher wsX3_hasBoth := goodIn_r _ [6, 7, 8, 9, 5, 10, 11, 19, 20, 21, 22, 23, 24, 25, 26, 27, 28, 29] (by decide +kernel) (by decide +kernel)
set_option maxRecDepth 20000 in
theorem gX3_isRicher_X3_hasBoth : GoodIn wsX3_isRicher (wsV RX3 71 RX3 yX3_hasBoth wsX3_hasBoth) := goodIn_app (goodIn_of _ (by decide +kernel)) ggX3_isRicher_X3_hasBoth
set_option maxRecDepth 20000 in
theorem ggX3_isRicher_X3_freeOf : GoodIn wsX3_isRicher wsX3_freeOf := goodIn_r _ [15, 16, 17, 18, 7, 8, 9, 5, 10, 11, 19, 20, 21, 22, 23, 24, 25, 26, 27, 28, 29] (by decide +kernel) (by decide +kernel)
set_option maxRecDepth 20000 in
theorem gX3_isRicher_X3_freeOf : GoodIn wsX3_isRicher (wsV RX3 67 RX3 yX3_freeOf wsX3_freeOf) := goodIn_app (goodIn_of _ (by decide +kernel)) ggX3_isRicher_X3_freeOf
end
section
theorem dX3_isRicher_0 : decode cX3_isRicher 0 = .ok (.aload_n 0, 1) := by decide +kernel
theorem dX3_isRicher_1 : decode cX3_isRicher 1 = .ok (.iload_n 1, 1) := by decide +kernel
theorem dX3_isRicher_2 : decode cX3_isRicher 2 = .ok (.iload_n 2, 1) := by decide +kernel
theorem dX3_isRicher_3 : decode cX3_isRicher 3 = .ok (.invokevirtual 71, 3) := by decide +kernel
theorem dX3_isRicher_6 : decode cX3_isRicher 6 = .ok (.ifCond .ne 5, 3) := by decide +kernel
theorem dX3_isRicher_9 : decode cX3_isRicher 9 = .ok (.iconst 0, 1) := by decide +kernel
theorem dX3_isRicher_10 : decode cX3_isRicher 10 = .ok (.ireturn, 1) := by decide +kernel
theorem dX3_isRicher_11 : decode cX3_isRicher 11 = .ok (.aload_n 0, 1) := by decide +kernel
theorem dX3_isRicher_12 : decode cX3_isRicher 12 = .ok (.iload_n 1, 1) := by decide +kernel
theorem dX3_isRicher_13 : decode cX3_isRicher 13 = .ok (.invokevirtual 67, 3) := by decide +kernel
theorem dX3_isRicher_16 : decode cX3_isRicher 16 = .ok (.aload_n 0, 1) := by decide +kernel
theorem dX3_isRicher_17 : decode cX3_isRicher 17 = .ok (.iload_n 2, 1) := by decide +kernel
theorem dX3_isRicher_18 : decode cX3_isRicher 18 = .ok (.invokevirtual 67, 3) := by decide +kernel
theorem dX3_isRicher_21 : decode cX3_isRicher 21 = .ok (.if_icmp .eq 22, 3) := by decide +kernel
theorem dX3_isRicher_24 : decode cX3_isRicher 24 = .ok (.aload_n 0, 1) := by decide +kernel
theorem dX3_isRicher_25 : decode cX3_isRicher 25 = .ok (.iload_n 1, 1) := by decide +kernel
theorem dX3_isRicher_26 : decode cX3_isRicher 26 = .ok (.invokevirtual 67, 3) := by decide +kernel
theorem dX3_isRicher_29 : decode cX3_isRicher 29 = .ok (.aload_n 0, 1) := by decide +kernel
theorem dX3_isRicher_30 : decode cX3_isRicher 30 = .ok (.iload_n 2, 1) := by decide +kernel
theorem dX3_isRicher_31 : decode cX3_isRicher 31 = .ok (.invokevirtual 67, 3) := by decide +kernel
theorem dX3_isRicher_34 : decode cX3_isRicher 34 = .ok (.if_icmp .le 7, 3) := by decide +kernel
theorem dX3_isRicher_37 : decode cX3_isRicher 37 = .ok (.iconst 1, 1) := by decide +kernel
theorem dX3_isRicher_38 : decode cX3_isRicher 38 = .ok (.goto 4, 3) := by decide +kernel
theorem dX3_isRicher_41 : decode cX3_isRicher 41 = .ok (.iconst 0, 1) := by decide +kernel
theorem dX3_isRicher_42 : decode cX3_isRicher 42 = .ok (.ireturn, 1) := by decide +kernel
theorem dX3_isRicher_43 : decode cX3_isRicher 43 = .ok (.aload_n 0, 1) := by decide +kernel
theorem dX3_isRicher_44 : decode cX3_isRicher 44 = .ok (.getfield 18, 3) := by decide +kernel
theorem dX3_isRicher_47 : decode cX3_isRicher 47 = .ok (.iload_n 1, 1) := by decide +kernel
theorem dX3_isRicher_48 : decode cX3_isRicher 48 = .ok (.iaload, 1) := by decide +kernel
theorem dX3_isRicher_49 : decode cX3_isRicher 49 = .ok (.aload_n 0, 1) := by decide +kernel
theorem dX3_isRicher_50 : decode cX3_isRicher 50 = .ok (.getfield 18, 3) := by decide +kernel
theorem dX3_isRicher_53 : decode cX3_isRicher 53 = .ok (.iload_n 2, 1) := by decide +kernel
theorem dX3_isRicher_54 : decode cX3_isRicher 54 = .ok (.iaload, 1) := by decide +kernel
theorem dX3_isRicher_55 : decode cX3_isRicher 55 = .ok (.if_icmp .eq 24, 3) := by decide +kernel
theorem dX3_isRicher_58 : decode cX3_isRicher 58 = .ok (.aload_n 0, 1) := by decide +kernel
theorem dX3_isRicher_59 : decode cX3_isRicher 59 = .ok (.getfield 18, 3) := by decide +kernel
theorem dX3_isRicher_62 : decode cX3_isRicher 62 = .ok (.iload_n 1, 1) := by decide +kernel
theorem dX3_isRicher_63 : decode cX3_isRicher 63 = .ok (.iaload, 1) := by decide +kernel
theorem dX3_isRicher_64 : decode cX3_isRicher 64 = .ok (.aload_n 0, 1) := by decide +kernel
theorem dX3_isRicher_65 : decode cX3_isRicher 65 = .ok (.getfield 18, 3) := by decide +kernel
theorem dX3_isRicher_68 : decode cX3_isRicher 68 = .ok (.iload_n 2, 1) := by decide +kernel
theorem dX3_isRicher_69 : decode cX3_isRicher 69 = .ok (.iaload, 1) := by decide +kernel
theorem dX3_isRicher_70 : decode cX3_isRicher 70 = .ok (.if_icmp .le 7, 3) := by decide +kernel
theorem dX3_isRicher_73 : decode cX3_isRicher 73 = .ok (.iconst 1, 1) := by decide +kernel
theorem dX3_isRicher_74 : decode cX3_isRicher 74 = .ok (.goto 4, 3) := by decide +kernel
theorem dX3_isRicher_77 : decode cX3_isRicher 77 = .ok (.iconst 0, 1) := by decide +kernel
theorem dX3_isRicher_78 : decode cX3_isRicher 78 = .ok (.ireturn, 1) := by decide +kernel
theorem dX3_isRicher_79 : decode cX3_isRicher 79 = .ok (.iload_n 1, 1) := by decide +kernel
theorem dX3_isRicher_80 : decode cX3_isRicher 80 = .ok (.iload_n 2, 1) := by decide +kernel
theorem dX3_isRicher_81 : decode cX3_isRicher 81 = .ok (.if_icmp .ge 7, 3) := by decide +kernel
theorem dX3_isRicher_84 : decode cX3_isRicher 84 = .ok (.iconst 1, 1) := by decide +kernel
theorem dX3_isRicher_85 : decode cX3_isRicher 85 = .ok (.goto 4, 3) := by decide +kernel
theorem dX3_isRicher_88 : decode cX3_isRicher 88 = .ok (.iconst 0, 1) := by decide +kernel
theorem dX3_isRicher_89 : decode cX3_isRicher 89 = .ok (.ireturn, 1) := by decide +kernel
set_option maxRecDepth 20000 in
theorem ggX3_lapseWithin_X3_isWithin : GoodIn wsX3_lapseWithin wsX3_isWithin := goodIn_r _ [5, 6, 7, 8, 9, 4, 10, 11, 23, 24, 25, 26, 27, 28, 29, 30, 31, 32, 33] (by decide +kernel) (by decide +kernel)
set_option maxRecDepth 20000 in
theorem gX3_lapseWithin_X3_isWithin : GoodIn wsX3_lapseWithin (wsV RX3 59 RX3 yX3_isWithin wsX3_isWithin) := goodIn_app (goodIn_of _ (by decide +kernel)) ggX3_lapseWithin_X3_isWithin
set_option maxRecDepth 20000 in
theorem ggX3_lapseWithin_X3_freeOf : GoodIn wsX3_lapseWithin wsX3_freeOf := goodIn_r _ [15, 16, 17, 18, 7, 8, 9, 4, 10, 11, 23, 24, 25, 26, 27, 28, 29, 30, 31, 32, 33] (by decide +kernel) (by decide +kernel)
set_option maxRecDepth 20000 in
theorem gX3_lapseWithin_X3_freeOf : GoodIn wsX3_lapseWithin (wsV RX3 67 RX3 yX3_freeOf wsX3_freeOf) := goodIn_app (goodIn_of _ (by decide +kernel)) ggX3_lapseWithin_X3_freeOf
set_option maxRecDepth 20000 in
theorem ggX3_lapseWithin_X5_partOf : GoodIn wsX3_lapseWithin wsX5_partOf := goodIn_r _ [21, 22] (by decide +kernel) (by decide +kernel)
set_option maxRecDepth 20000 in
theorem gX3_lapseWithin_X5_partOf_n77 : GoodIn wsX3_lapseWithin (wsX5_partOf) := ggX3_lapseWithin_X5_partOf
theorem dX3_lapseWithin_0 : decode cX3_lapseWithin 0 = .ok (.iconst 0, 1) := by decide +kernel
theorem dX3_lapseWithin_1 : decode cX3_lapseWithin 1 = .ok (.istore_n 3, 1) := by decide +kernel
theorem dX3_lapseWithin_2 : decode cX3_lapseWithin 2 = .ok (.iconst 0, 1) := by decide +kernel
theorem dX3_lapseWithin_3 : decode cX3_lapseWithin 3 = .ok (.istore 4, 2) := by decide +kernel
theorem dX3_lapseWithin_5 : decode cX3_lapseWithin 5 = .ok (.iload 4, 2) := by decide +kernel
theorem dX3_lapseWithin_7 : decode cX3_lapseWithin 7 = .ok (.bipush 20, 2) := by decide +kernel
theorem dX3_lapseWithin_9 : decode cX3_lapseWithin 9 = .ok (.if_icmp .ge 39, 3) := by decide +kernel
theorem dX3_lapseWithin_12 : decode cX3_lapseWithin 12 = .ok (.aload_n 0, 1) := by decide +kernel
theorem dX3_lapseWithin_13 : decode cX3_lapseWithin 13 = .ok (.iload 4, 2) := by decide +kernel
theorem dX3_lapseWithin_15 : decode cX3_lapseWithin 15 = .ok (.iload_n 1, 1) := by decide +kernel
theorem dX3_lapseWithin_16 : decode cX3_lapseWithin 16 = .ok (.invokevirtual 59, 3) := by decide +kernel
theorem dX3_lapseWithin_19 : decode cX3_lapseWithin 19 = .ok (.ifCond .eq 23, 3) := by decide +kernel
theorem dX3_lapseWithin_22 : decode cX3_lapseWithin 22 = .ok (.aload_n 0, 1) := by decide +kernel
theorem dX3_lapseWithin_23 : decode cX3_lapseWithin 23 = .ok (.iload 4, 2) := by decide +kernel
theorem dX3_lapseWithin_25 : decode cX3_lapseWithin 25 = .ok (.invokevirtual 67, 3) := by decide +kernel
theorem dX3_lapseWithin_28 : decode cX3_lapseWithin 28 = .ok (.istore 5, 2) := by decide +kernel
theorem dX3_lapseWithin_30 : decode cX3_lapseWithin 30 = .ok (.iload_n 3, 1) := by decide +kernel
theorem dX3_lapseWithin_31 : decode cX3_lapseWithin 31 = .ok (.iload 5, 2) := by decide +kernel
theorem dX3_lapseWithin_33 : decode cX3_lapseWithin 33 = .ok (.iload 5, 2) := by decide +kernel
theorem dX3_lapseWithin_35 : decode cX3_lapseWithin 35 = .ok (.iload_n 2, 1) := by decide +kernel
theorem dX3_lapseWithin_36 : decode cX3_lapseWithin 36 = .ok (.invokestatic 77, 3) := by decide +kernel
theorem dX3_lapseWithin_39 : decode cX3_lapseWithin 39 = .ok (.isub, 1) := by decide +kernel
theorem dX3_lapseWithin_40 : decode cX3_lapseWithin 40 = .ok (.iadd, 1) := by decide +kernel
theorem dX3_lapseWithin_41 : decode cX3_lapseWithin 41 = .ok (.istore_n 3, 1) := by decide +kernel
theorem dX3_lapseWithin_42 : decode cX3_lapseWithin 42 = .ok (.iinc 4 1, 3) := by decide +kernel
theorem dX3_lapseWithin_45 : decode cX3_lapseWithin 45 = .ok (.goto (-40), 3) := by decide +kernel
theorem dX3_lapseWithin_48 : decode cX3_lapseWithin 48 = .ok (.iload_n 3, 1) := by decide +kernel
theorem dX3_lapseWithin_49 : decode cX3_lapseWithin 49 = .ok (.ireturn, 1) := by decide +kernel
set_option maxRecDepth 20000 in
theorem ggX3_carryForward_X3_freeOf : GoodIn wsX3_carryForward wsX3_freeOf := goodIn_r _ [10, 1, 2, 4, 11, 12, 13, 9, 14, 15, 20, 21, 22, 23, 24, 25, 26, 27, 28, 29, 30] (by decide +kernel) (by decide +kernel)
set_option maxRecDepth 20000 in
theorem gX3_carryForward_X3_freeOf : GoodIn wsX3_carryForward (wsV RX3 67 RX3 yX3_freeOf wsX3_freeOf) := goodIn_app (goodIn_of _ (by decide +kernel)) ggX3_carryForward_X3_freeOf
set_option maxRecDepth 20000 in
theorem ggX3_carryForward_X5_partOf : GoodIn wsX3_carryForward wsX5_partOf := goodIn_r _ [18, 19] (by decide +kernel) (by decide +kernel)
set_option maxRecDepth 20000 in
theorem gX3_carryForward_X5_partOf_n77 : GoodIn wsX3_carryForward (wsX5_partOf) := ggX3_carryForward_X5_partOf
theorem dX3_carryForward_0 : decode cX3_carryForward 0 = .ok (.iconst 0, 1) := by decide +kernel
theorem dX3_carryForward_1 : decode cX3_carryForward 1 = .ok (.istore_n 2, 1) := by decide +kernel
theorem dX3_carryForward_2 : decode cX3_carryForward 2 = .ok (.iload_n 2, 1) := by decide +kernel
theorem dX3_carryForward_3 : decode cX3_carryForward 3 = .ok (.bipush 20, 2) := by decide +kernel
theorem dX3_carryForward_5 : decode cX3_carryForward 5 = .ok (.if_icmp .ge 54, 3) := by decide +kernel
theorem dX3_carryForward_8 : decode cX3_carryForward 8 = .ok (.aload_n 0, 1) := by decide +kernel
theorem dX3_carryForward_9 : decode cX3_carryForward 9 = .ok (.iload_n 2, 1) := by decide +kernel
theorem dX3_carryForward_10 : decode cX3_carryForward 10 = .ok (.invokevirtual 67, 3) := by decide +kernel
theorem dX3_carryForward_13 : decode cX3_carryForward 13 = .ok (.iload_n 1, 1) := by decide +kernel
theorem dX3_carryForward_14 : decode cX3_carryForward 14 = .ok (.invokestatic 77, 3) := by decide +kernel
theorem dX3_carryForward_17 : decode cX3_carryForward 17 = .ok (.istore_n 3, 1) := by decide +kernel
theorem dX3_carryForward_18 : decode cX3_carryForward 18 = .ok (.aload_n 0, 1) := by decide +kernel
theorem dX3_carryForward_19 : decode cX3_carryForward 19 = .ok (.getfield 24, 3) := by decide +kernel
theorem dX3_carryForward_22 : decode cX3_carryForward 22 = .ok (.iload_n 2, 1) := by decide +kernel
theorem dX3_carryForward_23 : decode cX3_carryForward 23 = .ok (.aload_n 0, 1) := by decide +kernel
theorem dX3_carryForward_24 : decode cX3_carryForward 24 = .ok (.getfield 27, 3) := by decide +kernel
theorem dX3_carryForward_27 : decode cX3_carryForward 27 = .ok (.iload_n 2, 1) := by decide +kernel
theorem dX3_carryForward_28 : decode cX3_carryForward 28 = .ok (.iaload, 1) := by decide +kernel
theorem dX3_carryForward_29 : decode cX3_carryForward 29 = .ok (.iload_n 3, 1) := by decide +kernel
theorem dX3_carryForward_30 : decode cX3_carryForward 30 = .ok (.iadd, 1) := by decide +kernel
theorem dX3_carryForward_31 : decode cX3_carryForward 31 = .ok (.iastore, 1) := by decide +kernel
theorem dX3_carryForward_32 : decode cX3_carryForward 32 = .ok (.aload_n 0, 1) := by decide +kernel
theorem dX3_carryForward_33 : decode cX3_carryForward 33 = .ok (.getfield 33, 3) := by decide +kernel
theorem dX3_carryForward_36 : decode cX3_carryForward 36 = .ok (.iload_n 2, 1) := by decide +kernel
theorem dX3_carryForward_37 : decode cX3_carryForward 37 = .ok (.iload_n 3, 1) := by decide +kernel
theorem dX3_carryForward_38 : decode cX3_carryForward 38 = .ok (.iastore, 1) := by decide +kernel
theorem dX3_carryForward_39 : decode cX3_carryForward 39 = .ok (.aload_n 0, 1) := by decide +kernel
theorem dX3_carryForward_40 : decode cX3_carryForward 40 = .ok (.getfield 30, 3) := by decide +kernel
theorem dX3_carryForward_43 : decode cX3_carryForward 43 = .ok (.iload_n 2, 1) := by decide +kernel
theorem dX3_carryForward_44 : decode cX3_carryForward 44 = .ok (.iconst 0, 1) := by decide +kernel
theorem dX3_carryForward_45 : decode cX3_carryForward 45 = .ok (.iastore, 1) := by decide +kernel
theorem dX3_carryForward_46 : decode cX3_carryForward 46 = .ok (.aload_n 0, 1) := by decide +kernel
theorem dX3_carryForward_47 : decode cX3_carryForward 47 = .ok (.getfield 36, 3) := by decide +kernel
theorem dX3_carryForward_50 : decode cX3_carryForward 50 = .ok (.iload_n 2, 1) := by decide +kernel
theorem dX3_carryForward_51 : decode cX3_carryForward 51 = .ok (.iconst 0, 1) := by decide +kernel
theorem dX3_carryForward_52 : decode cX3_carryForward 52 = .ok (.iastore, 1) := by decide +kernel
theorem dX3_carryForward_53 : decode cX3_carryForward 53 = .ok (.iinc 2 1, 3) := by decide +kernel
theorem dX3_carryForward_56 : decode cX3_carryForward 56 = .ok (.goto (-54), 3) := by decide +kernel
theorem dX3_carryForward_59 : decode cX3_carryForward 59 = .ok (.return_, 1) := by decide +kernel
set_option maxRecDepth 20000 in
theorem ggX4_init_X2_init : GoodIn wsX4_init wsX2_init := goodIn_r _ [9, 10, 2, 3, 11, 12, 13, 14, 15, 16, 17, 18, 19, 20, 21, 22, 23, 24, 25, 26, 27, 28, 29, 30, 31, 32, 33, 34, 35, 36, 37, 38, 39, 40, 41, 42, 43, 44, 45, 46, 47, 58, 59, 60, 61, 62, 63, 52, 53, 54, 55, 56, 57, 64, 65, 66, 67, 68, 69, 70, 71, 72, 73, 74, 75, 76, 77, 78, 79] (by decide +kernel) (by decide +kernel)
set_option maxRecDepth 20000 in
theorem gX4_init_X2_init_n17 : GoodIn wsX4_init (wsX2_init) := ggX4_init_X2_init
theorem dX4_init_0 : decode cX4_init 0 = .ok (.aload_n 0, 1) := by decide +kernel
theorem dX4_init_1 : decode cX4_init 1 = .ok (.invokespecial 3, 3) := by decide +kernel
theorem dX4_init_4 : decode cX4_init 4 = .ok (.aload_n 0, 1) := by decide +kernel
theorem dX4_init_5 : decode cX4_init 5 = .ok (.bipush 12, 2) := by decide +kernel
theorem dX4_init_7 : decode cX4_init 7 = .ok (.anewarray 9, 3) := by decide +kernel
theorem dX4_init_10 : decode cX4_init 10 = .ok (.putfield 11, 3) := by decide +kernel
theorem dX4_init_13 : decode cX4_init 13 = .ok (.iconst 0, 1) := by decide +kernel
theorem dX4_init_14 : decode cX4_init 14 = .ok (.istore_n 1, 1) := by decide +kernel
theorem dX4_init_15 : decode cX4_init 15 = .ok (.iload_n 1, 1) := by decide +kernel
theorem dX4_init_16 : decode cX4_init 16 = .ok (.bipush 12, 2) := by decide +kernel
theorem dX4_init_18 : decode cX4_init 18 = .ok (.if_icmp .ge 22, 3) := by decide +kernel
theorem dX4_init_21 : decode cX4_init 21 = .ok (.aload_n 0, 1) := by decide +kernel
theorem dX4_init_22 : decode cX4_init 22 = .ok (.getfield 11, 3) := by decide +kernel
theorem dX4_init_25 : decode cX4_init 25 = .ok (.iload_n 1, 1) := by decide +kernel
theorem dX4_init_26 : decode cX4_init 26 = .ok (.new 9, 3) := by decide +kernel
theorem dX4_init_29 : decode cX4_init 29 = .ok (.dup, 1) := by decide +kernel
theorem dX4_init_30 : decode cX4_init 30 = .ok (.invokespecial 17, 3) := by decide +kernel
theorem dX4_init_33 : decode cX4_init 33 = .ok (.aastore, 1) := by decide +kernel
theorem dX4_init_34 : decode cX4_init 34 = .ok (.iinc 1 1, 3) := by decide +kernel
theorem dX4_init_37 : decode cX4_init 37 = .ok (.goto (-22), 3) := by decide +kernel
theorem dX4_init_40 : decode cX4_init 40 = .ok (.return_, 1) := by decide +kernel
set_option maxRecDepth 20000 in
theorem ggX4_recall_J9_floorMod_7cf53 : GoodIn wsX4_recall wsJ9_floorMod_7cf53 := goodIn_r _ [7] (by decide +kernel) (by decide +kernel)
set_option maxRecDepth 20000 in
theorem gX4_recall_J9_floorMod_7cf53 : GoodIn wsX4_recall (va_wsS RX4 25 yJ9_floorMod_7cf53 wsJ9_floorMod_7cf53) := goodIn_app (goodIn_of _ (by decide +kernel)) ggX4_recall_J9_floorMod_7cf53
theorem dX4_recall_0 : decode cX4_recall 0 = .ok (.iload_n 1, 1) := by decide +kernel
theorem dX4_recall_1 : decode cX4_recall 1 = .ok (.ifCond .lt 11, 3) := by decide +kernel
theorem dX4_recall_4 : decode cX4_recall 4 = .ok (.iload_n 1, 1) := by decide +kernel
theorem dX4_recall_5 : decode cX4_recall 5 = .ok (.aload_n 0, 1) := by decide +kernel
theorem dX4_recall_6 : decode cX4_recall 6 = .ok (.getfield 18, 3) := by decide +kernel
theorem dX4_recall_9 : decode cX4_recall 9 = .ok (.if_icmp .lt 5, 3) := by decide +kernel
theorem dX4_recall_12 : decode cX4_recall 12 = .ok (.aconst_null, 1) := by decide +kernel
theorem dX4_recall_13 : decode cX4_recall 13 = .ok (.areturn, 1) := by decide +kernel
theorem dX4_recall_14 : decode cX4_recall 14 = .ok (.aload_n 0, 1) := by decide +kernel
theorem dX4_recall_15 : decode cX4_recall 15 = .ok (.getfield 11, 3) := by decide +kernel
theorem dX4_recall_18 : decode cX4_recall 18 = .ok (.aload_n 0, 1) := by decide +kernel
theorem dX4_recall_19 : decode cX4_recall 19 = .ok (.getfield 22, 3) := by decide +kernel
theorem dX4_recall_22 : decode cX4_recall 22 = .ok (.aload_n 0, 1) := by decide +kernel
theorem dX4_recall_23 : decode cX4_recall 23 = .ok (.getfield 18, 3) := by decide +kernel
theorem dX4_recall_26 : decode cX4_recall 26 = .ok (.iadd, 1) := by decide +kernel
theorem dX4_recall_27 : decode cX4_recall 27 = .ok (.iconst 1, 1) := by decide +kernel
theorem dX4_recall_28 : decode cX4_recall 28 = .ok (.isub, 1) := by decide +kernel
theorem dX4_recall_29 : decode cX4_recall 29 = .ok (.iload_n 1, 1) := by decide +kernel
theorem dX4_recall_30 : decode cX4_recall 30 = .ok (.isub, 1) := by decide +kernel
theorem dX4_recall_31 : decode cX4_recall 31 = .ok (.bipush 12, 2) := by decide +kernel
theorem dX4_recall_33 : decode cX4_recall 33 = .ok (.invokestatic 25, 3) := by decide +kernel
theorem dX4_recall_36 : decode cX4_recall 36 = .ok (.aaload, 1) := by decide +kernel
theorem dX4_recall_37 : decode cX4_recall 37 = .ok (.areturn, 1) := by decide +kernel
set_option maxRecDepth 20000 in
theorem ggX4_remember_X4_rememberWith : GoodIn wsX4_remember wsX4_rememberWith := goodIn_r _ [5, 6, 7, 8, 9, 10, 11, 12, 13, 14, 15, 16, 17, 18, 19, 20, 21, 4, 22, 23, 24, 25, 26, 27, 28, 29, 30, 31, 32, 33, 34, 35, 36, 37, 38, 39, 40, 41, 42, 43, 44, 45, 46, 47, 48, 49, 50, 51, 52, 53, 54, 55, 56, 57, 58, 59, 60, 61, 62, 63, 64, 65, 66, 67, 68, 69, 70, 71, 72, 73, 74, 75, 76, 77, 78, 79, 80, 81, 82, 83, 84, 85, 86, 87, 88, 89, 90, 91, 92, 93, 94, 95, 96, 97] (by decide +kernel) (by decide +kernel)
set_option maxRecDepth 20000 in
theorem gX4_remember_X4_rememberWith : GoodIn wsX4_remember (wsV RX4 31 RX4 yX4_rememberWith wsX4_rememberWith) := goodIn_app (goodIn_of _ (by decide +kernel)) ggX4_remember_X4_rememberWith
theorem dX4_remember_0 : decode cX4_remember 0 = .ok (.aload_n 0, 1) := by decide +kernel
theorem dX4_remember_1 : decode cX4_remember 1 = .ok (.iload_n 1, 1) := by decide +kernel
theorem dX4_remember_2 : decode cX4_remember 2 = .ok (.aload_n 2, 1) := by decide +kernel
theorem dX4_remember_3 : decode cX4_remember 3 = .ok (.bipush (-9), 2) := by decide +kernel
theorem dX4_remember_5 : decode cX4_remember 5 = .ok (.bipush (-9), 2) := by decide +kernel
theorem dX4_remember_7 : decode cX4_remember 7 = .ok (.iconst 0, 1) := by decide +kernel
theorem dX4_remember_8 : decode cX4_remember 8 = .ok (.invokevirtual 31, 3) := by decide +kernel
theorem dX4_remember_11 : decode cX4_remember 11 = .ok (.return_, 1) := by decide +kernel
set_option maxRecDepth 20000 in
theorem ggX4_rememberCommitment_X4_rememberWith : GoodIn wsX4_rememberCommitment wsX4_rememberWith := goodIn_r _ [5, 6, 7, 8, 9, 10, 11, 12, 13, 14, 15, 16, 17, 18, 19, 20, 21, 4, 22, 23, 24, 25, 26, 27, 28, 29, 30, 31, 32, 33, 34, 35, 36, 37, 38, 39, 40, 41, 42, 43, 44, 45, 46, 47, 48, 49, 50, 51, 52, 53, 54, 55, 56, 57, 58, 59, 60, 61, 62, 63, 64, 65, 66, 67, 68, 69, 70, 71, 72, 73, 74, 75, 76, 77, 78, 79, 80, 81, 82, 83, 84, 85, 86, 87, 88, 89, 90, 91, 92, 93, 94, 95, 96, 97] (by decide +kernel) (by decide +kernel)
set_option maxRecDepth 20000 in
theorem gX4_rememberCommitment_X4_rememberWith : GoodIn wsX4_rememberCommitment (wsV RX4 31 RX4 yX4_rememberWith wsX4_rememberWith) := goodIn_app (goodIn_of _ (by decide +kernel)) ggX4_rememberCommitment_X4_rememberWith
theorem dX4_rememberCommitment_0 : decode cX4_rememberCommitment 0 = .ok (.aload_n 0, 1) := by decide +kernel
theorem dX4_rememberCommitment_1 : decode cX4_rememberCommitment 1 = .ok (.iconst 5, 1) := by decide +kernel
theorem dX4_rememberCommitment_2 : decode cX4_rememberCommitment 2 = .ok (.aload_n 1, 1) := by decide +kernel
theorem dX4_rememberCommitment_3 : decode cX4_rememberCommitment 3 = .ok (.iload_n 2, 1) := by decide +kernel
theorem dX4_rememberCommitment_4 : decode cX4_rememberCommitment 4 = .ok (.bipush (-9), 2) := by decide +kernel
theorem dX4_rememberCommitment_6 : decode cX4_rememberCommitment 6 = .ok (.iconst 0, 1) := by decide +kernel
theorem dX4_rememberCommitment_7 : decode cX4_rememberCommitment 7 = .ok (.invokevirtual 31, 3) := by decide +kernel
theorem dX4_rememberCommitment_10 : decode cX4_rememberCommitment 10 = .ok (.return_, 1) := by decide +kernel
set_option maxRecDepth 20000 in
theorem ggX4_rememberVirement_X4_rememberWith : GoodIn wsX4_rememberVirement wsX4_rememberWith := goodIn_r _ [5, 6, 7, 8, 9, 10, 11, 12, 13, 14, 15, 16, 17, 18, 19, 20, 21, 4, 22, 23, 24, 25, 26, 27, 28, 29, 30, 31, 32, 33, 34, 35, 36, 37, 38, 39, 40, 41, 42, 43, 44, 45, 46, 47, 48, 49, 50, 51, 52, 53, 54, 55, 56, 57, 58, 59, 60, 61, 62, 63, 64, 65, 66, 67, 68, 69, 70, 71, 72, 73, 74, 75, 76, 77, 78, 79, 80, 81, 82, 83, 84, 85, 86, 87, 88, 89, 90, 91, 92, 93, 94, 95, 96, 97] (by decide +kernel) (by decide +kernel)
set_option maxRecDepth 20000 in
theorem gX4_rememberVirement_X4_rememberWith : GoodIn wsX4_rememberVirement (wsV RX4 31 RX4 yX4_rememberWith wsX4_rememberWith) := goodIn_app (goodIn_of _ (by decide +kernel)) ggX4_rememberVirement_X4_rememberWith
theorem dX4_rememberVirement_0 : decode cX4_rememberVirement 0 = .ok (.aload_n 0, 1) := by decide +kernel
theorem dX4_rememberVirement_1 : decode cX4_rememberVirement 1 = .ok (.bipush 8, 2) := by decide +kernel
theorem dX4_rememberVirement_3 : decode cX4_rememberVirement 3 = .ok (.aload_n 1, 1) := by decide +kernel
theorem dX4_rememberVirement_4 : decode cX4_rememberVirement 4 = .ok (.iload_n 2, 1) := by decide +kernel
theorem dX4_rememberVirement_5 : decode cX4_rememberVirement 5 = .ok (.iload_n 3, 1) := by decide +kernel
theorem dX4_rememberVirement_6 : decode cX4_rememberVirement 6 = .ok (.iload 4, 2) := by decide +kernel
theorem dX4_rememberVirement_8 : decode cX4_rememberVirement 8 = .ok (.invokevirtual 31, 3) := by decide +kernel
theorem dX4_rememberVirement_11 : decode cX4_rememberVirement 11 = .ok (.return_, 1) := by decide +kernel
set_option maxRecDepth 20000 in
theorem ggX4_rememberRevoking_X4_rememberWith : GoodIn wsX4_rememberRevoking wsX4_rememberWith := goodIn_r _ [5, 6, 7, 8, 9, 10, 11, 12, 13, 14, 15, 16, 17, 18, 19, 20, 21, 4, 22, 23, 24, 25, 26, 27, 28, 29, 30, 31, 32, 33, 34, 35, 36, 37, 38, 39, 40, 41, 42, 43, 44, 45, 46, 47, 48, 49, 50, 51, 52, 53, 54, 55, 56, 57, 58, 59, 60, 61, 62, 63, 64, 65, 66, 67, 68, 69, 70, 71, 72, 73, 74, 75, 76, 77, 78, 79, 80, 81, 82, 83, 84, 85, 86, 87, 88, 89, 90, 91, 92, 93, 94, 95, 96, 97] (by decide +kernel) (by decide +kernel)
set_option maxRecDepth 20000 in
theorem gX4_rememberRevoking_X4_rememberWith : GoodIn wsX4_rememberRevoking (wsV RX4 31 RX4 yX4_rememberWith wsX4_rememberWith) := goodIn_app (goodIn_of _ (by decide +kernel)) ggX4_rememberRevoking_X4_rememberWith
theorem dX4_rememberRevoking_0 : decode cX4_rememberRevoking 0 = .ok (.aload_n 0, 1) := by decide +kernel
theorem dX4_rememberRevoking_1 : decode cX4_rememberRevoking 1 = .ok (.bipush 10, 2) := by decide +kernel
theorem dX4_rememberRevoking_3 : decode cX4_rememberRevoking 3 = .ok (.aload_n 1, 1) := by decide +kernel
theorem dX4_rememberRevoking_4 : decode cX4_rememberRevoking 4 = .ok (.iload_n 2, 1) := by decide +kernel
theorem dX4_rememberRevoking_5 : decode cX4_rememberRevoking 5 = .ok (.bipush (-9), 2) := by decide +kernel
theorem dX4_rememberRevoking_7 : decode cX4_rememberRevoking 7 = .ok (.iconst 0, 1) := by decide +kernel
theorem dX4_rememberRevoking_8 : decode cX4_rememberRevoking 8 = .ok (.invokevirtual 31, 3) := by decide +kernel
theorem dX4_rememberRevoking_11 : decode cX4_rememberRevoking 11 = .ok (.return_, 1) := by decide +kernel
set_option maxRecDepth 20000 in
theorem ggX4_rememberWith_J9_floorMod_7cf53 : GoodIn wsX4_rememberWith wsJ9_floorMod_7cf53 := goodIn_r _ [13] (by decide +kernel) (by decide +kernel)
set_option maxRecDepth 20000 in
theorem gX4_rememberWith_J9_floorMod_7cf53 : GoodIn wsX4_rememberWith (va_wsS RX4 25 yJ9_floorMod_7cf53 wsJ9_floorMod_7cf53) := goodIn_app (goodIn_of _ (by decide +kernel)) ggX4_rememberWith_J9_floorMod_7cf53
set_option maxRecDepth 20000 in
theorem ggX4_rememberWith_X4_recall : GoodIn wsX4_rememberWith wsX4_recall := goodIn_r _ [18, 1, 19, 2, 10, 11, 12, 13, 62, 63, 64, 65] (by decide +kernel) (by decide +kernel)
set_option maxRecDepth 20000 in
theorem gX4_rememberWith_X4_recall : GoodIn wsX4_rememberWith (wsV RX4 38 RX4 yX4_recall wsX4_recall) := goodIn_app (goodIn_of _ (by decide +kernel)) ggX4_rememberWith_X4_recall
set_option maxRecDepth 20000 in
theorem ggX4_rememberWith_X0_copyFrom : GoodIn wsX4_rememberWith wsX0_copyFrom := goodIn_r _ [24, 25, 26, 27, 28, 29, 30, 31, 32, 33, 34, 35, 36, 37, 38, 39, 40, 41, 42, 43, 44, 45, 46, 47, 48, 49, 50, 51, 52, 53, 54, 55, 56, 57, 58, 59, 60, 61, 72, 73, 74, 75, 76, 77, 78, 79, 80, 81, 82, 83, 84, 85, 86, 87, 88, 89, 90, 91, 92, 93] (by decide +kernel) (by decide +kernel)
set_option maxRecDepth 20000 in
theorem gX4_rememberWith_X0_copyFrom : GoodIn wsX4_rememberWith (wsV RX4 46 RX0 yX0_copyFrom wsX0_copyFrom) := goodIn_app (goodIn_of _ (by decide +kernel)) ggX4_rememberWith_X0_copyFrom
theorem dX4_rememberWith_0 : decode cX4_rememberWith 0 = .ok (.aload_n 0, 1) := by decide +kernel
theorem dX4_rememberWith_1 : decode cX4_rememberWith 1 = .ok (.getfield 18, 3) := by decide +kernel
theorem dX4_rememberWith_4 : decode cX4_rememberWith 4 = .ok (.bipush 12, 2) := by decide +kernel
theorem dX4_rememberWith_6 : decode cX4_rememberWith 6 = .ok (.if_icmp .ge 16, 3) := by decide +kernel
theorem dX4_rememberWith_9 : decode cX4_rememberWith 9 = .ok (.aload_n 0, 1) := by decide +kernel
theorem dX4_rememberWith_10 : decode cX4_rememberWith 10 = .ok (.dup, 1) := by decide +kernel
theorem dX4_rememberWith_11 : decode cX4_rememberWith 11 = .ok (.getfield 18, 3) := by decide +kernel
theorem dX4_rememberWith_14 : decode cX4_rememberWith 14 = .ok (.iconst 1, 1) := by decide +kernel
theorem dX4_rememberWith_15 : decode cX4_rememberWith 15 = .ok (.iadd, 1) := by decide +kernel
theorem dX4_rememberWith_16 : decode cX4_rememberWith 16 = .ok (.putfield 18, 3) := by decide +kernel
theorem dX4_rememberWith_19 : decode cX4_rememberWith 19 = .ok (.goto 18, 3) := by decide +kernel
theorem dX4_rememberWith_22 : decode cX4_rememberWith 22 = .ok (.aload_n 0, 1) := by decide +kernel
theorem dX4_rememberWith_23 : decode cX4_rememberWith 23 = .ok (.aload_n 0, 1) := by decide +kernel
theorem dX4_rememberWith_24 : decode cX4_rememberWith 24 = .ok (.getfield 22, 3) := by decide +kernel
theorem dX4_rememberWith_27 : decode cX4_rememberWith 27 = .ok (.iconst 1, 1) := by decide +kernel
theorem dX4_rememberWith_28 : decode cX4_rememberWith 28 = .ok (.iadd, 1) := by decide +kernel
theorem dX4_rememberWith_29 : decode cX4_rememberWith 29 = .ok (.bipush 12, 2) := by decide +kernel
theorem dX4_rememberWith_31 : decode cX4_rememberWith 31 = .ok (.invokestatic 25, 3) := by decide +kernel
theorem dX4_rememberWith_34 : decode cX4_rememberWith 34 = .ok (.putfield 22, 3) := by decide +kernel
theorem dX4_rememberWith_37 : decode cX4_rememberWith 37 = .ok (.aload_n 0, 1) := by decide +kernel
theorem dX4_rememberWith_38 : decode cX4_rememberWith 38 = .ok (.dup, 1) := by decide +kernel
theorem dX4_rememberWith_39 : decode cX4_rememberWith 39 = .ok (.getfield 35, 3) := by decide +kernel
theorem dX4_rememberWith_42 : decode cX4_rememberWith 42 = .ok (.iconst 1, 1) := by decide +kernel
theorem dX4_rememberWith_43 : decode cX4_rememberWith 43 = .ok (.iadd, 1) := by decide +kernel
theorem dX4_rememberWith_44 : decode cX4_rememberWith 44 = .ok (.putfield 35, 3) := by decide +kernel
theorem dX4_rememberWith_47 : decode cX4_rememberWith 47 = .ok (.aload_n 0, 1) := by decide +kernel
theorem dX4_rememberWith_48 : decode cX4_rememberWith 48 = .ok (.iconst 0, 1) := by decide +kernel
theorem dX4_rememberWith_49 : decode cX4_rememberWith 49 = .ok (.invokevirtual 38, 3) := by decide +kernel
theorem dX4_rememberWith_52 : decode cX4_rememberWith 52 = .ok (.astore 6, 2) := by decide +kernel
theorem dX4_rememberWith_54 : decode cX4_rememberWith 54 = .ok (.aload 6, 2) := by decide +kernel
theorem dX4_rememberWith_56 : decode cX4_rememberWith 56 = .ok (.ifnull 47, 3) := by decide +kernel
theorem dX4_rememberWith_59 : decode cX4_rememberWith 59 = .ok (.aload 6, 2) := by decide +kernel
theorem dX4_rememberWith_61 : decode cX4_rememberWith 61 = .ok (.getfield 42, 3) := by decide +kernel
theorem dX4_rememberWith_64 : decode cX4_rememberWith 64 = .ok (.aload_n 2, 1) := by decide +kernel
theorem dX4_rememberWith_65 : decode cX4_rememberWith 65 = .ok (.invokevirtual 46, 3) := by decide +kernel
theorem dX4_rememberWith_68 : decode cX4_rememberWith 68 = .ok (.aload 6, 2) := by decide +kernel
theorem dX4_rememberWith_70 : decode cX4_rememberWith 70 = .ok (.aload_n 0, 1) := by decide +kernel
theorem dX4_rememberWith_71 : decode cX4_rememberWith 71 = .ok (.getfield 35, 3) := by decide +kernel
theorem dX4_rememberWith_74 : decode cX4_rememberWith 74 = .ok (.putfield 52, 3) := by decide +kernel
theorem dX4_rememberWith_77 : decode cX4_rememberWith 77 = .ok (.aload 6, 2) := by decide +kernel
theorem dX4_rememberWith_79 : decode cX4_rememberWith 79 = .ok (.iload_n 1, 1) := by decide +kernel
theorem dX4_rememberWith_80 : decode cX4_rememberWith 80 = .ok (.putfield 55, 3) := by decide +kernel
theorem dX4_rememberWith_83 : decode cX4_rememberWith 83 = .ok (.aload 6, 2) := by decide +kernel
theorem dX4_rememberWith_85 : decode cX4_rememberWith 85 = .ok (.iload_n 3, 1) := by decide +kernel
theorem dX4_rememberWith_86 : decode cX4_rememberWith 86 = .ok (.putfield 58, 3) := by decide +kernel
theorem dX4_rememberWith_89 : decode cX4_rememberWith 89 = .ok (.aload 6, 2) := by decide +kernel
theorem dX4_rememberWith_91 : decode cX4_rememberWith 91 = .ok (.iload 4, 2) := by decide +kernel
theorem dX4_rememberWith_93 : decode cX4_rememberWith 93 = .ok (.putfield 61, 3) := by decide +kernel
theorem dX4_rememberWith_96 : decode cX4_rememberWith 96 = .ok (.aload 6, 2) := by decide +kernel
theorem dX4_rememberWith_98 : decode cX4_rememberWith 98 = .ok (.iload 5, 2) := by decide +kernel
theorem dX4_rememberWith_100 : decode cX4_rememberWith 100 = .ok (.putfield 64, 3) := by decide +kernel
theorem dX4_rememberWith_103 : decode cX4_rememberWith 103 = .ok (.return_, 1) := by decide +kernel
set_option maxRecDepth 20000 in
theorem ggX4_wasRevoked_X4_recall : GoodIn wsX4_wasRevoked wsX4_recall := goodIn_r _ [7, 8, 9, 10, 11, 12, 13, 14, 21, 22, 23, 24] (by decide +kernel) (by decide +kernel)
set_option maxRecDepth 20000 in
theorem gX4_wasRevoked_X4_recall : GoodIn wsX4_wasRevoked (wsV RX4 38 RX4 yX4_recall wsX4_recall) := goodIn_app (goodIn_of _ (by decide +kernel)) ggX4_wasRevoked_X4_recall
theorem dX4_wasRevoked_0 : decode cX4_wasRevoked 0 = .ok (.iconst 0, 1) := by decide +kernel
theorem dX4_wasRevoked_1 : decode cX4_wasRevoked 1 = .ok (.istore_n 2, 1) := by decide +kernel
theorem dX4_wasRevoked_2 : decode cX4_wasRevoked 2 = .ok (.iload_n 2, 1) := by decide +kernel
theorem dX4_wasRevoked_3 : decode cX4_wasRevoked 3 = .ok (.bipush 12, 2) := by decide +kernel
theorem dX4_wasRevoked_5 : decode cX4_wasRevoked 5 = .ok (.if_icmp .ge 38, 3) := by decide +kernel
theorem dX4_wasRevoked_8 : decode cX4_wasRevoked 8 = .ok (.aload_n 0, 1) := by decide +kernel
theorem dX4_wasRevoked_9 : decode cX4_wasRevoked 9 = .ok (.iload_n 2, 1) := by decide +kernel
theorem dX4_wasRevoked_10 : decode cX4_wasRevoked 10 = .ok (.invokevirtual 38, 3) := by decide +kernel
theorem dX4_wasRevoked_13 : decode cX4_wasRevoked 13 = .ok (.astore_n 3, 1) := by decide +kernel
theorem dX4_wasRevoked_14 : decode cX4_wasRevoked 14 = .ok (.aload_n 3, 1) := by decide +kernel
theorem dX4_wasRevoked_15 : decode cX4_wasRevoked 15 = .ok (.ifnull 22, 3) := by decide +kernel
theorem dX4_wasRevoked_18 : decode cX4_wasRevoked 18 = .ok (.aload_n 3, 1) := by decide +kernel
theorem dX4_wasRevoked_19 : decode cX4_wasRevoked 19 = .ok (.getfield 55, 3) := by decide +kernel
theorem dX4_wasRevoked_22 : decode cX4_wasRevoked 22 = .ok (.bipush 10, 2) := by decide +kernel
theorem dX4_wasRevoked_24 : decode cX4_wasRevoked 24 = .ok (.if_icmp .ne 13, 3) := by decide +kernel
theorem dX4_wasRevoked_27 : decode cX4_wasRevoked 27 = .ok (.aload_n 3, 1) := by decide +kernel
theorem dX4_wasRevoked_28 : decode cX4_wasRevoked 28 = .ok (.getfield 58, 3) := by decide +kernel
theorem dX4_wasRevoked_31 : decode cX4_wasRevoked 31 = .ok (.iload_n 1, 1) := by decide +kernel
theorem dX4_wasRevoked_32 : decode cX4_wasRevoked 32 = .ok (.if_icmp .ne 5, 3) := by decide +kernel
theorem dX4_wasRevoked_35 : decode cX4_wasRevoked 35 = .ok (.iconst 1, 1) := by decide +kernel
theorem dX4_wasRevoked_36 : decode cX4_wasRevoked 36 = .ok (.ireturn, 1) := by decide +kernel
theorem dX4_wasRevoked_37 : decode cX4_wasRevoked 37 = .ok (.iinc 2 1, 3) := by decide +kernel
theorem dX4_wasRevoked_40 : decode cX4_wasRevoked 40 = .ok (.goto (-38), 3) := by decide +kernel
theorem dX4_wasRevoked_43 : decode cX4_wasRevoked 43 = .ok (.iconst 0, 1) := by decide +kernel
theorem dX4_wasRevoked_44 : decode cX4_wasRevoked 44 = .ok (.ireturn, 1) := by decide +kernel
theorem dX4_forgetLatest_0 : decode cX4_forgetLatest 0 = .ok (.aload_n 0, 1) := by decide +kernel
theorem dX4_forgetLatest_1 : decode cX4_forgetLatest 1 = .ok (.getfield 18, 3) := by decide +kernel
theorem dX4_forgetLatest_4 : decode cX4_forgetLatest 4 = .ok (.ifCond .le 13, 3) := by decide +kernel
theorem dX4_forgetLatest_7 : decode cX4_forgetLatest 7 = .ok (.aload_n 0, 1) := by decide +kernel
theorem dX4_forgetLatest_8 : decode cX4_forgetLatest 8 = .ok (.dup, 1) := by decide +kernel
theorem dX4_forgetLatest_9 : decode cX4_forgetLatest 9 = .ok (.getfield 18, 3) := by decide +kernel
theorem dX4_forgetLatest_12 : decode cX4_forgetLatest 12 = .ok (.iconst 1, 1) := by decide +kernel
theorem dX4_forgetLatest_13 : decode cX4_forgetLatest 13 = .ok (.isub, 1) := by decide +kernel
theorem dX4_forgetLatest_14 : decode cX4_forgetLatest 14 = .ok (.putfield 18, 3) := by decide +kernel
theorem dX4_forgetLatest_17 : decode cX4_forgetLatest 17 = .ok (.aload_n 0, 1) := by decide +kernel
theorem dX4_forgetLatest_18 : decode cX4_forgetLatest 18 = .ok (.getfield 18, 3) := by decide +kernel
theorem dX4_forgetLatest_21 : decode cX4_forgetLatest 21 = .ok (.ireturn, 1) := by decide +kernel
set_option maxRecDepth 20000 in
theorem ggX5_init_X0_init : GoodIn wsX5_init wsX0_init := goodIn_r _ [14, 15, 2, 3, 16, 17, 18, 19, 20, 21, 22, 23, 24, 25, 26, 27, 28, 29, 30, 31, 32, 33, 34, 35, 36, 37, 38, 39, 40, 41, 42, 43, 44, 45, 80, 81, 82, 83, 84, 85, 86, 87, 88, 89, 90, 68, 69, 70, 71, 72, 73, 91, 92, 93, 94, 95] (by decide +kernel) (by decide +kernel)
set_option maxRecDepth 20000 in
theorem gX5_init_X0_init_n9 : GoodIn wsX5_init (wsX0_init) := ggX5_init_X0_init
set_option maxRecDepth 20000 in
theorem ggX5_init_X4_init : GoodIn wsX5_init wsX4_init := goodIn_r _ [48, 49, 2, 3, 50, 51, 52, 53, 54, 55, 56, 57, 5, 6, 58, 13, 14, 15, 16, 17, 18, 19, 20, 21, 22, 23, 24, 25, 26, 27, 28, 29, 30, 31, 32, 33, 34, 35, 36, 37, 38, 39, 40, 41, 42, 43, 44, 45, 76, 77, 78, 79, 96, 97, 98, 99, 100, 101, 68, 69, 70, 71, 72, 73, 80, 81, 82, 83, 84, 85, 86, 87, 88, 89, 90, 91, 92, 93, 94, 95] (by decide +kernel) (by decide +kernel)
set_option maxRecDepth 20000 in
theorem gX5_init_X4_init : GoodIn wsX5_init (wsX4_init) := ggX5_init_X4_init
set_option maxRecDepth 20000 in
theorem ggX5_init_X3_add : GoodIn wsX5_init wsX3_add := goodIn_r _ [62, 63, 29, 30, 31, 38, 64, 65, 66, 18, 67, 80, 81, 82, 83, 84, 85, 86, 87, 88, 89, 90] (by decide +kernel) (by decide +kernel)
set_option maxRecDepth 20000 in
theorem gX5_init_X3_add : GoodIn wsX5_init (wsV RX5 27 RX3 yX3_add wsX3_add) := goodIn_app (goodIn_of _ (by decide +kernel)) ggX5_init_X3_add
theorem dX5_init_0 : decode cX5_init 0 = .ok (.aload_n 0, 1) := by decide +kernel
theorem dX5_init_1 : decode cX5_init 1 = .ok (.invokespecial 1, 3) := by decide +kernel
theorem dX5_init_4 : decode cX5_init 4 = .ok (.aload_n 0, 1) := by decide +kernel
theorem dX5_init_5 : decode cX5_init 5 = .ok (.new 7, 3) := by decide +kernel
theorem dX5_init_8 : decode cX5_init 8 = .ok (.dup, 1) := by decide +kernel
theorem dX5_init_9 : decode cX5_init 9 = .ok (.invokespecial 9, 3) := by decide +kernel
theorem dX5_init_12 : decode cX5_init 12 = .ok (.putfield 10, 3) := by decide +kernel
theorem dX5_init_15 : decode cX5_init 15 = .ok (.aload_n 0, 1) := by decide +kernel
theorem dX5_init_16 : decode cX5_init 16 = .ok (.new 16, 3) := by decide +kernel
theorem dX5_init_19 : decode cX5_init 19 = .ok (.dup, 1) := by decide +kernel
theorem dX5_init_20 : decode cX5_init 20 = .ok (.invokespecial 18, 3) := by decide +kernel
theorem dX5_init_23 : decode cX5_init 23 = .ok (.putfield 19, 3) := by decide +kernel
theorem dX5_init_26 : decode cX5_init 26 = .ok (.aload_n 0, 1) := by decide +kernel
theorem dX5_init_27 : decode cX5_init 27 = .ok (.getfield 10, 3) := by decide +kernel
theorem dX5_init_30 : decode cX5_init 30 = .ok (.getfield 23, 3) := by decide +kernel
theorem dX5_init_33 : decode cX5_init 33 = .ok (.bipush (-9), 2) := by decide +kernel
theorem dX5_init_35 : decode cX5_init 35 = .ok (.iconst 0, 1) := by decide +kernel
theorem dX5_init_36 : decode cX5_init 36 = .ok (.invokevirtual 27, 3) := by decide +kernel
theorem dX5_init_39 : decode cX5_init 39 = .ok (.pop, 1) := by decide +kernel
theorem dX5_init_40 : decode cX5_init 40 = .ok (.return_, 1) := by decide +kernel
set_option maxRecDepth 20000 in
theorem ggX5_make_X3_has : GoodIn wsX5_make wsX3_has := goodIn_r _ [10, 11, 92, 93, 94, 95, 96, 97, 98, 99, 100, 101, 102] (by decide +kernel) (by decide +kernel)
set_option maxRecDepth 20000 in
theorem gX5_make_X3_has : GoodIn wsX5_make (wsV RX5 33 RX3 yX3_has wsX3_has) := goodIn_app (goodIn_of _ (by decide +kernel)) ggX5_make_X3_has
set_option maxRecDepth 20000 in
theorem ggX5_make_X4_remember : GoodIn wsX5_make wsX4_remember := goodIn_r _ [16, 17, 18, 19, 15, 20, 21, 22, 23, 24, 25, 26, 27, 28, 29, 30, 31, 32, 33, 34, 35, 36, 37, 38, 39, 40, 41, 42, 43, 44, 45, 46, 47, 48, 49, 50, 51, 52, 9, 53, 54, 55, 56, 57, 58, 59, 60, 61, 62, 63, 64, 65, 66, 67, 11, 68, 69, 70, 71, 72, 73, 74, 75, 76, 77, 78, 103, 104, 105, 106, 107, 108, 109, 110, 111, 112, 86, 87, 88, 89, 90, 91, 92, 93, 94, 95, 96, 97, 98, 99, 100, 101, 102, 113, 114, 115, 116, 117] (by decide +kernel) (by decide +kernel)
set_option maxRecDepth 20000 in
theorem gX5_make_X4_remember : GoodIn wsX5_make (wsV RX5 45 RX4 yX4_remember wsX4_remember) := goodIn_app (goodIn_of _ (by decide +kernel)) ggX5_make_X4_remember
set_option maxRecDepth 20000 in
theorem ggX5_make_X3_add : GoodIn wsX5_make wsX3_add := goodIn_r _ [82, 11, 54, 59, 60, 67, 83, 7, 8, 9, 10, 92, 93, 94, 95, 96, 97, 98, 99, 100, 101, 102] (by decide +kernel) (by decide +kernel)
set_option maxRecDepth 20000 in
theorem gX5_make_X3_add : GoodIn wsX5_make (wsV RX5 27 RX3 yX3_add wsX3_add) := goodIn_app (goodIn_of _ (by decide +kernel)) ggX5_make_X3_add
theorem dX5_make_0 : decode cX5_make 0 = .ok (.aload_n 0, 1) := by decide +kernel
theorem dX5_make_1 : decode cX5_make 1 = .ok (.getfield 10, 3) := by decide +kernel
theorem dX5_make_4 : decode cX5_make 4 = .ok (.getfield 23, 3) := by decide +kernel
theorem dX5_make_7 : decode cX5_make 7 = .ok (.astore_n 3, 1) := by decide +kernel
theorem dX5_make_8 : decode cX5_make 8 = .ok (.aload_n 3, 1) := by decide +kernel
theorem dX5_make_9 : decode cX5_make 9 = .ok (.iload_n 1, 1) := by decide +kernel
theorem dX5_make_10 : decode cX5_make 10 = .ok (.invokevirtual 33, 3) := by decide +kernel
theorem dX5_make_13 : decode cX5_make 13 = .ok (.ifCond .eq 13, 3) := by decide +kernel
theorem dX5_make_16 : decode cX5_make 16 = .ok (.iload_n 2, 1) := by decide +kernel
theorem dX5_make_17 : decode cX5_make 17 = .ok (.ifCond .lt 9, 3) := by decide +kernel
theorem dX5_make_20 : decode cX5_make 20 = .ok (.iload_n 2, 1) := by decide +kernel
theorem dX5_make_21 : decode cX5_make 21 = .ok (.bipush 9, 2) := by decide +kernel
theorem dX5_make_23 : decode cX5_make 23 = .ok (.if_icmp .le 5, 3) := by decide +kernel
theorem dX5_make_26 : decode cX5_make 26 = .ok (.iconst (-1), 1) := by decide +kernel
theorem dX5_make_27 : decode cX5_make 27 = .ok (.ireturn, 1) := by decide +kernel
theorem dX5_make_28 : decode cX5_make 28 = .ok (.aload_n 3, 1) := by decide +kernel
theorem dX5_make_29 : decode cX5_make 29 = .ok (.getfield 37, 3) := by decide +kernel
theorem dX5_make_32 : decode cX5_make 32 = .ok (.iload_n 1, 1) := by decide +kernel
theorem dX5_make_33 : decode cX5_make 33 = .ok (.iaload, 1) := by decide +kernel
theorem dX5_make_34 : decode cX5_make 34 = .ok (.iconst 4, 1) := by decide +kernel
theorem dX5_make_35 : decode cX5_make 35 = .ok (.if_icmp .lt 6, 3) := by decide +kernel
theorem dX5_make_38 : decode cX5_make 38 = .ok (.bipush (-2), 2) := by decide +kernel
theorem dX5_make_40 : decode cX5_make 40 = .ok (.ireturn, 1) := by decide +kernel
theorem dX5_make_41 : decode cX5_make 41 = .ok (.aload_n 3, 1) := by decide +kernel
theorem dX5_make_42 : decode cX5_make 42 = .ok (.getfield 41, 3) := by decide +kernel
theorem dX5_make_45 : decode cX5_make 45 = .ok (.bipush 20, 2) := by decide +kernel
theorem dX5_make_47 : decode cX5_make 47 = .ok (.if_icmp .lt 6, 3) := by decide +kernel
theorem dX5_make_50 : decode cX5_make 50 = .ok (.bipush (-3), 2) := by decide +kernel
theorem dX5_make_52 : decode cX5_make 52 = .ok (.ireturn, 1) := by decide +kernel
theorem dX5_make_53 : decode cX5_make 53 = .ok (.aload_n 0, 1) := by decide +kernel
theorem dX5_make_54 : decode cX5_make 54 = .ok (.getfield 19, 3) := by decide +kernel
theorem dX5_make_57 : decode cX5_make 57 = .ok (.iconst 0, 1) := by decide +kernel
theorem dX5_make_58 : decode cX5_make 58 = .ok (.aload_n 0, 1) := by decide +kernel
theorem dX5_make_59 : decode cX5_make 59 = .ok (.getfield 10, 3) := by decide +kernel
theorem dX5_make_62 : decode cX5_make 62 = .ok (.invokevirtual 45, 3) := by decide +kernel
theorem dX5_make_65 : decode cX5_make 65 = .ok (.aload_n 3, 1) := by decide +kernel
theorem dX5_make_66 : decode cX5_make 66 = .ok (.iload_n 1, 1) := by decide +kernel
theorem dX5_make_67 : decode cX5_make 67 = .ok (.iload_n 2, 1) := by decide +kernel
theorem dX5_make_68 : decode cX5_make 68 = .ok (.invokevirtual 27, 3) := by decide +kernel
theorem dX5_make_71 : decode cX5_make 71 = .ok (.ireturn, 1) := by decide +kernel
set_option maxRecDepth 20000 in
theorem ggX5_allot_X3_has : GoodIn wsX5_allot wsX3_has := goodIn_r _ [11, 12, 93, 94, 95, 96, 97, 98, 99, 100, 101, 102, 103] (by decide +kernel) (by decide +kernel)
set_option maxRecDepth 20000 in
theorem gX5_allot_X3_has : GoodIn wsX5_allot (wsV RX5 33 RX3 yX3_has wsX3_has) := goodIn_app (goodIn_of _ (by decide +kernel)) ggX5_allot_X3_has
set_option maxRecDepth 20000 in
theorem ggX5_allot_X5_isAmount : GoodIn wsX5_allot wsX5_isAmount := goodIn_r _ [16, 17] (by decide +kernel) (by decide +kernel)
set_option maxRecDepth 20000 in
theorem gX5_allot_X5_isAmount : GoodIn wsX5_allot (va_wsS RX5 49 yX5_isAmount wsX5_isAmount) := goodIn_app (goodIn_of _ (by decide +kernel)) ggX5_allot_X5_isAmount
set_option maxRecDepth 20000 in
theorem ggX5_allot_X4_remember : GoodIn wsX5_allot wsX4_remember := goodIn_r _ [22, 23, 24, 25, 21, 26, 27, 28, 29, 30, 31, 32, 33, 34, 35, 36, 37, 38, 39, 40, 41, 42, 43, 44, 45, 46, 47, 48, 49, 50, 51, 52, 53, 54, 55, 56, 57, 58, 10, 59, 60, 61, 62, 63, 64, 65, 66, 67, 68, 69, 70, 71, 72, 73, 12, 74, 75, 76, 77, 78, 79, 80, 81, 82, 83, 84, 104, 105, 106, 107, 108, 109, 110, 111, 112, 113, 87, 88, 89, 90, 91, 92, 93, 94, 95, 96, 97, 98, 99, 100, 101, 102, 103, 114, 115, 116, 117, 118] (by decide +kernel) (by decide +kernel)
set_option maxRecDepth 20000 in
theorem gX5_allot_X4_remember : GoodIn wsX5_allot (wsV RX5 45 RX4 yX4_remember wsX4_remember) := goodIn_app (goodIn_of _ (by decide +kernel)) ggX5_allot_X4_remember
theorem dX5_allot_0 : decode cX5_allot 0 = .ok (.aload_n 0, 1) := by decide +kernel
theorem dX5_allot_1 : decode cX5_allot 1 = .ok (.getfield 10, 3) := by decide +kernel
theorem dX5_allot_4 : decode cX5_allot 4 = .ok (.getfield 23, 3) := by decide +kernel
theorem dX5_allot_7 : decode cX5_allot 7 = .ok (.astore_n 3, 1) := by decide +kernel
theorem dX5_allot_8 : decode cX5_allot 8 = .ok (.aload_n 3, 1) := by decide +kernel
theorem dX5_allot_9 : decode cX5_allot 9 = .ok (.iload_n 1, 1) := by decide +kernel
theorem dX5_allot_10 : decode cX5_allot 10 = .ok (.invokevirtual 33, 3) := by decide +kernel
theorem dX5_allot_13 : decode cX5_allot 13 = .ok (.ifCond .eq 10, 3) := by decide +kernel
theorem dX5_allot_16 : decode cX5_allot 16 = .ok (.iload_n 2, 1) := by decide +kernel
theorem dX5_allot_17 : decode cX5_allot 17 = .ok (.invokestatic 49, 3) := by decide +kernel
theorem dX5_allot_20 : decode cX5_allot 20 = .ok (.ifCond .ne 5, 3) := by decide +kernel
theorem dX5_allot_23 : decode cX5_allot 23 = .ok (.iconst (-1), 1) := by decide +kernel
theorem dX5_allot_24 : decode cX5_allot 24 = .ok (.ireturn, 1) := by decide +kernel
theorem dX5_allot_25 : decode cX5_allot 25 = .ok (.aload_n 3, 1) := by decide +kernel
theorem dX5_allot_26 : decode cX5_allot 26 = .ok (.getfield 52, 3) := by decide +kernel
theorem dX5_allot_29 : decode cX5_allot 29 = .ok (.iload_n 1, 1) := by decide +kernel
theorem dX5_allot_30 : decode cX5_allot 30 = .ok (.iaload, 1) := by decide +kernel
theorem dX5_allot_31 : decode cX5_allot 31 = .ok (.ldc 55, 2) := by decide +kernel
theorem dX5_allot_33 : decode cX5_allot 33 = .ok (.iload_n 2, 1) := by decide +kernel
theorem dX5_allot_34 : decode cX5_allot 34 = .ok (.isub, 1) := by decide +kernel
theorem dX5_allot_35 : decode cX5_allot 35 = .ok (.if_icmp .le 6, 3) := by decide +kernel
theorem dX5_allot_38 : decode cX5_allot 38 = .ok (.bipush (-3), 2) := by decide +kernel
theorem dX5_allot_40 : decode cX5_allot 40 = .ok (.ireturn, 1) := by decide +kernel
theorem dX5_allot_41 : decode cX5_allot 41 = .ok (.aload_n 0, 1) := by decide +kernel
theorem dX5_allot_42 : decode cX5_allot 42 = .ok (.getfield 19, 3) := by decide +kernel
theorem dX5_allot_45 : decode cX5_allot 45 = .ok (.iconst 1, 1) := by decide +kernel
theorem dX5_allot_46 : decode cX5_allot 46 = .ok (.aload_n 0, 1) := by decide +kernel
theorem dX5_allot_47 : decode cX5_allot 47 = .ok (.getfield 10, 3) := by decide +kernel
theorem dX5_allot_50 : decode cX5_allot 50 = .ok (.invokevirtual 45, 3) := by decide +kernel
theorem dX5_allot_53 : decode cX5_allot 53 = .ok (.aload_n 3, 1) := by decide +kernel
theorem dX5_allot_54 : decode cX5_allot 54 = .ok (.getfield 52, 3) := by decide +kernel
theorem dX5_allot_57 : decode cX5_allot 57 = .ok (.iload_n 1, 1) := by decide +kernel
theorem dX5_allot_58 : decode cX5_allot 58 = .ok (.dup2, 1) := by decide +kernel
theorem dX5_allot_59 : decode cX5_allot 59 = .ok (.iaload, 1) := by decide +kernel
theorem dX5_allot_60 : decode cX5_allot 60 = .ok (.iload_n 2, 1) := by decide +kernel
theorem dX5_allot_61 : decode cX5_allot 61 = .ok (.iadd, 1) := by decide +kernel
theorem dX5_allot_62 : decode cX5_allot 62 = .ok (.iastore, 1) := by decide +kernel
theorem dX5_allot_63 : decode cX5_allot 63 = .ok (.aload_n 3, 1) := by decide +kernel
theorem dX5_allot_64 : decode cX5_allot 64 = .ok (.getfield 56, 3) := by decide +kernel
theorem dX5_allot_67 : decode cX5_allot 67 = .ok (.iload_n 1, 1) := by decide +kernel
theorem dX5_allot_68 : decode cX5_allot 68 = .ok (.dup2, 1) := by decide +kernel
theorem dX5_allot_69 : decode cX5_allot 69 = .ok (.iaload, 1) := by decide +kernel
theorem dX5_allot_70 : decode cX5_allot 70 = .ok (.iload_n 2, 1) := by decide +kernel
theorem dX5_allot_71 : decode cX5_allot 71 = .ok (.iadd, 1) := by decide +kernel
theorem dX5_allot_72 : decode cX5_allot 72 = .ok (.iastore, 1) := by decide +kernel
theorem dX5_allot_73 : decode cX5_allot 73 = .ok (.aload_n 3, 1) := by decide +kernel
theorem dX5_allot_74 : decode cX5_allot 74 = .ok (.getfield 52, 3) := by decide +kernel
theorem dX5_allot_77 : decode cX5_allot 77 = .ok (.iload_n 1, 1) := by decide +kernel
theorem dX5_allot_78 : decode cX5_allot 78 = .ok (.iaload, 1) := by decide +kernel
theorem dX5_allot_79 : decode cX5_allot 79 = .ok (.ireturn, 1) := by decide +kernel
set_option maxRecDepth 20000 in
theorem ggX5_freeze_X3_has : GoodIn wsX5_freeze wsX3_has := goodIn_r _ [9, 10, 95, 96, 97, 98, 99, 100, 101, 102, 103, 104, 105] (by decide +kernel) (by decide +kernel)
set_option maxRecDepth 20000 in
theorem gX5_freeze_X3_has : GoodIn wsX5_freeze (wsV RX5 33 RX3 yX3_has wsX3_has) := goodIn_app (goodIn_of _ (by decide +kernel)) ggX5_freeze_X3_has
set_option maxRecDepth 20000 in
theorem ggX5_freeze_X4_remember : GoodIn wsX5_freeze wsX4_remember := goodIn_r _ [15, 16, 17, 18, 14, 19, 20, 21, 22, 23, 24, 25, 26, 27, 28, 29, 30, 31, 32, 33, 34, 35, 36, 37, 38, 39, 40, 41, 42, 43, 44, 45, 46, 47, 48, 49, 50, 51, 8, 52, 53, 54, 55, 56, 57, 58, 59, 60, 61, 62, 63, 64, 65, 66, 10, 67, 68, 69, 70, 71, 72, 73, 74, 75, 76, 77, 106, 107, 108, 109, 110, 111, 112, 113, 114, 115, 89, 90, 91, 92, 93, 94, 95, 96, 97, 98, 99, 100, 101, 102, 103, 104, 105, 116, 117, 118, 119, 120] (by decide +kernel) (by decide +kernel)
set_option maxRecDepth 20000 in
theorem gX5_freeze_X4_remember : GoodIn wsX5_freeze (wsV RX5 45 RX4 yX4_remember wsX4_remember) := goodIn_app (goodIn_of _ (by decide +kernel)) ggX5_freeze_X4_remember
set_option maxRecDepth 20000 in
theorem ggX5_freeze_X3_countBarred : GoodIn wsX5_freeze wsX3_countBarred := goodIn_r _ [81, 82, 83, 84, 8, 85, 60, 53, 86, 6, 7, 9, 10, 95, 96, 97, 98, 99, 100, 101, 102, 103, 104, 105] (by decide +kernel) (by decide +kernel)
set_option maxRecDepth 20000 in
theorem gX5_freeze_X3_countBarred : GoodIn wsX5_freeze (wsV RX5 62 RX3 yX3_countBarred wsX3_countBarred) := goodIn_app (goodIn_of _ (by decide +kernel)) ggX5_freeze_X3_countBarred
theorem dX5_freeze_0 : decode cX5_freeze 0 = .ok (.aload_n 0, 1) := by decide +kernel
theorem dX5_freeze_1 : decode cX5_freeze 1 = .ok (.getfield 10, 3) := by decide +kernel
theorem dX5_freeze_4 : decode cX5_freeze 4 = .ok (.getfield 23, 3) := by decide +kernel
theorem dX5_freeze_7 : decode cX5_freeze 7 = .ok (.astore_n 3, 1) := by decide +kernel
theorem dX5_freeze_8 : decode cX5_freeze 8 = .ok (.aload_n 3, 1) := by decide +kernel
theorem dX5_freeze_9 : decode cX5_freeze 9 = .ok (.iload_n 1, 1) := by decide +kernel
theorem dX5_freeze_10 : decode cX5_freeze 10 = .ok (.invokevirtual 33, 3) := by decide +kernel
theorem dX5_freeze_13 : decode cX5_freeze 13 = .ok (.ifCond .eq 12, 3) := by decide +kernel
theorem dX5_freeze_16 : decode cX5_freeze 16 = .ok (.iload_n 2, 1) := by decide +kernel
theorem dX5_freeze_17 : decode cX5_freeze 17 = .ok (.ifCond .lt 8, 3) := by decide +kernel
theorem dX5_freeze_20 : decode cX5_freeze 20 = .ok (.iload_n 2, 1) := by decide +kernel
theorem dX5_freeze_21 : decode cX5_freeze 21 = .ok (.iconst 1, 1) := by decide +kernel
theorem dX5_freeze_22 : decode cX5_freeze 22 = .ok (.if_icmp .le 5, 3) := by decide +kernel
theorem dX5_freeze_25 : decode cX5_freeze 25 = .ok (.iconst (-1), 1) := by decide +kernel
theorem dX5_freeze_26 : decode cX5_freeze 26 = .ok (.ireturn, 1) := by decide +kernel
theorem dX5_freeze_27 : decode cX5_freeze 27 = .ok (.aload_n 3, 1) := by decide +kernel
theorem dX5_freeze_28 : decode cX5_freeze 28 = .ok (.getfield 59, 3) := by decide +kernel
theorem dX5_freeze_31 : decode cX5_freeze 31 = .ok (.iload_n 1, 1) := by decide +kernel
theorem dX5_freeze_32 : decode cX5_freeze 32 = .ok (.iaload, 1) := by decide +kernel
theorem dX5_freeze_33 : decode cX5_freeze 33 = .ok (.iload_n 2, 1) := by decide +kernel
theorem dX5_freeze_34 : decode cX5_freeze 34 = .ok (.if_icmp .ne 6, 3) := by decide +kernel
theorem dX5_freeze_37 : decode cX5_freeze 37 = .ok (.bipush (-2), 2) := by decide +kernel
theorem dX5_freeze_39 : decode cX5_freeze 39 = .ok (.ireturn, 1) := by decide +kernel
theorem dX5_freeze_40 : decode cX5_freeze 40 = .ok (.aload_n 0, 1) := by decide +kernel
theorem dX5_freeze_41 : decode cX5_freeze 41 = .ok (.getfield 19, 3) := by decide +kernel
theorem dX5_freeze_44 : decode cX5_freeze 44 = .ok (.iconst 2, 1) := by decide +kernel
theorem dX5_freeze_45 : decode cX5_freeze 45 = .ok (.aload_n 0, 1) := by decide +kernel
theorem dX5_freeze_46 : decode cX5_freeze 46 = .ok (.getfield 10, 3) := by decide +kernel
theorem dX5_freeze_49 : decode cX5_freeze 49 = .ok (.invokevirtual 45, 3) := by decide +kernel
theorem dX5_freeze_52 : decode cX5_freeze 52 = .ok (.aload_n 3, 1) := by decide +kernel
theorem dX5_freeze_53 : decode cX5_freeze 53 = .ok (.getfield 59, 3) := by decide +kernel
theorem dX5_freeze_56 : decode cX5_freeze 56 = .ok (.iload_n 1, 1) := by decide +kernel
theorem dX5_freeze_57 : decode cX5_freeze 57 = .ok (.iload_n 2, 1) := by decide +kernel
theorem dX5_freeze_58 : decode cX5_freeze 58 = .ok (.iastore, 1) := by decide +kernel
theorem dX5_freeze_59 : decode cX5_freeze 59 = .ok (.aload_n 3, 1) := by decide +kernel
theorem dX5_freeze_60 : decode cX5_freeze 60 = .ok (.invokevirtual 62, 3) := by decide +kernel
theorem dX5_freeze_63 : decode cX5_freeze 63 = .ok (.ireturn, 1) := by decide +kernel
set_option maxRecDepth 20000 in
theorem ggX5_setShare_X3_has : GoodIn wsX5_setShare wsX3_has := goodIn_r _ [9, 10, 90, 91, 92, 93, 94, 95, 96, 97, 98, 99, 100] (by decide +kernel) (by decide +kernel)
set_option maxRecDepth 20000 in
theorem gX5_setShare_X3_has : GoodIn wsX5_setShare (wsV RX5 33 RX3 yX3_has wsX3_has) := goodIn_app (goodIn_of _ (by decide +kernel)) ggX5_setShare_X3_has
set_option maxRecDepth 20000 in
theorem ggX5_setShare_X5_isPercentage : GoodIn wsX5_setShare wsX5_isPercentage := goodIn_r _ [14] (by decide +kernel) (by decide +kernel)
set_option maxRecDepth 20000 in
theorem gX5_setShare_X5_isPercentage : GoodIn wsX5_setShare (va_wsS RX5 66 yX5_isPercentage wsX5_isPercentage) := goodIn_app (goodIn_of _ (by decide +kernel)) ggX5_setShare_X5_isPercentage
set_option maxRecDepth 20000 in
theorem ggX5_setShare_X4_remember : GoodIn wsX5_setShare wsX4_remember := goodIn_r _ [19, 20, 21, 22, 18, 23, 24, 25, 26, 27, 28, 29, 30, 31, 32, 33, 34, 35, 36, 37, 38, 39, 40, 41, 42, 43, 44, 45, 46, 47, 48, 49, 50, 51, 52, 53, 54, 55, 8, 56, 57, 58, 59, 60, 61, 62, 63, 64, 65, 66, 67, 68, 69, 70, 10, 71, 72, 73, 74, 75, 76, 77, 78, 79, 80, 81, 101, 102, 103, 104, 105, 106, 107, 108, 109, 110, 84, 85, 86, 87, 88, 89, 90, 91, 92, 93, 94, 95, 96, 97, 98, 99, 100, 111, 112, 113, 114, 115] (by decide +kernel) (by decide +kernel)
set_option maxRecDepth 20000 in
theorem gX5_setShare_X4_remember : GoodIn wsX5_setShare (wsV RX5 45 RX4 yX4_remember wsX4_remember) := goodIn_app (goodIn_of _ (by decide +kernel)) ggX5_setShare_X4_remember
theorem dX5_setShare_0 : decode cX5_setShare 0 = .ok (.aload_n 0, 1) := by decide +kernel
theorem dX5_setShare_1 : decode cX5_setShare 1 = .ok (.getfield 10, 3) := by decide +kernel
theorem dX5_setShare_4 : decode cX5_setShare 4 = .ok (.getfield 23, 3) := by decide +kernel
theorem dX5_setShare_7 : decode cX5_setShare 7 = .ok (.astore_n 3, 1) := by decide +kernel
theorem dX5_setShare_8 : decode cX5_setShare 8 = .ok (.aload_n 3, 1) := by decide +kernel
theorem dX5_setShare_9 : decode cX5_setShare 9 = .ok (.iload_n 1, 1) := by decide +kernel
theorem dX5_setShare_10 : decode cX5_setShare 10 = .ok (.invokevirtual 33, 3) := by decide +kernel
theorem dX5_setShare_13 : decode cX5_setShare 13 = .ok (.ifCond .eq 10, 3) := by decide +kernel
theorem dX5_setShare_16 : decode cX5_setShare 16 = .ok (.iload_n 2, 1) := by decide +kernel
theorem dX5_setShare_17 : decode cX5_setShare 17 = .ok (.invokestatic 66, 3) := by decide +kernel
theorem dX5_setShare_20 : decode cX5_setShare 20 = .ok (.ifCond .ne 5, 3) := by decide +kernel
theorem dX5_setShare_23 : decode cX5_setShare 23 = .ok (.iconst (-1), 1) := by decide +kernel
theorem dX5_setShare_24 : decode cX5_setShare 24 = .ok (.ireturn, 1) := by decide +kernel
theorem dX5_setShare_25 : decode cX5_setShare 25 = .ok (.aload_n 0, 1) := by decide +kernel
theorem dX5_setShare_26 : decode cX5_setShare 26 = .ok (.getfield 19, 3) := by decide +kernel
theorem dX5_setShare_29 : decode cX5_setShare 29 = .ok (.iconst 3, 1) := by decide +kernel
theorem dX5_setShare_30 : decode cX5_setShare 30 = .ok (.aload_n 0, 1) := by decide +kernel
theorem dX5_setShare_31 : decode cX5_setShare 31 = .ok (.getfield 10, 3) := by decide +kernel
theorem dX5_setShare_34 : decode cX5_setShare 34 = .ok (.invokevirtual 45, 3) := by decide +kernel
theorem dX5_setShare_37 : decode cX5_setShare 37 = .ok (.aload_n 3, 1) := by decide +kernel
theorem dX5_setShare_38 : decode cX5_setShare 38 = .ok (.getfield 69, 3) := by decide +kernel
theorem dX5_setShare_41 : decode cX5_setShare 41 = .ok (.iload_n 1, 1) := by decide +kernel
theorem dX5_setShare_42 : decode cX5_setShare 42 = .ok (.iaload, 1) := by decide +kernel
theorem dX5_setShare_43 : decode cX5_setShare 43 = .ok (.istore 4, 2) := by decide +kernel
theorem dX5_setShare_45 : decode cX5_setShare 45 = .ok (.aload_n 3, 1) := by decide +kernel
theorem dX5_setShare_46 : decode cX5_setShare 46 = .ok (.getfield 69, 3) := by decide +kernel
theorem dX5_setShare_49 : decode cX5_setShare 49 = .ok (.iload_n 1, 1) := by decide +kernel
theorem dX5_setShare_50 : decode cX5_setShare 50 = .ok (.iload_n 2, 1) := by decide +kernel
theorem dX5_setShare_51 : decode cX5_setShare 51 = .ok (.iastore, 1) := by decide +kernel
theorem dX5_setShare_52 : decode cX5_setShare 52 = .ok (.iload 4, 2) := by decide +kernel
theorem dX5_setShare_54 : decode cX5_setShare 54 = .ok (.ireturn, 1) := by decide +kernel
set_option maxRecDepth 20000 in
theorem ggX5_setCarried_X5_isPercentage : GoodIn wsX5_setCarried wsX5_isPercentage := goodIn_r _ [7] (by decide +kernel) (by decide +kernel)
set_option maxRecDepth 20000 in
theorem gX5_setCarried_X5_isPercentage : GoodIn wsX5_setCarried (va_wsS RX5 66 yX5_isPercentage wsX5_isPercentage) := goodIn_app (goodIn_of _ (by decide +kernel)) ggX5_setCarried_X5_isPercentage
set_option maxRecDepth 20000 in
theorem ggX5_setCarried_X4_remember : GoodIn wsX5_setCarried wsX4_remember := goodIn_r _ [12, 13, 14, 15, 11, 16, 17, 18, 19, 20, 21, 22, 23, 24, 25, 26, 27, 28, 29, 30, 31, 32, 33, 34, 35, 36, 37, 38, 39, 40, 41, 42, 43, 44, 45, 46, 47, 48, 49, 50, 51, 52, 53, 54, 55, 56, 57, 58, 59, 60, 61, 62, 63, 64, 65, 66, 67, 68, 69, 70, 71, 72, 73, 74, 75, 76, 85, 86, 87, 88, 89, 90, 91, 92, 93, 94, 79, 80, 81, 82, 83, 84, 95, 96, 97, 98, 99, 100, 101, 102, 103, 104, 105, 106, 107, 108, 109, 110] (by decide +kernel) (by decide +kernel)
set_option maxRecDepth 20000 in
theorem gX5_setCarried_X4_remember : GoodIn wsX5_setCarried (wsV RX5 45 RX4 yX4_remember wsX4_remember) := goodIn_app (goodIn_of _ (by decide +kernel)) ggX5_setCarried_X4_remember
theorem dX5_setCarried_0 : decode cX5_setCarried 0 = .ok (.iload_n 1, 1) := by decide +kernel
theorem dX5_setCarried_1 : decode cX5_setCarried 1 = .ok (.invokestatic 66, 3) := by decide +kernel
theorem dX5_setCarried_4 : decode cX5_setCarried 4 = .ok (.ifCond .ne 5, 3) := by decide +kernel
theorem dX5_setCarried_7 : decode cX5_setCarried 7 = .ok (.iconst (-1), 1) := by decide +kernel
theorem dX5_setCarried_8 : decode cX5_setCarried 8 = .ok (.ireturn, 1) := by decide +kernel
theorem dX5_setCarried_9 : decode cX5_setCarried 9 = .ok (.aload_n 0, 1) := by decide +kernel
theorem dX5_setCarried_10 : decode cX5_setCarried 10 = .ok (.getfield 19, 3) := by decide +kernel
theorem dX5_setCarried_13 : decode cX5_setCarried 13 = .ok (.iconst 4, 1) := by decide +kernel
theorem dX5_setCarried_14 : decode cX5_setCarried 14 = .ok (.aload_n 0, 1) := by decide +kernel
theorem dX5_setCarried_15 : decode cX5_setCarried 15 = .ok (.getfield 10, 3) := by decide +kernel
theorem dX5_setCarried_18 : decode cX5_setCarried 18 = .ok (.invokevirtual 45, 3) := by decide +kernel
theorem dX5_setCarried_21 : decode cX5_setCarried 21 = .ok (.aload_n 0, 1) := by decide +kernel
theorem dX5_setCarried_22 : decode cX5_setCarried 22 = .ok (.getfield 10, 3) := by decide +kernel
theorem dX5_setCarried_25 : decode cX5_setCarried 25 = .ok (.getfield 72, 3) := by decide +kernel
theorem dX5_setCarried_28 : decode cX5_setCarried 28 = .ok (.istore_n 2, 1) := by decide +kernel
theorem dX5_setCarried_29 : decode cX5_setCarried 29 = .ok (.aload_n 0, 1) := by decide +kernel
theorem dX5_setCarried_30 : decode cX5_setCarried 30 = .ok (.getfield 10, 3) := by decide +kernel
theorem dX5_setCarried_33 : decode cX5_setCarried 33 = .ok (.iload_n 1, 1) := by decide +kernel
theorem dX5_setCarried_34 : decode cX5_setCarried 34 = .ok (.putfield 72, 3) := by decide +kernel
theorem dX5_setCarried_37 : decode cX5_setCarried 37 = .ok (.iload_n 2, 1) := by decide +kernel
theorem dX5_setCarried_38 : decode cX5_setCarried 38 = .ok (.ireturn, 1) := by decide +kernel
set_option maxRecDepth 20000 in
theorem ggX5_commit_X3_has : GoodIn wsX5_commit wsX3_has := goodIn_r _ [11, 12, 115, 116, 117, 118, 119, 120, 121, 122, 123, 124, 125] (by decide +kernel) (by decide +kernel)
set_option maxRecDepth 20000 in
theorem gX5_commit_X3_has : GoodIn wsX5_commit (wsV RX5 33 RX3 yX3_has wsX3_has) := goodIn_app (goodIn_of _ (by decide +kernel)) ggX5_commit_X3_has
set_option maxRecDepth 20000 in
theorem ggX5_commit_X5_isAmount : GoodIn wsX5_commit wsX5_isAmount := goodIn_r _ [16, 17] (by decide +kernel) (by decide +kernel)
set_option maxRecDepth 20000 in
theorem gX5_commit_X5_isAmount : GoodIn wsX5_commit (va_wsS RX5 49 yX5_isAmount wsX5_isAmount) := goodIn_app (goodIn_of _ (by decide +kernel)) ggX5_commit_X5_isAmount
set_option maxRecDepth 20000 in
theorem ggX5_commit_X3_isBarred : GoodIn wsX5_commit wsX3_isBarred := goodIn_r _ [21, 22, 23, 24, 8, 9, 10, 11, 12, 115, 116, 117, 118, 119, 120, 121, 122, 123, 124, 125] (by decide +kernel) (by decide +kernel)
set_option maxRecDepth 20000 in
theorem gX5_commit_X3_isBarred : GoodIn wsX5_commit (wsV RX5 75 RX3 yX3_isBarred wsX3_isBarred) := goodIn_app (goodIn_of _ (by decide +kernel)) ggX5_commit_X3_isBarred
set_option maxRecDepth 20000 in
theorem ggX5_commit_X3_freeOf : GoodIn wsX5_commit wsX3_freeOf := goodIn_r _ [28, 29, 30, 31, 24, 8, 9, 10, 11, 12, 115, 116, 117, 118, 119, 120, 121, 122, 123, 124, 125] (by decide +kernel) (by decide +kernel)
set_option maxRecDepth 20000 in
theorem gX5_commit_X3_freeOf : GoodIn wsX5_commit (wsV RX5 78 RX3 yX3_freeOf wsX3_freeOf) := goodIn_app (goodIn_of _ (by decide +kernel)) ggX5_commit_X3_freeOf
set_option maxRecDepth 20000 in
theorem ggX5_commit_X4_rememberCommitment : GoodIn wsX5_commit wsX4_rememberCommitment := goodIn_r _ [36, 37, 38, 39, 35, 40, 41, 42, 43, 44, 45, 46, 47, 48, 49, 50, 51, 52, 53, 54, 55, 56, 57, 58, 59, 60, 61, 62, 63, 64, 65, 66, 67, 68, 69, 70, 71, 72, 10, 73, 23, 74, 75, 76, 77, 78, 79, 22, 29, 30, 31, 80, 81, 82, 12, 83, 84, 85, 86, 87, 88, 89, 90, 91, 92, 93, 126, 127, 128, 129, 130, 131, 132, 133, 134, 135, 104, 105, 106, 107, 108, 109, 115, 116, 117, 118, 119, 120, 121, 122, 123, 124, 125, 110, 111, 112, 113, 114] (by decide +kernel) (by decide +kernel)
set_option maxRecDepth 20000 in
theorem gX5_commit_X4_rememberCommitment : GoodIn wsX5_commit (wsV RX5 89 RX4 yX4_rememberCommitment wsX4_rememberCommitment) := goodIn_app (goodIn_of _ (by decide +kernel)) ggX5_commit_X4_rememberCommitment
set_option maxRecDepth 20000 in
theorem ggX5_commit_X3_changeCommitted : GoodIn wsX5_commit wsX3_changeCommitted := goodIn_r _ [97, 30, 24, 8, 9, 10, 11, 12, 115, 116, 117, 118, 119, 120, 121, 122, 123, 124, 125] (by decide +kernel) (by decide +kernel)
set_option maxRecDepth 20000 in
theorem gX5_commit_X3_changeCommitted : GoodIn wsX5_commit (wsV RX5 93 RX3 yX3_changeCommitted wsX3_changeCommitted) := goodIn_app (goodIn_of _ (by decide +kernel)) ggX5_commit_X3_changeCommitted
set_option maxRecDepth 20000 in
theorem ggX5_commit_X1_add : GoodIn wsX5_commit wsX1_add := goodIn_r _ [101, 93, 88, 90, 92, 110, 111, 112, 113, 114] (by decide +kernel) (by decide +kernel)
set_option maxRecDepth 20000 in
theorem gX5_commit_X1_add : GoodIn wsX5_commit (wsV RX5 100 RX1 yX1_add wsX1_add) := goodIn_app (goodIn_of _ (by decide +kernel)) ggX5_commit_X1_add
theorem dX5_commit_0 : decode cX5_commit 0 = .ok (.aload_n 0, 1) := by decide +kernel
theorem dX5_commit_1 : decode cX5_commit 1 = .ok (.getfield 10, 3) := by decide +kernel
theorem dX5_commit_4 : decode cX5_commit 4 = .ok (.getfield 23, 3) := by decide +kernel
theorem dX5_commit_7 : decode cX5_commit 7 = .ok (.astore_n 3, 1) := by decide +kernel
theorem dX5_commit_8 : decode cX5_commit 8 = .ok (.aload_n 3, 1) := by decide +kernel
theorem dX5_commit_9 : decode cX5_commit 9 = .ok (.iload_n 1, 1) := by decide +kernel
theorem dX5_commit_10 : decode cX5_commit 10 = .ok (.invokevirtual 33, 3) := by decide +kernel
theorem dX5_commit_13 : decode cX5_commit 13 = .ok (.ifCond .eq 10, 3) := by decide +kernel
theorem dX5_commit_16 : decode cX5_commit 16 = .ok (.iload_n 2, 1) := by decide +kernel
theorem dX5_commit_17 : decode cX5_commit 17 = .ok (.invokestatic 49, 3) := by decide +kernel
theorem dX5_commit_20 : decode cX5_commit 20 = .ok (.ifCond .ne 5, 3) := by decide +kernel
theorem dX5_commit_23 : decode cX5_commit 23 = .ok (.iconst (-1), 1) := by decide +kernel
theorem dX5_commit_24 : decode cX5_commit 24 = .ok (.ireturn, 1) := by decide +kernel
theorem dX5_commit_25 : decode cX5_commit 25 = .ok (.aload_n 3, 1) := by decide +kernel
theorem dX5_commit_26 : decode cX5_commit 26 = .ok (.iload_n 1, 1) := by decide +kernel
theorem dX5_commit_27 : decode cX5_commit 27 = .ok (.invokevirtual 75, 3) := by decide +kernel
theorem dX5_commit_30 : decode cX5_commit 30 = .ok (.ifCond .ne 12, 3) := by decide +kernel
theorem dX5_commit_33 : decode cX5_commit 33 = .ok (.iload_n 2, 1) := by decide +kernel
theorem dX5_commit_34 : decode cX5_commit 34 = .ok (.aload_n 3, 1) := by decide +kernel
theorem dX5_commit_35 : decode cX5_commit 35 = .ok (.iload_n 1, 1) := by decide +kernel
theorem dX5_commit_36 : decode cX5_commit 36 = .ok (.invokevirtual 78, 3) := by decide +kernel
theorem dX5_commit_39 : decode cX5_commit 39 = .ok (.if_icmp .le 6, 3) := by decide +kernel
theorem dX5_commit_42 : decode cX5_commit 42 = .ok (.bipush (-2), 2) := by decide +kernel
theorem dX5_commit_44 : decode cX5_commit 44 = .ok (.ireturn, 1) := by decide +kernel
theorem dX5_commit_45 : decode cX5_commit 45 = .ok (.aload_n 0, 1) := by decide +kernel
theorem dX5_commit_46 : decode cX5_commit 46 = .ok (.getfield 10, 3) := by decide +kernel
theorem dX5_commit_49 : decode cX5_commit 49 = .ok (.getfield 82, 3) := by decide +kernel
theorem dX5_commit_52 : decode cX5_commit 52 = .ok (.getfield 86, 3) := by decide +kernel
theorem dX5_commit_55 : decode cX5_commit 55 = .ok (.bipush 40, 2) := by decide +kernel
theorem dX5_commit_57 : decode cX5_commit 57 = .ok (.if_icmp .lt 6, 3) := by decide +kernel
theorem dX5_commit_60 : decode cX5_commit 60 = .ok (.bipush (-3), 2) := by decide +kernel
theorem dX5_commit_62 : decode cX5_commit 62 = .ok (.ireturn, 1) := by decide +kernel
theorem dX5_commit_63 : decode cX5_commit 63 = .ok (.aload_n 0, 1) := by decide +kernel
theorem dX5_commit_64 : decode cX5_commit 64 = .ok (.getfield 19, 3) := by decide +kernel
theorem dX5_commit_67 : decode cX5_commit 67 = .ok (.aload_n 0, 1) := by decide +kernel
theorem dX5_commit_68 : decode cX5_commit 68 = .ok (.getfield 10, 3) := by decide +kernel
theorem dX5_commit_71 : decode cX5_commit 71 = .ok (.aload_n 0, 1) := by decide +kernel
theorem dX5_commit_72 : decode cX5_commit 72 = .ok (.getfield 10, 3) := by decide +kernel
theorem dX5_commit_75 : decode cX5_commit 75 = .ok (.getfield 82, 3) := by decide +kernel
theorem dX5_commit_78 : decode cX5_commit 78 = .ok (.getfield 86, 3) := by decide +kernel
theorem dX5_commit_81 : decode cX5_commit 81 = .ok (.invokevirtual 89, 3) := by decide +kernel
theorem dX5_commit_84 : decode cX5_commit 84 = .ok (.aload_n 3, 1) := by decide +kernel
theorem dX5_commit_85 : decode cX5_commit 85 = .ok (.iload_n 1, 1) := by decide +kernel
theorem dX5_commit_86 : decode cX5_commit 86 = .ok (.iload_n 2, 1) := by decide +kernel
theorem dX5_commit_87 : decode cX5_commit 87 = .ok (.invokevirtual 93, 3) := by decide +kernel
theorem dX5_commit_90 : decode cX5_commit 90 = .ok (.aload_n 0, 1) := by decide +kernel
theorem dX5_commit_91 : decode cX5_commit 91 = .ok (.getfield 10, 3) := by decide +kernel
theorem dX5_commit_94 : decode cX5_commit 94 = .ok (.getfield 82, 3) := by decide +kernel
theorem dX5_commit_97 : decode cX5_commit 97 = .ok (.iload_n 1, 1) := by decide +kernel
theorem dX5_commit_98 : decode cX5_commit 98 = .ok (.iload_n 2, 1) := by decide +kernel
theorem dX5_commit_99 : decode cX5_commit 99 = .ok (.aload_n 0, 1) := by decide +kernel
theorem dX5_commit_100 : decode cX5_commit 100 = .ok (.getfield 10, 3) := by decide +kernel
theorem dX5_commit_103 : decode cX5_commit 103 = .ok (.getfield 97, 3) := by decide +kernel
theorem dX5_commit_106 : decode cX5_commit 106 = .ok (.invokevirtual 100, 3) := by decide +kernel
theorem dX5_commit_109 : decode cX5_commit 109 = .ok (.ireturn, 1) := by decide +kernel
set_option maxRecDepth 20000 in
theorem ggX5_pay_X1_has : GoodIn wsX5_pay wsX1_has := goodIn_r _ [13, 14, 103, 104, 105, 106, 107] (by decide +kernel) (by decide +kernel)
set_option maxRecDepth 20000 in
theorem gX5_pay_X1_has : GoodIn wsX5_pay (wsV RX5 103 RX1 yX1_has wsX1_has) := goodIn_app (goodIn_of _ (by decide +kernel)) ggX5_pay_X1_has
set_option maxRecDepth 20000 in
theorem ggX5_pay_X5_isAmount : GoodIn wsX5_pay wsX5_isAmount := goodIn_r _ [18, 19] (by decide +kernel) (by decide +kernel)
set_option maxRecDepth 20000 in
theorem gX5_pay_X5_isAmount : GoodIn wsX5_pay (va_wsS RX5 49 yX5_isAmount wsX5_isAmount) := goodIn_app (goodIn_of _ (by decide +kernel)) ggX5_pay_X5_isAmount
set_option maxRecDepth 20000 in
theorem ggX5_pay_X4_remember : GoodIn wsX5_pay wsX4_remember := goodIn_r _ [24, 25, 26, 27, 23, 28, 29, 30, 31, 32, 33, 34, 35, 36, 37, 38, 39, 40, 41, 42, 43, 44, 45, 46, 47, 48, 49, 50, 51, 52, 53, 54, 55, 56, 57, 58, 59, 60, 61, 62, 63, 64, 65, 66, 67, 68, 69, 70, 71, 72, 73, 74, 75, 76, 77, 78, 79, 80, 12, 81, 82, 83, 84, 85, 86, 14, 108, 109, 110, 111, 112, 113, 114, 115, 116, 117, 97, 98, 99, 100, 101, 102, 118, 119, 120, 121, 122, 123, 124, 125, 126, 127, 128, 103, 104, 105, 106, 107] (by decide +kernel) (by decide +kernel)
set_option maxRecDepth 20000 in
theorem gX5_pay_X4_remember : GoodIn wsX5_pay (wsV RX5 45 RX4 yX4_remember wsX4_remember) := goodIn_app (goodIn_of _ (by decide +kernel)) ggX5_pay_X4_remember
set_option maxRecDepth 20000 in
theorem ggX5_pay_X3_spendCommitted : GoodIn wsX5_pay wsX3_spendCommitted := goodIn_r _ [90, 72, 73, 91, 92, 93, 61, 94, 77, 118, 119, 120, 121, 122, 123, 124, 125, 126, 127, 128] (by decide +kernel) (by decide +kernel)
set_option maxRecDepth 20000 in
theorem gX5_pay_X3_spendCommitted : GoodIn wsX5_pay (wsV RX5 113 RX3 yX3_spendCommitted wsX3_spendCommitted) := goodIn_app (goodIn_of _ (by decide +kernel)) ggX5_pay_X3_spendCommitted
theorem dX5_pay_0 : decode cX5_pay 0 = .ok (.aload_n 0, 1) := by decide +kernel
theorem dX5_pay_1 : decode cX5_pay 1 = .ok (.getfield 10, 3) := by decide +kernel
theorem dX5_pay_4 : decode cX5_pay 4 = .ok (.getfield 82, 3) := by decide +kernel
theorem dX5_pay_7 : decode cX5_pay 7 = .ok (.astore_n 3, 1) := by decide +kernel
theorem dX5_pay_8 : decode cX5_pay 8 = .ok (.aload_n 3, 1) := by decide +kernel
theorem dX5_pay_9 : decode cX5_pay 9 = .ok (.iload_n 1, 1) := by decide +kernel
theorem dX5_pay_10 : decode cX5_pay 10 = .ok (.invokevirtual 103, 3) := by decide +kernel
theorem dX5_pay_13 : decode cX5_pay 13 = .ok (.ifCond .eq 10, 3) := by decide +kernel
theorem dX5_pay_16 : decode cX5_pay 16 = .ok (.iload_n 2, 1) := by decide +kernel
theorem dX5_pay_17 : decode cX5_pay 17 = .ok (.invokestatic 49, 3) := by decide +kernel
theorem dX5_pay_20 : decode cX5_pay 20 = .ok (.ifCond .ne 5, 3) := by decide +kernel
theorem dX5_pay_23 : decode cX5_pay 23 = .ok (.iconst (-1), 1) := by decide +kernel
theorem dX5_pay_24 : decode cX5_pay 24 = .ok (.ireturn, 1) := by decide +kernel
theorem dX5_pay_25 : decode cX5_pay 25 = .ok (.iload_n 2, 1) := by decide +kernel
theorem dX5_pay_26 : decode cX5_pay 26 = .ok (.aload_n 3, 1) := by decide +kernel
theorem dX5_pay_27 : decode cX5_pay 27 = .ok (.getfield 104, 3) := by decide +kernel
theorem dX5_pay_30 : decode cX5_pay 30 = .ok (.iload_n 1, 1) := by decide +kernel
theorem dX5_pay_31 : decode cX5_pay 31 = .ok (.iaload, 1) := by decide +kernel
theorem dX5_pay_32 : decode cX5_pay 32 = .ok (.if_icmp .le 6, 3) := by decide +kernel
theorem dX5_pay_35 : decode cX5_pay 35 = .ok (.bipush (-2), 2) := by decide +kernel
theorem dX5_pay_37 : decode cX5_pay 37 = .ok (.ireturn, 1) := by decide +kernel
theorem dX5_pay_38 : decode cX5_pay 38 = .ok (.aload_n 0, 1) := by decide +kernel
theorem dX5_pay_39 : decode cX5_pay 39 = .ok (.getfield 19, 3) := by decide +kernel
theorem dX5_pay_42 : decode cX5_pay 42 = .ok (.bipush 6, 2) := by decide +kernel
theorem dX5_pay_44 : decode cX5_pay 44 = .ok (.aload_n 0, 1) := by decide +kernel
theorem dX5_pay_45 : decode cX5_pay 45 = .ok (.getfield 10, 3) := by decide +kernel
theorem dX5_pay_48 : decode cX5_pay 48 = .ok (.invokevirtual 45, 3) := by decide +kernel
theorem dX5_pay_51 : decode cX5_pay 51 = .ok (.aload_n 3, 1) := by decide +kernel
theorem dX5_pay_52 : decode cX5_pay 52 = .ok (.getfield 104, 3) := by decide +kernel
theorem dX5_pay_55 : decode cX5_pay 55 = .ok (.iload_n 1, 1) := by decide +kernel
theorem dX5_pay_56 : decode cX5_pay 56 = .ok (.dup2, 1) := by decide +kernel
theorem dX5_pay_57 : decode cX5_pay 57 = .ok (.iaload, 1) := by decide +kernel
theorem dX5_pay_58 : decode cX5_pay 58 = .ok (.iload_n 2, 1) := by decide +kernel
theorem dX5_pay_59 : decode cX5_pay 59 = .ok (.isub, 1) := by decide +kernel
theorem dX5_pay_60 : decode cX5_pay 60 = .ok (.iastore, 1) := by decide +kernel
theorem dX5_pay_61 : decode cX5_pay 61 = .ok (.aload_n 3, 1) := by decide +kernel
theorem dX5_pay_62 : decode cX5_pay 62 = .ok (.getfield 107, 3) := by decide +kernel
theorem dX5_pay_65 : decode cX5_pay 65 = .ok (.iload_n 1, 1) := by decide +kernel
theorem dX5_pay_66 : decode cX5_pay 66 = .ok (.dup2, 1) := by decide +kernel
theorem dX5_pay_67 : decode cX5_pay 67 = .ok (.iaload, 1) := by decide +kernel
theorem dX5_pay_68 : decode cX5_pay 68 = .ok (.iload_n 2, 1) := by decide +kernel
theorem dX5_pay_69 : decode cX5_pay 69 = .ok (.iadd, 1) := by decide +kernel
theorem dX5_pay_70 : decode cX5_pay 70 = .ok (.iastore, 1) := by decide +kernel
theorem dX5_pay_71 : decode cX5_pay 71 = .ok (.aload_n 0, 1) := by decide +kernel
theorem dX5_pay_72 : decode cX5_pay 72 = .ok (.getfield 10, 3) := by decide +kernel
theorem dX5_pay_75 : decode cX5_pay 75 = .ok (.getfield 23, 3) := by decide +kernel
theorem dX5_pay_78 : decode cX5_pay 78 = .ok (.aload_n 3, 1) := by decide +kernel
theorem dX5_pay_79 : decode cX5_pay 79 = .ok (.getfield 110, 3) := by decide +kernel
theorem dX5_pay_82 : decode cX5_pay 82 = .ok (.iload_n 1, 1) := by decide +kernel
theorem dX5_pay_83 : decode cX5_pay 83 = .ok (.iaload, 1) := by decide +kernel
theorem dX5_pay_84 : decode cX5_pay 84 = .ok (.iload_n 2, 1) := by decide +kernel
theorem dX5_pay_85 : decode cX5_pay 85 = .ok (.invokevirtual 113, 3) := by decide +kernel
theorem dX5_pay_88 : decode cX5_pay 88 = .ok (.aload_n 0, 1) := by decide +kernel
theorem dX5_pay_89 : decode cX5_pay 89 = .ok (.getfield 10, 3) := by decide +kernel
theorem dX5_pay_92 : decode cX5_pay 92 = .ok (.dup, 1) := by decide +kernel
theorem dX5_pay_93 : decode cX5_pay 93 = .ok (.getfield 116, 3) := by decide +kernel
theorem dX5_pay_96 : decode cX5_pay 96 = .ok (.iload_n 2, 1) := by decide +kernel
theorem dX5_pay_97 : decode cX5_pay 97 = .ok (.iadd, 1) := by decide +kernel
theorem dX5_pay_98 : decode cX5_pay 98 = .ok (.putfield 116, 3) := by decide +kernel
theorem dX5_pay_101 : decode cX5_pay 101 = .ok (.aload_n 3, 1) := by decide +kernel
theorem dX5_pay_102 : decode cX5_pay 102 = .ok (.getfield 104, 3) := by decide +kernel
theorem dX5_pay_105 : decode cX5_pay 105 = .ok (.iload_n 1, 1) := by decide +kernel
theorem dX5_pay_106 : decode cX5_pay 106 = .ok (.iaload, 1) := by decide +kernel
theorem dX5_pay_107 : decode cX5_pay 107 = .ok (.ireturn, 1) := by decide +kernel
set_option maxRecDepth 20000 in
theorem ggX5_release_X1_has : GoodIn wsX5_release wsX1_has := goodIn_r _ [9, 10, 101, 102, 103, 104, 105] (by decide +kernel) (by decide +kernel)
set_option maxRecDepth 20000 in
theorem gX5_release_X1_has : GoodIn wsX5_release (wsV RX5 103 RX1 yX1_has wsX1_has) := goodIn_app (goodIn_of _ (by decide +kernel)) ggX5_release_X1_has
set_option maxRecDepth 20000 in
theorem ggX5_release_X4_remember : GoodIn wsX5_release wsX4_remember := goodIn_r _ [15, 16, 17, 18, 14, 19, 20, 21, 22, 23, 24, 25, 26, 27, 28, 29, 30, 31, 32, 33, 34, 35, 36, 37, 38, 39, 40, 41, 42, 43, 44, 45, 46, 47, 48, 49, 50, 51, 52, 53, 54, 55, 56, 57, 58, 59, 60, 61, 62, 63, 64, 65, 66, 67, 68, 69, 70, 71, 8, 72, 73, 74, 75, 76, 77, 10, 106, 107, 108, 109, 110, 111, 112, 113, 114, 115, 95, 96, 97, 98, 99, 100, 116, 117, 118, 119, 120, 121, 122, 123, 124, 125, 126, 101, 102, 103, 104, 105] (by decide +kernel) (by decide +kernel)
set_option maxRecDepth 20000 in
theorem gX5_release_X4_remember : GoodIn wsX5_release (wsV RX5 45 RX4 yX4_remember wsX4_remember) := goodIn_app (goodIn_of _ (by decide +kernel)) ggX5_release_X4_remember
set_option maxRecDepth 20000 in
theorem ggX5_release_X0_freeOpenOf : GoodIn wsX5_release wsX0_freeOpenOf := goodIn_r _ [81, 44, 82, 43, 83, 84, 6, 7, 8, 9, 10, 85, 86, 87, 52, 88, 63, 89, 90, 91, 92, 68, 95, 96, 97, 98, 99, 100, 101, 102, 103, 104, 105, 116, 117, 118, 119, 120, 121, 122, 123, 124, 125, 126] (by decide +kernel) (by decide +kernel)
set_option maxRecDepth 20000 in
theorem gX5_release_X0_freeOpenOf : GoodIn wsX5_release (wsV RX5 119 RX0 yX0_freeOpenOf wsX0_freeOpenOf) := goodIn_app (goodIn_of _ (by decide +kernel)) ggX5_release_X0_freeOpenOf
theorem dX5_release_0 : decode cX5_release 0 = .ok (.aload_n 0, 1) := by decide +kernel
theorem dX5_release_1 : decode cX5_release 1 = .ok (.getfield 10, 3) := by decide +kernel
theorem dX5_release_4 : decode cX5_release 4 = .ok (.getfield 82, 3) := by decide +kernel
theorem dX5_release_7 : decode cX5_release 7 = .ok (.iload_n 1, 1) := by decide +kernel
theorem dX5_release_8 : decode cX5_release 8 = .ok (.invokevirtual 103, 3) := by decide +kernel
theorem dX5_release_11 : decode cX5_release 11 = .ok (.ifCond .ne 5, 3) := by decide +kernel
theorem dX5_release_14 : decode cX5_release 14 = .ok (.iconst (-1), 1) := by decide +kernel
theorem dX5_release_15 : decode cX5_release 15 = .ok (.ireturn, 1) := by decide +kernel
theorem dX5_release_16 : decode cX5_release 16 = .ok (.aload_n 0, 1) := by decide +kernel
theorem dX5_release_17 : decode cX5_release 17 = .ok (.getfield 10, 3) := by decide +kernel
theorem dX5_release_20 : decode cX5_release 20 = .ok (.getfield 82, 3) := by decide +kernel
theorem dX5_release_23 : decode cX5_release 23 = .ok (.getfield 104, 3) := by decide +kernel
theorem dX5_release_26 : decode cX5_release 26 = .ok (.iload_n 1, 1) := by decide +kernel
theorem dX5_release_27 : decode cX5_release 27 = .ok (.iaload, 1) := by decide +kernel
theorem dX5_release_28 : decode cX5_release 28 = .ok (.ifCond .ne 6, 3) := by decide +kernel
theorem dX5_release_31 : decode cX5_release 31 = .ok (.bipush (-2), 2) := by decide +kernel
theorem dX5_release_33 : decode cX5_release 33 = .ok (.ireturn, 1) := by decide +kernel
theorem dX5_release_34 : decode cX5_release 34 = .ok (.aload_n 0, 1) := by decide +kernel
theorem dX5_release_35 : decode cX5_release 35 = .ok (.getfield 19, 3) := by decide +kernel
theorem dX5_release_38 : decode cX5_release 38 = .ok (.bipush 7, 2) := by decide +kernel
theorem dX5_release_40 : decode cX5_release 40 = .ok (.aload_n 0, 1) := by decide +kernel
theorem dX5_release_41 : decode cX5_release 41 = .ok (.getfield 10, 3) := by decide +kernel
theorem dX5_release_44 : decode cX5_release 44 = .ok (.invokevirtual 45, 3) := by decide +kernel
theorem dX5_release_47 : decode cX5_release 47 = .ok (.aload_n 0, 1) := by decide +kernel
theorem dX5_release_48 : decode cX5_release 48 = .ok (.getfield 10, 3) := by decide +kernel
theorem dX5_release_51 : decode cX5_release 51 = .ok (.iload_n 1, 1) := by decide +kernel
theorem dX5_release_52 : decode cX5_release 52 = .ok (.invokevirtual 119, 3) := by decide +kernel
theorem dX5_release_55 : decode cX5_release 55 = .ok (.ireturn, 1) := by decide +kernel
set_option maxRecDepth 20000 in
theorem ggX5_vire_X3_hasBoth : GoodIn wsX5_vire wsX3_hasBoth := goodIn_r _ [8, 9, 10, 11, 7, 12, 13, 131, 132, 133, 134, 135, 136, 137, 138, 139, 140, 141] (by decide +kernel) (by decide +kernel)
set_option maxRecDepth 20000 in
theorem gX5_vire_X3_hasBoth : GoodIn wsX5_vire (wsV RX5 122 RX3 yX3_hasBoth wsX3_hasBoth) := goodIn_app (goodIn_of _ (by decide +kernel)) ggX5_vire_X3_hasBoth
set_option maxRecDepth 20000 in
theorem ggX5_vire_X5_isAmount : GoodIn wsX5_vire wsX5_isAmount := goodIn_r _ [17, 18] (by decide +kernel) (by decide +kernel)
set_option maxRecDepth 20000 in
theorem gX5_vire_X5_isAmount : GoodIn wsX5_vire (va_wsS RX5 49 yX5_isAmount wsX5_isAmount) := goodIn_app (goodIn_of _ (by decide +kernel)) ggX5_vire_X5_isAmount
set_option maxRecDepth 20000 in
theorem ggX5_vire_X3_movable : GoodIn wsX5_vire wsX3_movable := goodIn_r _ [22, 23, 24, 25, 26, 27, 28, 29, 30, 31, 32, 33, 34, 5, 6, 7, 8, 9, 10, 11, 12, 13, 35, 36, 37, 38, 39, 40, 41, 42, 43, 44, 45, 46, 47, 48, 49, 50, 16, 51, 52, 53, 54, 55, 56, 57, 58, 59, 131, 132, 133, 134, 135, 136, 137, 138, 139, 140, 141] (by decide +kernel) (by decide +kernel)
set_option maxRecDepth 20000 in
theorem gX5_vire_X3_movable : GoodIn wsX5_vire (wsV RX5 126 RX3 yX3_movable wsX3_movable) := goodIn_app (goodIn_of _ (by decide +kernel)) ggX5_vire_X3_movable
set_option maxRecDepth 20000 in
theorem ggX5_vire_X4_rememberVirement : GoodIn wsX5_vire wsX4_rememberVirement := goodIn_r _ [64, 65, 66, 67, 63, 68, 69, 70, 71, 72, 73, 74, 75, 76, 77, 78, 79, 80, 81, 82, 83, 84, 85, 86, 87, 88, 89, 90, 91, 92, 93, 94, 95, 96, 97, 98, 99, 100, 7, 101, 39, 102, 103, 104, 105, 106, 40, 45, 57, 58, 59, 23, 25, 24, 13, 107, 108, 109, 110, 111, 112, 113, 114, 115, 116, 117, 142, 143, 144, 145, 146, 147, 148, 149, 150, 151, 125, 126, 127, 128, 129, 130, 131, 132, 133, 134, 135, 136, 137, 138, 139, 140, 141, 152, 153, 154, 155, 156] (by decide +kernel) (by decide +kernel)
set_option maxRecDepth 20000 in
theorem gX5_vire_X4_rememberVirement : GoodIn wsX5_vire (wsV RX5 129 RX4 yX4_rememberVirement wsX4_rememberVirement) := goodIn_app (goodIn_of _ (by decide +kernel)) ggX5_vire_X4_rememberVirement
set_option maxRecDepth 20000 in
theorem ggX5_vire_X3_moveByVirement : GoodIn wsX5_vire wsX3_moveByVirement := goodIn_r _ [121, 57, 25, 34, 5, 6, 7, 8, 9, 10, 11, 12, 13, 131, 132, 133, 134, 135, 136, 137, 138, 139, 140, 141] (by decide +kernel) (by decide +kernel)
set_option maxRecDepth 20000 in
theorem gX5_vire_X3_moveByVirement : GoodIn wsX5_vire (wsV RX5 133 RX3 yX3_moveByVirement wsX3_moveByVirement) := goodIn_app (goodIn_of _ (by decide +kernel)) ggX5_vire_X3_moveByVirement
set_option maxRecDepth 20000 in
theorem ggX5_vire_X3_freeOf : GoodIn wsX5_vire wsX3_freeOf := goodIn_r _ [56, 57, 58, 59, 9, 10, 11, 7, 12, 13, 131, 132, 133, 134, 135, 136, 137, 138, 139, 140, 141] (by decide +kernel) (by decide +kernel)
set_option maxRecDepth 20000 in
theorem gX5_vire_X3_freeOf : GoodIn wsX5_vire (wsV RX5 78 RX3 yX3_freeOf wsX3_freeOf) := goodIn_app (goodIn_of _ (by decide +kernel)) ggX5_vire_X3_freeOf
theorem dX5_vire_0 : decode cX5_vire 0 = .ok (.aload_n 0, 1) := by decide +kernel
theorem dX5_vire_1 : decode cX5_vire 1 = .ok (.getfield 10, 3) := by decide +kernel
theorem dX5_vire_4 : decode cX5_vire 4 = .ok (.getfield 23, 3) := by decide +kernel
theorem dX5_vire_7 : decode cX5_vire 7 = .ok (.astore 4, 2) := by decide +kernel
theorem dX5_vire_9 : decode cX5_vire 9 = .ok (.aload 4, 2) := by decide +kernel
theorem dX5_vire_11 : decode cX5_vire 11 = .ok (.iload_n 1, 1) := by decide +kernel
theorem dX5_vire_12 : decode cX5_vire 12 = .ok (.iload_n 2, 1) := by decide +kernel
theorem dX5_vire_13 : decode cX5_vire 13 = .ok (.invokevirtual 122, 3) := by decide +kernel
theorem dX5_vire_16 : decode cX5_vire 16 = .ok (.ifCond .eq 10, 3) := by decide +kernel
theorem dX5_vire_19 : decode cX5_vire 19 = .ok (.iload_n 3, 1) := by decide +kernel
theorem dX5_vire_20 : decode cX5_vire 20 = .ok (.invokestatic 49, 3) := by decide +kernel
theorem dX5_vire_23 : decode cX5_vire 23 = .ok (.ifCond .ne 5, 3) := by decide +kernel
theorem dX5_vire_26 : decode cX5_vire 26 = .ok (.iconst (-1), 1) := by decide +kernel
theorem dX5_vire_27 : decode cX5_vire 27 = .ok (.ireturn, 1) := by decide +kernel
theorem dX5_vire_28 : decode cX5_vire 28 = .ok (.iload_n 3, 1) := by decide +kernel
theorem dX5_vire_29 : decode cX5_vire 29 = .ok (.aload 4, 2) := by decide +kernel
theorem dX5_vire_31 : decode cX5_vire 31 = .ok (.iload_n 1, 1) := by decide +kernel
theorem dX5_vire_32 : decode cX5_vire 32 = .ok (.iload_n 2, 1) := by decide +kernel
theorem dX5_vire_33 : decode cX5_vire 33 = .ok (.invokevirtual 126, 3) := by decide +kernel
theorem dX5_vire_36 : decode cX5_vire 36 = .ok (.if_icmp .le 6, 3) := by decide +kernel
theorem dX5_vire_39 : decode cX5_vire 39 = .ok (.bipush (-2), 2) := by decide +kernel
theorem dX5_vire_41 : decode cX5_vire 41 = .ok (.ireturn, 1) := by decide +kernel
theorem dX5_vire_42 : decode cX5_vire 42 = .ok (.aload_n 0, 1) := by decide +kernel
theorem dX5_vire_43 : decode cX5_vire 43 = .ok (.getfield 19, 3) := by decide +kernel
theorem dX5_vire_46 : decode cX5_vire 46 = .ok (.aload_n 0, 1) := by decide +kernel
theorem dX5_vire_47 : decode cX5_vire 47 = .ok (.getfield 10, 3) := by decide +kernel
theorem dX5_vire_50 : decode cX5_vire 50 = .ok (.iload_n 1, 1) := by decide +kernel
theorem dX5_vire_51 : decode cX5_vire 51 = .ok (.iload_n 2, 1) := by decide +kernel
theorem dX5_vire_52 : decode cX5_vire 52 = .ok (.iload_n 3, 1) := by decide +kernel
theorem dX5_vire_53 : decode cX5_vire 53 = .ok (.invokevirtual 129, 3) := by decide +kernel
theorem dX5_vire_56 : decode cX5_vire 56 = .ok (.aload 4, 2) := by decide +kernel
theorem dX5_vire_58 : decode cX5_vire 58 = .ok (.iload_n 1, 1) := by decide +kernel
theorem dX5_vire_59 : decode cX5_vire 59 = .ok (.iload_n 2, 1) := by decide +kernel
theorem dX5_vire_60 : decode cX5_vire 60 = .ok (.iload_n 3, 1) := by decide +kernel
theorem dX5_vire_61 : decode cX5_vire 61 = .ok (.invokevirtual 133, 3) := by decide +kernel
theorem dX5_vire_64 : decode cX5_vire 64 = .ok (.aload 4, 2) := by decide +kernel
theorem dX5_vire_66 : decode cX5_vire 66 = .ok (.iload_n 1, 1) := by decide +kernel
theorem dX5_vire_67 : decode cX5_vire 67 = .ok (.invokevirtual 78, 3) := by decide +kernel
theorem dX5_vire_70 : decode cX5_vire 70 = .ok (.ireturn, 1) := by decide +kernel
set_option maxRecDepth 20000 in
theorem ggX5_endYear_X4_remember : GoodIn wsX5_endYear wsX4_remember := goodIn_r _ [11, 12, 13, 14, 10, 15, 16, 17, 18, 19, 20, 21, 22, 23, 24, 25, 26, 27, 28, 29, 30, 31, 32, 33, 34, 35, 36, 37, 38, 39, 40, 41, 42, 43, 44, 45, 46, 47, 48, 49, 50, 51, 52, 53, 54, 55, 56, 57, 58, 59, 60, 61, 62, 63, 64, 65, 66, 67, 68, 69, 70, 71, 72, 73, 74, 75, 108, 109, 110, 111, 112, 113, 114, 115, 116, 117, 102, 103, 104, 105, 106, 107, 118, 119, 120, 121, 122, 123, 124, 125, 126, 127, 128, 129, 130, 131, 132, 133] (by decide +kernel) (by decide +kernel)
set_option maxRecDepth 20000 in
theorem gX5_endYear_X4_remember : GoodIn wsX5_endYear (wsV RX5 45 RX4 yX4_remember wsX4_remember) := goodIn_app (goodIn_of _ (by decide +kernel)) ggX5_endYear_X4_remember
set_option maxRecDepth 20000 in
theorem ggX5_endYear_X3_lapseWithin : GoodIn wsX5_endYear wsX3_lapseWithin := goodIn_r _ [79, 80, 81, 82, 48, 83, 50, 84, 85, 86, 87, 64, 88, 89, 90, 91, 58, 59, 60, 92, 93, 94, 95, 118, 119, 120, 121, 122, 123, 124, 125, 126, 127, 128] (by decide +kernel) (by decide +kernel)
set_option maxRecDepth 20000 in
theorem gX5_endYear_X3_lapseWithin : GoodIn wsX5_endYear (wsV RX5 137 RX3 yX3_lapseWithin wsX3_lapseWithin) := goodIn_app (goodIn_of _ (by decide +kernel)) ggX5_endYear_X3_lapseWithin
set_option maxRecDepth 20000 in
theorem ggX5_endYear_X3_carryForward : GoodIn wsX5_endYear wsX3_carryForward := goodIn_r _ [99, 58, 59, 61, 60, 62, 88, 89, 90, 48, 91, 84, 85, 86, 87, 64, 92, 93, 94, 95, 118, 119, 120, 121, 122, 123, 124, 125, 126, 127, 128] (by decide +kernel) (by decide +kernel)
set_option maxRecDepth 20000 in
theorem gX5_endYear_X3_carryForward : GoodIn wsX5_endYear (wsV RX5 140 RX3 yX3_carryForward wsX3_carryForward) := goodIn_app (goodIn_of _ (by decide +kernel)) ggX5_endYear_X3_carryForward
theorem dX5_endYear_0 : decode cX5_endYear 0 = .ok (.aload_n 0, 1) := by decide +kernel
theorem dX5_endYear_1 : decode cX5_endYear 1 = .ok (.getfield 10, 3) := by decide +kernel
theorem dX5_endYear_4 : decode cX5_endYear 4 = .ok (.getfield 97, 3) := by decide +kernel
theorem dX5_endYear_7 : decode cX5_endYear 7 = .ok (.bipush 99, 2) := by decide +kernel
theorem dX5_endYear_9 : decode cX5_endYear 9 = .ok (.if_icmp .lt 6, 3) := by decide +kernel
theorem dX5_endYear_12 : decode cX5_endYear 12 = .ok (.bipush (-2), 2) := by decide +kernel
theorem dX5_endYear_14 : decode cX5_endYear 14 = .ok (.ireturn, 1) := by decide +kernel
theorem dX5_endYear_15 : decode cX5_endYear 15 = .ok (.aload_n 0, 1) := by decide +kernel
theorem dX5_endYear_16 : decode cX5_endYear 16 = .ok (.getfield 19, 3) := by decide +kernel
theorem dX5_endYear_19 : decode cX5_endYear 19 = .ok (.bipush 9, 2) := by decide +kernel
theorem dX5_endYear_21 : decode cX5_endYear 21 = .ok (.aload_n 0, 1) := by decide +kernel
theorem dX5_endYear_22 : decode cX5_endYear 22 = .ok (.getfield 10, 3) := by decide +kernel
theorem dX5_endYear_25 : decode cX5_endYear 25 = .ok (.invokevirtual 45, 3) := by decide +kernel
theorem dX5_endYear_28 : decode cX5_endYear 28 = .ok (.aload_n 0, 1) := by decide +kernel
theorem dX5_endYear_29 : decode cX5_endYear 29 = .ok (.getfield 10, 3) := by decide +kernel
theorem dX5_endYear_32 : decode cX5_endYear 32 = .ok (.getfield 23, 3) := by decide +kernel
theorem dX5_endYear_35 : decode cX5_endYear 35 = .ok (.iconst 0, 1) := by decide +kernel
theorem dX5_endYear_36 : decode cX5_endYear 36 = .ok (.aload_n 0, 1) := by decide +kernel
theorem dX5_endYear_37 : decode cX5_endYear 37 = .ok (.getfield 10, 3) := by decide +kernel
theorem dX5_endYear_40 : decode cX5_endYear 40 = .ok (.getfield 72, 3) := by decide +kernel
theorem dX5_endYear_43 : decode cX5_endYear 43 = .ok (.invokevirtual 137, 3) := by decide +kernel
theorem dX5_endYear_46 : decode cX5_endYear 46 = .ok (.istore_n 1, 1) := by decide +kernel
theorem dX5_endYear_47 : decode cX5_endYear 47 = .ok (.aload_n 0, 1) := by decide +kernel
theorem dX5_endYear_48 : decode cX5_endYear 48 = .ok (.getfield 10, 3) := by decide +kernel
theorem dX5_endYear_51 : decode cX5_endYear 51 = .ok (.getfield 23, 3) := by decide +kernel
theorem dX5_endYear_54 : decode cX5_endYear 54 = .ok (.aload_n 0, 1) := by decide +kernel
theorem dX5_endYear_55 : decode cX5_endYear 55 = .ok (.getfield 10, 3) := by decide +kernel
theorem dX5_endYear_58 : decode cX5_endYear 58 = .ok (.getfield 72, 3) := by decide +kernel
theorem dX5_endYear_61 : decode cX5_endYear 61 = .ok (.invokevirtual 140, 3) := by decide +kernel
theorem dX5_endYear_64 : decode cX5_endYear 64 = .ok (.aload_n 0, 1) := by decide +kernel
theorem dX5_endYear_65 : decode cX5_endYear 65 = .ok (.getfield 10, 3) := by decide +kernel
theorem dX5_endYear_68 : decode cX5_endYear 68 = .ok (.dup, 1) := by decide +kernel
theorem dX5_endYear_69 : decode cX5_endYear 69 = .ok (.getfield 144, 3) := by decide +kernel
theorem dX5_endYear_72 : decode cX5_endYear 72 = .ok (.iload_n 1, 1) := by decide +kernel
theorem dX5_endYear_73 : decode cX5_endYear 73 = .ok (.iadd, 1) := by decide +kernel
theorem dX5_endYear_74 : decode cX5_endYear 74 = .ok (.putfield 144, 3) := by decide +kernel
theorem dX5_endYear_77 : decode cX5_endYear 77 = .ok (.aload_n 0, 1) := by decide +kernel
theorem dX5_endYear_78 : decode cX5_endYear 78 = .ok (.getfield 10, 3) := by decide +kernel
theorem dX5_endYear_81 : decode cX5_endYear 81 = .ok (.dup, 1) := by decide +kernel
theorem dX5_endYear_82 : decode cX5_endYear 82 = .ok (.getfield 97, 3) := by decide +kernel
theorem dX5_endYear_85 : decode cX5_endYear 85 = .ok (.iconst 1, 1) := by decide +kernel
theorem dX5_endYear_86 : decode cX5_endYear 86 = .ok (.iadd, 1) := by decide +kernel
theorem dX5_endYear_87 : decode cX5_endYear 87 = .ok (.putfield 97, 3) := by decide +kernel
theorem dX5_endYear_90 : decode cX5_endYear 90 = .ok (.iload_n 1, 1) := by decide +kernel
theorem dX5_endYear_91 : decode cX5_endYear 91 = .ok (.ireturn, 1) := by decide +kernel
set_option maxRecDepth 20000 in
theorem ggX5_undo_X4_recall : GoodIn wsX5_undo wsX4_recall := goodIn_r _ [8, 9, 10, 11, 12, 13, 14, 15, 70, 71, 72, 73] (by decide +kernel) (by decide +kernel)
set_option maxRecDepth 20000 in
theorem gX5_undo_X4_recall : GoodIn wsX5_undo (wsV RX5 147 RX4 yX4_recall wsX4_recall) := goodIn_app (goodIn_of _ (by decide +kernel)) ggX5_undo_X4_recall
set_option maxRecDepth 20000 in
theorem ggX5_undo_X0_copyFrom : GoodIn wsX5_undo wsX0_copyFrom := goodIn_r _ [20, 21, 22, 23, 24, 25, 26, 27, 28, 29, 30, 31, 32, 33, 34, 35, 36, 37, 38, 39, 40, 41, 42, 43, 44, 45, 46, 47, 48, 49, 50, 51, 52, 53, 54, 55, 56, 57, 74, 75, 76, 77, 78, 79, 80, 81, 82, 83, 84, 85, 86, 87, 88, 89, 90, 91, 92, 93, 94, 95] (by decide +kernel) (by decide +kernel)
set_option maxRecDepth 20000 in
theorem gX5_undo_X0_copyFrom : GoodIn wsX5_undo (wsV RX5 156 RX0 yX0_copyFrom wsX0_copyFrom) := goodIn_app (goodIn_of _ (by decide +kernel)) ggX5_undo_X0_copyFrom
set_option maxRecDepth 20000 in
theorem ggX5_undo_X4_forgetLatest : GoodIn wsX5_undo wsX4_forgetLatest := goodIn_r _ [61, 9, 70, 71, 72, 73] (by decide +kernel) (by decide +kernel)
set_option maxRecDepth 20000 in
theorem gX5_undo_X4_forgetLatest : GoodIn wsX5_undo (wsV RX5 160 RX4 yX4_forgetLatest wsX4_forgetLatest) := goodIn_app (goodIn_of _ (by decide +kernel)) ggX5_undo_X4_forgetLatest
theorem dX5_undo_0 : decode cX5_undo 0 = .ok (.aload_n 0, 1) := by decide +kernel
theorem dX5_undo_1 : decode cX5_undo 1 = .ok (.getfield 19, 3) := by decide +kernel
theorem dX5_undo_4 : decode cX5_undo 4 = .ok (.iconst 0, 1) := by decide +kernel
theorem dX5_undo_5 : decode cX5_undo 5 = .ok (.invokevirtual 147, 3) := by decide +kernel
theorem dX5_undo_8 : decode cX5_undo 8 = .ok (.astore_n 1, 1) := by decide +kernel
theorem dX5_undo_9 : decode cX5_undo 9 = .ok (.aload_n 1, 1) := by decide +kernel
theorem dX5_undo_10 : decode cX5_undo 10 = .ok (.ifnonnull 6, 3) := by decide +kernel
theorem dX5_undo_13 : decode cX5_undo 13 = .ok (.bipush (-2), 2) := by decide +kernel
theorem dX5_undo_15 : decode cX5_undo 15 = .ok (.ireturn, 1) := by decide +kernel
theorem dX5_undo_16 : decode cX5_undo 16 = .ok (.aload_n 0, 1) := by decide +kernel
theorem dX5_undo_17 : decode cX5_undo 17 = .ok (.getfield 10, 3) := by decide +kernel
theorem dX5_undo_20 : decode cX5_undo 20 = .ok (.aload_n 1, 1) := by decide +kernel
theorem dX5_undo_21 : decode cX5_undo 21 = .ok (.getfield 151, 3) := by decide +kernel
theorem dX5_undo_24 : decode cX5_undo 24 = .ok (.invokevirtual 156, 3) := by decide +kernel
theorem dX5_undo_27 : decode cX5_undo 27 = .ok (.aload_n 0, 1) := by decide +kernel
theorem dX5_undo_28 : decode cX5_undo 28 = .ok (.getfield 19, 3) := by decide +kernel
theorem dX5_undo_31 : decode cX5_undo 31 = .ok (.invokevirtual 160, 3) := by decide +kernel
theorem dX5_undo_34 : decode cX5_undo 34 = .ok (.ireturn, 1) := by decide +kernel
set_option maxRecDepth 20000 in
theorem ggX5_revoke_X4_recall : GoodIn wsX5_revoke wsX4_recall := goodIn_r _ [14, 15, 16, 17, 18, 19, 20, 21, 141, 142, 143, 144] (by decide +kernel) (by decide +kernel)
set_option maxRecDepth 20000 in
theorem gX5_revoke_X4_recall : GoodIn wsX5_revoke (wsV RX5 147 RX4 yX4_recall wsX4_recall) := goodIn_app (goodIn_of _ (by decide +kernel)) ggX5_revoke_X4_recall
set_option maxRecDepth 20000 in
theorem ggX5_revoke_X4_wasRevoked : GoodIn wsX5_revoke wsX4_wasRevoked := goodIn_r _ [25, 26, 27, 28, 11, 12, 13, 14, 15, 16, 17, 18, 19, 20, 21, 129, 130, 131, 132, 133, 134, 141, 142, 143, 144] (by decide +kernel) (by decide +kernel)
set_option maxRecDepth 20000 in
theorem gX5_revoke_X4_wasRevoked : GoodIn wsX5_revoke (wsV RX5 166 RX4 yX4_wasRevoked wsX4_wasRevoked) := goodIn_app (goodIn_of _ (by decide +kernel)) ggX5_revoke_X4_wasRevoked
set_option maxRecDepth 20000 in
theorem ggX5_revoke_X5_revokeVirement : GoodIn wsX5_revoke wsX5_revokeVirement := goodIn_r _ [33, 4, 34, 1, 35, 36, 37, 38, 39, 40, 41, 42, 43, 44, 45, 46, 47, 48, 49, 50, 13, 51, 52, 53, 54, 55, 15, 17, 56, 57, 58, 26, 27, 59, 60, 18, 19, 20, 21, 28, 11, 12, 14, 16, 61, 62, 63, 64, 65, 66, 67, 68, 69, 70, 71, 72, 73, 74, 75, 76, 77, 78, 79, 80, 81, 82, 83, 84, 85, 86, 87, 88, 89, 90, 91, 92, 93, 94, 95, 96, 97, 98, 99, 100, 101, 102, 103, 104, 105, 127, 128, 135, 136, 137, 138, 139, 140, 145, 146, 147, 148, 149, 150, 151, 152, 153, 154, 155, 141, 142, 143, 144, 129, 130, 131, 132, 133, 134, 156, 157, 158, 159, 160] (by decide +kernel) (by decide +kernel)
set_option maxRecDepth 20000 in
theorem gX5_revoke_X5_revokeVirement : GoodIn wsX5_revoke (wsV RX5 181 RX5 yX5_revokeVirement wsX5_revokeVirement) := goodIn_app (goodIn_of _ (by decide +kernel)) ggX5_revoke_X5_revokeVirement
set_option maxRecDepth 20000 in
theorem ggX5_revoke_X5_revokeCommitment : GoodIn wsX5_revoke wsX5_revokeCommitment := goodIn_r _ [109, 4, 110, 111, 1, 112, 113, 114, 90, 115, 97, 48, 49, 50, 13, 51, 52, 53, 54, 55, 15, 17, 56, 57, 58, 26, 27, 59, 60, 18, 19, 20, 21, 28, 11, 12, 14, 16, 61, 62, 63, 64, 65, 66, 67, 68, 69, 70, 71, 72, 73, 74, 38, 75, 76, 77, 78, 79, 80, 81, 82, 83, 40, 41, 42, 84, 85, 86, 47, 87, 88, 89, 91, 92, 93, 94, 95, 96, 116, 117, 118, 119, 120, 121, 122, 123, 124, 125, 126, 43, 44, 45, 46, 127, 128, 135, 136, 137, 138, 139, 140, 156, 157, 158, 159, 160, 141, 142, 143, 144, 129, 130, 131, 132, 133, 134, 145, 146, 147, 148, 149, 150, 151, 152, 153, 154, 155] (by decide +kernel) (by decide +kernel)
set_option maxRecDepth 20000 in
theorem gX5_revoke_X5_revokeCommitment : GoodIn wsX5_revoke (wsV RX5 185 RX5 yX5_revokeCommitment wsX5_revokeCommitment) := goodIn_app (goodIn_of _ (by decide +kernel)) ggX5_revoke_X5_revokeCommitment
end
section
theorem dX5_revoke_0 : decode cX5_revoke 0 = .ok (.iload_n 1, 1) := by decide +kernel
theorem dX5_revoke_1 : decode cX5_revoke 1 = .ok (.ifCond .ge 5, 3) := by decide +kernel
theorem dX5_revoke_4 : decode cX5_revoke 4 = .ok (.iconst (-1), 1) := by decide +kernel
theorem dX5_revoke_5 : decode cX5_revoke 5 = .ok (.ireturn, 1) := by decide +kernel
theorem dX5_revoke_6 : decode cX5_revoke 6 = .ok (.aload_n 0, 1) := by decide +kernel
theorem dX5_revoke_7 : decode cX5_revoke 7 = .ok (.getfield 19, 3) := by decide +kernel
theorem dX5_revoke_10 : decode cX5_revoke 10 = .ok (.iload_n 1, 1) := by decide +kernel
theorem dX5_revoke_11 : decode cX5_revoke 11 = .ok (.invokevirtual 147, 3) := by decide +kernel
theorem dX5_revoke_14 : decode cX5_revoke 14 = .ok (.astore_n 2, 1) := by decide +kernel
theorem dX5_revoke_15 : decode cX5_revoke 15 = .ok (.aload_n 2, 1) := by decide +kernel
theorem dX5_revoke_16 : decode cX5_revoke 16 = .ok (.ifnull 34, 3) := by decide +kernel
theorem dX5_revoke_19 : decode cX5_revoke 19 = .ok (.aload_n 2, 1) := by decide +kernel
theorem dX5_revoke_20 : decode cX5_revoke 20 = .ok (.getfield 151, 3) := by decide +kernel
theorem dX5_revoke_23 : decode cX5_revoke 23 = .ok (.getfield 97, 3) := by decide +kernel
theorem dX5_revoke_26 : decode cX5_revoke 26 = .ok (.aload_n 0, 1) := by decide +kernel
theorem dX5_revoke_27 : decode cX5_revoke 27 = .ok (.getfield 10, 3) := by decide +kernel
theorem dX5_revoke_30 : decode cX5_revoke 30 = .ok (.getfield 97, 3) := by decide +kernel
theorem dX5_revoke_33 : decode cX5_revoke 33 = .ok (.if_icmp .ne 17, 3) := by decide +kernel
theorem dX5_revoke_36 : decode cX5_revoke 36 = .ok (.aload_n 0, 1) := by decide +kernel
theorem dX5_revoke_37 : decode cX5_revoke 37 = .ok (.getfield 19, 3) := by decide +kernel
theorem dX5_revoke_40 : decode cX5_revoke 40 = .ok (.aload_n 2, 1) := by decide +kernel
theorem dX5_revoke_41 : decode cX5_revoke 41 = .ok (.getfield 163, 3) := by decide +kernel
theorem dX5_revoke_44 : decode cX5_revoke 44 = .ok (.invokevirtual 166, 3) := by decide +kernel
theorem dX5_revoke_47 : decode cX5_revoke 47 = .ok (.ifCond .eq 6, 3) := by decide +kernel
theorem dX5_revoke_50 : decode cX5_revoke 50 = .ok (.bipush (-2), 2) := by decide +kernel
theorem dX5_revoke_52 : decode cX5_revoke 52 = .ok (.ireturn, 1) := by decide +kernel
theorem dX5_revoke_53 : decode cX5_revoke 53 = .ok (.aload_n 2, 1) := by decide +kernel
theorem dX5_revoke_54 : decode cX5_revoke 54 = .ok (.getfield 169, 3) := by decide +kernel
theorem dX5_revoke_57 : decode cX5_revoke 57 = .ok (.bipush 8, 2) := by decide +kernel
theorem dX5_revoke_59 : decode cX5_revoke 59 = .ok (.if_icmp .ne 24, 3) := by decide +kernel
theorem dX5_revoke_62 : decode cX5_revoke 62 = .ok (.aload_n 0, 1) := by decide +kernel
theorem dX5_revoke_63 : decode cX5_revoke 63 = .ok (.aload_n 2, 1) := by decide +kernel
theorem dX5_revoke_64 : decode cX5_revoke 64 = .ok (.getfield 163, 3) := by decide +kernel
theorem dX5_revoke_67 : decode cX5_revoke 67 = .ok (.aload_n 2, 1) := by decide +kernel
theorem dX5_revoke_68 : decode cX5_revoke 68 = .ok (.getfield 172, 3) := by decide +kernel
theorem dX5_revoke_71 : decode cX5_revoke 71 = .ok (.aload_n 2, 1) := by decide +kernel
theorem dX5_revoke_72 : decode cX5_revoke 72 = .ok (.getfield 175, 3) := by decide +kernel
theorem dX5_revoke_75 : decode cX5_revoke 75 = .ok (.aload_n 2, 1) := by decide +kernel
theorem dX5_revoke_76 : decode cX5_revoke 76 = .ok (.getfield 178, 3) := by decide +kernel
theorem dX5_revoke_79 : decode cX5_revoke 79 = .ok (.invokevirtual 181, 3) := by decide +kernel
theorem dX5_revoke_82 : decode cX5_revoke 82 = .ok (.ireturn, 1) := by decide +kernel
theorem dX5_revoke_83 : decode cX5_revoke 83 = .ok (.aload_n 2, 1) := by decide +kernel
theorem dX5_revoke_84 : decode cX5_revoke 84 = .ok (.getfield 169, 3) := by decide +kernel
theorem dX5_revoke_87 : decode cX5_revoke 87 = .ok (.iconst 5, 1) := by decide +kernel
theorem dX5_revoke_88 : decode cX5_revoke 88 = .ok (.if_icmp .ne 16, 3) := by decide +kernel
theorem dX5_revoke_91 : decode cX5_revoke 91 = .ok (.aload_n 0, 1) := by decide +kernel
theorem dX5_revoke_92 : decode cX5_revoke 92 = .ok (.aload_n 2, 1) := by decide +kernel
theorem dX5_revoke_93 : decode cX5_revoke 93 = .ok (.getfield 163, 3) := by decide +kernel
theorem dX5_revoke_96 : decode cX5_revoke 96 = .ok (.aload_n 2, 1) := by decide +kernel
theorem dX5_revoke_97 : decode cX5_revoke 97 = .ok (.getfield 172, 3) := by decide +kernel
theorem dX5_revoke_100 : decode cX5_revoke 100 = .ok (.invokevirtual 185, 3) := by decide +kernel
theorem dX5_revoke_103 : decode cX5_revoke 103 = .ok (.ireturn, 1) := by decide +kernel
theorem dX5_revoke_104 : decode cX5_revoke 104 = .ok (.bipush (-2), 2) := by decide +kernel
theorem dX5_revoke_106 : decode cX5_revoke 106 = .ok (.ireturn, 1) := by decide +kernel
set_option maxRecDepth 20000 in
theorem ggX5_revokeVirement_X3_freeOf : GoodIn wsX5_revokeVirement wsX3_freeOf := goodIn_r _ [8, 9, 10, 11, 12, 13, 14, 7, 15, 16, 97, 98, 99, 100, 101, 102, 103, 104, 105, 106, 107] (by decide +kernel) (by decide +kernel)
set_option maxRecDepth 20000 in
theorem gX5_revokeVirement_X3_freeOf : GoodIn wsX5_revokeVirement (wsV RX5 78 RX3 yX3_freeOf wsX3_freeOf) := goodIn_app (goodIn_of _ (by decide +kernel)) ggX5_revokeVirement_X3_freeOf
set_option maxRecDepth 20000 in
theorem ggX5_revokeVirement_X4_rememberRevoking : GoodIn wsX5_revokeVirement wsX4_rememberRevoking := goodIn_r _ [21, 22, 23, 24, 20, 25, 26, 27, 28, 29, 30, 31, 32, 33, 34, 35, 36, 37, 38, 39, 40, 41, 42, 43, 44, 45, 46, 47, 48, 49, 50, 51, 52, 53, 54, 55, 56, 57, 7, 58, 59, 60, 61, 62, 63, 64, 65, 66, 9, 10, 11, 67, 68, 69, 16, 70, 71, 72, 73, 74, 75, 76, 77, 78, 79, 80, 108, 109, 110, 111, 112, 113, 114, 115, 116, 117, 91, 92, 93, 94, 95, 96, 97, 98, 99, 100, 101, 102, 103, 104, 105, 106, 107, 118, 119, 120, 121, 122] (by decide +kernel) (by decide +kernel)
set_option maxRecDepth 20000 in
theorem gX5_revokeVirement_X4_rememberRevoking : GoodIn wsX5_revokeVirement (wsV RX5 188 RX4 yX4_rememberRevoking wsX4_rememberRevoking) := goodIn_app (goodIn_of _ (by decide +kernel)) ggX5_revokeVirement_X4_rememberRevoking
set_option maxRecDepth 20000 in
theorem ggX5_revokeVirement_X3_moveByVirement : GoodIn wsX5_revokeVirement wsX3_moveByVirement := goodIn_r _ [84, 9, 68, 85, 86, 87, 7, 88, 12, 13, 14, 15, 16, 97, 98, 99, 100, 101, 102, 103, 104, 105, 106, 107] (by decide +kernel) (by decide +kernel)
set_option maxRecDepth 20000 in
theorem gX5_revokeVirement_X3_moveByVirement : GoodIn wsX5_revokeVirement (wsV RX5 133 RX3 yX3_moveByVirement wsX3_moveByVirement) := goodIn_app (goodIn_of _ (by decide +kernel)) ggX5_revokeVirement_X3_moveByVirement
theorem dX5_revokeVirement_0 : decode cX5_revokeVirement 0 = .ok (.iload 4, 2) := by decide +kernel
theorem dX5_revokeVirement_2 : decode cX5_revokeVirement 2 = .ok (.aload_n 0, 1) := by decide +kernel
theorem dX5_revokeVirement_3 : decode cX5_revokeVirement 3 = .ok (.getfield 10, 3) := by decide +kernel
theorem dX5_revokeVirement_6 : decode cX5_revokeVirement 6 = .ok (.getfield 23, 3) := by decide +kernel
theorem dX5_revokeVirement_9 : decode cX5_revokeVirement 9 = .ok (.iload_n 3, 1) := by decide +kernel
theorem dX5_revokeVirement_10 : decode cX5_revokeVirement 10 = .ok (.invokevirtual 78, 3) := by decide +kernel
theorem dX5_revokeVirement_13 : decode cX5_revokeVirement 13 = .ok (.if_icmp .le 6, 3) := by decide +kernel
theorem dX5_revokeVirement_16 : decode cX5_revokeVirement 16 = .ok (.bipush (-2), 2) := by decide +kernel
theorem dX5_revokeVirement_18 : decode cX5_revokeVirement 18 = .ok (.ireturn, 1) := by decide +kernel
theorem dX5_revokeVirement_19 : decode cX5_revokeVirement 19 = .ok (.aload_n 0, 1) := by decide +kernel
theorem dX5_revokeVirement_20 : decode cX5_revokeVirement 20 = .ok (.getfield 19, 3) := by decide +kernel
theorem dX5_revokeVirement_23 : decode cX5_revokeVirement 23 = .ok (.aload_n 0, 1) := by decide +kernel
theorem dX5_revokeVirement_24 : decode cX5_revokeVirement 24 = .ok (.getfield 10, 3) := by decide +kernel
theorem dX5_revokeVirement_27 : decode cX5_revokeVirement 27 = .ok (.iload_n 1, 1) := by decide +kernel
theorem dX5_revokeVirement_28 : decode cX5_revokeVirement 28 = .ok (.invokevirtual 188, 3) := by decide +kernel
theorem dX5_revokeVirement_31 : decode cX5_revokeVirement 31 = .ok (.aload_n 0, 1) := by decide +kernel
theorem dX5_revokeVirement_32 : decode cX5_revokeVirement 32 = .ok (.getfield 10, 3) := by decide +kernel
theorem dX5_revokeVirement_35 : decode cX5_revokeVirement 35 = .ok (.getfield 23, 3) := by decide +kernel
theorem dX5_revokeVirement_38 : decode cX5_revokeVirement 38 = .ok (.iload_n 2, 1) := by decide +kernel
theorem dX5_revokeVirement_39 : decode cX5_revokeVirement 39 = .ok (.iload_n 3, 1) := by decide +kernel
theorem dX5_revokeVirement_40 : decode cX5_revokeVirement 40 = .ok (.iload 4, 2) := by decide +kernel
theorem dX5_revokeVirement_42 : decode cX5_revokeVirement 42 = .ok (.ineg, 1) := by decide +kernel
theorem dX5_revokeVirement_43 : decode cX5_revokeVirement 43 = .ok (.invokevirtual 133, 3) := by decide +kernel
theorem dX5_revokeVirement_46 : decode cX5_revokeVirement 46 = .ok (.iload 4, 2) := by decide +kernel
theorem dX5_revokeVirement_48 : decode cX5_revokeVirement 48 = .ok (.ireturn, 1) := by decide +kernel
set_option maxRecDepth 20000 in
theorem ggX5_revokeCommitment_X1_has : GoodIn wsX5_revokeCommitment wsX1_has := goodIn_r _ [9, 10, 101, 102, 103, 104, 105] (by decide +kernel) (by decide +kernel)
set_option maxRecDepth 20000 in
theorem gX5_revokeCommitment_X1_has : GoodIn wsX5_revokeCommitment (wsV RX5 103 RX1 yX1_has wsX1_has) := goodIn_app (goodIn_of _ (by decide +kernel)) ggX5_revokeCommitment_X1_has
set_option maxRecDepth 20000 in
theorem ggX5_revokeCommitment_X4_rememberRevoking : GoodIn wsX5_revokeCommitment wsX4_rememberRevoking := goodIn_r _ [15, 16, 17, 18, 14, 19, 20, 21, 22, 23, 24, 25, 26, 27, 28, 29, 30, 31, 32, 33, 34, 35, 36, 37, 38, 39, 40, 41, 42, 43, 44, 45, 46, 47, 48, 49, 50, 51, 52, 53, 54, 55, 56, 57, 58, 59, 60, 61, 62, 63, 64, 65, 66, 67, 68, 69, 70, 71, 8, 72, 73, 74, 75, 76, 77, 10, 106, 107, 108, 109, 110, 111, 112, 113, 114, 115, 95, 96, 97, 98, 99, 100, 116, 117, 118, 119, 120, 121, 122, 123, 124, 125, 126, 101, 102, 103, 104, 105] (by decide +kernel) (by decide +kernel)
set_option maxRecDepth 20000 in
theorem gX5_revokeCommitment_X4_rememberRevoking : GoodIn wsX5_revokeCommitment (wsV RX5 188 RX4 yX4_rememberRevoking wsX4_rememberRevoking) := goodIn_app (goodIn_of _ (by decide +kernel)) ggX5_revokeCommitment_X4_rememberRevoking
set_option maxRecDepth 20000 in
theorem ggX5_revokeCommitment_X0_freeOpenOf : GoodIn wsX5_revokeCommitment wsX0_freeOpenOf := goodIn_r _ [81, 44, 82, 43, 83, 84, 6, 7, 8, 9, 10, 85, 86, 87, 52, 88, 63, 89, 90, 91, 92, 68, 95, 96, 97, 98, 99, 100, 101, 102, 103, 104, 105, 116, 117, 118, 119, 120, 121, 122, 123, 124, 125, 126] (by decide +kernel) (by decide +kernel)
set_option maxRecDepth 20000 in
theorem gX5_revokeCommitment_X0_freeOpenOf : GoodIn wsX5_revokeCommitment (wsV RX5 119 RX0 yX0_freeOpenOf wsX0_freeOpenOf) := goodIn_app (goodIn_of _ (by decide +kernel)) ggX5_revokeCommitment_X0_freeOpenOf
theorem dX5_revokeCommitment_0 : decode cX5_revokeCommitment 0 = .ok (.aload_n 0, 1) := by decide +kernel
theorem dX5_revokeCommitment_1 : decode cX5_revokeCommitment 1 = .ok (.getfield 10, 3) := by decide +kernel
theorem dX5_revokeCommitment_4 : decode cX5_revokeCommitment 4 = .ok (.getfield 82, 3) := by decide +kernel
theorem dX5_revokeCommitment_7 : decode cX5_revokeCommitment 7 = .ok (.iload_n 2, 1) := by decide +kernel
theorem dX5_revokeCommitment_8 : decode cX5_revokeCommitment 8 = .ok (.invokevirtual 103, 3) := by decide +kernel
theorem dX5_revokeCommitment_11 : decode cX5_revokeCommitment 11 = .ok (.ifCond .eq 18, 3) := by decide +kernel
theorem dX5_revokeCommitment_14 : decode cX5_revokeCommitment 14 = .ok (.aload_n 0, 1) := by decide +kernel
theorem dX5_revokeCommitment_15 : decode cX5_revokeCommitment 15 = .ok (.getfield 10, 3) := by decide +kernel
theorem dX5_revokeCommitment_18 : decode cX5_revokeCommitment 18 = .ok (.getfield 82, 3) := by decide +kernel
theorem dX5_revokeCommitment_21 : decode cX5_revokeCommitment 21 = .ok (.getfield 104, 3) := by decide +kernel
theorem dX5_revokeCommitment_24 : decode cX5_revokeCommitment 24 = .ok (.iload_n 2, 1) := by decide +kernel
theorem dX5_revokeCommitment_25 : decode cX5_revokeCommitment 25 = .ok (.iaload, 1) := by decide +kernel
theorem dX5_revokeCommitment_26 : decode cX5_revokeCommitment 26 = .ok (.ifCond .ne 6, 3) := by decide +kernel
theorem dX5_revokeCommitment_29 : decode cX5_revokeCommitment 29 = .ok (.bipush (-2), 2) := by decide +kernel
theorem dX5_revokeCommitment_31 : decode cX5_revokeCommitment 31 = .ok (.ireturn, 1) := by decide +kernel
theorem dX5_revokeCommitment_32 : decode cX5_revokeCommitment 32 = .ok (.aload_n 0, 1) := by decide +kernel
theorem dX5_revokeCommitment_33 : decode cX5_revokeCommitment 33 = .ok (.getfield 19, 3) := by decide +kernel
theorem dX5_revokeCommitment_36 : decode cX5_revokeCommitment 36 = .ok (.aload_n 0, 1) := by decide +kernel
theorem dX5_revokeCommitment_37 : decode cX5_revokeCommitment 37 = .ok (.getfield 10, 3) := by decide +kernel
theorem dX5_revokeCommitment_40 : decode cX5_revokeCommitment 40 = .ok (.iload_n 1, 1) := by decide +kernel
theorem dX5_revokeCommitment_41 : decode cX5_revokeCommitment 41 = .ok (.invokevirtual 188, 3) := by decide +kernel
theorem dX5_revokeCommitment_44 : decode cX5_revokeCommitment 44 = .ok (.aload_n 0, 1) := by decide +kernel
theorem dX5_revokeCommitment_45 : decode cX5_revokeCommitment 45 = .ok (.getfield 10, 3) := by decide +kernel
theorem dX5_revokeCommitment_48 : decode cX5_revokeCommitment 48 = .ok (.iload_n 2, 1) := by decide +kernel
theorem dX5_revokeCommitment_49 : decode cX5_revokeCommitment 49 = .ok (.invokevirtual 119, 3) := by decide +kernel
theorem dX5_revokeCommitment_52 : decode cX5_revokeCommitment 52 = .ok (.ireturn, 1) := by decide +kernel
set_option maxRecDepth 20000 in
theorem ggX5_count_X1_countOpen : GoodIn wsX5_count wsX1_countOpen := goodIn_r _ [16, 17, 72, 73, 74, 75, 76] (by decide +kernel) (by decide +kernel)
set_option maxRecDepth 20000 in
theorem gX5_count_X1_countOpen : GoodIn wsX5_count (wsV RX5 191 RX1 yX1_countOpen wsX1_countOpen) := goodIn_app (goodIn_of _ (by decide +kernel)) ggX5_count_X1_countOpen
set_option maxRecDepth 20000 in
theorem ggX5_count_X3_countBarred : GoodIn wsX5_count wsX3_countBarred := goodIn_r _ [22, 23, 24, 25, 21, 26, 27, 28, 29, 30, 31, 32, 33, 61, 62, 63, 64, 65, 66, 67, 68, 69, 70, 71] (by decide +kernel) (by decide +kernel)
set_option maxRecDepth 20000 in
theorem gX5_count_X3_countBarred : GoodIn wsX5_count (wsV RX5 62 RX3 yX3_countBarred wsX3_countBarred) := goodIn_app (goodIn_of _ (by decide +kernel)) ggX5_count_X3_countBarred
set_option maxRecDepth 20000 in
theorem ggX5_count_X3_sumWithin : GoodIn wsX5_count wsX3_sumWithin := goodIn_r _ [37, 38, 39, 40, 21, 41, 28, 29, 30, 31, 32, 33, 42, 43, 44, 45, 46, 47, 48, 49, 50, 51, 52, 61, 62, 63, 64, 65, 66, 67, 68, 69, 70, 71] (by decide +kernel) (by decide +kernel)
set_option maxRecDepth 20000 in
theorem gX5_count_X3_sumWithin : GoodIn wsX5_count (wsV RX5 194 RX3 yX3_sumWithin wsX3_sumWithin) := goodIn_app (goodIn_of _ (by decide +kernel)) ggX5_count_X3_sumWithin
theorem dX5_count_0 : decode cX5_count 0 = .ok (.iload_n 1, 1) := by decide +kernel
theorem dX5_count_1 : decode cX5_count 1 = .ok (.tableswitch 152 0 9 #[55, 63, 74, 85, 96, 107, 115, 128, 136, 144], 55) := by decide +kernel
theorem dX5_count_56 : decode cX5_count 56 = .ok (.aload_n 0, 1) := by decide +kernel
theorem dX5_count_57 : decode cX5_count 57 = .ok (.getfield 10, 3) := by decide +kernel
theorem dX5_count_60 : decode cX5_count 60 = .ok (.getfield 97, 3) := by decide +kernel
theorem dX5_count_63 : decode cX5_count 63 = .ok (.ireturn, 1) := by decide +kernel
theorem dX5_count_64 : decode cX5_count 64 = .ok (.aload_n 0, 1) := by decide +kernel
theorem dX5_count_65 : decode cX5_count 65 = .ok (.getfield 10, 3) := by decide +kernel
theorem dX5_count_68 : decode cX5_count 68 = .ok (.getfield 23, 3) := by decide +kernel
theorem dX5_count_71 : decode cX5_count 71 = .ok (.getfield 41, 3) := by decide +kernel
theorem dX5_count_74 : decode cX5_count 74 = .ok (.ireturn, 1) := by decide +kernel
theorem dX5_count_75 : decode cX5_count 75 = .ok (.aload_n 0, 1) := by decide +kernel
theorem dX5_count_76 : decode cX5_count 76 = .ok (.getfield 10, 3) := by decide +kernel
theorem dX5_count_79 : decode cX5_count 79 = .ok (.getfield 82, 3) := by decide +kernel
theorem dX5_count_82 : decode cX5_count 82 = .ok (.getfield 86, 3) := by decide +kernel
theorem dX5_count_85 : decode cX5_count 85 = .ok (.ireturn, 1) := by decide +kernel
theorem dX5_count_86 : decode cX5_count 86 = .ok (.aload_n 0, 1) := by decide +kernel
theorem dX5_count_87 : decode cX5_count 87 = .ok (.getfield 10, 3) := by decide +kernel
theorem dX5_count_90 : decode cX5_count 90 = .ok (.getfield 82, 3) := by decide +kernel
theorem dX5_count_93 : decode cX5_count 93 = .ok (.invokevirtual 191, 3) := by decide +kernel
theorem dX5_count_96 : decode cX5_count 96 = .ok (.ireturn, 1) := by decide +kernel
theorem dX5_count_97 : decode cX5_count 97 = .ok (.aload_n 0, 1) := by decide +kernel
theorem dX5_count_98 : decode cX5_count 98 = .ok (.getfield 10, 3) := by decide +kernel
theorem dX5_count_101 : decode cX5_count 101 = .ok (.getfield 23, 3) := by decide +kernel
theorem dX5_count_104 : decode cX5_count 104 = .ok (.invokevirtual 62, 3) := by decide +kernel
theorem dX5_count_107 : decode cX5_count 107 = .ok (.ireturn, 1) := by decide +kernel
theorem dX5_count_108 : decode cX5_count 108 = .ok (.aload_n 0, 1) := by decide +kernel
theorem dX5_count_109 : decode cX5_count 109 = .ok (.getfield 10, 3) := by decide +kernel
theorem dX5_count_112 : decode cX5_count 112 = .ok (.getfield 72, 3) := by decide +kernel
theorem dX5_count_115 : decode cX5_count 115 = .ok (.ireturn, 1) := by decide +kernel
theorem dX5_count_116 : decode cX5_count 116 = .ok (.aload_n 0, 1) := by decide +kernel
theorem dX5_count_117 : decode cX5_count 117 = .ok (.getfield 10, 3) := by decide +kernel
theorem dX5_count_120 : decode cX5_count 120 = .ok (.getfield 23, 3) := by decide +kernel
theorem dX5_count_123 : decode cX5_count 123 = .ok (.iconst 0, 1) := by decide +kernel
theorem dX5_count_124 : decode cX5_count 124 = .ok (.iconst 0, 1) := by decide +kernel
theorem dX5_count_125 : decode cX5_count 125 = .ok (.invokevirtual 194, 3) := by decide +kernel
theorem dX5_count_128 : decode cX5_count 128 = .ok (.ireturn, 1) := by decide +kernel
theorem dX5_count_129 : decode cX5_count 129 = .ok (.aload_n 0, 1) := by decide +kernel
theorem dX5_count_130 : decode cX5_count 130 = .ok (.getfield 10, 3) := by decide +kernel
theorem dX5_count_133 : decode cX5_count 133 = .ok (.getfield 144, 3) := by decide +kernel
theorem dX5_count_136 : decode cX5_count 136 = .ok (.ireturn, 1) := by decide +kernel
theorem dX5_count_137 : decode cX5_count 137 = .ok (.aload_n 0, 1) := by decide +kernel
theorem dX5_count_138 : decode cX5_count 138 = .ok (.getfield 10, 3) := by decide +kernel
theorem dX5_count_141 : decode cX5_count 141 = .ok (.getfield 116, 3) := by decide +kernel
theorem dX5_count_144 : decode cX5_count 144 = .ok (.ireturn, 1) := by decide +kernel
theorem dX5_count_145 : decode cX5_count 145 = .ok (.aload_n 0, 1) := by decide +kernel
theorem dX5_count_146 : decode cX5_count 146 = .ok (.getfield 19, 3) := by decide +kernel
theorem dX5_count_149 : decode cX5_count 149 = .ok (.getfield 197, 3) := by decide +kernel
theorem dX5_count_152 : decode cX5_count 152 = .ok (.ireturn, 1) := by decide +kernel
theorem dX5_count_153 : decode cX5_count 153 = .ok (.iconst (-1), 1) := by decide +kernel
theorem dX5_count_154 : decode cX5_count 154 = .ok (.ireturn, 1) := by decide +kernel
set_option maxRecDepth 20000 in
theorem ggX5_head_X3_has : GoodIn wsX5_head wsX3_has := goodIn_r _ [17, 18, 41, 42, 43, 44, 45, 46, 47, 48, 49, 50, 51] (by decide +kernel) (by decide +kernel)
set_option maxRecDepth 20000 in
theorem gX5_head_X3_has : GoodIn wsX5_head (wsV RX5 33 RX3 yX3_has wsX3_has) := goodIn_app (goodIn_of _ (by decide +kernel)) ggX5_head_X3_has
set_option maxRecDepth 20000 in
theorem ggX5_head_X3_isBarred : GoodIn wsX5_head wsX3_isBarred := goodIn_r _ [22, 23, 24, 25, 14, 15, 16, 17, 18, 41, 42, 43, 44, 45, 46, 47, 48, 49, 50, 51] (by decide +kernel) (by decide +kernel)
set_option maxRecDepth 20000 in
theorem gX5_head_X3_isBarred : GoodIn wsX5_head (wsV RX5 75 RX3 yX3_isBarred wsX3_isBarred) := goodIn_app (goodIn_of _ (by decide +kernel)) ggX5_head_X3_isBarred
set_option maxRecDepth 20000 in
theorem ggX5_head_X3_freeOf : GoodIn wsX5_head wsX3_freeOf := goodIn_r _ [29, 30, 31, 32, 25, 14, 15, 16, 17, 18, 41, 42, 43, 44, 45, 46, 47, 48, 49, 50, 51] (by decide +kernel) (by decide +kernel)
set_option maxRecDepth 20000 in
theorem gX5_head_X3_freeOf : GoodIn wsX5_head (wsV RX5 78 RX3 yX3_freeOf wsX3_freeOf) := goodIn_app (goodIn_of _ (by decide +kernel)) ggX5_head_X3_freeOf
theorem dX5_head_0 : decode cX5_head 0 = .ok (.aload_n 0, 1) := by decide +kernel
theorem dX5_head_1 : decode cX5_head 1 = .ok (.getfield 10, 3) := by decide +kernel
theorem dX5_head_4 : decode cX5_head 4 = .ok (.getfield 23, 3) := by decide +kernel
theorem dX5_head_7 : decode cX5_head 7 = .ok (.astore_n 3, 1) := by decide +kernel
theorem dX5_head_8 : decode cX5_head 8 = .ok (.aload_n 3, 1) := by decide +kernel
theorem dX5_head_9 : decode cX5_head 9 = .ok (.iload_n 1, 1) := by decide +kernel
theorem dX5_head_10 : decode cX5_head 10 = .ok (.invokevirtual 33, 3) := by decide +kernel
theorem dX5_head_13 : decode cX5_head 13 = .ok (.ifCond .ne 5, 3) := by decide +kernel
theorem dX5_head_16 : decode cX5_head 16 = .ok (.iconst (-1), 1) := by decide +kernel
theorem dX5_head_17 : decode cX5_head 17 = .ok (.ireturn, 1) := by decide +kernel
theorem dX5_head_18 : decode cX5_head 18 = .ok (.iload_n 2, 1) := by decide +kernel
theorem dX5_head_19 : decode cX5_head 19 = .ok (.tableswitch 151 0 11 #[61, 68, 75, 82, 89, 103, 110, 117, 124, 130, 137, 144], 61) := by decide +kernel
theorem dX5_head_80 : decode cX5_head 80 = .ok (.aload_n 3, 1) := by decide +kernel
theorem dX5_head_81 : decode cX5_head 81 = .ok (.getfield 200, 3) := by decide +kernel
theorem dX5_head_84 : decode cX5_head 84 = .ok (.iload_n 1, 1) := by decide +kernel
theorem dX5_head_85 : decode cX5_head 85 = .ok (.iaload, 1) := by decide +kernel
theorem dX5_head_86 : decode cX5_head 86 = .ok (.ireturn, 1) := by decide +kernel
theorem dX5_head_87 : decode cX5_head 87 = .ok (.aload_n 3, 1) := by decide +kernel
theorem dX5_head_88 : decode cX5_head 88 = .ok (.getfield 37, 3) := by decide +kernel
theorem dX5_head_91 : decode cX5_head 91 = .ok (.iload_n 1, 1) := by decide +kernel
theorem dX5_head_92 : decode cX5_head 92 = .ok (.iaload, 1) := by decide +kernel
theorem dX5_head_93 : decode cX5_head 93 = .ok (.ireturn, 1) := by decide +kernel
theorem dX5_head_94 : decode cX5_head 94 = .ok (.aload_n 3, 1) := by decide +kernel
theorem dX5_head_95 : decode cX5_head 95 = .ok (.getfield 203, 3) := by decide +kernel
theorem dX5_head_98 : decode cX5_head 98 = .ok (.iload_n 1, 1) := by decide +kernel
theorem dX5_head_99 : decode cX5_head 99 = .ok (.iaload, 1) := by decide +kernel
theorem dX5_head_100 : decode cX5_head 100 = .ok (.ireturn, 1) := by decide +kernel
theorem dX5_head_101 : decode cX5_head 101 = .ok (.aload_n 3, 1) := by decide +kernel
theorem dX5_head_102 : decode cX5_head 102 = .ok (.getfield 59, 3) := by decide +kernel
theorem dX5_head_105 : decode cX5_head 105 = .ok (.iload_n 1, 1) := by decide +kernel
theorem dX5_head_106 : decode cX5_head 106 = .ok (.iaload, 1) := by decide +kernel
theorem dX5_head_107 : decode cX5_head 107 = .ok (.ireturn, 1) := by decide +kernel
theorem dX5_head_108 : decode cX5_head 108 = .ok (.aload_n 3, 1) := by decide +kernel
theorem dX5_head_109 : decode cX5_head 109 = .ok (.iload_n 1, 1) := by decide +kernel
theorem dX5_head_110 : decode cX5_head 110 = .ok (.invokevirtual 75, 3) := by decide +kernel
theorem dX5_head_113 : decode cX5_head 113 = .ok (.ifCond .eq 7, 3) := by decide +kernel
theorem dX5_head_116 : decode cX5_head 116 = .ok (.iconst 1, 1) := by decide +kernel
theorem dX5_head_117 : decode cX5_head 117 = .ok (.goto 4, 3) := by decide +kernel
theorem dX5_head_120 : decode cX5_head 120 = .ok (.iconst 0, 1) := by decide +kernel
theorem dX5_head_121 : decode cX5_head 121 = .ok (.ireturn, 1) := by decide +kernel
theorem dX5_head_122 : decode cX5_head 122 = .ok (.aload_n 3, 1) := by decide +kernel
theorem dX5_head_123 : decode cX5_head 123 = .ok (.getfield 52, 3) := by decide +kernel
theorem dX5_head_126 : decode cX5_head 126 = .ok (.iload_n 1, 1) := by decide +kernel
theorem dX5_head_127 : decode cX5_head 127 = .ok (.iaload, 1) := by decide +kernel
theorem dX5_head_128 : decode cX5_head 128 = .ok (.ireturn, 1) := by decide +kernel
theorem dX5_head_129 : decode cX5_head 129 = .ok (.aload_n 3, 1) := by decide +kernel
theorem dX5_head_130 : decode cX5_head 130 = .ok (.getfield 206, 3) := by decide +kernel
theorem dX5_head_133 : decode cX5_head 133 = .ok (.iload_n 1, 1) := by decide +kernel
theorem dX5_head_134 : decode cX5_head 134 = .ok (.iaload, 1) := by decide +kernel
theorem dX5_head_135 : decode cX5_head 135 = .ok (.ireturn, 1) := by decide +kernel
theorem dX5_head_136 : decode cX5_head 136 = .ok (.aload_n 3, 1) := by decide +kernel
theorem dX5_head_137 : decode cX5_head 137 = .ok (.getfield 209, 3) := by decide +kernel
theorem dX5_head_140 : decode cX5_head 140 = .ok (.iload_n 1, 1) := by decide +kernel
theorem dX5_head_141 : decode cX5_head 141 = .ok (.iaload, 1) := by decide +kernel
theorem dX5_head_142 : decode cX5_head 142 = .ok (.ireturn, 1) := by decide +kernel
theorem dX5_head_143 : decode cX5_head 143 = .ok (.aload_n 3, 1) := by decide +kernel
theorem dX5_head_144 : decode cX5_head 144 = .ok (.iload_n 1, 1) := by decide +kernel
theorem dX5_head_145 : decode cX5_head 145 = .ok (.invokevirtual 78, 3) := by decide +kernel
theorem dX5_head_148 : decode cX5_head 148 = .ok (.ireturn, 1) := by decide +kernel
theorem dX5_head_149 : decode cX5_head 149 = .ok (.aload_n 3, 1) := by decide +kernel
theorem dX5_head_150 : decode cX5_head 150 = .ok (.getfield 56, 3) := by decide +kernel
theorem dX5_head_153 : decode cX5_head 153 = .ok (.iload_n 1, 1) := by decide +kernel
theorem dX5_head_154 : decode cX5_head 154 = .ok (.iaload, 1) := by decide +kernel
theorem dX5_head_155 : decode cX5_head 155 = .ok (.ireturn, 1) := by decide +kernel
theorem dX5_head_156 : decode cX5_head 156 = .ok (.aload_n 3, 1) := by decide +kernel
theorem dX5_head_157 : decode cX5_head 157 = .ok (.getfield 211, 3) := by decide +kernel
theorem dX5_head_160 : decode cX5_head 160 = .ok (.iload_n 1, 1) := by decide +kernel
theorem dX5_head_161 : decode cX5_head 161 = .ok (.iaload, 1) := by decide +kernel
theorem dX5_head_162 : decode cX5_head 162 = .ok (.ireturn, 1) := by decide +kernel
theorem dX5_head_163 : decode cX5_head 163 = .ok (.aload_n 3, 1) := by decide +kernel
theorem dX5_head_164 : decode cX5_head 164 = .ok (.getfield 69, 3) := by decide +kernel
theorem dX5_head_167 : decode cX5_head 167 = .ok (.iload_n 1, 1) := by decide +kernel
theorem dX5_head_168 : decode cX5_head 168 = .ok (.iaload, 1) := by decide +kernel
theorem dX5_head_169 : decode cX5_head 169 = .ok (.ireturn, 1) := by decide +kernel
theorem dX5_head_170 : decode cX5_head 170 = .ok (.iconst (-1), 1) := by decide +kernel
theorem dX5_head_171 : decode cX5_head 171 = .ok (.ireturn, 1) := by decide +kernel
set_option maxRecDepth 20000 in
theorem ggX5_total_X3_has : GoodIn wsX5_total wsX3_has := goodIn_r _ [7, 8, 38, 39, 40, 41, 42, 43, 44, 45, 46, 47, 48] (by decide +kernel) (by decide +kernel)
set_option maxRecDepth 20000 in
theorem gX5_total_X3_has : GoodIn wsX5_total (wsV RX5 33 RX3 yX3_has wsX3_has) := goodIn_app (goodIn_of _ (by decide +kernel)) ggX5_total_X3_has
set_option maxRecDepth 20000 in
theorem ggX5_total_X3_sumWithin : GoodIn wsX5_total wsX3_sumWithin := goodIn_r _ [12, 13, 14, 15, 6, 16, 17, 18, 4, 5, 7, 8, 19, 20, 21, 22, 23, 24, 25, 26, 27, 28, 29, 38, 39, 40, 41, 42, 43, 44, 45, 46, 47, 48] (by decide +kernel) (by decide +kernel)
set_option maxRecDepth 20000 in
theorem gX5_total_X3_sumWithin : GoodIn wsX5_total (wsV RX5 194 RX3 yX3_sumWithin wsX3_sumWithin) := goodIn_app (goodIn_of _ (by decide +kernel)) ggX5_total_X3_sumWithin
theorem dX5_total_0 : decode cX5_total 0 = .ok (.aload_n 0, 1) := by decide +kernel
theorem dX5_total_1 : decode cX5_total 1 = .ok (.getfield 10, 3) := by decide +kernel
theorem dX5_total_4 : decode cX5_total 4 = .ok (.getfield 23, 3) := by decide +kernel
theorem dX5_total_7 : decode cX5_total 7 = .ok (.iload_n 1, 1) := by decide +kernel
theorem dX5_total_8 : decode cX5_total 8 = .ok (.invokevirtual 33, 3) := by decide +kernel
theorem dX5_total_11 : decode cX5_total 11 = .ok (.ifCond .eq 12, 3) := by decide +kernel
theorem dX5_total_14 : decode cX5_total 14 = .ok (.iload_n 2, 1) := by decide +kernel
theorem dX5_total_15 : decode cX5_total 15 = .ok (.ifCond .lt 8, 3) := by decide +kernel
theorem dX5_total_18 : decode cX5_total 18 = .ok (.iload_n 2, 1) := by decide +kernel
theorem dX5_total_19 : decode cX5_total 19 = .ok (.iconst 4, 1) := by decide +kernel
theorem dX5_total_20 : decode cX5_total 20 = .ok (.if_icmp .le 5, 3) := by decide +kernel
theorem dX5_total_23 : decode cX5_total 23 = .ok (.iconst (-1), 1) := by decide +kernel
theorem dX5_total_24 : decode cX5_total 24 = .ok (.ireturn, 1) := by decide +kernel
theorem dX5_total_25 : decode cX5_total 25 = .ok (.aload_n 0, 1) := by decide +kernel
theorem dX5_total_26 : decode cX5_total 26 = .ok (.getfield 10, 3) := by decide +kernel
theorem dX5_total_29 : decode cX5_total 29 = .ok (.getfield 23, 3) := by decide +kernel
theorem dX5_total_32 : decode cX5_total 32 = .ok (.iload_n 1, 1) := by decide +kernel
theorem dX5_total_33 : decode cX5_total 33 = .ok (.iload_n 2, 1) := by decide +kernel
theorem dX5_total_34 : decode cX5_total 34 = .ok (.invokevirtual 194, 3) := by decide +kernel
theorem dX5_total_37 : decode cX5_total 37 = .ok (.ireturn, 1) := by decide +kernel
set_option maxRecDepth 20000 in
theorem ggX5_commitment_X1_has : GoodIn wsX5_commitment wsX1_has := goodIn_r _ [11, 12, 21, 22, 23, 24, 25] (by decide +kernel) (by decide +kernel)
set_option maxRecDepth 20000 in
theorem gX5_commitment_X1_has : GoodIn wsX5_commitment (wsV RX5 103 RX1 yX1_has wsX1_has) := goodIn_app (goodIn_of _ (by decide +kernel)) ggX5_commitment_X1_has
theorem dX5_commitment_0 : decode cX5_commitment 0 = .ok (.aload_n 0, 1) := by decide +kernel
theorem dX5_commitment_1 : decode cX5_commitment 1 = .ok (.getfield 10, 3) := by decide +kernel
theorem dX5_commitment_4 : decode cX5_commitment 4 = .ok (.getfield 82, 3) := by decide +kernel
theorem dX5_commitment_7 : decode cX5_commitment 7 = .ok (.astore_n 3, 1) := by decide +kernel
theorem dX5_commitment_8 : decode cX5_commitment 8 = .ok (.aload_n 3, 1) := by decide +kernel
theorem dX5_commitment_9 : decode cX5_commitment 9 = .ok (.iload_n 1, 1) := by decide +kernel
theorem dX5_commitment_10 : decode cX5_commitment 10 = .ok (.invokevirtual 103, 3) := by decide +kernel
theorem dX5_commitment_13 : decode cX5_commitment 13 = .ok (.ifCond .ne 5, 3) := by decide +kernel
theorem dX5_commitment_16 : decode cX5_commitment 16 = .ok (.iconst (-1), 1) := by decide +kernel
theorem dX5_commitment_17 : decode cX5_commitment 17 = .ok (.ireturn, 1) := by decide +kernel
theorem dX5_commitment_18 : decode cX5_commitment 18 = .ok (.iload_n 2, 1) := by decide +kernel
theorem dX5_commitment_19 : decode cX5_commitment 19 = .ok (.tableswitch 57 0 3 #[29, 36, 43, 50], 29) := by decide +kernel
theorem dX5_commitment_48 : decode cX5_commitment 48 = .ok (.aload_n 3, 1) := by decide +kernel
theorem dX5_commitment_49 : decode cX5_commitment 49 = .ok (.getfield 110, 3) := by decide +kernel
theorem dX5_commitment_52 : decode cX5_commitment 52 = .ok (.iload_n 1, 1) := by decide +kernel
theorem dX5_commitment_53 : decode cX5_commitment 53 = .ok (.iaload, 1) := by decide +kernel
theorem dX5_commitment_54 : decode cX5_commitment 54 = .ok (.ireturn, 1) := by decide +kernel
theorem dX5_commitment_55 : decode cX5_commitment 55 = .ok (.aload_n 3, 1) := by decide +kernel
theorem dX5_commitment_56 : decode cX5_commitment 56 = .ok (.getfield 104, 3) := by decide +kernel
theorem dX5_commitment_59 : decode cX5_commitment 59 = .ok (.iload_n 1, 1) := by decide +kernel
theorem dX5_commitment_60 : decode cX5_commitment 60 = .ok (.iaload, 1) := by decide +kernel
theorem dX5_commitment_61 : decode cX5_commitment 61 = .ok (.ireturn, 1) := by decide +kernel
theorem dX5_commitment_62 : decode cX5_commitment 62 = .ok (.aload_n 3, 1) := by decide +kernel
theorem dX5_commitment_63 : decode cX5_commitment 63 = .ok (.getfield 107, 3) := by decide +kernel
theorem dX5_commitment_66 : decode cX5_commitment 66 = .ok (.iload_n 1, 1) := by decide +kernel
theorem dX5_commitment_67 : decode cX5_commitment 67 = .ok (.iaload, 1) := by decide +kernel
theorem dX5_commitment_68 : decode cX5_commitment 68 = .ok (.ireturn, 1) := by decide +kernel
theorem dX5_commitment_69 : decode cX5_commitment 69 = .ok (.aload_n 3, 1) := by decide +kernel
theorem dX5_commitment_70 : decode cX5_commitment 70 = .ok (.getfield 214, 3) := by decide +kernel
theorem dX5_commitment_73 : decode cX5_commitment 73 = .ok (.iload_n 1, 1) := by decide +kernel
theorem dX5_commitment_74 : decode cX5_commitment 74 = .ok (.iaload, 1) := by decide +kernel
theorem dX5_commitment_75 : decode cX5_commitment 75 = .ok (.ireturn, 1) := by decide +kernel
theorem dX5_commitment_76 : decode cX5_commitment 76 = .ok (.iconst (-1), 1) := by decide +kernel
theorem dX5_commitment_77 : decode cX5_commitment 77 = .ok (.ireturn, 1) := by decide +kernel
set_option maxRecDepth 20000 in
theorem ggX5_deed_X4_recall : GoodIn wsX5_deed wsX4_recall := goodIn_r _ [7, 8, 9, 10, 11, 12, 13, 14, 23, 24, 25, 26] (by decide +kernel) (by decide +kernel)
set_option maxRecDepth 20000 in
theorem gX5_deed_X4_recall : GoodIn wsX5_deed (wsV RX5 147 RX4 yX4_recall wsX4_recall) := goodIn_app (goodIn_of _ (by decide +kernel)) ggX5_deed_X4_recall
theorem dX5_deed_0 : decode cX5_deed 0 = .ok (.iload_n 1, 1) := by decide +kernel
theorem dX5_deed_1 : decode cX5_deed 1 = .ok (.ifCond .ge 5, 3) := by decide +kernel
theorem dX5_deed_4 : decode cX5_deed 4 = .ok (.iconst (-1), 1) := by decide +kernel
theorem dX5_deed_5 : decode cX5_deed 5 = .ok (.ireturn, 1) := by decide +kernel
theorem dX5_deed_6 : decode cX5_deed 6 = .ok (.aload_n 0, 1) := by decide +kernel
theorem dX5_deed_7 : decode cX5_deed 7 = .ok (.getfield 19, 3) := by decide +kernel
theorem dX5_deed_10 : decode cX5_deed 10 = .ok (.iload_n 1, 1) := by decide +kernel
theorem dX5_deed_11 : decode cX5_deed 11 = .ok (.invokevirtual 147, 3) := by decide +kernel
theorem dX5_deed_14 : decode cX5_deed 14 = .ok (.astore_n 2, 1) := by decide +kernel
theorem dX5_deed_15 : decode cX5_deed 15 = .ok (.aload_n 2, 1) := by decide +kernel
theorem dX5_deed_16 : decode cX5_deed 16 = .ok (.ifnonnull 8, 3) := by decide +kernel
theorem dX5_deed_19 : decode cX5_deed 19 = .ok (.bipush (-9), 2) := by decide +kernel
theorem dX5_deed_21 : decode cX5_deed 21 = .ok (.goto 7, 3) := by decide +kernel
theorem dX5_deed_24 : decode cX5_deed 24 = .ok (.aload_n 2, 1) := by decide +kernel
theorem dX5_deed_25 : decode cX5_deed 25 = .ok (.getfield 169, 3) := by decide +kernel
theorem dX5_deed_28 : decode cX5_deed 28 = .ok (.ireturn, 1) := by decide +kernel
set_option maxRecDepth 20000 in
theorem ggX5_mostFrom_X3_hasBoth : GoodIn wsX5_mostFrom wsX3_hasBoth := goodIn_r _ [7, 8, 9, 10, 6, 11, 12, 63, 64, 65, 66, 67, 68, 69, 70, 71, 72, 73] (by decide +kernel) (by decide +kernel)
set_option maxRecDepth 20000 in
theorem gX5_mostFrom_X3_hasBoth : GoodIn wsX5_mostFrom (wsV RX5 122 RX3 yX3_hasBoth wsX3_hasBoth) := goodIn_app (goodIn_of _ (by decide +kernel)) ggX5_mostFrom_X3_hasBoth
set_option maxRecDepth 20000 in
theorem ggX5_mostFrom_X3_movable : GoodIn wsX5_mostFrom wsX3_movable := goodIn_r _ [16, 17, 18, 19, 20, 21, 22, 23, 24, 25, 26, 27, 28, 4, 5, 6, 7, 8, 9, 10, 11, 12, 29, 30, 31, 32, 33, 34, 35, 36, 37, 38, 39, 40, 41, 42, 43, 44, 45, 46, 47, 48, 49, 50, 51, 52, 53, 54, 63, 64, 65, 66, 67, 68, 69, 70, 71, 72, 73] (by decide +kernel) (by decide +kernel)
set_option maxRecDepth 20000 in
theorem gX5_mostFrom_X3_movable : GoodIn wsX5_mostFrom (wsV RX5 126 RX3 yX3_movable wsX3_movable) := goodIn_app (goodIn_of _ (by decide +kernel)) ggX5_mostFrom_X3_movable
theorem dX5_mostFrom_0 : decode cX5_mostFrom 0 = .ok (.aload_n 0, 1) := by decide +kernel
theorem dX5_mostFrom_1 : decode cX5_mostFrom 1 = .ok (.getfield 10, 3) := by decide +kernel
theorem dX5_mostFrom_4 : decode cX5_mostFrom 4 = .ok (.getfield 23, 3) := by decide +kernel
theorem dX5_mostFrom_7 : decode cX5_mostFrom 7 = .ok (.iload_n 1, 1) := by decide +kernel
theorem dX5_mostFrom_8 : decode cX5_mostFrom 8 = .ok (.iload_n 2, 1) := by decide +kernel
theorem dX5_mostFrom_9 : decode cX5_mostFrom 9 = .ok (.invokevirtual 122, 3) := by decide +kernel
theorem dX5_mostFrom_12 : decode cX5_mostFrom 12 = .ok (.ifCond .ne 5, 3) := by decide +kernel
theorem dX5_mostFrom_15 : decode cX5_mostFrom 15 = .ok (.iconst (-1), 1) := by decide +kernel
theorem dX5_mostFrom_16 : decode cX5_mostFrom 16 = .ok (.ireturn, 1) := by decide +kernel
theorem dX5_mostFrom_17 : decode cX5_mostFrom 17 = .ok (.aload_n 0, 1) := by decide +kernel
theorem dX5_mostFrom_18 : decode cX5_mostFrom 18 = .ok (.getfield 10, 3) := by decide +kernel
theorem dX5_mostFrom_21 : decode cX5_mostFrom 21 = .ok (.getfield 23, 3) := by decide +kernel
theorem dX5_mostFrom_24 : decode cX5_mostFrom 24 = .ok (.iload_n 1, 1) := by decide +kernel
theorem dX5_mostFrom_25 : decode cX5_mostFrom 25 = .ok (.iload_n 2, 1) := by decide +kernel
theorem dX5_mostFrom_26 : decode cX5_mostFrom 26 = .ok (.invokevirtual 126, 3) := by decide +kernel
theorem dX5_mostFrom_29 : decode cX5_mostFrom 29 = .ok (.ireturn, 1) := by decide +kernel
set_option maxRecDepth 20000 in
theorem ggX5_bestGiver_X3_has : GoodIn wsX5_bestGiver wsX3_has := goodIn_r _ [7, 8, 67, 68, 69, 70, 71, 72, 73, 74, 75, 76, 77] (by decide +kernel) (by decide +kernel)
set_option maxRecDepth 20000 in
theorem gX5_bestGiver_X3_has : GoodIn wsX5_bestGiver (wsV RX5 33 RX3 yX3_has wsX3_has) := goodIn_app (goodIn_of _ (by decide +kernel)) ggX5_bestGiver_X3_has
set_option maxRecDepth 20000 in
theorem ggX5_bestGiver_X3_giverOfMost : GoodIn wsX5_bestGiver wsX3_giverOfMost := goodIn_r _ [12, 13, 14, 15, 16, 6, 17, 18, 19, 20, 21, 22, 23, 24, 25, 26, 27, 28, 29, 30, 31, 32, 33, 4, 5, 7, 8, 34, 35, 36, 37, 38, 39, 40, 41, 42, 43, 44, 45, 46, 47, 48, 49, 50, 51, 52, 53, 54, 55, 56, 57, 58, 67, 68, 69, 70, 71, 72, 73, 74, 75, 76, 77] (by decide +kernel) (by decide +kernel)
set_option maxRecDepth 20000 in
theorem gX5_bestGiver_X3_giverOfMost : GoodIn wsX5_bestGiver (wsV RX5 216 RX3 yX3_giverOfMost wsX3_giverOfMost) := goodIn_app (goodIn_of _ (by decide +kernel)) ggX5_bestGiver_X3_giverOfMost
theorem dX5_bestGiver_0 : decode cX5_bestGiver 0 = .ok (.aload_n 0, 1) := by decide +kernel
theorem dX5_bestGiver_1 : decode cX5_bestGiver 1 = .ok (.getfield 10, 3) := by decide +kernel
theorem dX5_bestGiver_4 : decode cX5_bestGiver 4 = .ok (.getfield 23, 3) := by decide +kernel
theorem dX5_bestGiver_7 : decode cX5_bestGiver 7 = .ok (.iload_n 1, 1) := by decide +kernel
theorem dX5_bestGiver_8 : decode cX5_bestGiver 8 = .ok (.invokevirtual 33, 3) := by decide +kernel
theorem dX5_bestGiver_11 : decode cX5_bestGiver 11 = .ok (.ifCond .ne 5, 3) := by decide +kernel
theorem dX5_bestGiver_14 : decode cX5_bestGiver 14 = .ok (.iconst (-1), 1) := by decide +kernel
theorem dX5_bestGiver_15 : decode cX5_bestGiver 15 = .ok (.ireturn, 1) := by decide +kernel
theorem dX5_bestGiver_16 : decode cX5_bestGiver 16 = .ok (.aload_n 0, 1) := by decide +kernel
theorem dX5_bestGiver_17 : decode cX5_bestGiver 17 = .ok (.getfield 10, 3) := by decide +kernel
theorem dX5_bestGiver_20 : decode cX5_bestGiver 20 = .ok (.getfield 23, 3) := by decide +kernel
theorem dX5_bestGiver_23 : decode cX5_bestGiver 23 = .ok (.iload_n 1, 1) := by decide +kernel
theorem dX5_bestGiver_24 : decode cX5_bestGiver 24 = .ok (.invokevirtual 216, 3) := by decide +kernel
theorem dX5_bestGiver_27 : decode cX5_bestGiver 27 = .ok (.ireturn, 1) := by decide +kernel
set_option maxRecDepth 20000 in
theorem ggX5_richest_X3_has : GoodIn wsX5_richest wsX3_has := goodIn_r _ [7, 8, 47, 48, 49, 50, 51, 52, 53, 54, 55, 56, 57] (by decide +kernel) (by decide +kernel)
set_option maxRecDepth 20000 in
theorem gX5_richest_X3_has : GoodIn wsX5_richest (wsV RX5 33 RX3 yX3_has wsX3_has) := goodIn_app (goodIn_of _ (by decide +kernel)) ggX5_richest_X3_has
set_option maxRecDepth 20000 in
theorem ggX5_richest_X3_atPlace : GoodIn wsX5_richest wsX3_atPlace := goodIn_r _ [12, 13, 14, 15, 6, 16, 17, 18, 4, 5, 7, 8, 19, 20, 21, 22, 23, 24, 25, 26, 27, 28, 29, 30, 31, 32, 33, 34, 35, 36, 37, 38, 47, 48, 49, 50, 51, 52, 53, 54, 55, 56, 57] (by decide +kernel) (by decide +kernel)
set_option maxRecDepth 20000 in
theorem gX5_richest_X3_atPlace : GoodIn wsX5_richest (wsV RX5 219 RX3 yX3_atPlace wsX3_atPlace) := goodIn_app (goodIn_of _ (by decide +kernel)) ggX5_richest_X3_atPlace
theorem dX5_richest_0 : decode cX5_richest 0 = .ok (.aload_n 0, 1) := by decide +kernel
theorem dX5_richest_1 : decode cX5_richest 1 = .ok (.getfield 10, 3) := by decide +kernel
theorem dX5_richest_4 : decode cX5_richest 4 = .ok (.getfield 23, 3) := by decide +kernel
theorem dX5_richest_7 : decode cX5_richest 7 = .ok (.iload_n 1, 1) := by decide +kernel
theorem dX5_richest_8 : decode cX5_richest 8 = .ok (.invokevirtual 33, 3) := by decide +kernel
theorem dX5_richest_11 : decode cX5_richest 11 = .ok (.ifCond .eq 7, 3) := by decide +kernel
theorem dX5_richest_14 : decode cX5_richest 14 = .ok (.iload_n 2, 1) := by decide +kernel
theorem dX5_richest_15 : decode cX5_richest 15 = .ok (.ifCond .ge 5, 3) := by decide +kernel
theorem dX5_richest_18 : decode cX5_richest 18 = .ok (.iconst (-1), 1) := by decide +kernel
theorem dX5_richest_19 : decode cX5_richest 19 = .ok (.ireturn, 1) := by decide +kernel
theorem dX5_richest_20 : decode cX5_richest 20 = .ok (.aload_n 0, 1) := by decide +kernel
theorem dX5_richest_21 : decode cX5_richest 21 = .ok (.getfield 10, 3) := by decide +kernel
theorem dX5_richest_24 : decode cX5_richest 24 = .ok (.getfield 23, 3) := by decide +kernel
theorem dX5_richest_27 : decode cX5_richest 27 = .ok (.iload_n 1, 1) := by decide +kernel
theorem dX5_richest_28 : decode cX5_richest 28 = .ok (.iload_n 2, 1) := by decide +kernel
theorem dX5_richest_29 : decode cX5_richest 29 = .ok (.invokevirtual 219, 3) := by decide +kernel
theorem dX5_richest_32 : decode cX5_richest 32 = .ok (.ireturn, 1) := by decide +kernel
set_option maxRecDepth 20000 in
theorem ggX5_wouldLapse_X3_has : GoodIn wsX5_wouldLapse wsX3_has := goodIn_r _ [8, 9, 39, 40, 41, 42, 43, 44, 45, 46, 47, 48, 49] (by decide +kernel) (by decide +kernel)
set_option maxRecDepth 20000 in
theorem gX5_wouldLapse_X3_has : GoodIn wsX5_wouldLapse (wsV RX5 33 RX3 yX3_has wsX3_has) := goodIn_app (goodIn_of _ (by decide +kernel)) ggX5_wouldLapse_X3_has
set_option maxRecDepth 20000 in
theorem ggX5_wouldLapse_X3_lapseWithin : GoodIn wsX5_wouldLapse wsX3_lapseWithin := goodIn_r _ [13, 14, 15, 16, 7, 17, 18, 19, 5, 6, 8, 9, 20, 21, 22, 23, 24, 25, 26, 27, 28, 29, 30, 39, 40, 41, 42, 43, 44, 45, 46, 47, 48, 49] (by decide +kernel) (by decide +kernel)
set_option maxRecDepth 20000 in
theorem gX5_wouldLapse_X3_lapseWithin : GoodIn wsX5_wouldLapse (wsV RX5 137 RX3 yX3_lapseWithin wsX3_lapseWithin) := goodIn_app (goodIn_of _ (by decide +kernel)) ggX5_wouldLapse_X3_lapseWithin
theorem dX5_wouldLapse_0 : decode cX5_wouldLapse 0 = .ok (.aload_n 0, 1) := by decide +kernel
theorem dX5_wouldLapse_1 : decode cX5_wouldLapse 1 = .ok (.getfield 10, 3) := by decide +kernel
theorem dX5_wouldLapse_4 : decode cX5_wouldLapse 4 = .ok (.getfield 23, 3) := by decide +kernel
theorem dX5_wouldLapse_7 : decode cX5_wouldLapse 7 = .ok (.iload_n 1, 1) := by decide +kernel
theorem dX5_wouldLapse_8 : decode cX5_wouldLapse 8 = .ok (.invokevirtual 33, 3) := by decide +kernel
theorem dX5_wouldLapse_11 : decode cX5_wouldLapse 11 = .ok (.ifCond .ne 5, 3) := by decide +kernel
theorem dX5_wouldLapse_14 : decode cX5_wouldLapse 14 = .ok (.iconst (-1), 1) := by decide +kernel
theorem dX5_wouldLapse_15 : decode cX5_wouldLapse 15 = .ok (.ireturn, 1) := by decide +kernel
theorem dX5_wouldLapse_16 : decode cX5_wouldLapse 16 = .ok (.aload_n 0, 1) := by decide +kernel
theorem dX5_wouldLapse_17 : decode cX5_wouldLapse 17 = .ok (.getfield 10, 3) := by decide +kernel
theorem dX5_wouldLapse_20 : decode cX5_wouldLapse 20 = .ok (.getfield 23, 3) := by decide +kernel
theorem dX5_wouldLapse_23 : decode cX5_wouldLapse 23 = .ok (.iload_n 1, 1) := by decide +kernel
theorem dX5_wouldLapse_24 : decode cX5_wouldLapse 24 = .ok (.aload_n 0, 1) := by decide +kernel
theorem dX5_wouldLapse_25 : decode cX5_wouldLapse 25 = .ok (.getfield 10, 3) := by decide +kernel
theorem dX5_wouldLapse_28 : decode cX5_wouldLapse 28 = .ok (.getfield 72, 3) := by decide +kernel
theorem dX5_wouldLapse_31 : decode cX5_wouldLapse 31 = .ok (.invokevirtual 137, 3) := by decide +kernel
theorem dX5_wouldLapse_34 : decode cX5_wouldLapse 34 = .ok (.ireturn, 1) := by decide +kernel
theorem dX5_isAmount_0 : decode cX5_isAmount 0 = .ok (.iload_n 0, 1) := by decide +kernel
theorem dX5_isAmount_1 : decode cX5_isAmount 1 = .ok (.iconst 1, 1) := by decide +kernel
theorem dX5_isAmount_2 : decode cX5_isAmount 2 = .ok (.if_icmp .lt 13, 3) := by decide +kernel
theorem dX5_isAmount_5 : decode cX5_isAmount 5 = .ok (.iload_n 0, 1) := by decide +kernel
theorem dX5_isAmount_6 : decode cX5_isAmount 6 = .ok (.ldc 222, 2) := by decide +kernel
theorem dX5_isAmount_8 : decode cX5_isAmount 8 = .ok (.if_icmp .gt 7, 3) := by decide +kernel
theorem dX5_isAmount_11 : decode cX5_isAmount 11 = .ok (.iconst 1, 1) := by decide +kernel
theorem dX5_isAmount_12 : decode cX5_isAmount 12 = .ok (.goto 4, 3) := by decide +kernel
theorem dX5_isAmount_15 : decode cX5_isAmount 15 = .ok (.iconst 0, 1) := by decide +kernel
theorem dX5_isAmount_16 : decode cX5_isAmount 16 = .ok (.ireturn, 1) := by decide +kernel
theorem dX5_isPercentage_0 : decode cX5_isPercentage 0 = .ok (.iload_n 0, 1) := by decide +kernel
theorem dX5_isPercentage_1 : decode cX5_isPercentage 1 = .ok (.ifCond .lt 13, 3) := by decide +kernel
theorem dX5_isPercentage_4 : decode cX5_isPercentage 4 = .ok (.iload_n 0, 1) := by decide +kernel
theorem dX5_isPercentage_5 : decode cX5_isPercentage 5 = .ok (.bipush 100, 2) := by decide +kernel
theorem dX5_isPercentage_7 : decode cX5_isPercentage 7 = .ok (.if_icmp .gt 7, 3) := by decide +kernel
theorem dX5_isPercentage_10 : decode cX5_isPercentage 10 = .ok (.iconst 1, 1) := by decide +kernel
theorem dX5_isPercentage_11 : decode cX5_isPercentage 11 = .ok (.goto 4, 3) := by decide +kernel
theorem dX5_isPercentage_14 : decode cX5_isPercentage 14 = .ok (.iconst 0, 1) := by decide +kernel
theorem dX5_isPercentage_15 : decode cX5_isPercentage 15 = .ok (.ireturn, 1) := by decide +kernel
theorem dX5_partOf_0 : decode cX5_partOf 0 = .ok (.iload_n 0, 1) := by decide +kernel
theorem dX5_partOf_1 : decode cX5_partOf 1 = .ok (.i2l, 1) := by decide +kernel
theorem dX5_partOf_2 : decode cX5_partOf 2 = .ok (.iload_n 1, 1) := by decide +kernel
theorem dX5_partOf_3 : decode cX5_partOf 3 = .ok (.i2l, 1) := by decide +kernel
theorem dX5_partOf_4 : decode cX5_partOf 4 = .ok (.lmul, 1) := by decide +kernel
theorem dX5_partOf_5 : decode cX5_partOf 5 = .ok (.ldc2_w 223, 3) := by decide +kernel
theorem dX5_partOf_8 : decode cX5_partOf 8 = .ok (.ldiv, 1) := by decide +kernel
theorem dX5_partOf_9 : decode cX5_partOf 9 = .ok (.l2i, 1) := by decide +kernel
theorem dX5_partOf_10 : decode cX5_partOf 10 = .ok (.ireturn, 1) := by decide +kernel
set_option maxRecDepth 20000 in
theorem ggX6_init_X6_of : GoodIn wsX6_init wsX6_of := goodIn_r _ [16] (by decide +kernel) (by decide +kernel)
set_option maxRecDepth 20000 in
theorem gX6_init_X6_of : GoodIn wsX6_init (va_wsS RX6 34 yX6_of wsX6_of) := goodIn_app (goodIn_of _ (by decide +kernel)) ggX6_init_X6_of
theorem dX6_init_0 : decode cX6_init 0 = .ok (.aload_n 0, 1) := by decide +kernel
theorem dX6_init_1 : decode cX6_init 1 = .ok (.invokespecial 1, 3) := by decide +kernel
theorem dX6_init_4 : decode cX6_init 4 = .ok (.aload_n 0, 1) := by decide +kernel
theorem dX6_init_5 : decode cX6_init 5 = .ok (.sipush 4498, 3) := by decide +kernel
theorem dX6_init_8 : decode cX6_init 8 = .ok (.newarray .int, 2) := by decide +kernel
theorem dX6_init_10 : decode cX6_init 10 = .ok (.putfield 7, 3) := by decide +kernel
theorem dX6_init_13 : decode cX6_init 13 = .ok (.aload_n 0, 1) := by decide +kernel
theorem dX6_init_14 : decode cX6_init 14 = .ok (.bipush 12, 2) := by decide +kernel
theorem dX6_init_16 : decode cX6_init 16 = .ok (.newarray .int, 2) := by decide +kernel
theorem dX6_init_18 : decode cX6_init 18 = .ok (.putfield 13, 3) := by decide +kernel
theorem dX6_init_21 : decode cX6_init 21 = .ok (.aload_n 0, 1) := by decide +kernel
theorem dX6_init_22 : decode cX6_init 22 = .ok (.bipush 12, 2) := by decide +kernel
theorem dX6_init_24 : decode cX6_init 24 = .ok (.newarray .int, 2) := by decide +kernel
theorem dX6_init_26 : decode cX6_init 26 = .ok (.putfield 16, 3) := by decide +kernel
theorem dX6_init_29 : decode cX6_init 29 = .ok (.aload_n 0, 1) := by decide +kernel
theorem dX6_init_30 : decode cX6_init 30 = .ok (.bipush 12, 2) := by decide +kernel
theorem dX6_init_32 : decode cX6_init 32 = .ok (.newarray .int, 2) := by decide +kernel
theorem dX6_init_34 : decode cX6_init 34 = .ok (.putfield 19, 3) := by decide +kernel
theorem dX6_init_37 : decode cX6_init 37 = .ok (.aload_n 0, 1) := by decide +kernel
theorem dX6_init_38 : decode cX6_init 38 = .ok (.bipush 12, 2) := by decide +kernel
theorem dX6_init_40 : decode cX6_init 40 = .ok (.newarray .int, 2) := by decide +kernel
theorem dX6_init_42 : decode cX6_init 42 = .ok (.putfield 22, 3) := by decide +kernel
theorem dX6_init_45 : decode cX6_init 45 = .ok (.aload_n 0, 1) := by decide +kernel
theorem dX6_init_46 : decode cX6_init 46 = .ok (.bipush 12, 2) := by decide +kernel
theorem dX6_init_48 : decode cX6_init 48 = .ok (.newarray .int, 2) := by decide +kernel
theorem dX6_init_50 : decode cX6_init 50 = .ok (.putfield 25, 3) := by decide +kernel
theorem dX6_init_53 : decode cX6_init 53 = .ok (.aload_n 0, 1) := by decide +kernel
theorem dX6_init_54 : decode cX6_init 54 = .ok (.bipush 12, 2) := by decide +kernel
theorem dX6_init_56 : decode cX6_init 56 = .ok (.newarray .int, 2) := by decide +kernel
theorem dX6_init_58 : decode cX6_init 58 = .ok (.putfield 28, 3) := by decide +kernel
theorem dX6_init_61 : decode cX6_init 61 = .ok (.aload_n 0, 1) := by decide +kernel
theorem dX6_init_62 : decode cX6_init 62 = .ok (.bipush 12, 2) := by decide +kernel
theorem dX6_init_64 : decode cX6_init 64 = .ok (.newarray .int, 2) := by decide +kernel
theorem dX6_init_66 : decode cX6_init 66 = .ok (.putfield 31, 3) := by decide +kernel
theorem dX6_init_69 : decode cX6_init 69 = .ok (.aload_n 0, 1) := by decide +kernel
theorem dX6_init_70 : decode cX6_init 70 = .ok (.getfield 7, 3) := by decide +kernel
theorem dX6_init_73 : decode cX6_init 73 = .ok (.iconst 1, 1) := by decide +kernel
theorem dX6_init_74 : decode cX6_init 74 = .ok (.iconst 1, 1) := by decide +kernel
theorem dX6_init_75 : decode cX6_init 75 = .ok (.iastore, 1) := by decide +kernel
theorem dX6_init_76 : decode cX6_init 76 = .ok (.aload_n 0, 1) := by decide +kernel
theorem dX6_init_77 : decode cX6_init 77 = .ok (.getfield 7, 3) := by decide +kernel
theorem dX6_init_80 : decode cX6_init 80 = .ok (.iconst 3, 1) := by decide +kernel
theorem dX6_init_81 : decode cX6_init 81 = .ok (.bipush 10, 2) := by decide +kernel
theorem dX6_init_83 : decode cX6_init 83 = .ok (.iastore, 1) := by decide +kernel
theorem dX6_init_84 : decode cX6_init 84 = .ok (.aload_n 0, 1) := by decide +kernel
theorem dX6_init_85 : decode cX6_init 85 = .ok (.getfield 7, 3) := by decide +kernel
theorem dX6_init_88 : decode cX6_init 88 = .ok (.iconst 0, 1) := by decide +kernel
theorem dX6_init_89 : decode cX6_init 89 = .ok (.iconst 0, 1) := by decide +kernel
theorem dX6_init_90 : decode cX6_init 90 = .ok (.invokestatic 34, 3) := by decide +kernel
theorem dX6_init_93 : decode cX6_init 93 = .ok (.bipush (-9), 2) := by decide +kernel
theorem dX6_init_95 : decode cX6_init 95 = .ok (.iastore, 1) := by decide +kernel
theorem dX6_init_96 : decode cX6_init 96 = .ok (.aload_n 0, 1) := by decide +kernel
theorem dX6_init_97 : decode cX6_init 97 = .ok (.getfield 7, 3) := by decide +kernel
theorem dX6_init_100 : decode cX6_init 100 = .ok (.iconst 0, 1) := by decide +kernel
theorem dX6_init_101 : decode cX6_init 101 = .ok (.bipush 8, 2) := by decide +kernel
theorem dX6_init_103 : decode cX6_init 103 = .ok (.invokestatic 34, 3) := by decide +kernel
theorem dX6_init_106 : decode cX6_init 106 = .ok (.bipush 50, 2) := by decide +kernel
theorem dX6_init_108 : decode cX6_init 108 = .ok (.iastore, 1) := by decide +kernel
theorem dX6_init_109 : decode cX6_init 109 = .ok (.return_, 1) := by decide +kernel
theorem dX6_in_0 : decode cX6_in 0 = .ok (.iload_n 0, 1) := by decide +kernel
theorem dX6_in_1 : decode cX6_in 1 = .ok (.iload_n 1, 1) := by decide +kernel
theorem dX6_in_2 : decode cX6_in 2 = .ok (.if_icmp .lt 12, 3) := by decide +kernel
theorem dX6_in_5 : decode cX6_in 5 = .ok (.iload_n 0, 1) := by decide +kernel
theorem dX6_in_6 : decode cX6_in 6 = .ok (.iload_n 2, 1) := by decide +kernel
theorem dX6_in_7 : decode cX6_in 7 = .ok (.if_icmp .gt 7, 3) := by decide +kernel
theorem dX6_in_10 : decode cX6_in 10 = .ok (.iconst 1, 1) := by decide +kernel
theorem dX6_in_11 : decode cX6_in 11 = .ok (.goto 4, 3) := by decide +kernel
theorem dX6_in_14 : decode cX6_in 14 = .ok (.iconst 0, 1) := by decide +kernel
theorem dX6_in_15 : decode cX6_in 15 = .ok (.ireturn, 1) := by decide +kernel
theorem dX6_of_0 : decode cX6_of 0 = .ok (.bipush 6, 2) := by decide +kernel
theorem dX6_of_2 : decode cX6_of 2 = .ok (.bipush 9, 2) := by decide +kernel
theorem dX6_of_4 : decode cX6_of 4 = .ok (.iload_n 0, 1) := by decide +kernel
theorem dX6_of_5 : decode cX6_of 5 = .ok (.imul, 1) := by decide +kernel
theorem dX6_of_6 : decode cX6_of 6 = .ok (.iadd, 1) := by decide +kernel
theorem dX6_of_7 : decode cX6_of 7 = .ok (.iload_n 1, 1) := by decide +kernel
theorem dX6_of_8 : decode cX6_of 8 = .ok (.iadd, 1) := by decide +kernel
theorem dX6_of_9 : decode cX6_of 9 = .ok (.ireturn, 1) := by decide +kernel
theorem dX6_ofCommitment_0 : decode cX6_ofCommitment 0 = .ok (.sipush 186, 3) := by decide +kernel
theorem dX6_ofCommitment_3 : decode cX6_ofCommitment 3 = .ok (.iconst 4, 1) := by decide +kernel
theorem dX6_ofCommitment_4 : decode cX6_ofCommitment 4 = .ok (.iload_n 0, 1) := by decide +kernel
theorem dX6_ofCommitment_5 : decode cX6_ofCommitment 5 = .ok (.imul, 1) := by decide +kernel
theorem dX6_ofCommitment_6 : decode cX6_ofCommitment 6 = .ok (.iadd, 1) := by decide +kernel
theorem dX6_ofCommitment_7 : decode cX6_ofCommitment 7 = .ok (.iload_n 1, 1) := by decide +kernel
theorem dX6_ofCommitment_8 : decode cX6_ofCommitment 8 = .ok (.iadd, 1) := by decide +kernel
theorem dX6_ofCommitment_9 : decode cX6_ofCommitment 9 = .ok (.ireturn, 1) := by decide +kernel
set_option maxRecDepth 20000 in
theorem ggX6_isHead_X6_in : GoodIn wsX6_isHead wsX6_in := goodIn_r _ [5] (by decide +kernel) (by decide +kernel)
set_option maxRecDepth 20000 in
theorem gX6_isHead_X6_in : GoodIn wsX6_isHead (va_wsS RX6 38 yX6_in wsX6_in) := goodIn_app (goodIn_of _ (by decide +kernel)) ggX6_isHead_X6_in
theorem dX6_isHead_0 : decode cX6_isHead 0 = .ok (.iload_n 1, 1) := by decide +kernel
theorem dX6_isHead_1 : decode cX6_isHead 1 = .ok (.iconst 0, 1) := by decide +kernel
theorem dX6_isHead_2 : decode cX6_isHead 2 = .ok (.aload_n 0, 1) := by decide +kernel
theorem dX6_isHead_3 : decode cX6_isHead 3 = .ok (.getfield 7, 3) := by decide +kernel
theorem dX6_isHead_6 : decode cX6_isHead 6 = .ok (.iconst 1, 1) := by decide +kernel
theorem dX6_isHead_7 : decode cX6_isHead 7 = .ok (.iaload, 1) := by decide +kernel
theorem dX6_isHead_8 : decode cX6_isHead 8 = .ok (.iconst 1, 1) := by decide +kernel
theorem dX6_isHead_9 : decode cX6_isHead 9 = .ok (.isub, 1) := by decide +kernel
theorem dX6_isHead_10 : decode cX6_isHead 10 = .ok (.invokestatic 38, 3) := by decide +kernel
theorem dX6_isHead_13 : decode cX6_isHead 13 = .ok (.ireturn, 1) := by decide +kernel
set_option maxRecDepth 20000 in
theorem ggX6_isCommitment_X6_in : GoodIn wsX6_isCommitment wsX6_in := goodIn_r _ [5] (by decide +kernel) (by decide +kernel)
set_option maxRecDepth 20000 in
theorem gX6_isCommitment_X6_in : GoodIn wsX6_isCommitment (va_wsS RX6 38 yX6_in wsX6_in) := goodIn_app (goodIn_of _ (by decide +kernel)) ggX6_isCommitment_X6_in
theorem dX6_isCommitment_0 : decode cX6_isCommitment 0 = .ok (.iload_n 1, 1) := by decide +kernel
theorem dX6_isCommitment_1 : decode cX6_isCommitment 1 = .ok (.iconst 0, 1) := by decide +kernel
theorem dX6_isCommitment_2 : decode cX6_isCommitment 2 = .ok (.aload_n 0, 1) := by decide +kernel
theorem dX6_isCommitment_3 : decode cX6_isCommitment 3 = .ok (.getfield 7, 3) := by decide +kernel
theorem dX6_isCommitment_6 : decode cX6_isCommitment 6 = .ok (.iconst 2, 1) := by decide +kernel
theorem dX6_isCommitment_7 : decode cX6_isCommitment 7 = .ok (.iaload, 1) := by decide +kernel
theorem dX6_isCommitment_8 : decode cX6_isCommitment 8 = .ok (.iconst 1, 1) := by decide +kernel
theorem dX6_isCommitment_9 : decode cX6_isCommitment 9 = .ok (.isub, 1) := by decide +kernel
theorem dX6_isCommitment_10 : decode cX6_isCommitment 10 = .ok (.invokestatic 38, 3) := by decide +kernel
theorem dX6_isCommitment_13 : decode cX6_isCommitment 13 = .ok (.ireturn, 1) := by decide +kernel
set_option maxRecDepth 20000 in
theorem ggX6_isAmount_X6_in : GoodIn wsX6_isAmount wsX6_in := goodIn_r _ [5] (by decide +kernel) (by decide +kernel)
set_option maxRecDepth 20000 in
theorem gX6_isAmount_X6_in : GoodIn wsX6_isAmount (va_wsS RX6 38 yX6_in wsX6_in) := goodIn_app (goodIn_of _ (by decide +kernel)) ggX6_isAmount_X6_in
theorem dX6_isAmount_0 : decode cX6_isAmount 0 = .ok (.iload_n 0, 1) := by decide +kernel
theorem dX6_isAmount_1 : decode cX6_isAmount 1 = .ok (.iconst 1, 1) := by decide +kernel
theorem dX6_isAmount_2 : decode cX6_isAmount 2 = .ok (.ldc 42, 2) := by decide +kernel
theorem dX6_isAmount_4 : decode cX6_isAmount 4 = .ok (.invokestatic 38, 3) := by decide +kernel
theorem dX6_isAmount_7 : decode cX6_isAmount 7 = .ok (.ireturn, 1) := by decide +kernel
theorem dX6_copy_0 : decode cX6_copy 0 = .ok (.iconst 0, 1) := by decide +kernel
theorem dX6_copy_1 : decode cX6_copy 1 = .ok (.istore_n 3, 1) := by decide +kernel
theorem dX6_copy_2 : decode cX6_copy 2 = .ok (.iload_n 3, 1) := by decide +kernel
theorem dX6_copy_3 : decode cX6_copy 3 = .ok (.sipush 346, 3) := by decide +kernel
theorem dX6_copy_6 : decode cX6_copy 6 = .ok (.if_icmp .ge 25, 3) := by decide +kernel
theorem dX6_copy_9 : decode cX6_copy 9 = .ok (.aload_n 0, 1) := by decide +kernel
theorem dX6_copy_10 : decode cX6_copy 10 = .ok (.getfield 7, 3) := by decide +kernel
theorem dX6_copy_13 : decode cX6_copy 13 = .ok (.iload_n 2, 1) := by decide +kernel
theorem dX6_copy_14 : decode cX6_copy 14 = .ok (.iload_n 3, 1) := by decide +kernel
theorem dX6_copy_15 : decode cX6_copy 15 = .ok (.iadd, 1) := by decide +kernel
theorem dX6_copy_16 : decode cX6_copy 16 = .ok (.aload_n 0, 1) := by decide +kernel
theorem dX6_copy_17 : decode cX6_copy 17 = .ok (.getfield 7, 3) := by decide +kernel
theorem dX6_copy_20 : decode cX6_copy 20 = .ok (.iload_n 1, 1) := by decide +kernel
theorem dX6_copy_21 : decode cX6_copy 21 = .ok (.iload_n 3, 1) := by decide +kernel
theorem dX6_copy_22 : decode cX6_copy 22 = .ok (.iadd, 1) := by decide +kernel
theorem dX6_copy_23 : decode cX6_copy 23 = .ok (.iaload, 1) := by decide +kernel
theorem dX6_copy_24 : decode cX6_copy 24 = .ok (.iastore, 1) := by decide +kernel
theorem dX6_copy_25 : decode cX6_copy 25 = .ok (.iinc 3 1, 3) := by decide +kernel
theorem dX6_copy_28 : decode cX6_copy 28 = .ok (.goto (-26), 3) := by decide +kernel
theorem dX6_copy_31 : decode cX6_copy 31 = .ok (.return_, 1) := by decide +kernel
set_option maxRecDepth 20000 in
theorem ggX6_forget_X6_copy : GoodIn wsX6_forget wsX6_copy := goodIn_r _ [13, 14, 15, 16, 17, 18, 19, 20, 21, 22, 23, 24] (by decide +kernel) (by decide +kernel)
set_option maxRecDepth 20000 in
theorem gX6_forget_X6_copy : GoodIn wsX6_forget (wsV RX6 43 RX6 yX6_copy wsX6_copy) := goodIn_app (goodIn_of _ (by decide +kernel)) ggX6_forget_X6_copy
theorem dX6_forget_0 : decode cX6_forget 0 = .ok (.iconst 0, 1) := by decide +kernel
theorem dX6_forget_1 : decode cX6_forget 1 = .ok (.istore_n 1, 1) := by decide +kernel
theorem dX6_forget_2 : decode cX6_forget 2 = .ok (.iload_n 1, 1) := by decide +kernel
theorem dX6_forget_3 : decode cX6_forget 3 = .ok (.bipush 11, 2) := by decide +kernel
theorem dX6_forget_5 : decode cX6_forget 5 = .ok (.if_icmp .ge 125, 3) := by decide +kernel
theorem dX6_forget_8 : decode cX6_forget 8 = .ok (.aload_n 0, 1) := by decide +kernel
theorem dX6_forget_9 : decode cX6_forget 9 = .ok (.sipush 346, 3) := by decide +kernel
theorem dX6_forget_12 : decode cX6_forget 12 = .ok (.iload_n 1, 1) := by decide +kernel
theorem dX6_forget_13 : decode cX6_forget 13 = .ok (.iconst 2, 1) := by decide +kernel
theorem dX6_forget_14 : decode cX6_forget 14 = .ok (.iadd, 1) := by decide +kernel
theorem dX6_forget_15 : decode cX6_forget 15 = .ok (.imul, 1) := by decide +kernel
theorem dX6_forget_16 : decode cX6_forget 16 = .ok (.sipush 346, 3) := by decide +kernel
theorem dX6_forget_19 : decode cX6_forget 19 = .ok (.iload_n 1, 1) := by decide +kernel
theorem dX6_forget_20 : decode cX6_forget 20 = .ok (.iconst 1, 1) := by decide +kernel
theorem dX6_forget_21 : decode cX6_forget 21 = .ok (.iadd, 1) := by decide +kernel
theorem dX6_forget_22 : decode cX6_forget 22 = .ok (.imul, 1) := by decide +kernel
theorem dX6_forget_23 : decode cX6_forget 23 = .ok (.invokevirtual 43, 3) := by decide +kernel
theorem dX6_forget_26 : decode cX6_forget 26 = .ok (.aload_n 0, 1) := by decide +kernel
theorem dX6_forget_27 : decode cX6_forget 27 = .ok (.getfield 13, 3) := by decide +kernel
theorem dX6_forget_30 : decode cX6_forget 30 = .ok (.iload_n 1, 1) := by decide +kernel
theorem dX6_forget_31 : decode cX6_forget 31 = .ok (.aload_n 0, 1) := by decide +kernel
theorem dX6_forget_32 : decode cX6_forget 32 = .ok (.getfield 13, 3) := by decide +kernel
theorem dX6_forget_35 : decode cX6_forget 35 = .ok (.iload_n 1, 1) := by decide +kernel
theorem dX6_forget_36 : decode cX6_forget 36 = .ok (.iconst 1, 1) := by decide +kernel
theorem dX6_forget_37 : decode cX6_forget 37 = .ok (.iadd, 1) := by decide +kernel
theorem dX6_forget_38 : decode cX6_forget 38 = .ok (.iaload, 1) := by decide +kernel
theorem dX6_forget_39 : decode cX6_forget 39 = .ok (.iastore, 1) := by decide +kernel
theorem dX6_forget_40 : decode cX6_forget 40 = .ok (.aload_n 0, 1) := by decide +kernel
theorem dX6_forget_41 : decode cX6_forget 41 = .ok (.getfield 16, 3) := by decide +kernel
theorem dX6_forget_44 : decode cX6_forget 44 = .ok (.iload_n 1, 1) := by decide +kernel
theorem dX6_forget_45 : decode cX6_forget 45 = .ok (.aload_n 0, 1) := by decide +kernel
theorem dX6_forget_46 : decode cX6_forget 46 = .ok (.getfield 16, 3) := by decide +kernel
theorem dX6_forget_49 : decode cX6_forget 49 = .ok (.iload_n 1, 1) := by decide +kernel
theorem dX6_forget_50 : decode cX6_forget 50 = .ok (.iconst 1, 1) := by decide +kernel
theorem dX6_forget_51 : decode cX6_forget 51 = .ok (.iadd, 1) := by decide +kernel
theorem dX6_forget_52 : decode cX6_forget 52 = .ok (.iaload, 1) := by decide +kernel
theorem dX6_forget_53 : decode cX6_forget 53 = .ok (.iastore, 1) := by decide +kernel
theorem dX6_forget_54 : decode cX6_forget 54 = .ok (.aload_n 0, 1) := by decide +kernel
theorem dX6_forget_55 : decode cX6_forget 55 = .ok (.getfield 19, 3) := by decide +kernel
theorem dX6_forget_58 : decode cX6_forget 58 = .ok (.iload_n 1, 1) := by decide +kernel
theorem dX6_forget_59 : decode cX6_forget 59 = .ok (.aload_n 0, 1) := by decide +kernel
theorem dX6_forget_60 : decode cX6_forget 60 = .ok (.getfield 19, 3) := by decide +kernel
theorem dX6_forget_63 : decode cX6_forget 63 = .ok (.iload_n 1, 1) := by decide +kernel
theorem dX6_forget_64 : decode cX6_forget 64 = .ok (.iconst 1, 1) := by decide +kernel
theorem dX6_forget_65 : decode cX6_forget 65 = .ok (.iadd, 1) := by decide +kernel
theorem dX6_forget_66 : decode cX6_forget 66 = .ok (.iaload, 1) := by decide +kernel
theorem dX6_forget_67 : decode cX6_forget 67 = .ok (.iastore, 1) := by decide +kernel
theorem dX6_forget_68 : decode cX6_forget 68 = .ok (.aload_n 0, 1) := by decide +kernel
theorem dX6_forget_69 : decode cX6_forget 69 = .ok (.getfield 22, 3) := by decide +kernel
theorem dX6_forget_72 : decode cX6_forget 72 = .ok (.iload_n 1, 1) := by decide +kernel
theorem dX6_forget_73 : decode cX6_forget 73 = .ok (.aload_n 0, 1) := by decide +kernel
theorem dX6_forget_74 : decode cX6_forget 74 = .ok (.getfield 22, 3) := by decide +kernel
theorem dX6_forget_77 : decode cX6_forget 77 = .ok (.iload_n 1, 1) := by decide +kernel
theorem dX6_forget_78 : decode cX6_forget 78 = .ok (.iconst 1, 1) := by decide +kernel
theorem dX6_forget_79 : decode cX6_forget 79 = .ok (.iadd, 1) := by decide +kernel
theorem dX6_forget_80 : decode cX6_forget 80 = .ok (.iaload, 1) := by decide +kernel
theorem dX6_forget_81 : decode cX6_forget 81 = .ok (.iastore, 1) := by decide +kernel
theorem dX6_forget_82 : decode cX6_forget 82 = .ok (.aload_n 0, 1) := by decide +kernel
theorem dX6_forget_83 : decode cX6_forget 83 = .ok (.getfield 25, 3) := by decide +kernel
theorem dX6_forget_86 : decode cX6_forget 86 = .ok (.iload_n 1, 1) := by decide +kernel
theorem dX6_forget_87 : decode cX6_forget 87 = .ok (.aload_n 0, 1) := by decide +kernel
theorem dX6_forget_88 : decode cX6_forget 88 = .ok (.getfield 25, 3) := by decide +kernel
theorem dX6_forget_91 : decode cX6_forget 91 = .ok (.iload_n 1, 1) := by decide +kernel
theorem dX6_forget_92 : decode cX6_forget 92 = .ok (.iconst 1, 1) := by decide +kernel
theorem dX6_forget_93 : decode cX6_forget 93 = .ok (.iadd, 1) := by decide +kernel
theorem dX6_forget_94 : decode cX6_forget 94 = .ok (.iaload, 1) := by decide +kernel
theorem dX6_forget_95 : decode cX6_forget 95 = .ok (.iastore, 1) := by decide +kernel
theorem dX6_forget_96 : decode cX6_forget 96 = .ok (.aload_n 0, 1) := by decide +kernel
theorem dX6_forget_97 : decode cX6_forget 97 = .ok (.getfield 28, 3) := by decide +kernel
theorem dX6_forget_100 : decode cX6_forget 100 = .ok (.iload_n 1, 1) := by decide +kernel
theorem dX6_forget_101 : decode cX6_forget 101 = .ok (.aload_n 0, 1) := by decide +kernel
theorem dX6_forget_102 : decode cX6_forget 102 = .ok (.getfield 28, 3) := by decide +kernel
theorem dX6_forget_105 : decode cX6_forget 105 = .ok (.iload_n 1, 1) := by decide +kernel
theorem dX6_forget_106 : decode cX6_forget 106 = .ok (.iconst 1, 1) := by decide +kernel
theorem dX6_forget_107 : decode cX6_forget 107 = .ok (.iadd, 1) := by decide +kernel
theorem dX6_forget_108 : decode cX6_forget 108 = .ok (.iaload, 1) := by decide +kernel
theorem dX6_forget_109 : decode cX6_forget 109 = .ok (.iastore, 1) := by decide +kernel
theorem dX6_forget_110 : decode cX6_forget 110 = .ok (.aload_n 0, 1) := by decide +kernel
theorem dX6_forget_111 : decode cX6_forget 111 = .ok (.getfield 31, 3) := by decide +kernel
theorem dX6_forget_114 : decode cX6_forget 114 = .ok (.iload_n 1, 1) := by decide +kernel
theorem dX6_forget_115 : decode cX6_forget 115 = .ok (.aload_n 0, 1) := by decide +kernel
theorem dX6_forget_116 : decode cX6_forget 116 = .ok (.getfield 31, 3) := by decide +kernel
theorem dX6_forget_119 : decode cX6_forget 119 = .ok (.iload_n 1, 1) := by decide +kernel
theorem dX6_forget_120 : decode cX6_forget 120 = .ok (.iconst 1, 1) := by decide +kernel
theorem dX6_forget_121 : decode cX6_forget 121 = .ok (.iadd, 1) := by decide +kernel
theorem dX6_forget_122 : decode cX6_forget 122 = .ok (.iaload, 1) := by decide +kernel
theorem dX6_forget_123 : decode cX6_forget 123 = .ok (.iastore, 1) := by decide +kernel
theorem dX6_forget_124 : decode cX6_forget 124 = .ok (.iinc 1 1, 3) := by decide +kernel
theorem dX6_forget_127 : decode cX6_forget 127 = .ok (.goto (-125), 3) := by decide +kernel
theorem dX6_forget_130 : decode cX6_forget 130 = .ok (.aload_n 0, 1) := by decide +kernel
theorem dX6_forget_131 : decode cX6_forget 131 = .ok (.dup, 1) := by decide +kernel
theorem dX6_forget_132 : decode cX6_forget 132 = .ok (.getfield 47, 3) := by decide +kernel
theorem dX6_forget_135 : decode cX6_forget 135 = .ok (.iconst 1, 1) := by decide +kernel
theorem dX6_forget_136 : decode cX6_forget 136 = .ok (.isub, 1) := by decide +kernel
theorem dX6_forget_137 : decode cX6_forget 137 = .ok (.putfield 47, 3) := by decide +kernel
theorem dX6_forget_140 : decode cX6_forget 140 = .ok (.return_, 1) := by decide +kernel
set_option maxRecDepth 20000 in
theorem ggX6_remember_X6_forget : GoodIn wsX6_remember wsX6_forget := goodIn_r _ [15, 2, 3, 4, 5, 6, 8, 9, 1, 16, 17, 18, 14, 19, 7, 20, 21, 22, 23, 24, 25, 26, 27, 28, 29] (by decide +kernel) (by decide +kernel)
set_option maxRecDepth 20000 in
theorem gX6_remember_X6_forget : GoodIn wsX6_remember (wsV RX6 51 RX6 yX6_forget wsX6_forget) := goodIn_app (goodIn_of _ (by decide +kernel)) ggX6_remember_X6_forget
set_option maxRecDepth 20000 in
theorem ggX6_remember_X6_copy : GoodIn wsX6_remember wsX6_copy := goodIn_r _ [19, 7, 20, 21, 22, 23, 24, 25, 26, 27, 28, 29] (by decide +kernel) (by decide +kernel)
set_option maxRecDepth 20000 in
theorem gX6_remember_X6_copy : GoodIn wsX6_remember (wsV RX6 43 RX6 yX6_copy wsX6_copy) := goodIn_app (goodIn_of _ (by decide +kernel)) ggX6_remember_X6_copy
theorem dX6_remember_0 : decode cX6_remember 0 = .ok (.aload_n 0, 1) := by decide +kernel
theorem dX6_remember_1 : decode cX6_remember 1 = .ok (.getfield 47, 3) := by decide +kernel
theorem dX6_remember_4 : decode cX6_remember 4 = .ok (.bipush 12, 2) := by decide +kernel
theorem dX6_remember_6 : decode cX6_remember 6 = .ok (.if_icmp .ne 7, 3) := by decide +kernel
theorem dX6_remember_9 : decode cX6_remember 9 = .ok (.aload_n 0, 1) := by decide +kernel
theorem dX6_remember_10 : decode cX6_remember 10 = .ok (.invokevirtual 51, 3) := by decide +kernel
theorem dX6_remember_13 : decode cX6_remember 13 = .ok (.aload_n 0, 1) := by decide +kernel
theorem dX6_remember_14 : decode cX6_remember 14 = .ok (.iconst 0, 1) := by decide +kernel
theorem dX6_remember_15 : decode cX6_remember 15 = .ok (.sipush 346, 3) := by decide +kernel
theorem dX6_remember_18 : decode cX6_remember 18 = .ok (.aload_n 0, 1) := by decide +kernel
theorem dX6_remember_19 : decode cX6_remember 19 = .ok (.getfield 47, 3) := by decide +kernel
theorem dX6_remember_22 : decode cX6_remember 22 = .ok (.iconst 1, 1) := by decide +kernel
theorem dX6_remember_23 : decode cX6_remember 23 = .ok (.iadd, 1) := by decide +kernel
theorem dX6_remember_24 : decode cX6_remember 24 = .ok (.imul, 1) := by decide +kernel
theorem dX6_remember_25 : decode cX6_remember 25 = .ok (.invokevirtual 43, 3) := by decide +kernel
theorem dX6_remember_28 : decode cX6_remember 28 = .ok (.aload_n 0, 1) := by decide +kernel
theorem dX6_remember_29 : decode cX6_remember 29 = .ok (.getfield 13, 3) := by decide +kernel
theorem dX6_remember_32 : decode cX6_remember 32 = .ok (.aload_n 0, 1) := by decide +kernel
theorem dX6_remember_33 : decode cX6_remember 33 = .ok (.getfield 47, 3) := by decide +kernel
theorem dX6_remember_36 : decode cX6_remember 36 = .ok (.iload_n 1, 1) := by decide +kernel
theorem dX6_remember_37 : decode cX6_remember 37 = .ok (.iastore, 1) := by decide +kernel
theorem dX6_remember_38 : decode cX6_remember 38 = .ok (.aload_n 0, 1) := by decide +kernel
theorem dX6_remember_39 : decode cX6_remember 39 = .ok (.getfield 16, 3) := by decide +kernel
theorem dX6_remember_42 : decode cX6_remember 42 = .ok (.aload_n 0, 1) := by decide +kernel
theorem dX6_remember_43 : decode cX6_remember 43 = .ok (.getfield 47, 3) := by decide +kernel
theorem dX6_remember_46 : decode cX6_remember 46 = .ok (.iload_n 2, 1) := by decide +kernel
theorem dX6_remember_47 : decode cX6_remember 47 = .ok (.iastore, 1) := by decide +kernel
theorem dX6_remember_48 : decode cX6_remember 48 = .ok (.aload_n 0, 1) := by decide +kernel
theorem dX6_remember_49 : decode cX6_remember 49 = .ok (.getfield 19, 3) := by decide +kernel
theorem dX6_remember_52 : decode cX6_remember 52 = .ok (.aload_n 0, 1) := by decide +kernel
theorem dX6_remember_53 : decode cX6_remember 53 = .ok (.getfield 47, 3) := by decide +kernel
theorem dX6_remember_56 : decode cX6_remember 56 = .ok (.iload_n 3, 1) := by decide +kernel
theorem dX6_remember_57 : decode cX6_remember 57 = .ok (.iastore, 1) := by decide +kernel
theorem dX6_remember_58 : decode cX6_remember 58 = .ok (.aload_n 0, 1) := by decide +kernel
theorem dX6_remember_59 : decode cX6_remember 59 = .ok (.getfield 22, 3) := by decide +kernel
theorem dX6_remember_62 : decode cX6_remember 62 = .ok (.aload_n 0, 1) := by decide +kernel
theorem dX6_remember_63 : decode cX6_remember 63 = .ok (.getfield 47, 3) := by decide +kernel
theorem dX6_remember_66 : decode cX6_remember 66 = .ok (.iload 4, 2) := by decide +kernel
theorem dX6_remember_68 : decode cX6_remember 68 = .ok (.iastore, 1) := by decide +kernel
theorem dX6_remember_69 : decode cX6_remember 69 = .ok (.aload_n 0, 1) := by decide +kernel
theorem dX6_remember_70 : decode cX6_remember 70 = .ok (.getfield 25, 3) := by decide +kernel
theorem dX6_remember_73 : decode cX6_remember 73 = .ok (.aload_n 0, 1) := by decide +kernel
theorem dX6_remember_74 : decode cX6_remember 74 = .ok (.getfield 47, 3) := by decide +kernel
theorem dX6_remember_77 : decode cX6_remember 77 = .ok (.aload_n 0, 1) := by decide +kernel
theorem dX6_remember_78 : decode cX6_remember 78 = .ok (.getfield 7, 3) := by decide +kernel
theorem dX6_remember_81 : decode cX6_remember 81 = .ok (.iconst 0, 1) := by decide +kernel
theorem dX6_remember_82 : decode cX6_remember 82 = .ok (.iaload, 1) := by decide +kernel
theorem dX6_remember_83 : decode cX6_remember 83 = .ok (.iastore, 1) := by decide +kernel
theorem dX6_remember_84 : decode cX6_remember 84 = .ok (.aload_n 0, 1) := by decide +kernel
theorem dX6_remember_85 : decode cX6_remember 85 = .ok (.getfield 28, 3) := by decide +kernel
theorem dX6_remember_88 : decode cX6_remember 88 = .ok (.aload_n 0, 1) := by decide +kernel
theorem dX6_remember_89 : decode cX6_remember 89 = .ok (.getfield 47, 3) := by decide +kernel
theorem dX6_remember_92 : decode cX6_remember 92 = .ok (.iconst 0, 1) := by decide +kernel
theorem dX6_remember_93 : decode cX6_remember 93 = .ok (.iastore, 1) := by decide +kernel
theorem dX6_remember_94 : decode cX6_remember 94 = .ok (.aload_n 0, 1) := by decide +kernel
theorem dX6_remember_95 : decode cX6_remember 95 = .ok (.getfield 31, 3) := by decide +kernel
theorem dX6_remember_98 : decode cX6_remember 98 = .ok (.aload_n 0, 1) := by decide +kernel
theorem dX6_remember_99 : decode cX6_remember 99 = .ok (.getfield 47, 3) := by decide +kernel
theorem dX6_remember_102 : decode cX6_remember 102 = .ok (.aload_n 0, 1) := by decide +kernel
theorem dX6_remember_103 : decode cX6_remember 103 = .ok (.getfield 54, 3) := by decide +kernel
theorem dX6_remember_106 : decode cX6_remember 106 = .ok (.iastore, 1) := by decide +kernel
theorem dX6_remember_107 : decode cX6_remember 107 = .ok (.aload_n 0, 1) := by decide +kernel
theorem dX6_remember_108 : decode cX6_remember 108 = .ok (.dup, 1) := by decide +kernel
theorem dX6_remember_109 : decode cX6_remember 109 = .ok (.getfield 54, 3) := by decide +kernel
theorem dX6_remember_112 : decode cX6_remember 112 = .ok (.iconst 1, 1) := by decide +kernel
theorem dX6_remember_113 : decode cX6_remember 113 = .ok (.iadd, 1) := by decide +kernel
theorem dX6_remember_114 : decode cX6_remember 114 = .ok (.putfield 54, 3) := by decide +kernel
theorem dX6_remember_117 : decode cX6_remember 117 = .ok (.aload_n 0, 1) := by decide +kernel
theorem dX6_remember_118 : decode cX6_remember 118 = .ok (.dup, 1) := by decide +kernel
theorem dX6_remember_119 : decode cX6_remember 119 = .ok (.getfield 47, 3) := by decide +kernel
theorem dX6_remember_122 : decode cX6_remember 122 = .ok (.iconst 1, 1) := by decide +kernel
theorem dX6_remember_123 : decode cX6_remember 123 = .ok (.iadd, 1) := by decide +kernel
theorem dX6_remember_124 : decode cX6_remember 124 = .ok (.putfield 47, 3) := by decide +kernel
theorem dX6_remember_127 : decode cX6_remember 127 = .ok (.return_, 1) := by decide +kernel
set_option maxRecDepth 20000 in
theorem ggX6_undo_X6_copy : GoodIn wsX6_undo wsX6_copy := goodIn_r _ [10, 11, 12, 13, 14, 15, 16, 17, 18, 19, 20, 21] (by decide +kernel) (by decide +kernel)
set_option maxRecDepth 20000 in
theorem gX6_undo_X6_copy : GoodIn wsX6_undo (wsV RX6 43 RX6 yX6_copy wsX6_copy) := goodIn_app (goodIn_of _ (by decide +kernel)) ggX6_undo_X6_copy
theorem dX6_undo_0 : decode cX6_undo 0 = .ok (.aload_n 0, 1) := by decide +kernel
theorem dX6_undo_1 : decode cX6_undo 1 = .ok (.getfield 47, 3) := by decide +kernel
theorem dX6_undo_4 : decode cX6_undo 4 = .ok (.ifCond .ne 6, 3) := by decide +kernel
theorem dX6_undo_7 : decode cX6_undo 7 = .ok (.bipush (-2), 2) := by decide +kernel
theorem dX6_undo_9 : decode cX6_undo 9 = .ok (.ireturn, 1) := by decide +kernel
theorem dX6_undo_10 : decode cX6_undo 10 = .ok (.aload_n 0, 1) := by decide +kernel
theorem dX6_undo_11 : decode cX6_undo 11 = .ok (.dup, 1) := by decide +kernel
theorem dX6_undo_12 : decode cX6_undo 12 = .ok (.getfield 47, 3) := by decide +kernel
theorem dX6_undo_15 : decode cX6_undo 15 = .ok (.iconst 1, 1) := by decide +kernel
theorem dX6_undo_16 : decode cX6_undo 16 = .ok (.isub, 1) := by decide +kernel
theorem dX6_undo_17 : decode cX6_undo 17 = .ok (.putfield 47, 3) := by decide +kernel
theorem dX6_undo_20 : decode cX6_undo 20 = .ok (.aload_n 0, 1) := by decide +kernel
theorem dX6_undo_21 : decode cX6_undo 21 = .ok (.sipush 346, 3) := by decide +kernel
theorem dX6_undo_24 : decode cX6_undo 24 = .ok (.aload_n 0, 1) := by decide +kernel
theorem dX6_undo_25 : decode cX6_undo 25 = .ok (.getfield 47, 3) := by decide +kernel
theorem dX6_undo_28 : decode cX6_undo 28 = .ok (.iconst 1, 1) := by decide +kernel
theorem dX6_undo_29 : decode cX6_undo 29 = .ok (.iadd, 1) := by decide +kernel
theorem dX6_undo_30 : decode cX6_undo 30 = .ok (.imul, 1) := by decide +kernel
theorem dX6_undo_31 : decode cX6_undo 31 = .ok (.iconst 0, 1) := by decide +kernel
theorem dX6_undo_32 : decode cX6_undo 32 = .ok (.invokevirtual 43, 3) := by decide +kernel
theorem dX6_undo_35 : decode cX6_undo 35 = .ok (.iconst 0, 1) := by decide +kernel
theorem dX6_undo_36 : decode cX6_undo 36 = .ok (.istore_n 1, 1) := by decide +kernel
theorem dX6_undo_37 : decode cX6_undo 37 = .ok (.iload_n 1, 1) := by decide +kernel
theorem dX6_undo_38 : decode cX6_undo 38 = .ok (.aload_n 0, 1) := by decide +kernel
theorem dX6_undo_39 : decode cX6_undo 39 = .ok (.getfield 47, 3) := by decide +kernel
theorem dX6_undo_42 : decode cX6_undo 42 = .ok (.if_icmp .ge 57, 3) := by decide +kernel
theorem dX6_undo_45 : decode cX6_undo 45 = .ok (.aload_n 0, 1) := by decide +kernel
theorem dX6_undo_46 : decode cX6_undo 46 = .ok (.getfield 13, 3) := by decide +kernel
theorem dX6_undo_49 : decode cX6_undo 49 = .ok (.aload_n 0, 1) := by decide +kernel
theorem dX6_undo_50 : decode cX6_undo 50 = .ok (.getfield 47, 3) := by decide +kernel
theorem dX6_undo_53 : decode cX6_undo 53 = .ok (.iaload, 1) := by decide +kernel
theorem dX6_undo_54 : decode cX6_undo 54 = .ok (.bipush 10, 2) := by decide +kernel
theorem dX6_undo_56 : decode cX6_undo 56 = .ok (.if_icmp .ne 43, 3) := by decide +kernel
theorem dX6_undo_59 : decode cX6_undo 59 = .ok (.aload_n 0, 1) := by decide +kernel
theorem dX6_undo_60 : decode cX6_undo 60 = .ok (.getfield 28, 3) := by decide +kernel
theorem dX6_undo_63 : decode cX6_undo 63 = .ok (.iload_n 1, 1) := by decide +kernel
theorem dX6_undo_64 : decode cX6_undo 64 = .ok (.aload_n 0, 1) := by decide +kernel
theorem dX6_undo_65 : decode cX6_undo 65 = .ok (.getfield 31, 3) := by decide +kernel
theorem dX6_undo_68 : decode cX6_undo 68 = .ok (.iload_n 1, 1) := by decide +kernel
theorem dX6_undo_69 : decode cX6_undo 69 = .ok (.iaload, 1) := by decide +kernel
theorem dX6_undo_70 : decode cX6_undo 70 = .ok (.aload_n 0, 1) := by decide +kernel
theorem dX6_undo_71 : decode cX6_undo 71 = .ok (.getfield 16, 3) := by decide +kernel
theorem dX6_undo_74 : decode cX6_undo 74 = .ok (.aload_n 0, 1) := by decide +kernel
theorem dX6_undo_75 : decode cX6_undo 75 = .ok (.getfield 47, 3) := by decide +kernel
theorem dX6_undo_78 : decode cX6_undo 78 = .ok (.iaload, 1) := by decide +kernel
theorem dX6_undo_79 : decode cX6_undo 79 = .ok (.if_icmp .ne 7, 3) := by decide +kernel
theorem dX6_undo_82 : decode cX6_undo 82 = .ok (.iconst 0, 1) := by decide +kernel
theorem dX6_undo_83 : decode cX6_undo 83 = .ok (.goto 9, 3) := by decide +kernel
theorem dX6_undo_86 : decode cX6_undo 86 = .ok (.aload_n 0, 1) := by decide +kernel
theorem dX6_undo_87 : decode cX6_undo 87 = .ok (.getfield 28, 3) := by decide +kernel
theorem dX6_undo_90 : decode cX6_undo 90 = .ok (.iload_n 1, 1) := by decide +kernel
theorem dX6_undo_91 : decode cX6_undo 91 = .ok (.iaload, 1) := by decide +kernel
theorem dX6_undo_92 : decode cX6_undo 92 = .ok (.iastore, 1) := by decide +kernel
theorem dX6_undo_93 : decode cX6_undo 93 = .ok (.iinc 1 1, 3) := by decide +kernel
theorem dX6_undo_96 : decode cX6_undo 96 = .ok (.goto (-59), 3) := by decide +kernel
theorem dX6_undo_99 : decode cX6_undo 99 = .ok (.aload_n 0, 1) := by decide +kernel
theorem dX6_undo_100 : decode cX6_undo 100 = .ok (.getfield 47, 3) := by decide +kernel
theorem dX6_undo_103 : decode cX6_undo 103 = .ok (.ireturn, 1) := by decide +kernel
theorem dX6_deed_0 : decode cX6_deed 0 = .ok (.iload_n 1, 1) := by decide +kernel
theorem dX6_deed_1 : decode cX6_deed 1 = .ok (.ifCond .ge 5, 3) := by decide +kernel
theorem dX6_deed_4 : decode cX6_deed 4 = .ok (.iconst (-1), 1) := by decide +kernel
theorem dX6_deed_5 : decode cX6_deed 5 = .ok (.ireturn, 1) := by decide +kernel
theorem dX6_deed_6 : decode cX6_deed 6 = .ok (.iload_n 1, 1) := by decide +kernel
theorem dX6_deed_7 : decode cX6_deed 7 = .ok (.aload_n 0, 1) := by decide +kernel
theorem dX6_deed_8 : decode cX6_deed 8 = .ok (.getfield 47, 3) := by decide +kernel
theorem dX6_deed_11 : decode cX6_deed 11 = .ok (.if_icmp .ge 19, 3) := by decide +kernel
theorem dX6_deed_14 : decode cX6_deed 14 = .ok (.aload_n 0, 1) := by decide +kernel
theorem dX6_deed_15 : decode cX6_deed 15 = .ok (.getfield 13, 3) := by decide +kernel
theorem dX6_deed_18 : decode cX6_deed 18 = .ok (.aload_n 0, 1) := by decide +kernel
theorem dX6_deed_19 : decode cX6_deed 19 = .ok (.getfield 47, 3) := by decide +kernel
theorem dX6_deed_22 : decode cX6_deed 22 = .ok (.iconst 1, 1) := by decide +kernel
theorem dX6_deed_23 : decode cX6_deed 23 = .ok (.isub, 1) := by decide +kernel
theorem dX6_deed_24 : decode cX6_deed 24 = .ok (.iload_n 1, 1) := by decide +kernel
theorem dX6_deed_25 : decode cX6_deed 25 = .ok (.isub, 1) := by decide +kernel
theorem dX6_deed_26 : decode cX6_deed 26 = .ok (.iaload, 1) := by decide +kernel
theorem dX6_deed_27 : decode cX6_deed 27 = .ok (.goto 5, 3) := by decide +kernel
theorem dX6_deed_30 : decode cX6_deed 30 = .ok (.bipush (-9), 2) := by decide +kernel
theorem dX6_deed_32 : decode cX6_deed 32 = .ok (.ireturn, 1) := by decide +kernel
set_option maxRecDepth 20000 in
theorem ggX6_aboveOf_X6_of : GoodIn wsX6_aboveOf wsX6_of := goodIn_r _ [5] (by decide +kernel) (by decide +kernel)
set_option maxRecDepth 20000 in
theorem gX6_aboveOf_X6_of : GoodIn wsX6_aboveOf (va_wsS RX6 34 yX6_of wsX6_of) := goodIn_app (goodIn_of _ (by decide +kernel)) ggX6_aboveOf_X6_of
end
section
theorem dX6_aboveOf_0 : decode cX6_aboveOf 0 = .ok (.aload_n 0, 1) := by decide +kernel
theorem dX6_aboveOf_1 : decode cX6_aboveOf 1 = .ok (.getfield 7, 3) := by decide +kernel
theorem dX6_aboveOf_4 : decode cX6_aboveOf 4 = .ok (.iload_n 1, 1) := by decide +kernel
theorem dX6_aboveOf_5 : decode cX6_aboveOf 5 = .ok (.iconst 0, 1) := by decide +kernel
theorem dX6_aboveOf_6 : decode cX6_aboveOf 6 = .ok (.invokestatic 34, 3) := by decide +kernel
theorem dX6_aboveOf_9 : decode cX6_aboveOf 9 = .ok (.iaload, 1) := by decide +kernel
theorem dX6_aboveOf_10 : decode cX6_aboveOf 10 = .ok (.ireturn, 1) := by decide +kernel
set_option maxRecDepth 20000 in
theorem ggX6_depth_X6_aboveOf : GoodIn wsX6_depth wsX6_aboveOf := goodIn_r _ [5, 6, 7, 8, 4, 9, 10, 11, 12, 13, 14, 15, 16, 17, 18, 19] (by decide +kernel) (by decide +kernel)
set_option maxRecDepth 20000 in
theorem gX6_depth_X6_aboveOf : GoodIn wsX6_depth (wsV RX6 57 RX6 yX6_aboveOf wsX6_aboveOf) := goodIn_app (goodIn_of _ (by decide +kernel)) ggX6_depth_X6_aboveOf
theorem dX6_depth_0 : decode cX6_depth 0 = .ok (.iconst 0, 1) := by decide +kernel
theorem dX6_depth_1 : decode cX6_depth 1 = .ok (.istore_n 2, 1) := by decide +kernel
theorem dX6_depth_2 : decode cX6_depth 2 = .ok (.aload_n 0, 1) := by decide +kernel
theorem dX6_depth_3 : decode cX6_depth 3 = .ok (.iload_n 1, 1) := by decide +kernel
theorem dX6_depth_4 : decode cX6_depth 4 = .ok (.invokevirtual 57, 3) := by decide +kernel
theorem dX6_depth_7 : decode cX6_depth 7 = .ok (.istore_n 3, 1) := by decide +kernel
theorem dX6_depth_8 : decode cX6_depth 8 = .ok (.iload_n 3, 1) := by decide +kernel
theorem dX6_depth_9 : decode cX6_depth 9 = .ok (.bipush (-9), 2) := by decide +kernel
theorem dX6_depth_11 : decode cX6_depth 11 = .ok (.if_icmp .eq 15, 3) := by decide +kernel
theorem dX6_depth_14 : decode cX6_depth 14 = .ok (.iinc 2 1, 3) := by decide +kernel
theorem dX6_depth_17 : decode cX6_depth 17 = .ok (.aload_n 0, 1) := by decide +kernel
theorem dX6_depth_18 : decode cX6_depth 18 = .ok (.iload_n 3, 1) := by decide +kernel
theorem dX6_depth_19 : decode cX6_depth 19 = .ok (.invokevirtual 57, 3) := by decide +kernel
theorem dX6_depth_22 : decode cX6_depth 22 = .ok (.istore_n 3, 1) := by decide +kernel
theorem dX6_depth_23 : decode cX6_depth 23 = .ok (.goto (-15), 3) := by decide +kernel
theorem dX6_depth_26 : decode cX6_depth 26 = .ok (.iload_n 2, 1) := by decide +kernel
theorem dX6_depth_27 : decode cX6_depth 27 = .ok (.ireturn, 1) := by decide +kernel
set_option maxRecDepth 20000 in
theorem ggX6_isBelow_X6_aboveOf : GoodIn wsX6_isBelow wsX6_aboveOf := goodIn_r _ [5, 6, 7, 8, 4, 9, 10, 11, 12, 13, 14, 15, 16, 17, 18, 19] (by decide +kernel) (by decide +kernel)
set_option maxRecDepth 20000 in
theorem gX6_isBelow_X6_aboveOf : GoodIn wsX6_isBelow (wsV RX6 57 RX6 yX6_aboveOf wsX6_aboveOf) := goodIn_app (goodIn_of _ (by decide +kernel)) ggX6_isBelow_X6_aboveOf
theorem dX6_isBelow_0 : decode cX6_isBelow 0 = .ok (.aload_n 0, 1) := by decide +kernel
theorem dX6_isBelow_1 : decode cX6_isBelow 1 = .ok (.iload_n 1, 1) := by decide +kernel
theorem dX6_isBelow_2 : decode cX6_isBelow 2 = .ok (.invokevirtual 57, 3) := by decide +kernel
theorem dX6_isBelow_5 : decode cX6_isBelow 5 = .ok (.istore_n 3, 1) := by decide +kernel
theorem dX6_isBelow_6 : decode cX6_isBelow 6 = .ok (.iload_n 3, 1) := by decide +kernel
theorem dX6_isBelow_7 : decode cX6_isBelow 7 = .ok (.bipush (-9), 2) := by decide +kernel
theorem dX6_isBelow_9 : decode cX6_isBelow 9 = .ok (.if_icmp .eq 17, 3) := by decide +kernel
theorem dX6_isBelow_12 : decode cX6_isBelow 12 = .ok (.iload_n 3, 1) := by decide +kernel
theorem dX6_isBelow_13 : decode cX6_isBelow 13 = .ok (.iload_n 2, 1) := by decide +kernel
theorem dX6_isBelow_14 : decode cX6_isBelow 14 = .ok (.if_icmp .eq 12, 3) := by decide +kernel
theorem dX6_isBelow_17 : decode cX6_isBelow 17 = .ok (.aload_n 0, 1) := by decide +kernel
theorem dX6_isBelow_18 : decode cX6_isBelow 18 = .ok (.iload_n 3, 1) := by decide +kernel
theorem dX6_isBelow_19 : decode cX6_isBelow 19 = .ok (.invokevirtual 57, 3) := by decide +kernel
theorem dX6_isBelow_22 : decode cX6_isBelow 22 = .ok (.istore_n 3, 1) := by decide +kernel
theorem dX6_isBelow_23 : decode cX6_isBelow 23 = .ok (.goto (-17), 3) := by decide +kernel
theorem dX6_isBelow_26 : decode cX6_isBelow 26 = .ok (.iload_n 3, 1) := by decide +kernel
theorem dX6_isBelow_27 : decode cX6_isBelow 27 = .ok (.iload_n 2, 1) := by decide +kernel
theorem dX6_isBelow_28 : decode cX6_isBelow 28 = .ok (.if_icmp .ne 7, 3) := by decide +kernel
theorem dX6_isBelow_31 : decode cX6_isBelow 31 = .ok (.iconst 1, 1) := by decide +kernel
theorem dX6_isBelow_32 : decode cX6_isBelow 32 = .ok (.goto 4, 3) := by decide +kernel
theorem dX6_isBelow_35 : decode cX6_isBelow 35 = .ok (.iconst 0, 1) := by decide +kernel
theorem dX6_isBelow_36 : decode cX6_isBelow 36 = .ok (.ireturn, 1) := by decide +kernel
set_option maxRecDepth 20000 in
theorem ggX6_isBarred_X6_of : GoodIn wsX6_isBarred wsX6_of := goodIn_r _ [5] (by decide +kernel) (by decide +kernel)
set_option maxRecDepth 20000 in
theorem gX6_isBarred_X6_of : GoodIn wsX6_isBarred (va_wsS RX6 34 yX6_of wsX6_of) := goodIn_app (goodIn_of _ (by decide +kernel)) ggX6_isBarred_X6_of
set_option maxRecDepth 20000 in
theorem ggX6_isBarred_X6_aboveOf : GoodIn wsX6_isBarred wsX6_aboveOf := goodIn_r _ [9, 1, 2, 3, 4, 5, 10, 11, 12, 13, 14, 15, 16, 17, 18, 19] (by decide +kernel) (by decide +kernel)
set_option maxRecDepth 20000 in
theorem gX6_isBarred_X6_aboveOf : GoodIn wsX6_isBarred (wsV RX6 57 RX6 yX6_aboveOf wsX6_aboveOf) := goodIn_app (goodIn_of _ (by decide +kernel)) ggX6_isBarred_X6_aboveOf
theorem dX6_isBarred_0 : decode cX6_isBarred 0 = .ok (.iload_n 1, 1) := by decide +kernel
theorem dX6_isBarred_1 : decode cX6_isBarred 1 = .ok (.istore_n 2, 1) := by decide +kernel
theorem dX6_isBarred_2 : decode cX6_isBarred 2 = .ok (.iload_n 2, 1) := by decide +kernel
theorem dX6_isBarred_3 : decode cX6_isBarred 3 = .ok (.bipush (-9), 2) := by decide +kernel
theorem dX6_isBarred_5 : decode cX6_isBarred 5 = .ok (.if_icmp .eq 25, 3) := by decide +kernel
theorem dX6_isBarred_8 : decode cX6_isBarred 8 = .ok (.aload_n 0, 1) := by decide +kernel
theorem dX6_isBarred_9 : decode cX6_isBarred 9 = .ok (.getfield 7, 3) := by decide +kernel
theorem dX6_isBarred_12 : decode cX6_isBarred 12 = .ok (.iload_n 2, 1) := by decide +kernel
theorem dX6_isBarred_13 : decode cX6_isBarred 13 = .ok (.iconst 2, 1) := by decide +kernel
theorem dX6_isBarred_14 : decode cX6_isBarred 14 = .ok (.invokestatic 34, 3) := by decide +kernel
theorem dX6_isBarred_17 : decode cX6_isBarred 17 = .ok (.iaload, 1) := by decide +kernel
theorem dX6_isBarred_18 : decode cX6_isBarred 18 = .ok (.ifCond .ne 12, 3) := by decide +kernel
theorem dX6_isBarred_21 : decode cX6_isBarred 21 = .ok (.aload_n 0, 1) := by decide +kernel
theorem dX6_isBarred_22 : decode cX6_isBarred 22 = .ok (.iload_n 2, 1) := by decide +kernel
theorem dX6_isBarred_23 : decode cX6_isBarred 23 = .ok (.invokevirtual 57, 3) := by decide +kernel
theorem dX6_isBarred_26 : decode cX6_isBarred 26 = .ok (.istore_n 2, 1) := by decide +kernel
theorem dX6_isBarred_27 : decode cX6_isBarred 27 = .ok (.goto (-25), 3) := by decide +kernel
theorem dX6_isBarred_30 : decode cX6_isBarred 30 = .ok (.iload_n 2, 1) := by decide +kernel
theorem dX6_isBarred_31 : decode cX6_isBarred 31 = .ok (.bipush (-9), 2) := by decide +kernel
theorem dX6_isBarred_33 : decode cX6_isBarred 33 = .ok (.if_icmp .eq 7, 3) := by decide +kernel
theorem dX6_isBarred_36 : decode cX6_isBarred 36 = .ok (.iconst 1, 1) := by decide +kernel
theorem dX6_isBarred_37 : decode cX6_isBarred 37 = .ok (.goto 4, 3) := by decide +kernel
theorem dX6_isBarred_40 : decode cX6_isBarred 40 = .ok (.iconst 0, 1) := by decide +kernel
theorem dX6_isBarred_41 : decode cX6_isBarred 41 = .ok (.ireturn, 1) := by decide +kernel
set_option maxRecDepth 20000 in
theorem ggX6_barred_X6_isBarred : GoodIn wsX6_barred wsX6_isBarred := goodIn_r _ [6, 1, 7, 8, 5, 9, 10, 11, 12, 13, 14, 15, 16, 17, 18, 19, 20, 21, 22, 23] (by decide +kernel) (by decide +kernel)
set_option maxRecDepth 20000 in
theorem gX6_barred_X6_isBarred : GoodIn wsX6_barred (wsV RX6 61 RX6 yX6_isBarred wsX6_isBarred) := goodIn_app (goodIn_of _ (by decide +kernel)) ggX6_barred_X6_isBarred
theorem dX6_barred_0 : decode cX6_barred 0 = .ok (.iconst 0, 1) := by decide +kernel
theorem dX6_barred_1 : decode cX6_barred 1 = .ok (.istore_n 1, 1) := by decide +kernel
theorem dX6_barred_2 : decode cX6_barred 2 = .ok (.iconst 0, 1) := by decide +kernel
theorem dX6_barred_3 : decode cX6_barred 3 = .ok (.istore_n 2, 1) := by decide +kernel
theorem dX6_barred_4 : decode cX6_barred 4 = .ok (.iload_n 2, 1) := by decide +kernel
theorem dX6_barred_5 : decode cX6_barred 5 = .ok (.aload_n 0, 1) := by decide +kernel
theorem dX6_barred_6 : decode cX6_barred 6 = .ok (.getfield 7, 3) := by decide +kernel
theorem dX6_barred_9 : decode cX6_barred 9 = .ok (.iconst 1, 1) := by decide +kernel
theorem dX6_barred_10 : decode cX6_barred 10 = .ok (.iaload, 1) := by decide +kernel
theorem dX6_barred_11 : decode cX6_barred 11 = .ok (.if_icmp .ge 25, 3) := by decide +kernel
theorem dX6_barred_14 : decode cX6_barred 14 = .ok (.iload_n 1, 1) := by decide +kernel
theorem dX6_barred_15 : decode cX6_barred 15 = .ok (.aload_n 0, 1) := by decide +kernel
theorem dX6_barred_16 : decode cX6_barred 16 = .ok (.iload_n 2, 1) := by decide +kernel
theorem dX6_barred_17 : decode cX6_barred 17 = .ok (.invokevirtual 61, 3) := by decide +kernel
theorem dX6_barred_20 : decode cX6_barred 20 = .ok (.ifCond .eq 7, 3) := by decide +kernel
theorem dX6_barred_23 : decode cX6_barred 23 = .ok (.iconst 1, 1) := by decide +kernel
theorem dX6_barred_24 : decode cX6_barred 24 = .ok (.goto 4, 3) := by decide +kernel
theorem dX6_barred_27 : decode cX6_barred 27 = .ok (.iconst 0, 1) := by decide +kernel
theorem dX6_barred_28 : decode cX6_barred 28 = .ok (.iadd, 1) := by decide +kernel
theorem dX6_barred_29 : decode cX6_barred 29 = .ok (.istore_n 1, 1) := by decide +kernel
theorem dX6_barred_30 : decode cX6_barred 30 = .ok (.iinc 2 1, 3) := by decide +kernel
theorem dX6_barred_33 : decode cX6_barred 33 = .ok (.goto (-29), 3) := by decide +kernel
theorem dX6_barred_36 : decode cX6_barred 36 = .ok (.iload_n 1, 1) := by decide +kernel
theorem dX6_barred_37 : decode cX6_barred 37 = .ok (.ireturn, 1) := by decide +kernel
set_option maxRecDepth 20000 in
theorem ggX6_free_X6_of : GoodIn wsX6_free wsX6_of := goodIn_r _ [5] (by decide +kernel) (by decide +kernel)
set_option maxRecDepth 20000 in
theorem gX6_free_X6_of : GoodIn wsX6_free (va_wsS RX6 34 yX6_of wsX6_of) := goodIn_app (goodIn_of _ (by decide +kernel)) ggX6_free_X6_of
theorem dX6_free_0 : decode cX6_free 0 = .ok (.aload_n 0, 1) := by decide +kernel
theorem dX6_free_1 : decode cX6_free 1 = .ok (.getfield 7, 3) := by decide +kernel
theorem dX6_free_4 : decode cX6_free 4 = .ok (.iload_n 1, 1) := by decide +kernel
theorem dX6_free_5 : decode cX6_free 5 = .ok (.iconst 3, 1) := by decide +kernel
theorem dX6_free_6 : decode cX6_free 6 = .ok (.invokestatic 34, 3) := by decide +kernel
theorem dX6_free_9 : decode cX6_free 9 = .ok (.iaload, 1) := by decide +kernel
theorem dX6_free_10 : decode cX6_free 10 = .ok (.aload_n 0, 1) := by decide +kernel
theorem dX6_free_11 : decode cX6_free 11 = .ok (.getfield 7, 3) := by decide +kernel
theorem dX6_free_14 : decode cX6_free 14 = .ok (.iload_n 1, 1) := by decide +kernel
theorem dX6_free_15 : decode cX6_free 15 = .ok (.iconst 4, 1) := by decide +kernel
theorem dX6_free_16 : decode cX6_free 16 = .ok (.invokestatic 34, 3) := by decide +kernel
theorem dX6_free_19 : decode cX6_free 19 = .ok (.iaload, 1) := by decide +kernel
theorem dX6_free_20 : decode cX6_free 20 = .ok (.isub, 1) := by decide +kernel
theorem dX6_free_21 : decode cX6_free 21 = .ok (.aload_n 0, 1) := by decide +kernel
theorem dX6_free_22 : decode cX6_free 22 = .ok (.getfield 7, 3) := by decide +kernel
theorem dX6_free_25 : decode cX6_free 25 = .ok (.iload_n 1, 1) := by decide +kernel
theorem dX6_free_26 : decode cX6_free 26 = .ok (.iconst 5, 1) := by decide +kernel
theorem dX6_free_27 : decode cX6_free 27 = .ok (.invokestatic 34, 3) := by decide +kernel
theorem dX6_free_30 : decode cX6_free 30 = .ok (.iaload, 1) := by decide +kernel
theorem dX6_free_31 : decode cX6_free 31 = .ok (.isub, 1) := by decide +kernel
theorem dX6_free_32 : decode cX6_free 32 = .ok (.ireturn, 1) := by decide +kernel
set_option maxRecDepth 20000 in
theorem ggX6_make_X6_isHead : GoodIn wsX6_make wsX6_isHead := goodIn_r _ [6, 1, 7, 8, 5, 9, 42, 43, 44, 45, 46, 47, 48, 49, 50, 51] (by decide +kernel) (by decide +kernel)
set_option maxRecDepth 20000 in
theorem gX6_make_X6_isHead : GoodIn wsX6_make (wsV RX6 65 RX6 yX6_isHead wsX6_isHead) := goodIn_app (goodIn_of _ (by decide +kernel)) ggX6_make_X6_isHead
set_option maxRecDepth 20000 in
theorem ggX6_make_X6_in : GoodIn wsX6_make wsX6_in := goodIn_r _ [9] (by decide +kernel) (by decide +kernel)
set_option maxRecDepth 20000 in
theorem gX6_make_X6_in : GoodIn wsX6_make (va_wsS RX6 38 yX6_in wsX6_in) := goodIn_app (goodIn_of _ (by decide +kernel)) ggX6_make_X6_in
set_option maxRecDepth 20000 in
theorem ggX6_make_X6_depth : GoodIn wsX6_make wsX6_depth := goodIn_r _ [13, 14, 15, 16, 5, 17, 1, 18, 19, 20, 42, 43, 44, 45, 46, 47, 48, 49, 50, 51] (by decide +kernel) (by decide +kernel)
set_option maxRecDepth 20000 in
theorem gX6_make_X6_depth : GoodIn wsX6_make (wsV RX6 68 RX6 yX6_depth wsX6_depth) := goodIn_app (goodIn_of _ (by decide +kernel)) ggX6_make_X6_depth
set_option maxRecDepth 20000 in
theorem ggX6_make_X6_remember : GoodIn wsX6_make wsX6_remember := goodIn_r _ [24, 25, 26, 27, 28, 29, 30, 1, 31, 32, 33, 34, 35, 36, 5, 37, 38, 39, 40, 41, 42, 43, 44, 45, 46, 47, 48, 49, 50, 51] (by decide +kernel) (by decide +kernel)
set_option maxRecDepth 20000 in
theorem gX6_make_X6_remember : GoodIn wsX6_make (wsV RX6 71 RX6 yX6_remember wsX6_remember) := goodIn_app (goodIn_of _ (by decide +kernel)) ggX6_make_X6_remember
set_option maxRecDepth 20000 in
theorem ggX6_make_X6_of : GoodIn wsX6_make wsX6_of := goodIn_r _ [20] (by decide +kernel) (by decide +kernel)
set_option maxRecDepth 20000 in
theorem gX6_make_X6_of : GoodIn wsX6_make (va_wsS RX6 34 yX6_of wsX6_of) := goodIn_app (goodIn_of _ (by decide +kernel)) ggX6_make_X6_of
theorem dX6_make_0 : decode cX6_make 0 = .ok (.aload_n 0, 1) := by decide +kernel
theorem dX6_make_1 : decode cX6_make 1 = .ok (.iload_n 1, 1) := by decide +kernel
theorem dX6_make_2 : decode cX6_make 2 = .ok (.invokevirtual 65, 3) := by decide +kernel
theorem dX6_make_5 : decode cX6_make 5 = .ok (.ifCond .eq 13, 3) := by decide +kernel
theorem dX6_make_8 : decode cX6_make 8 = .ok (.iload_n 2, 1) := by decide +kernel
theorem dX6_make_9 : decode cX6_make 9 = .ok (.iconst 0, 1) := by decide +kernel
theorem dX6_make_10 : decode cX6_make 10 = .ok (.bipush 9, 2) := by decide +kernel
theorem dX6_make_12 : decode cX6_make 12 = .ok (.invokestatic 38, 3) := by decide +kernel
theorem dX6_make_15 : decode cX6_make 15 = .ok (.ifCond .ne 5, 3) := by decide +kernel
theorem dX6_make_18 : decode cX6_make 18 = .ok (.iconst (-1), 1) := by decide +kernel
theorem dX6_make_19 : decode cX6_make 19 = .ok (.ireturn, 1) := by decide +kernel
theorem dX6_make_20 : decode cX6_make 20 = .ok (.aload_n 0, 1) := by decide +kernel
theorem dX6_make_21 : decode cX6_make 21 = .ok (.iload_n 1, 1) := by decide +kernel
theorem dX6_make_22 : decode cX6_make 22 = .ok (.invokevirtual 68, 3) := by decide +kernel
theorem dX6_make_25 : decode cX6_make 25 = .ok (.iconst 4, 1) := by decide +kernel
theorem dX6_make_26 : decode cX6_make 26 = .ok (.if_icmp .ne 6, 3) := by decide +kernel
theorem dX6_make_29 : decode cX6_make 29 = .ok (.bipush (-2), 2) := by decide +kernel
theorem dX6_make_31 : decode cX6_make 31 = .ok (.ireturn, 1) := by decide +kernel
theorem dX6_make_32 : decode cX6_make 32 = .ok (.aload_n 0, 1) := by decide +kernel
theorem dX6_make_33 : decode cX6_make 33 = .ok (.getfield 7, 3) := by decide +kernel
theorem dX6_make_36 : decode cX6_make 36 = .ok (.iconst 1, 1) := by decide +kernel
theorem dX6_make_37 : decode cX6_make 37 = .ok (.iaload, 1) := by decide +kernel
theorem dX6_make_38 : decode cX6_make 38 = .ok (.bipush 20, 2) := by decide +kernel
theorem dX6_make_40 : decode cX6_make 40 = .ok (.if_icmp .ne 6, 3) := by decide +kernel
theorem dX6_make_43 : decode cX6_make 43 = .ok (.bipush (-3), 2) := by decide +kernel
theorem dX6_make_45 : decode cX6_make 45 = .ok (.ireturn, 1) := by decide +kernel
theorem dX6_make_46 : decode cX6_make 46 = .ok (.aload_n 0, 1) := by decide +kernel
theorem dX6_make_47 : decode cX6_make 47 = .ok (.iconst 0, 1) := by decide +kernel
theorem dX6_make_48 : decode cX6_make 48 = .ok (.iload_n 1, 1) := by decide +kernel
theorem dX6_make_49 : decode cX6_make 49 = .ok (.iload_n 2, 1) := by decide +kernel
theorem dX6_make_50 : decode cX6_make 50 = .ok (.iconst 0, 1) := by decide +kernel
theorem dX6_make_51 : decode cX6_make 51 = .ok (.invokevirtual 71, 3) := by decide +kernel
theorem dX6_make_54 : decode cX6_make 54 = .ok (.aload_n 0, 1) := by decide +kernel
theorem dX6_make_55 : decode cX6_make 55 = .ok (.getfield 7, 3) := by decide +kernel
theorem dX6_make_58 : decode cX6_make 58 = .ok (.iconst 1, 1) := by decide +kernel
theorem dX6_make_59 : decode cX6_make 59 = .ok (.iaload, 1) := by decide +kernel
theorem dX6_make_60 : decode cX6_make 60 = .ok (.istore_n 3, 1) := by decide +kernel
theorem dX6_make_61 : decode cX6_make 61 = .ok (.aload_n 0, 1) := by decide +kernel
theorem dX6_make_62 : decode cX6_make 62 = .ok (.getfield 7, 3) := by decide +kernel
theorem dX6_make_65 : decode cX6_make 65 = .ok (.iload_n 3, 1) := by decide +kernel
theorem dX6_make_66 : decode cX6_make 66 = .ok (.iconst 0, 1) := by decide +kernel
theorem dX6_make_67 : decode cX6_make 67 = .ok (.invokestatic 34, 3) := by decide +kernel
theorem dX6_make_70 : decode cX6_make 70 = .ok (.iload_n 1, 1) := by decide +kernel
theorem dX6_make_71 : decode cX6_make 71 = .ok (.iastore, 1) := by decide +kernel
theorem dX6_make_72 : decode cX6_make 72 = .ok (.aload_n 0, 1) := by decide +kernel
theorem dX6_make_73 : decode cX6_make 73 = .ok (.getfield 7, 3) := by decide +kernel
theorem dX6_make_76 : decode cX6_make 76 = .ok (.iload_n 3, 1) := by decide +kernel
theorem dX6_make_77 : decode cX6_make 77 = .ok (.iconst 1, 1) := by decide +kernel
theorem dX6_make_78 : decode cX6_make 78 = .ok (.invokestatic 34, 3) := by decide +kernel
theorem dX6_make_81 : decode cX6_make 81 = .ok (.iload_n 2, 1) := by decide +kernel
theorem dX6_make_82 : decode cX6_make 82 = .ok (.iastore, 1) := by decide +kernel
theorem dX6_make_83 : decode cX6_make 83 = .ok (.aload_n 0, 1) := by decide +kernel
theorem dX6_make_84 : decode cX6_make 84 = .ok (.getfield 7, 3) := by decide +kernel
theorem dX6_make_87 : decode cX6_make 87 = .ok (.iload_n 3, 1) := by decide +kernel
theorem dX6_make_88 : decode cX6_make 88 = .ok (.bipush 8, 2) := by decide +kernel
theorem dX6_make_90 : decode cX6_make 90 = .ok (.invokestatic 34, 3) := by decide +kernel
theorem dX6_make_93 : decode cX6_make 93 = .ok (.bipush 50, 2) := by decide +kernel
theorem dX6_make_95 : decode cX6_make 95 = .ok (.iastore, 1) := by decide +kernel
theorem dX6_make_96 : decode cX6_make 96 = .ok (.aload_n 0, 1) := by decide +kernel
theorem dX6_make_97 : decode cX6_make 97 = .ok (.getfield 7, 3) := by decide +kernel
theorem dX6_make_100 : decode cX6_make 100 = .ok (.iconst 1, 1) := by decide +kernel
theorem dX6_make_101 : decode cX6_make 101 = .ok (.dup2, 1) := by decide +kernel
theorem dX6_make_102 : decode cX6_make 102 = .ok (.iaload, 1) := by decide +kernel
theorem dX6_make_103 : decode cX6_make 103 = .ok (.iconst 1, 1) := by decide +kernel
theorem dX6_make_104 : decode cX6_make 104 = .ok (.iadd, 1) := by decide +kernel
theorem dX6_make_105 : decode cX6_make 105 = .ok (.iastore, 1) := by decide +kernel
theorem dX6_make_106 : decode cX6_make 106 = .ok (.iload_n 3, 1) := by decide +kernel
theorem dX6_make_107 : decode cX6_make 107 = .ok (.ireturn, 1) := by decide +kernel
set_option maxRecDepth 20000 in
theorem ggX6_allot_X6_isHead : GoodIn wsX6_allot wsX6_isHead := goodIn_r _ [7, 1, 8, 9, 6, 10, 39, 40, 41, 42, 43, 44, 45, 46, 47, 48] (by decide +kernel) (by decide +kernel)
set_option maxRecDepth 20000 in
theorem gX6_allot_X6_isHead : GoodIn wsX6_allot (wsV RX6 65 RX6 yX6_isHead wsX6_isHead) := goodIn_app (goodIn_of _ (by decide +kernel)) ggX6_allot_X6_isHead
set_option maxRecDepth 20000 in
theorem ggX6_allot_X6_isAmount : GoodIn wsX6_allot wsX6_isAmount := goodIn_r _ [13, 14, 8, 9, 6, 10] (by decide +kernel) (by decide +kernel)
set_option maxRecDepth 20000 in
theorem gX6_allot_X6_isAmount : GoodIn wsX6_allot (va_wsS RX6 75 yX6_isAmount wsX6_isAmount) := goodIn_app (goodIn_of _ (by decide +kernel)) ggX6_allot_X6_isAmount
set_option maxRecDepth 20000 in
theorem ggX6_allot_X6_of : GoodIn wsX6_allot wsX6_of := goodIn_r _ [17] (by decide +kernel) (by decide +kernel)
set_option maxRecDepth 20000 in
theorem gX6_allot_X6_of : GoodIn wsX6_allot (va_wsS RX6 34 yX6_of wsX6_of) := goodIn_app (goodIn_of _ (by decide +kernel)) ggX6_allot_X6_of
set_option maxRecDepth 20000 in
theorem ggX6_allot_X6_remember : GoodIn wsX6_allot wsX6_remember := goodIn_r _ [21, 22, 23, 24, 25, 26, 27, 1, 28, 29, 30, 31, 32, 33, 6, 34, 35, 36, 37, 38, 39, 40, 41, 42, 43, 44, 45, 46, 47, 48] (by decide +kernel) (by decide +kernel)
set_option maxRecDepth 20000 in
theorem gX6_allot_X6_remember : GoodIn wsX6_allot (wsV RX6 71 RX6 yX6_remember wsX6_remember) := goodIn_app (goodIn_of _ (by decide +kernel)) ggX6_allot_X6_remember
theorem dX6_allot_0 : decode cX6_allot 0 = .ok (.aload_n 0, 1) := by decide +kernel
theorem dX6_allot_1 : decode cX6_allot 1 = .ok (.iload_n 1, 1) := by decide +kernel
theorem dX6_allot_2 : decode cX6_allot 2 = .ok (.invokevirtual 65, 3) := by decide +kernel
theorem dX6_allot_5 : decode cX6_allot 5 = .ok (.ifCond .eq 10, 3) := by decide +kernel
theorem dX6_allot_8 : decode cX6_allot 8 = .ok (.iload_n 2, 1) := by decide +kernel
theorem dX6_allot_9 : decode cX6_allot 9 = .ok (.invokestatic 75, 3) := by decide +kernel
theorem dX6_allot_12 : decode cX6_allot 12 = .ok (.ifCond .ne 5, 3) := by decide +kernel
theorem dX6_allot_15 : decode cX6_allot 15 = .ok (.iconst (-1), 1) := by decide +kernel
theorem dX6_allot_16 : decode cX6_allot 16 = .ok (.ireturn, 1) := by decide +kernel
theorem dX6_allot_17 : decode cX6_allot 17 = .ok (.aload_n 0, 1) := by decide +kernel
theorem dX6_allot_18 : decode cX6_allot 18 = .ok (.getfield 7, 3) := by decide +kernel
theorem dX6_allot_21 : decode cX6_allot 21 = .ok (.iload_n 1, 1) := by decide +kernel
theorem dX6_allot_22 : decode cX6_allot 22 = .ok (.iconst 3, 1) := by decide +kernel
theorem dX6_allot_23 : decode cX6_allot 23 = .ok (.invokestatic 34, 3) := by decide +kernel
theorem dX6_allot_26 : decode cX6_allot 26 = .ok (.iaload, 1) := by decide +kernel
theorem dX6_allot_27 : decode cX6_allot 27 = .ok (.iload_n 2, 1) := by decide +kernel
theorem dX6_allot_28 : decode cX6_allot 28 = .ok (.iadd, 1) := by decide +kernel
theorem dX6_allot_29 : decode cX6_allot 29 = .ok (.ldc 78, 2) := by decide +kernel
theorem dX6_allot_31 : decode cX6_allot 31 = .ok (.if_icmp .le 6, 3) := by decide +kernel
theorem dX6_allot_34 : decode cX6_allot 34 = .ok (.bipush (-3), 2) := by decide +kernel
theorem dX6_allot_36 : decode cX6_allot 36 = .ok (.ireturn, 1) := by decide +kernel
theorem dX6_allot_37 : decode cX6_allot 37 = .ok (.aload_n 0, 1) := by decide +kernel
theorem dX6_allot_38 : decode cX6_allot 38 = .ok (.iconst 1, 1) := by decide +kernel
theorem dX6_allot_39 : decode cX6_allot 39 = .ok (.iload_n 1, 1) := by decide +kernel
theorem dX6_allot_40 : decode cX6_allot 40 = .ok (.iconst 0, 1) := by decide +kernel
theorem dX6_allot_41 : decode cX6_allot 41 = .ok (.iload_n 2, 1) := by decide +kernel
theorem dX6_allot_42 : decode cX6_allot 42 = .ok (.invokevirtual 71, 3) := by decide +kernel
theorem dX6_allot_45 : decode cX6_allot 45 = .ok (.aload_n 0, 1) := by decide +kernel
theorem dX6_allot_46 : decode cX6_allot 46 = .ok (.getfield 7, 3) := by decide +kernel
theorem dX6_allot_49 : decode cX6_allot 49 = .ok (.iload_n 1, 1) := by decide +kernel
theorem dX6_allot_50 : decode cX6_allot 50 = .ok (.iconst 3, 1) := by decide +kernel
theorem dX6_allot_51 : decode cX6_allot 51 = .ok (.invokestatic 34, 3) := by decide +kernel
theorem dX6_allot_54 : decode cX6_allot 54 = .ok (.dup2, 1) := by decide +kernel
theorem dX6_allot_55 : decode cX6_allot 55 = .ok (.iaload, 1) := by decide +kernel
theorem dX6_allot_56 : decode cX6_allot 56 = .ok (.iload_n 2, 1) := by decide +kernel
theorem dX6_allot_57 : decode cX6_allot 57 = .ok (.iadd, 1) := by decide +kernel
theorem dX6_allot_58 : decode cX6_allot 58 = .ok (.iastore, 1) := by decide +kernel
theorem dX6_allot_59 : decode cX6_allot 59 = .ok (.aload_n 0, 1) := by decide +kernel
theorem dX6_allot_60 : decode cX6_allot 60 = .ok (.getfield 7, 3) := by decide +kernel
theorem dX6_allot_63 : decode cX6_allot 63 = .ok (.iload_n 1, 1) := by decide +kernel
theorem dX6_allot_64 : decode cX6_allot 64 = .ok (.bipush 6, 2) := by decide +kernel
theorem dX6_allot_66 : decode cX6_allot 66 = .ok (.invokestatic 34, 3) := by decide +kernel
theorem dX6_allot_69 : decode cX6_allot 69 = .ok (.dup2, 1) := by decide +kernel
theorem dX6_allot_70 : decode cX6_allot 70 = .ok (.iaload, 1) := by decide +kernel
theorem dX6_allot_71 : decode cX6_allot 71 = .ok (.iload_n 2, 1) := by decide +kernel
theorem dX6_allot_72 : decode cX6_allot 72 = .ok (.iadd, 1) := by decide +kernel
theorem dX6_allot_73 : decode cX6_allot 73 = .ok (.iastore, 1) := by decide +kernel
theorem dX6_allot_74 : decode cX6_allot 74 = .ok (.aload_n 0, 1) := by decide +kernel
theorem dX6_allot_75 : decode cX6_allot 75 = .ok (.getfield 7, 3) := by decide +kernel
theorem dX6_allot_78 : decode cX6_allot 78 = .ok (.iload_n 1, 1) := by decide +kernel
theorem dX6_allot_79 : decode cX6_allot 79 = .ok (.iconst 3, 1) := by decide +kernel
theorem dX6_allot_80 : decode cX6_allot 80 = .ok (.invokestatic 34, 3) := by decide +kernel
theorem dX6_allot_83 : decode cX6_allot 83 = .ok (.iaload, 1) := by decide +kernel
theorem dX6_allot_84 : decode cX6_allot 84 = .ok (.ireturn, 1) := by decide +kernel
set_option maxRecDepth 20000 in
theorem ggX6_freeze_X6_isHead : GoodIn wsX6_freeze wsX6_isHead := goodIn_r _ [6, 1, 7, 8, 5, 9, 46, 47, 48, 49, 50, 51, 52, 53, 54, 55] (by decide +kernel) (by decide +kernel)
set_option maxRecDepth 20000 in
theorem gX6_freeze_X6_isHead : GoodIn wsX6_freeze (wsV RX6 65 RX6 yX6_isHead wsX6_isHead) := goodIn_app (goodIn_of _ (by decide +kernel)) ggX6_freeze_X6_isHead
set_option maxRecDepth 20000 in
theorem ggX6_freeze_X6_in : GoodIn wsX6_freeze wsX6_in := goodIn_r _ [9] (by decide +kernel) (by decide +kernel)
set_option maxRecDepth 20000 in
theorem gX6_freeze_X6_in : GoodIn wsX6_freeze (va_wsS RX6 38 yX6_in wsX6_in) := goodIn_app (goodIn_of _ (by decide +kernel)) ggX6_freeze_X6_in
set_option maxRecDepth 20000 in
theorem ggX6_freeze_X6_of : GoodIn wsX6_freeze wsX6_of := goodIn_r _ [12] (by decide +kernel) (by decide +kernel)
set_option maxRecDepth 20000 in
theorem gX6_freeze_X6_of : GoodIn wsX6_freeze (va_wsS RX6 34 yX6_of wsX6_of) := goodIn_app (goodIn_of _ (by decide +kernel)) ggX6_freeze_X6_of
set_option maxRecDepth 20000 in
theorem ggX6_freeze_X6_remember : GoodIn wsX6_freeze wsX6_remember := goodIn_r _ [16, 17, 18, 19, 20, 21, 22, 1, 23, 24, 25, 26, 27, 28, 5, 29, 30, 31, 32, 33, 46, 47, 48, 49, 50, 51, 52, 53, 54, 55] (by decide +kernel) (by decide +kernel)
set_option maxRecDepth 20000 in
theorem gX6_freeze_X6_remember : GoodIn wsX6_freeze (wsV RX6 71 RX6 yX6_remember wsX6_remember) := goodIn_app (goodIn_of _ (by decide +kernel)) ggX6_freeze_X6_remember
set_option maxRecDepth 20000 in
theorem ggX6_freeze_X6_barred : GoodIn wsX6_freeze wsX6_barred := goodIn_r _ [37, 1, 38, 39, 40, 5, 41, 10, 11, 12, 42, 43, 44, 45, 46, 47, 48, 49, 50, 51, 52, 53, 54, 55] (by decide +kernel) (by decide +kernel)
set_option maxRecDepth 20000 in
theorem gX6_freeze_X6_barred : GoodIn wsX6_freeze (wsV RX6 79 RX6 yX6_barred wsX6_barred) := goodIn_app (goodIn_of _ (by decide +kernel)) ggX6_freeze_X6_barred
theorem dX6_freeze_0 : decode cX6_freeze 0 = .ok (.aload_n 0, 1) := by decide +kernel
theorem dX6_freeze_1 : decode cX6_freeze 1 = .ok (.iload_n 1, 1) := by decide +kernel
theorem dX6_freeze_2 : decode cX6_freeze 2 = .ok (.invokevirtual 65, 3) := by decide +kernel
theorem dX6_freeze_5 : decode cX6_freeze 5 = .ok (.ifCond .eq 12, 3) := by decide +kernel
theorem dX6_freeze_8 : decode cX6_freeze 8 = .ok (.iload_n 2, 1) := by decide +kernel
theorem dX6_freeze_9 : decode cX6_freeze 9 = .ok (.iconst 0, 1) := by decide +kernel
theorem dX6_freeze_10 : decode cX6_freeze 10 = .ok (.iconst 1, 1) := by decide +kernel
theorem dX6_freeze_11 : decode cX6_freeze 11 = .ok (.invokestatic 38, 3) := by decide +kernel
theorem dX6_freeze_14 : decode cX6_freeze 14 = .ok (.ifCond .ne 5, 3) := by decide +kernel
theorem dX6_freeze_17 : decode cX6_freeze 17 = .ok (.iconst (-1), 1) := by decide +kernel
theorem dX6_freeze_18 : decode cX6_freeze 18 = .ok (.ireturn, 1) := by decide +kernel
theorem dX6_freeze_19 : decode cX6_freeze 19 = .ok (.aload_n 0, 1) := by decide +kernel
theorem dX6_freeze_20 : decode cX6_freeze 20 = .ok (.getfield 7, 3) := by decide +kernel
theorem dX6_freeze_23 : decode cX6_freeze 23 = .ok (.iload_n 1, 1) := by decide +kernel
theorem dX6_freeze_24 : decode cX6_freeze 24 = .ok (.iconst 2, 1) := by decide +kernel
theorem dX6_freeze_25 : decode cX6_freeze 25 = .ok (.invokestatic 34, 3) := by decide +kernel
theorem dX6_freeze_28 : decode cX6_freeze 28 = .ok (.iaload, 1) := by decide +kernel
theorem dX6_freeze_29 : decode cX6_freeze 29 = .ok (.iload_n 2, 1) := by decide +kernel
theorem dX6_freeze_30 : decode cX6_freeze 30 = .ok (.if_icmp .ne 6, 3) := by decide +kernel
theorem dX6_freeze_33 : decode cX6_freeze 33 = .ok (.bipush (-2), 2) := by decide +kernel
theorem dX6_freeze_35 : decode cX6_freeze 35 = .ok (.ireturn, 1) := by decide +kernel
theorem dX6_freeze_36 : decode cX6_freeze 36 = .ok (.aload_n 0, 1) := by decide +kernel
theorem dX6_freeze_37 : decode cX6_freeze 37 = .ok (.iconst 2, 1) := by decide +kernel
theorem dX6_freeze_38 : decode cX6_freeze 38 = .ok (.iload_n 1, 1) := by decide +kernel
theorem dX6_freeze_39 : decode cX6_freeze 39 = .ok (.iconst 0, 1) := by decide +kernel
theorem dX6_freeze_40 : decode cX6_freeze 40 = .ok (.iload_n 2, 1) := by decide +kernel
theorem dX6_freeze_41 : decode cX6_freeze 41 = .ok (.invokevirtual 71, 3) := by decide +kernel
theorem dX6_freeze_44 : decode cX6_freeze 44 = .ok (.aload_n 0, 1) := by decide +kernel
theorem dX6_freeze_45 : decode cX6_freeze 45 = .ok (.getfield 7, 3) := by decide +kernel
theorem dX6_freeze_48 : decode cX6_freeze 48 = .ok (.iload_n 1, 1) := by decide +kernel
theorem dX6_freeze_49 : decode cX6_freeze 49 = .ok (.iconst 2, 1) := by decide +kernel
theorem dX6_freeze_50 : decode cX6_freeze 50 = .ok (.invokestatic 34, 3) := by decide +kernel
theorem dX6_freeze_53 : decode cX6_freeze 53 = .ok (.iload_n 2, 1) := by decide +kernel
theorem dX6_freeze_54 : decode cX6_freeze 54 = .ok (.iastore, 1) := by decide +kernel
theorem dX6_freeze_55 : decode cX6_freeze 55 = .ok (.aload_n 0, 1) := by decide +kernel
theorem dX6_freeze_56 : decode cX6_freeze 56 = .ok (.invokevirtual 79, 3) := by decide +kernel
theorem dX6_freeze_59 : decode cX6_freeze 59 = .ok (.ireturn, 1) := by decide +kernel
set_option maxRecDepth 20000 in
theorem ggX6_setShare_X6_isHead : GoodIn wsX6_setShare wsX6_isHead := goodIn_r _ [6, 1, 7, 8, 5, 9, 34, 35, 36, 37, 38, 39, 40, 41, 42, 43] (by decide +kernel) (by decide +kernel)
set_option maxRecDepth 20000 in
theorem gX6_setShare_X6_isHead : GoodIn wsX6_setShare (wsV RX6 65 RX6 yX6_isHead wsX6_isHead) := goodIn_app (goodIn_of _ (by decide +kernel)) ggX6_setShare_X6_isHead
set_option maxRecDepth 20000 in
theorem ggX6_setShare_X6_in : GoodIn wsX6_setShare wsX6_in := goodIn_r _ [9] (by decide +kernel) (by decide +kernel)
set_option maxRecDepth 20000 in
theorem gX6_setShare_X6_in : GoodIn wsX6_setShare (va_wsS RX6 38 yX6_in wsX6_in) := goodIn_app (goodIn_of _ (by decide +kernel)) ggX6_setShare_X6_in
set_option maxRecDepth 20000 in
theorem ggX6_setShare_X6_remember : GoodIn wsX6_setShare wsX6_remember := goodIn_r _ [13, 14, 15, 16, 17, 18, 19, 1, 20, 21, 22, 23, 24, 25, 5, 26, 27, 28, 29, 30, 34, 35, 36, 37, 38, 39, 40, 41, 42, 43] (by decide +kernel) (by decide +kernel)
set_option maxRecDepth 20000 in
theorem gX6_setShare_X6_remember : GoodIn wsX6_setShare (wsV RX6 71 RX6 yX6_remember wsX6_remember) := goodIn_app (goodIn_of _ (by decide +kernel)) ggX6_setShare_X6_remember
set_option maxRecDepth 20000 in
theorem ggX6_setShare_X6_of : GoodIn wsX6_setShare wsX6_of := goodIn_r _ [33] (by decide +kernel) (by decide +kernel)
set_option maxRecDepth 20000 in
theorem gX6_setShare_X6_of : GoodIn wsX6_setShare (va_wsS RX6 34 yX6_of wsX6_of) := goodIn_app (goodIn_of _ (by decide +kernel)) ggX6_setShare_X6_of
theorem dX6_setShare_0 : decode cX6_setShare 0 = .ok (.aload_n 0, 1) := by decide +kernel
theorem dX6_setShare_1 : decode cX6_setShare 1 = .ok (.iload_n 1, 1) := by decide +kernel
theorem dX6_setShare_2 : decode cX6_setShare 2 = .ok (.invokevirtual 65, 3) := by decide +kernel
theorem dX6_setShare_5 : decode cX6_setShare 5 = .ok (.ifCond .eq 13, 3) := by decide +kernel
theorem dX6_setShare_8 : decode cX6_setShare 8 = .ok (.iload_n 2, 1) := by decide +kernel
theorem dX6_setShare_9 : decode cX6_setShare 9 = .ok (.iconst 0, 1) := by decide +kernel
theorem dX6_setShare_10 : decode cX6_setShare 10 = .ok (.bipush 100, 2) := by decide +kernel
theorem dX6_setShare_12 : decode cX6_setShare 12 = .ok (.invokestatic 38, 3) := by decide +kernel
theorem dX6_setShare_15 : decode cX6_setShare 15 = .ok (.ifCond .ne 5, 3) := by decide +kernel
theorem dX6_setShare_18 : decode cX6_setShare 18 = .ok (.iconst (-1), 1) := by decide +kernel
theorem dX6_setShare_19 : decode cX6_setShare 19 = .ok (.ireturn, 1) := by decide +kernel
theorem dX6_setShare_20 : decode cX6_setShare 20 = .ok (.aload_n 0, 1) := by decide +kernel
theorem dX6_setShare_21 : decode cX6_setShare 21 = .ok (.iconst 3, 1) := by decide +kernel
theorem dX6_setShare_22 : decode cX6_setShare 22 = .ok (.iload_n 1, 1) := by decide +kernel
theorem dX6_setShare_23 : decode cX6_setShare 23 = .ok (.iconst 0, 1) := by decide +kernel
theorem dX6_setShare_24 : decode cX6_setShare 24 = .ok (.iload_n 2, 1) := by decide +kernel
theorem dX6_setShare_25 : decode cX6_setShare 25 = .ok (.invokevirtual 71, 3) := by decide +kernel
theorem dX6_setShare_28 : decode cX6_setShare 28 = .ok (.aload_n 0, 1) := by decide +kernel
theorem dX6_setShare_29 : decode cX6_setShare 29 = .ok (.getfield 7, 3) := by decide +kernel
theorem dX6_setShare_32 : decode cX6_setShare 32 = .ok (.iload_n 1, 1) := by decide +kernel
theorem dX6_setShare_33 : decode cX6_setShare 33 = .ok (.bipush 8, 2) := by decide +kernel
theorem dX6_setShare_35 : decode cX6_setShare 35 = .ok (.invokestatic 34, 3) := by decide +kernel
theorem dX6_setShare_38 : decode cX6_setShare 38 = .ok (.iaload, 1) := by decide +kernel
theorem dX6_setShare_39 : decode cX6_setShare 39 = .ok (.istore_n 3, 1) := by decide +kernel
theorem dX6_setShare_40 : decode cX6_setShare 40 = .ok (.aload_n 0, 1) := by decide +kernel
theorem dX6_setShare_41 : decode cX6_setShare 41 = .ok (.getfield 7, 3) := by decide +kernel
theorem dX6_setShare_44 : decode cX6_setShare 44 = .ok (.iload_n 1, 1) := by decide +kernel
theorem dX6_setShare_45 : decode cX6_setShare 45 = .ok (.bipush 8, 2) := by decide +kernel
theorem dX6_setShare_47 : decode cX6_setShare 47 = .ok (.invokestatic 34, 3) := by decide +kernel
theorem dX6_setShare_50 : decode cX6_setShare 50 = .ok (.iload_n 2, 1) := by decide +kernel
theorem dX6_setShare_51 : decode cX6_setShare 51 = .ok (.iastore, 1) := by decide +kernel
theorem dX6_setShare_52 : decode cX6_setShare 52 = .ok (.iload_n 3, 1) := by decide +kernel
theorem dX6_setShare_53 : decode cX6_setShare 53 = .ok (.ireturn, 1) := by decide +kernel
set_option maxRecDepth 20000 in
theorem ggX6_setCarried_X6_in : GoodIn wsX6_setCarried wsX6_in := goodIn_r _ [5] (by decide +kernel) (by decide +kernel)
set_option maxRecDepth 20000 in
theorem gX6_setCarried_X6_in : GoodIn wsX6_setCarried (va_wsS RX6 38 yX6_in wsX6_in) := goodIn_app (goodIn_of _ (by decide +kernel)) ggX6_setCarried_X6_in
set_option maxRecDepth 20000 in
theorem ggX6_setCarried_X6_remember : GoodIn wsX6_setCarried wsX6_remember := goodIn_r _ [9, 10, 11, 12, 13, 14, 15, 1, 16, 17, 18, 19, 20, 21, 4, 22, 23, 24, 25, 26, 27, 28, 29, 30, 31, 32, 33, 34, 35, 36] (by decide +kernel) (by decide +kernel)
set_option maxRecDepth 20000 in
theorem gX6_setCarried_X6_remember : GoodIn wsX6_setCarried (wsV RX6 71 RX6 yX6_remember wsX6_remember) := goodIn_app (goodIn_of _ (by decide +kernel)) ggX6_setCarried_X6_remember
theorem dX6_setCarried_0 : decode cX6_setCarried 0 = .ok (.iload_n 1, 1) := by decide +kernel
theorem dX6_setCarried_1 : decode cX6_setCarried 1 = .ok (.iconst 0, 1) := by decide +kernel
theorem dX6_setCarried_2 : decode cX6_setCarried 2 = .ok (.bipush 100, 2) := by decide +kernel
theorem dX6_setCarried_4 : decode cX6_setCarried 4 = .ok (.invokestatic 38, 3) := by decide +kernel
theorem dX6_setCarried_7 : decode cX6_setCarried 7 = .ok (.ifCond .ne 5, 3) := by decide +kernel
theorem dX6_setCarried_10 : decode cX6_setCarried 10 = .ok (.iconst (-1), 1) := by decide +kernel
theorem dX6_setCarried_11 : decode cX6_setCarried 11 = .ok (.ireturn, 1) := by decide +kernel
theorem dX6_setCarried_12 : decode cX6_setCarried 12 = .ok (.aload_n 0, 1) := by decide +kernel
theorem dX6_setCarried_13 : decode cX6_setCarried 13 = .ok (.iconst 4, 1) := by decide +kernel
theorem dX6_setCarried_14 : decode cX6_setCarried 14 = .ok (.iconst 0, 1) := by decide +kernel
theorem dX6_setCarried_15 : decode cX6_setCarried 15 = .ok (.iconst 0, 1) := by decide +kernel
theorem dX6_setCarried_16 : decode cX6_setCarried 16 = .ok (.iload_n 1, 1) := by decide +kernel
theorem dX6_setCarried_17 : decode cX6_setCarried 17 = .ok (.invokevirtual 71, 3) := by decide +kernel
theorem dX6_setCarried_20 : decode cX6_setCarried 20 = .ok (.aload_n 0, 1) := by decide +kernel
theorem dX6_setCarried_21 : decode cX6_setCarried 21 = .ok (.getfield 7, 3) := by decide +kernel
theorem dX6_setCarried_24 : decode cX6_setCarried 24 = .ok (.iconst 3, 1) := by decide +kernel
theorem dX6_setCarried_25 : decode cX6_setCarried 25 = .ok (.iaload, 1) := by decide +kernel
theorem dX6_setCarried_26 : decode cX6_setCarried 26 = .ok (.istore_n 2, 1) := by decide +kernel
theorem dX6_setCarried_27 : decode cX6_setCarried 27 = .ok (.aload_n 0, 1) := by decide +kernel
theorem dX6_setCarried_28 : decode cX6_setCarried 28 = .ok (.getfield 7, 3) := by decide +kernel
theorem dX6_setCarried_31 : decode cX6_setCarried 31 = .ok (.iconst 3, 1) := by decide +kernel
theorem dX6_setCarried_32 : decode cX6_setCarried 32 = .ok (.iload_n 1, 1) := by decide +kernel
theorem dX6_setCarried_33 : decode cX6_setCarried 33 = .ok (.iastore, 1) := by decide +kernel
theorem dX6_setCarried_34 : decode cX6_setCarried 34 = .ok (.iload_n 2, 1) := by decide +kernel
theorem dX6_setCarried_35 : decode cX6_setCarried 35 = .ok (.ireturn, 1) := by decide +kernel
set_option maxRecDepth 20000 in
theorem ggX6_commit_X6_isHead : GoodIn wsX6_commit wsX6_isHead := goodIn_r _ [6, 1, 7, 8, 5, 9, 53, 54, 55, 56, 57, 58, 59, 60, 61, 62] (by decide +kernel) (by decide +kernel)
set_option maxRecDepth 20000 in
theorem gX6_commit_X6_isHead : GoodIn wsX6_commit (wsV RX6 65 RX6 yX6_isHead wsX6_isHead) := goodIn_app (goodIn_of _ (by decide +kernel)) ggX6_commit_X6_isHead
set_option maxRecDepth 20000 in
theorem ggX6_commit_X6_isAmount : GoodIn wsX6_commit wsX6_isAmount := goodIn_r _ [12, 13, 7, 8, 5, 9] (by decide +kernel) (by decide +kernel)
set_option maxRecDepth 20000 in
theorem gX6_commit_X6_isAmount : GoodIn wsX6_commit (va_wsS RX6 75 yX6_isAmount wsX6_isAmount) := goodIn_app (goodIn_of _ (by decide +kernel)) ggX6_commit_X6_isAmount
set_option maxRecDepth 20000 in
theorem ggX6_commit_X6_isBarred : GoodIn wsX6_commit wsX6_isBarred := goodIn_r _ [17, 1, 18, 19, 5, 20, 21, 22, 23, 24, 53, 54, 55, 56, 57, 58, 59, 60, 61, 62] (by decide +kernel) (by decide +kernel)
set_option maxRecDepth 20000 in
theorem gX6_commit_X6_isBarred : GoodIn wsX6_commit (wsV RX6 61 RX6 yX6_isBarred wsX6_isBarred) := goodIn_app (goodIn_of _ (by decide +kernel)) ggX6_commit_X6_isBarred
set_option maxRecDepth 20000 in
theorem ggX6_commit_X6_free : GoodIn wsX6_commit wsX6_free := goodIn_r _ [28, 1, 18, 19, 5, 20, 53, 54, 55, 56, 57, 58, 59, 60, 61, 62] (by decide +kernel) (by decide +kernel)
set_option maxRecDepth 20000 in
theorem gX6_commit_X6_free : GoodIn wsX6_commit (wsV RX6 83 RX6 yX6_free wsX6_free) := goodIn_app (goodIn_of _ (by decide +kernel)) ggX6_commit_X6_free
set_option maxRecDepth 20000 in
theorem ggX6_commit_X6_remember : GoodIn wsX6_commit wsX6_remember := goodIn_r _ [32, 33, 34, 35, 36, 37, 38, 1, 39, 40, 41, 42, 43, 44, 5, 45, 46, 47, 48, 49, 53, 54, 55, 56, 57, 58, 59, 60, 61, 62] (by decide +kernel) (by decide +kernel)
set_option maxRecDepth 20000 in
theorem gX6_commit_X6_remember : GoodIn wsX6_commit (wsV RX6 71 RX6 yX6_remember wsX6_remember) := goodIn_app (goodIn_of _ (by decide +kernel)) ggX6_commit_X6_remember
set_option maxRecDepth 20000 in
theorem ggX6_commit_X6_ofCommitment : GoodIn wsX6_commit wsX6_ofCommitment := goodIn_r _ [52] (by decide +kernel) (by decide +kernel)
set_option maxRecDepth 20000 in
theorem gX6_commit_X6_ofCommitment : GoodIn wsX6_commit (va_wsS RX6 86 yX6_ofCommitment wsX6_ofCommitment) := goodIn_app (goodIn_of _ (by decide +kernel)) ggX6_commit_X6_ofCommitment
set_option maxRecDepth 20000 in
theorem ggX6_commit_X6_of : GoodIn wsX6_commit wsX6_of := goodIn_r _ [20] (by decide +kernel) (by decide +kernel)
set_option maxRecDepth 20000 in
theorem gX6_commit_X6_of : GoodIn wsX6_commit (va_wsS RX6 34 yX6_of wsX6_of) := goodIn_app (goodIn_of _ (by decide +kernel)) ggX6_commit_X6_of
theorem dX6_commit_0 : decode cX6_commit 0 = .ok (.aload_n 0, 1) := by decide +kernel
theorem dX6_commit_1 : decode cX6_commit 1 = .ok (.iload_n 1, 1) := by decide +kernel
theorem dX6_commit_2 : decode cX6_commit 2 = .ok (.invokevirtual 65, 3) := by decide +kernel
theorem dX6_commit_5 : decode cX6_commit 5 = .ok (.ifCond .eq 10, 3) := by decide +kernel
theorem dX6_commit_8 : decode cX6_commit 8 = .ok (.iload_n 2, 1) := by decide +kernel
theorem dX6_commit_9 : decode cX6_commit 9 = .ok (.invokestatic 75, 3) := by decide +kernel
theorem dX6_commit_12 : decode cX6_commit 12 = .ok (.ifCond .ne 5, 3) := by decide +kernel
theorem dX6_commit_15 : decode cX6_commit 15 = .ok (.iconst (-1), 1) := by decide +kernel
theorem dX6_commit_16 : decode cX6_commit 16 = .ok (.ireturn, 1) := by decide +kernel
theorem dX6_commit_17 : decode cX6_commit 17 = .ok (.aload_n 0, 1) := by decide +kernel
theorem dX6_commit_18 : decode cX6_commit 18 = .ok (.iload_n 1, 1) := by decide +kernel
theorem dX6_commit_19 : decode cX6_commit 19 = .ok (.invokevirtual 61, 3) := by decide +kernel
theorem dX6_commit_22 : decode cX6_commit 22 = .ok (.ifCond .ne 12, 3) := by decide +kernel
theorem dX6_commit_25 : decode cX6_commit 25 = .ok (.iload_n 2, 1) := by decide +kernel
theorem dX6_commit_26 : decode cX6_commit 26 = .ok (.aload_n 0, 1) := by decide +kernel
theorem dX6_commit_27 : decode cX6_commit 27 = .ok (.iload_n 1, 1) := by decide +kernel
theorem dX6_commit_28 : decode cX6_commit 28 = .ok (.invokevirtual 83, 3) := by decide +kernel
theorem dX6_commit_31 : decode cX6_commit 31 = .ok (.if_icmp .le 6, 3) := by decide +kernel
theorem dX6_commit_34 : decode cX6_commit 34 = .ok (.bipush (-2), 2) := by decide +kernel
theorem dX6_commit_36 : decode cX6_commit 36 = .ok (.ireturn, 1) := by decide +kernel
theorem dX6_commit_37 : decode cX6_commit 37 = .ok (.aload_n 0, 1) := by decide +kernel
theorem dX6_commit_38 : decode cX6_commit 38 = .ok (.getfield 7, 3) := by decide +kernel
theorem dX6_commit_41 : decode cX6_commit 41 = .ok (.iconst 2, 1) := by decide +kernel
theorem dX6_commit_42 : decode cX6_commit 42 = .ok (.iaload, 1) := by decide +kernel
theorem dX6_commit_43 : decode cX6_commit 43 = .ok (.bipush 40, 2) := by decide +kernel
theorem dX6_commit_45 : decode cX6_commit 45 = .ok (.if_icmp .ne 6, 3) := by decide +kernel
theorem dX6_commit_48 : decode cX6_commit 48 = .ok (.bipush (-3), 2) := by decide +kernel
theorem dX6_commit_50 : decode cX6_commit 50 = .ok (.ireturn, 1) := by decide +kernel
theorem dX6_commit_51 : decode cX6_commit 51 = .ok (.aload_n 0, 1) := by decide +kernel
theorem dX6_commit_52 : decode cX6_commit 52 = .ok (.getfield 7, 3) := by decide +kernel
theorem dX6_commit_55 : decode cX6_commit 55 = .ok (.iconst 2, 1) := by decide +kernel
theorem dX6_commit_56 : decode cX6_commit 56 = .ok (.iaload, 1) := by decide +kernel
theorem dX6_commit_57 : decode cX6_commit 57 = .ok (.istore_n 3, 1) := by decide +kernel
theorem dX6_commit_58 : decode cX6_commit 58 = .ok (.aload_n 0, 1) := by decide +kernel
theorem dX6_commit_59 : decode cX6_commit 59 = .ok (.iconst 5, 1) := by decide +kernel
theorem dX6_commit_60 : decode cX6_commit 60 = .ok (.iload_n 3, 1) := by decide +kernel
theorem dX6_commit_61 : decode cX6_commit 61 = .ok (.iconst 0, 1) := by decide +kernel
theorem dX6_commit_62 : decode cX6_commit 62 = .ok (.iload_n 2, 1) := by decide +kernel
theorem dX6_commit_63 : decode cX6_commit 63 = .ok (.invokevirtual 71, 3) := by decide +kernel
theorem dX6_commit_66 : decode cX6_commit 66 = .ok (.aload_n 0, 1) := by decide +kernel
theorem dX6_commit_67 : decode cX6_commit 67 = .ok (.getfield 7, 3) := by decide +kernel
theorem dX6_commit_70 : decode cX6_commit 70 = .ok (.iload_n 3, 1) := by decide +kernel
theorem dX6_commit_71 : decode cX6_commit 71 = .ok (.iconst 0, 1) := by decide +kernel
theorem dX6_commit_72 : decode cX6_commit 72 = .ok (.invokestatic 86, 3) := by decide +kernel
theorem dX6_commit_75 : decode cX6_commit 75 = .ok (.iload_n 1, 1) := by decide +kernel
theorem dX6_commit_76 : decode cX6_commit 76 = .ok (.iastore, 1) := by decide +kernel
theorem dX6_commit_77 : decode cX6_commit 77 = .ok (.aload_n 0, 1) := by decide +kernel
theorem dX6_commit_78 : decode cX6_commit 78 = .ok (.getfield 7, 3) := by decide +kernel
theorem dX6_commit_81 : decode cX6_commit 81 = .ok (.iload_n 3, 1) := by decide +kernel
theorem dX6_commit_82 : decode cX6_commit 82 = .ok (.iconst 1, 1) := by decide +kernel
theorem dX6_commit_83 : decode cX6_commit 83 = .ok (.invokestatic 86, 3) := by decide +kernel
theorem dX6_commit_86 : decode cX6_commit 86 = .ok (.iload_n 2, 1) := by decide +kernel
theorem dX6_commit_87 : decode cX6_commit 87 = .ok (.iastore, 1) := by decide +kernel
theorem dX6_commit_88 : decode cX6_commit 88 = .ok (.aload_n 0, 1) := by decide +kernel
theorem dX6_commit_89 : decode cX6_commit 89 = .ok (.getfield 7, 3) := by decide +kernel
theorem dX6_commit_92 : decode cX6_commit 92 = .ok (.iload_n 3, 1) := by decide +kernel
theorem dX6_commit_93 : decode cX6_commit 93 = .ok (.iconst 2, 1) := by decide +kernel
theorem dX6_commit_94 : decode cX6_commit 94 = .ok (.invokestatic 86, 3) := by decide +kernel
theorem dX6_commit_97 : decode cX6_commit 97 = .ok (.iconst 0, 1) := by decide +kernel
theorem dX6_commit_98 : decode cX6_commit 98 = .ok (.iastore, 1) := by decide +kernel
theorem dX6_commit_99 : decode cX6_commit 99 = .ok (.aload_n 0, 1) := by decide +kernel
theorem dX6_commit_100 : decode cX6_commit 100 = .ok (.getfield 7, 3) := by decide +kernel
theorem dX6_commit_103 : decode cX6_commit 103 = .ok (.iload_n 3, 1) := by decide +kernel
theorem dX6_commit_104 : decode cX6_commit 104 = .ok (.iconst 3, 1) := by decide +kernel
theorem dX6_commit_105 : decode cX6_commit 105 = .ok (.invokestatic 86, 3) := by decide +kernel
theorem dX6_commit_108 : decode cX6_commit 108 = .ok (.aload_n 0, 1) := by decide +kernel
theorem dX6_commit_109 : decode cX6_commit 109 = .ok (.getfield 7, 3) := by decide +kernel
theorem dX6_commit_112 : decode cX6_commit 112 = .ok (.iconst 0, 1) := by decide +kernel
theorem dX6_commit_113 : decode cX6_commit 113 = .ok (.iaload, 1) := by decide +kernel
theorem dX6_commit_114 : decode cX6_commit 114 = .ok (.iastore, 1) := by decide +kernel
theorem dX6_commit_115 : decode cX6_commit 115 = .ok (.aload_n 0, 1) := by decide +kernel
theorem dX6_commit_116 : decode cX6_commit 116 = .ok (.getfield 7, 3) := by decide +kernel
theorem dX6_commit_119 : decode cX6_commit 119 = .ok (.iload_n 1, 1) := by decide +kernel
theorem dX6_commit_120 : decode cX6_commit 120 = .ok (.iconst 4, 1) := by decide +kernel
theorem dX6_commit_121 : decode cX6_commit 121 = .ok (.invokestatic 34, 3) := by decide +kernel
theorem dX6_commit_124 : decode cX6_commit 124 = .ok (.dup2, 1) := by decide +kernel
theorem dX6_commit_125 : decode cX6_commit 125 = .ok (.iaload, 1) := by decide +kernel
theorem dX6_commit_126 : decode cX6_commit 126 = .ok (.iload_n 2, 1) := by decide +kernel
theorem dX6_commit_127 : decode cX6_commit 127 = .ok (.iadd, 1) := by decide +kernel
theorem dX6_commit_128 : decode cX6_commit 128 = .ok (.iastore, 1) := by decide +kernel
theorem dX6_commit_129 : decode cX6_commit 129 = .ok (.aload_n 0, 1) := by decide +kernel
theorem dX6_commit_130 : decode cX6_commit 130 = .ok (.getfield 7, 3) := by decide +kernel
theorem dX6_commit_133 : decode cX6_commit 133 = .ok (.iconst 2, 1) := by decide +kernel
theorem dX6_commit_134 : decode cX6_commit 134 = .ok (.dup2, 1) := by decide +kernel
theorem dX6_commit_135 : decode cX6_commit 135 = .ok (.iaload, 1) := by decide +kernel
theorem dX6_commit_136 : decode cX6_commit 136 = .ok (.iconst 1, 1) := by decide +kernel
theorem dX6_commit_137 : decode cX6_commit 137 = .ok (.iadd, 1) := by decide +kernel
theorem dX6_commit_138 : decode cX6_commit 138 = .ok (.iastore, 1) := by decide +kernel
theorem dX6_commit_139 : decode cX6_commit 139 = .ok (.iload_n 3, 1) := by decide +kernel
theorem dX6_commit_140 : decode cX6_commit 140 = .ok (.ireturn, 1) := by decide +kernel
set_option maxRecDepth 20000 in
theorem ggX6_pay_X6_isCommitment : GoodIn wsX6_pay wsX6_isCommitment := goodIn_r _ [6, 1, 7, 8, 5, 9, 41, 42, 43, 44, 45, 46, 47, 48, 49, 50] (by decide +kernel) (by decide +kernel)
set_option maxRecDepth 20000 in
theorem gX6_pay_X6_isCommitment : GoodIn wsX6_pay (wsV RX6 89 RX6 yX6_isCommitment wsX6_isCommitment) := goodIn_app (goodIn_of _ (by decide +kernel)) ggX6_pay_X6_isCommitment
set_option maxRecDepth 20000 in
theorem ggX6_pay_X6_isAmount : GoodIn wsX6_pay wsX6_isAmount := goodIn_r _ [12, 13, 7, 8, 5, 9] (by decide +kernel) (by decide +kernel)
set_option maxRecDepth 20000 in
theorem gX6_pay_X6_isAmount : GoodIn wsX6_pay (va_wsS RX6 75 yX6_isAmount wsX6_isAmount) := goodIn_app (goodIn_of _ (by decide +kernel)) ggX6_pay_X6_isAmount
set_option maxRecDepth 20000 in
theorem ggX6_pay_X6_ofCommitment : GoodIn wsX6_pay wsX6_ofCommitment := goodIn_r _ [16] (by decide +kernel) (by decide +kernel)
set_option maxRecDepth 20000 in
theorem gX6_pay_X6_ofCommitment : GoodIn wsX6_pay (va_wsS RX6 86 yX6_ofCommitment wsX6_ofCommitment) := goodIn_app (goodIn_of _ (by decide +kernel)) ggX6_pay_X6_ofCommitment
set_option maxRecDepth 20000 in
theorem ggX6_pay_X6_remember : GoodIn wsX6_pay wsX6_remember := goodIn_r _ [20, 21, 22, 23, 24, 25, 26, 1, 27, 28, 29, 30, 31, 32, 5, 33, 34, 35, 36, 37, 41, 42, 43, 44, 45, 46, 47, 48, 49, 50] (by decide +kernel) (by decide +kernel)
set_option maxRecDepth 20000 in
theorem gX6_pay_X6_remember : GoodIn wsX6_pay (wsV RX6 71 RX6 yX6_remember wsX6_remember) := goodIn_app (goodIn_of _ (by decide +kernel)) ggX6_pay_X6_remember
set_option maxRecDepth 20000 in
theorem ggX6_pay_X6_of : GoodIn wsX6_pay wsX6_of := goodIn_r _ [40] (by decide +kernel) (by decide +kernel)
set_option maxRecDepth 20000 in
theorem gX6_pay_X6_of : GoodIn wsX6_pay (va_wsS RX6 34 yX6_of wsX6_of) := goodIn_app (goodIn_of _ (by decide +kernel)) ggX6_pay_X6_of
theorem dX6_pay_0 : decode cX6_pay 0 = .ok (.aload_n 0, 1) := by decide +kernel
theorem dX6_pay_1 : decode cX6_pay 1 = .ok (.iload_n 1, 1) := by decide +kernel
theorem dX6_pay_2 : decode cX6_pay 2 = .ok (.invokevirtual 89, 3) := by decide +kernel
theorem dX6_pay_5 : decode cX6_pay 5 = .ok (.ifCond .eq 10, 3) := by decide +kernel
theorem dX6_pay_8 : decode cX6_pay 8 = .ok (.iload_n 2, 1) := by decide +kernel
theorem dX6_pay_9 : decode cX6_pay 9 = .ok (.invokestatic 75, 3) := by decide +kernel
theorem dX6_pay_12 : decode cX6_pay 12 = .ok (.ifCond .ne 5, 3) := by decide +kernel
theorem dX6_pay_15 : decode cX6_pay 15 = .ok (.iconst (-1), 1) := by decide +kernel
theorem dX6_pay_16 : decode cX6_pay 16 = .ok (.ireturn, 1) := by decide +kernel
theorem dX6_pay_17 : decode cX6_pay 17 = .ok (.aload_n 0, 1) := by decide +kernel
theorem dX6_pay_18 : decode cX6_pay 18 = .ok (.getfield 7, 3) := by decide +kernel
theorem dX6_pay_21 : decode cX6_pay 21 = .ok (.iload_n 1, 1) := by decide +kernel
theorem dX6_pay_22 : decode cX6_pay 22 = .ok (.iconst 1, 1) := by decide +kernel
theorem dX6_pay_23 : decode cX6_pay 23 = .ok (.invokestatic 86, 3) := by decide +kernel
theorem dX6_pay_26 : decode cX6_pay 26 = .ok (.iaload, 1) := by decide +kernel
theorem dX6_pay_27 : decode cX6_pay 27 = .ok (.iload_n 2, 1) := by decide +kernel
theorem dX6_pay_28 : decode cX6_pay 28 = .ok (.if_icmp .ge 6, 3) := by decide +kernel
theorem dX6_pay_31 : decode cX6_pay 31 = .ok (.bipush (-2), 2) := by decide +kernel
theorem dX6_pay_33 : decode cX6_pay 33 = .ok (.ireturn, 1) := by decide +kernel
theorem dX6_pay_34 : decode cX6_pay 34 = .ok (.aload_n 0, 1) := by decide +kernel
theorem dX6_pay_35 : decode cX6_pay 35 = .ok (.bipush 6, 2) := by decide +kernel
theorem dX6_pay_37 : decode cX6_pay 37 = .ok (.iload_n 1, 1) := by decide +kernel
theorem dX6_pay_38 : decode cX6_pay 38 = .ok (.iconst 0, 1) := by decide +kernel
theorem dX6_pay_39 : decode cX6_pay 39 = .ok (.iload_n 2, 1) := by decide +kernel
theorem dX6_pay_40 : decode cX6_pay 40 = .ok (.invokevirtual 71, 3) := by decide +kernel
theorem dX6_pay_43 : decode cX6_pay 43 = .ok (.aload_n 0, 1) := by decide +kernel
theorem dX6_pay_44 : decode cX6_pay 44 = .ok (.getfield 7, 3) := by decide +kernel
theorem dX6_pay_47 : decode cX6_pay 47 = .ok (.iload_n 1, 1) := by decide +kernel
theorem dX6_pay_48 : decode cX6_pay 48 = .ok (.iconst 0, 1) := by decide +kernel
theorem dX6_pay_49 : decode cX6_pay 49 = .ok (.invokestatic 86, 3) := by decide +kernel
theorem dX6_pay_52 : decode cX6_pay 52 = .ok (.iaload, 1) := by decide +kernel
theorem dX6_pay_53 : decode cX6_pay 53 = .ok (.istore_n 3, 1) := by decide +kernel
theorem dX6_pay_54 : decode cX6_pay 54 = .ok (.aload_n 0, 1) := by decide +kernel
theorem dX6_pay_55 : decode cX6_pay 55 = .ok (.getfield 7, 3) := by decide +kernel
theorem dX6_pay_58 : decode cX6_pay 58 = .ok (.iload_n 1, 1) := by decide +kernel
theorem dX6_pay_59 : decode cX6_pay 59 = .ok (.iconst 1, 1) := by decide +kernel
theorem dX6_pay_60 : decode cX6_pay 60 = .ok (.invokestatic 86, 3) := by decide +kernel
theorem dX6_pay_63 : decode cX6_pay 63 = .ok (.dup2, 1) := by decide +kernel
theorem dX6_pay_64 : decode cX6_pay 64 = .ok (.iaload, 1) := by decide +kernel
theorem dX6_pay_65 : decode cX6_pay 65 = .ok (.iload_n 2, 1) := by decide +kernel
theorem dX6_pay_66 : decode cX6_pay 66 = .ok (.isub, 1) := by decide +kernel
theorem dX6_pay_67 : decode cX6_pay 67 = .ok (.iastore, 1) := by decide +kernel
theorem dX6_pay_68 : decode cX6_pay 68 = .ok (.aload_n 0, 1) := by decide +kernel
theorem dX6_pay_69 : decode cX6_pay 69 = .ok (.getfield 7, 3) := by decide +kernel
theorem dX6_pay_72 : decode cX6_pay 72 = .ok (.iload_n 1, 1) := by decide +kernel
theorem dX6_pay_73 : decode cX6_pay 73 = .ok (.iconst 2, 1) := by decide +kernel
theorem dX6_pay_74 : decode cX6_pay 74 = .ok (.invokestatic 86, 3) := by decide +kernel
theorem dX6_pay_77 : decode cX6_pay 77 = .ok (.dup2, 1) := by decide +kernel
theorem dX6_pay_78 : decode cX6_pay 78 = .ok (.iaload, 1) := by decide +kernel
theorem dX6_pay_79 : decode cX6_pay 79 = .ok (.iload_n 2, 1) := by decide +kernel
theorem dX6_pay_80 : decode cX6_pay 80 = .ok (.iadd, 1) := by decide +kernel
theorem dX6_pay_81 : decode cX6_pay 81 = .ok (.iastore, 1) := by decide +kernel
theorem dX6_pay_82 : decode cX6_pay 82 = .ok (.aload_n 0, 1) := by decide +kernel
theorem dX6_pay_83 : decode cX6_pay 83 = .ok (.getfield 7, 3) := by decide +kernel
theorem dX6_pay_86 : decode cX6_pay 86 = .ok (.iload_n 3, 1) := by decide +kernel
theorem dX6_pay_87 : decode cX6_pay 87 = .ok (.iconst 4, 1) := by decide +kernel
theorem dX6_pay_88 : decode cX6_pay 88 = .ok (.invokestatic 34, 3) := by decide +kernel
theorem dX6_pay_91 : decode cX6_pay 91 = .ok (.dup2, 1) := by decide +kernel
theorem dX6_pay_92 : decode cX6_pay 92 = .ok (.iaload, 1) := by decide +kernel
theorem dX6_pay_93 : decode cX6_pay 93 = .ok (.iload_n 2, 1) := by decide +kernel
theorem dX6_pay_94 : decode cX6_pay 94 = .ok (.isub, 1) := by decide +kernel
theorem dX6_pay_95 : decode cX6_pay 95 = .ok (.iastore, 1) := by decide +kernel
theorem dX6_pay_96 : decode cX6_pay 96 = .ok (.aload_n 0, 1) := by decide +kernel
theorem dX6_pay_97 : decode cX6_pay 97 = .ok (.getfield 7, 3) := by decide +kernel
theorem dX6_pay_100 : decode cX6_pay 100 = .ok (.iload_n 3, 1) := by decide +kernel
theorem dX6_pay_101 : decode cX6_pay 101 = .ok (.iconst 5, 1) := by decide +kernel
theorem dX6_pay_102 : decode cX6_pay 102 = .ok (.invokestatic 34, 3) := by decide +kernel
theorem dX6_pay_105 : decode cX6_pay 105 = .ok (.dup2, 1) := by decide +kernel
theorem dX6_pay_106 : decode cX6_pay 106 = .ok (.iaload, 1) := by decide +kernel
theorem dX6_pay_107 : decode cX6_pay 107 = .ok (.iload_n 2, 1) := by decide +kernel
theorem dX6_pay_108 : decode cX6_pay 108 = .ok (.iadd, 1) := by decide +kernel
theorem dX6_pay_109 : decode cX6_pay 109 = .ok (.iastore, 1) := by decide +kernel
theorem dX6_pay_110 : decode cX6_pay 110 = .ok (.aload_n 0, 1) := by decide +kernel
theorem dX6_pay_111 : decode cX6_pay 111 = .ok (.getfield 7, 3) := by decide +kernel
theorem dX6_pay_114 : decode cX6_pay 114 = .ok (.iconst 5, 1) := by decide +kernel
theorem dX6_pay_115 : decode cX6_pay 115 = .ok (.dup2, 1) := by decide +kernel
theorem dX6_pay_116 : decode cX6_pay 116 = .ok (.iaload, 1) := by decide +kernel
theorem dX6_pay_117 : decode cX6_pay 117 = .ok (.iload_n 2, 1) := by decide +kernel
theorem dX6_pay_118 : decode cX6_pay 118 = .ok (.iadd, 1) := by decide +kernel
theorem dX6_pay_119 : decode cX6_pay 119 = .ok (.iastore, 1) := by decide +kernel
theorem dX6_pay_120 : decode cX6_pay 120 = .ok (.aload_n 0, 1) := by decide +kernel
theorem dX6_pay_121 : decode cX6_pay 121 = .ok (.getfield 7, 3) := by decide +kernel
theorem dX6_pay_124 : decode cX6_pay 124 = .ok (.iload_n 1, 1) := by decide +kernel
theorem dX6_pay_125 : decode cX6_pay 125 = .ok (.iconst 1, 1) := by decide +kernel
theorem dX6_pay_126 : decode cX6_pay 126 = .ok (.invokestatic 86, 3) := by decide +kernel
theorem dX6_pay_129 : decode cX6_pay 129 = .ok (.iaload, 1) := by decide +kernel
theorem dX6_pay_130 : decode cX6_pay 130 = .ok (.ireturn, 1) := by decide +kernel
set_option maxRecDepth 20000 in
theorem ggX6_free0_X6_ofCommitment : GoodIn wsX6_free0 wsX6_ofCommitment := goodIn_r _ [5] (by decide +kernel) (by decide +kernel)
set_option maxRecDepth 20000 in
theorem gX6_free0_X6_ofCommitment : GoodIn wsX6_free0 (va_wsS RX6 86 yX6_ofCommitment wsX6_ofCommitment) := goodIn_app (goodIn_of _ (by decide +kernel)) ggX6_free0_X6_ofCommitment
set_option maxRecDepth 20000 in
theorem ggX6_free0_X6_of : GoodIn wsX6_free0 wsX6_of := goodIn_r _ [8] (by decide +kernel) (by decide +kernel)
set_option maxRecDepth 20000 in
theorem gX6_free0_X6_of : GoodIn wsX6_free0 (va_wsS RX6 34 yX6_of wsX6_of) := goodIn_app (goodIn_of _ (by decide +kernel)) ggX6_free0_X6_of
theorem dX6_free0_0 : decode cX6_free0 0 = .ok (.aload_n 0, 1) := by decide +kernel
theorem dX6_free0_1 : decode cX6_free0 1 = .ok (.getfield 7, 3) := by decide +kernel
theorem dX6_free0_4 : decode cX6_free0 4 = .ok (.iload_n 1, 1) := by decide +kernel
theorem dX6_free0_5 : decode cX6_free0 5 = .ok (.iconst 1, 1) := by decide +kernel
theorem dX6_free0_6 : decode cX6_free0 6 = .ok (.invokestatic 86, 3) := by decide +kernel
theorem dX6_free0_9 : decode cX6_free0 9 = .ok (.iaload, 1) := by decide +kernel
theorem dX6_free0_10 : decode cX6_free0 10 = .ok (.istore_n 2, 1) := by decide +kernel
theorem dX6_free0_11 : decode cX6_free0 11 = .ok (.aload_n 0, 1) := by decide +kernel
theorem dX6_free0_12 : decode cX6_free0 12 = .ok (.getfield 7, 3) := by decide +kernel
theorem dX6_free0_15 : decode cX6_free0 15 = .ok (.aload_n 0, 1) := by decide +kernel
theorem dX6_free0_16 : decode cX6_free0 16 = .ok (.getfield 7, 3) := by decide +kernel
theorem dX6_free0_19 : decode cX6_free0 19 = .ok (.iload_n 1, 1) := by decide +kernel
theorem dX6_free0_20 : decode cX6_free0 20 = .ok (.iconst 0, 1) := by decide +kernel
theorem dX6_free0_21 : decode cX6_free0 21 = .ok (.invokestatic 86, 3) := by decide +kernel
theorem dX6_free0_24 : decode cX6_free0 24 = .ok (.iaload, 1) := by decide +kernel
theorem dX6_free0_25 : decode cX6_free0 25 = .ok (.iconst 4, 1) := by decide +kernel
theorem dX6_free0_26 : decode cX6_free0 26 = .ok (.invokestatic 34, 3) := by decide +kernel
theorem dX6_free0_29 : decode cX6_free0 29 = .ok (.dup2, 1) := by decide +kernel
theorem dX6_free0_30 : decode cX6_free0 30 = .ok (.iaload, 1) := by decide +kernel
theorem dX6_free0_31 : decode cX6_free0 31 = .ok (.iload_n 2, 1) := by decide +kernel
theorem dX6_free0_32 : decode cX6_free0 32 = .ok (.isub, 1) := by decide +kernel
theorem dX6_free0_33 : decode cX6_free0 33 = .ok (.iastore, 1) := by decide +kernel
theorem dX6_free0_34 : decode cX6_free0 34 = .ok (.aload_n 0, 1) := by decide +kernel
theorem dX6_free0_35 : decode cX6_free0 35 = .ok (.getfield 7, 3) := by decide +kernel
theorem dX6_free0_38 : decode cX6_free0 38 = .ok (.iload_n 1, 1) := by decide +kernel
theorem dX6_free0_39 : decode cX6_free0 39 = .ok (.iconst 1, 1) := by decide +kernel
theorem dX6_free0_40 : decode cX6_free0 40 = .ok (.invokestatic 86, 3) := by decide +kernel
theorem dX6_free0_43 : decode cX6_free0 43 = .ok (.iconst 0, 1) := by decide +kernel
theorem dX6_free0_44 : decode cX6_free0 44 = .ok (.iastore, 1) := by decide +kernel
theorem dX6_free0_45 : decode cX6_free0 45 = .ok (.iload_n 2, 1) := by decide +kernel
theorem dX6_free0_46 : decode cX6_free0 46 = .ok (.ireturn, 1) := by decide +kernel
set_option maxRecDepth 20000 in
theorem ggX6_release_X6_isCommitment : GoodIn wsX6_release wsX6_isCommitment := goodIn_r _ [6, 1, 7, 8, 5, 9, 41, 42, 43, 44, 45, 46, 47, 48, 49, 50] (by decide +kernel) (by decide +kernel)
set_option maxRecDepth 20000 in
theorem gX6_release_X6_isCommitment : GoodIn wsX6_release (wsV RX6 89 RX6 yX6_isCommitment wsX6_isCommitment) := goodIn_app (goodIn_of _ (by decide +kernel)) ggX6_release_X6_isCommitment
set_option maxRecDepth 20000 in
theorem ggX6_release_X6_ofCommitment : GoodIn wsX6_release wsX6_ofCommitment := goodIn_r _ [12] (by decide +kernel) (by decide +kernel)
set_option maxRecDepth 20000 in
theorem gX6_release_X6_ofCommitment : GoodIn wsX6_release (va_wsS RX6 86 yX6_ofCommitment wsX6_ofCommitment) := goodIn_app (goodIn_of _ (by decide +kernel)) ggX6_release_X6_ofCommitment
set_option maxRecDepth 20000 in
theorem ggX6_release_X6_remember : GoodIn wsX6_release wsX6_remember := goodIn_r _ [16, 17, 18, 19, 20, 21, 22, 1, 23, 24, 25, 26, 27, 28, 5, 29, 30, 31, 32, 33, 41, 42, 43, 44, 45, 46, 47, 48, 49, 50] (by decide +kernel) (by decide +kernel)
set_option maxRecDepth 20000 in
theorem gX6_release_X6_remember : GoodIn wsX6_release (wsV RX6 71 RX6 yX6_remember wsX6_remember) := goodIn_app (goodIn_of _ (by decide +kernel)) ggX6_release_X6_remember
set_option maxRecDepth 20000 in
theorem ggX6_release_X6_free0 : GoodIn wsX6_release wsX6_free0 := goodIn_r _ [37, 1, 10, 11, 5, 12, 38, 39, 40, 41, 42, 43, 44, 45, 46, 47, 48, 49, 50] (by decide +kernel) (by decide +kernel)
set_option maxRecDepth 20000 in
theorem gX6_release_X6_free0 : GoodIn wsX6_release (wsV RX6 92 RX6 yX6_free0 wsX6_free0) := goodIn_app (goodIn_of _ (by decide +kernel)) ggX6_release_X6_free0
theorem dX6_release_0 : decode cX6_release 0 = .ok (.aload_n 0, 1) := by decide +kernel
theorem dX6_release_1 : decode cX6_release 1 = .ok (.iload_n 1, 1) := by decide +kernel
theorem dX6_release_2 : decode cX6_release 2 = .ok (.invokevirtual 89, 3) := by decide +kernel
theorem dX6_release_5 : decode cX6_release 5 = .ok (.ifCond .ne 5, 3) := by decide +kernel
theorem dX6_release_8 : decode cX6_release 8 = .ok (.iconst (-1), 1) := by decide +kernel
theorem dX6_release_9 : decode cX6_release 9 = .ok (.ireturn, 1) := by decide +kernel
theorem dX6_release_10 : decode cX6_release 10 = .ok (.aload_n 0, 1) := by decide +kernel
theorem dX6_release_11 : decode cX6_release 11 = .ok (.getfield 7, 3) := by decide +kernel
theorem dX6_release_14 : decode cX6_release 14 = .ok (.iload_n 1, 1) := by decide +kernel
theorem dX6_release_15 : decode cX6_release 15 = .ok (.iconst 1, 1) := by decide +kernel
theorem dX6_release_16 : decode cX6_release 16 = .ok (.invokestatic 86, 3) := by decide +kernel
theorem dX6_release_19 : decode cX6_release 19 = .ok (.iaload, 1) := by decide +kernel
theorem dX6_release_20 : decode cX6_release 20 = .ok (.ifCond .ne 6, 3) := by decide +kernel
theorem dX6_release_23 : decode cX6_release 23 = .ok (.bipush (-2), 2) := by decide +kernel
theorem dX6_release_25 : decode cX6_release 25 = .ok (.ireturn, 1) := by decide +kernel
theorem dX6_release_26 : decode cX6_release 26 = .ok (.aload_n 0, 1) := by decide +kernel
theorem dX6_release_27 : decode cX6_release 27 = .ok (.bipush 7, 2) := by decide +kernel
theorem dX6_release_29 : decode cX6_release 29 = .ok (.iload_n 1, 1) := by decide +kernel
theorem dX6_release_30 : decode cX6_release 30 = .ok (.iconst 0, 1) := by decide +kernel
theorem dX6_release_31 : decode cX6_release 31 = .ok (.iconst 0, 1) := by decide +kernel
theorem dX6_release_32 : decode cX6_release 32 = .ok (.invokevirtual 71, 3) := by decide +kernel
theorem dX6_release_35 : decode cX6_release 35 = .ok (.aload_n 0, 1) := by decide +kernel
theorem dX6_release_36 : decode cX6_release 36 = .ok (.iload_n 1, 1) := by decide +kernel
theorem dX6_release_37 : decode cX6_release 37 = .ok (.invokevirtual 92, 3) := by decide +kernel
theorem dX6_release_40 : decode cX6_release 40 = .ok (.ireturn, 1) := by decide +kernel
set_option maxRecDepth 20000 in
theorem ggX6_isAllowed_X6_isBelow : GoodIn wsX6_isAllowed wsX6_isBelow := goodIn_r _ [6, 7, 8, 9, 5, 10, 1, 11, 12, 13, 18, 19, 20, 21, 22, 23, 24, 25, 26, 27] (by decide +kernel) (by decide +kernel)
set_option maxRecDepth 20000 in
theorem gX6_isAllowed_X6_isBelow : GoodIn wsX6_isAllowed (wsV RX6 95 RX6 yX6_isBelow wsX6_isBelow) := goodIn_app (goodIn_of _ (by decide +kernel)) ggX6_isAllowed_X6_isBelow
set_option maxRecDepth 20000 in
theorem ggX6_isAllowed_X6_aboveOf : GoodIn wsX6_isAllowed wsX6_aboveOf := goodIn_r _ [10, 1, 11, 12, 5, 13, 18, 19, 20, 21, 22, 23, 24, 25, 26, 27] (by decide +kernel) (by decide +kernel)
set_option maxRecDepth 20000 in
theorem gX6_isAllowed_X6_aboveOf : GoodIn wsX6_isAllowed (wsV RX6 57 RX6 yX6_aboveOf wsX6_aboveOf) := goodIn_app (goodIn_of _ (by decide +kernel)) ggX6_isAllowed_X6_aboveOf
set_option maxRecDepth 20000 in
theorem ggX6_isAllowed_X6_isBarred : GoodIn wsX6_isAllowed wsX6_isBarred := goodIn_r _ [17, 1, 11, 12, 5, 13, 7, 8, 9, 10, 18, 19, 20, 21, 22, 23, 24, 25, 26, 27] (by decide +kernel) (by decide +kernel)
set_option maxRecDepth 20000 in
theorem gX6_isAllowed_X6_isBarred : GoodIn wsX6_isAllowed (wsV RX6 61 RX6 yX6_isBarred wsX6_isBarred) := goodIn_app (goodIn_of _ (by decide +kernel)) ggX6_isAllowed_X6_isBarred
set_option maxRecDepth 20000 in
theorem ggX6_isAllowed_X6_of : GoodIn wsX6_isAllowed wsX6_of := goodIn_r _ [13] (by decide +kernel) (by decide +kernel)
set_option maxRecDepth 20000 in
theorem gX6_isAllowed_X6_of : GoodIn wsX6_isAllowed (va_wsS RX6 34 yX6_of wsX6_of) := goodIn_app (goodIn_of _ (by decide +kernel)) ggX6_isAllowed_X6_of
theorem dX6_isAllowed_0 : decode cX6_isAllowed 0 = .ok (.aload_n 0, 1) := by decide +kernel
theorem dX6_isAllowed_1 : decode cX6_isAllowed 1 = .ok (.iload_n 1, 1) := by decide +kernel
theorem dX6_isAllowed_2 : decode cX6_isAllowed 2 = .ok (.iload_n 2, 1) := by decide +kernel
theorem dX6_isAllowed_3 : decode cX6_isAllowed 3 = .ok (.invokevirtual 95, 3) := by decide +kernel
theorem dX6_isAllowed_6 : decode cX6_isAllowed 6 = .ok (.ifCond .ne 25, 3) := by decide +kernel
theorem dX6_isAllowed_9 : decode cX6_isAllowed 9 = .ok (.aload_n 0, 1) := by decide +kernel
theorem dX6_isAllowed_10 : decode cX6_isAllowed 10 = .ok (.iload_n 2, 1) := by decide +kernel
theorem dX6_isAllowed_11 : decode cX6_isAllowed 11 = .ok (.iload_n 1, 1) := by decide +kernel
theorem dX6_isAllowed_12 : decode cX6_isAllowed 12 = .ok (.invokevirtual 95, 3) := by decide +kernel
theorem dX6_isAllowed_15 : decode cX6_isAllowed 15 = .ok (.ifCond .ne 16, 3) := by decide +kernel
theorem dX6_isAllowed_18 : decode cX6_isAllowed 18 = .ok (.aload_n 0, 1) := by decide +kernel
theorem dX6_isAllowed_19 : decode cX6_isAllowed 19 = .ok (.iload_n 1, 1) := by decide +kernel
theorem dX6_isAllowed_20 : decode cX6_isAllowed 20 = .ok (.invokevirtual 57, 3) := by decide +kernel
theorem dX6_isAllowed_23 : decode cX6_isAllowed 23 = .ok (.aload_n 0, 1) := by decide +kernel
theorem dX6_isAllowed_24 : decode cX6_isAllowed 24 = .ok (.iload_n 2, 1) := by decide +kernel
theorem dX6_isAllowed_25 : decode cX6_isAllowed 25 = .ok (.invokevirtual 57, 3) := by decide +kernel
theorem dX6_isAllowed_28 : decode cX6_isAllowed 28 = .ok (.if_icmp .ne 7, 3) := by decide +kernel
theorem dX6_isAllowed_31 : decode cX6_isAllowed 31 = .ok (.iconst 1, 1) := by decide +kernel
theorem dX6_isAllowed_32 : decode cX6_isAllowed 32 = .ok (.goto 4, 3) := by decide +kernel
theorem dX6_isAllowed_35 : decode cX6_isAllowed 35 = .ok (.iconst 0, 1) := by decide +kernel
theorem dX6_isAllowed_36 : decode cX6_isAllowed 36 = .ok (.istore_n 3, 1) := by decide +kernel
theorem dX6_isAllowed_37 : decode cX6_isAllowed 37 = .ok (.aload_n 0, 1) := by decide +kernel
theorem dX6_isAllowed_38 : decode cX6_isAllowed 38 = .ok (.iload_n 1, 1) := by decide +kernel
theorem dX6_isAllowed_39 : decode cX6_isAllowed 39 = .ok (.invokevirtual 61, 3) := by decide +kernel
theorem dX6_isAllowed_42 : decode cX6_isAllowed 42 = .ok (.ifCond .ne 42, 3) := by decide +kernel
theorem dX6_isAllowed_45 : decode cX6_isAllowed 45 = .ok (.aload_n 0, 1) := by decide +kernel
theorem dX6_isAllowed_46 : decode cX6_isAllowed 46 = .ok (.iload_n 2, 1) := by decide +kernel
theorem dX6_isAllowed_47 : decode cX6_isAllowed 47 = .ok (.invokevirtual 61, 3) := by decide +kernel
theorem dX6_isAllowed_50 : decode cX6_isAllowed 50 = .ok (.ifCond .ne 34, 3) := by decide +kernel
theorem dX6_isAllowed_53 : decode cX6_isAllowed 53 = .ok (.iload_n 3, 1) := by decide +kernel
theorem dX6_isAllowed_54 : decode cX6_isAllowed 54 = .ok (.ifCond .ne 26, 3) := by decide +kernel
theorem dX6_isAllowed_57 : decode cX6_isAllowed 57 = .ok (.aload_n 0, 1) := by decide +kernel
theorem dX6_isAllowed_58 : decode cX6_isAllowed 58 = .ok (.getfield 7, 3) := by decide +kernel
theorem dX6_isAllowed_61 : decode cX6_isAllowed 61 = .ok (.iload_n 1, 1) := by decide +kernel
theorem dX6_isAllowed_62 : decode cX6_isAllowed 62 = .ok (.iconst 1, 1) := by decide +kernel
theorem dX6_isAllowed_63 : decode cX6_isAllowed 63 = .ok (.invokestatic 34, 3) := by decide +kernel
theorem dX6_isAllowed_66 : decode cX6_isAllowed 66 = .ok (.iaload, 1) := by decide +kernel
theorem dX6_isAllowed_67 : decode cX6_isAllowed 67 = .ok (.aload_n 0, 1) := by decide +kernel
theorem dX6_isAllowed_68 : decode cX6_isAllowed 68 = .ok (.getfield 7, 3) := by decide +kernel
theorem dX6_isAllowed_71 : decode cX6_isAllowed 71 = .ok (.iload_n 2, 1) := by decide +kernel
theorem dX6_isAllowed_72 : decode cX6_isAllowed 72 = .ok (.iconst 1, 1) := by decide +kernel
theorem dX6_isAllowed_73 : decode cX6_isAllowed 73 = .ok (.invokestatic 34, 3) := by decide +kernel
theorem dX6_isAllowed_76 : decode cX6_isAllowed 76 = .ok (.iaload, 1) := by decide +kernel
theorem dX6_isAllowed_77 : decode cX6_isAllowed 77 = .ok (.if_icmp .gt 7, 3) := by decide +kernel
theorem dX6_isAllowed_80 : decode cX6_isAllowed 80 = .ok (.iconst 1, 1) := by decide +kernel
theorem dX6_isAllowed_81 : decode cX6_isAllowed 81 = .ok (.goto 4, 3) := by decide +kernel
theorem dX6_isAllowed_84 : decode cX6_isAllowed 84 = .ok (.iconst 0, 1) := by decide +kernel
theorem dX6_isAllowed_85 : decode cX6_isAllowed 85 = .ok (.ireturn, 1) := by decide +kernel
set_option maxRecDepth 20000 in
theorem ggX6_leaveOf_X6_of : GoodIn wsX6_leaveOf wsX6_of := goodIn_r _ [6] (by decide +kernel) (by decide +kernel)
set_option maxRecDepth 20000 in
theorem gX6_leaveOf_X6_of : GoodIn wsX6_leaveOf (va_wsS RX6 34 yX6_of wsX6_of) := goodIn_app (goodIn_of _ (by decide +kernel)) ggX6_leaveOf_X6_of
theorem dX6_leaveOf_0 : decode cX6_leaveOf 0 = .ok (.aload_n 0, 1) := by decide +kernel
theorem dX6_leaveOf_1 : decode cX6_leaveOf 1 = .ok (.getfield 7, 3) := by decide +kernel
theorem dX6_leaveOf_4 : decode cX6_leaveOf 4 = .ok (.iload_n 1, 1) := by decide +kernel
theorem dX6_leaveOf_5 : decode cX6_leaveOf 5 = .ok (.bipush 8, 2) := by decide +kernel
theorem dX6_leaveOf_7 : decode cX6_leaveOf 7 = .ok (.invokestatic 34, 3) := by decide +kernel
theorem dX6_leaveOf_10 : decode cX6_leaveOf 10 = .ok (.iaload, 1) := by decide +kernel
theorem dX6_leaveOf_11 : decode cX6_leaveOf 11 = .ok (.i2l, 1) := by decide +kernel
theorem dX6_leaveOf_12 : decode cX6_leaveOf 12 = .ok (.aload_n 0, 1) := by decide +kernel
theorem dX6_leaveOf_13 : decode cX6_leaveOf 13 = .ok (.getfield 7, 3) := by decide +kernel
theorem dX6_leaveOf_16 : decode cX6_leaveOf 16 = .ok (.iload_n 1, 1) := by decide +kernel
theorem dX6_leaveOf_17 : decode cX6_leaveOf 17 = .ok (.bipush 6, 2) := by decide +kernel
theorem dX6_leaveOf_19 : decode cX6_leaveOf 19 = .ok (.invokestatic 34, 3) := by decide +kernel
theorem dX6_leaveOf_22 : decode cX6_leaveOf 22 = .ok (.iaload, 1) := by decide +kernel
theorem dX6_leaveOf_23 : decode cX6_leaveOf 23 = .ok (.i2l, 1) := by decide +kernel
theorem dX6_leaveOf_24 : decode cX6_leaveOf 24 = .ok (.lmul, 1) := by decide +kernel
theorem dX6_leaveOf_25 : decode cX6_leaveOf 25 = .ok (.ldc2_w 99, 3) := by decide +kernel
theorem dX6_leaveOf_28 : decode cX6_leaveOf 28 = .ok (.ldiv, 1) := by decide +kernel
theorem dX6_leaveOf_29 : decode cX6_leaveOf 29 = .ok (.l2i, 1) := by decide +kernel
theorem dX6_leaveOf_30 : decode cX6_leaveOf 30 = .ok (.aload_n 0, 1) := by decide +kernel
theorem dX6_leaveOf_31 : decode cX6_leaveOf 31 = .ok (.getfield 7, 3) := by decide +kernel
theorem dX6_leaveOf_34 : decode cX6_leaveOf 34 = .ok (.iload_n 1, 1) := by decide +kernel
theorem dX6_leaveOf_35 : decode cX6_leaveOf 35 = .ok (.bipush 7, 2) := by decide +kernel
theorem dX6_leaveOf_37 : decode cX6_leaveOf 37 = .ok (.invokestatic 34, 3) := by decide +kernel
theorem dX6_leaveOf_40 : decode cX6_leaveOf 40 = .ok (.iaload, 1) := by decide +kernel
theorem dX6_leaveOf_41 : decode cX6_leaveOf 41 = .ok (.isub, 1) := by decide +kernel
theorem dX6_leaveOf_42 : decode cX6_leaveOf 42 = .ok (.ireturn, 1) := by decide +kernel
set_option maxRecDepth 20000 in
theorem ggX6_areTwo_X6_isHead : GoodIn wsX6_areTwo wsX6_isHead := goodIn_r _ [5, 6, 7, 8, 4, 9, 10, 11, 12, 13, 14, 15, 16, 17, 18, 19] (by decide +kernel) (by decide +kernel)
set_option maxRecDepth 20000 in
theorem gX6_areTwo_X6_isHead : GoodIn wsX6_areTwo (wsV RX6 65 RX6 yX6_isHead wsX6_isHead) := goodIn_app (goodIn_of _ (by decide +kernel)) ggX6_areTwo_X6_isHead
theorem dX6_areTwo_0 : decode cX6_areTwo 0 = .ok (.aload_n 0, 1) := by decide +kernel
theorem dX6_areTwo_1 : decode cX6_areTwo 1 = .ok (.iload_n 1, 1) := by decide +kernel
theorem dX6_areTwo_2 : decode cX6_areTwo 2 = .ok (.invokevirtual 65, 3) := by decide +kernel
theorem dX6_areTwo_5 : decode cX6_areTwo 5 = .ok (.ifCond .eq 20, 3) := by decide +kernel
theorem dX6_areTwo_8 : decode cX6_areTwo 8 = .ok (.aload_n 0, 1) := by decide +kernel
theorem dX6_areTwo_9 : decode cX6_areTwo 9 = .ok (.iload_n 2, 1) := by decide +kernel
theorem dX6_areTwo_10 : decode cX6_areTwo 10 = .ok (.invokevirtual 65, 3) := by decide +kernel
theorem dX6_areTwo_13 : decode cX6_areTwo 13 = .ok (.ifCond .eq 12, 3) := by decide +kernel
theorem dX6_areTwo_16 : decode cX6_areTwo 16 = .ok (.iload_n 1, 1) := by decide +kernel
theorem dX6_areTwo_17 : decode cX6_areTwo 17 = .ok (.iload_n 2, 1) := by decide +kernel
theorem dX6_areTwo_18 : decode cX6_areTwo 18 = .ok (.if_icmp .eq 7, 3) := by decide +kernel
theorem dX6_areTwo_21 : decode cX6_areTwo 21 = .ok (.iconst 1, 1) := by decide +kernel
theorem dX6_areTwo_22 : decode cX6_areTwo 22 = .ok (.goto 4, 3) := by decide +kernel
theorem dX6_areTwo_25 : decode cX6_areTwo 25 = .ok (.iconst 0, 1) := by decide +kernel
theorem dX6_areTwo_26 : decode cX6_areTwo 26 = .ok (.ireturn, 1) := by decide +kernel
set_option maxRecDepth 20000 in
theorem ggX6_moves_X6_of : GoodIn wsX6_moves wsX6_of := goodIn_r _ [5] (by decide +kernel) (by decide +kernel)
set_option maxRecDepth 20000 in
theorem gX6_moves_X6_of : GoodIn wsX6_moves (va_wsS RX6 34 yX6_of wsX6_of) := goodIn_app (goodIn_of _ (by decide +kernel)) ggX6_moves_X6_of
theorem dX6_moves_0 : decode cX6_moves 0 = .ok (.aload_n 0, 1) := by decide +kernel
theorem dX6_moves_1 : decode cX6_moves 1 = .ok (.getfield 7, 3) := by decide +kernel
theorem dX6_moves_4 : decode cX6_moves 4 = .ok (.iload_n 1, 1) := by decide +kernel
theorem dX6_moves_5 : decode cX6_moves 5 = .ok (.iconst 3, 1) := by decide +kernel
theorem dX6_moves_6 : decode cX6_moves 6 = .ok (.invokestatic 34, 3) := by decide +kernel
theorem dX6_moves_9 : decode cX6_moves 9 = .ok (.dup2, 1) := by decide +kernel
theorem dX6_moves_10 : decode cX6_moves 10 = .ok (.iaload, 1) := by decide +kernel
theorem dX6_moves_11 : decode cX6_moves 11 = .ok (.iload_n 3, 1) := by decide +kernel
theorem dX6_moves_12 : decode cX6_moves 12 = .ok (.isub, 1) := by decide +kernel
theorem dX6_moves_13 : decode cX6_moves 13 = .ok (.iastore, 1) := by decide +kernel
theorem dX6_moves_14 : decode cX6_moves 14 = .ok (.aload_n 0, 1) := by decide +kernel
theorem dX6_moves_15 : decode cX6_moves 15 = .ok (.getfield 7, 3) := by decide +kernel
theorem dX6_moves_18 : decode cX6_moves 18 = .ok (.iload_n 2, 1) := by decide +kernel
theorem dX6_moves_19 : decode cX6_moves 19 = .ok (.iconst 3, 1) := by decide +kernel
theorem dX6_moves_20 : decode cX6_moves 20 = .ok (.invokestatic 34, 3) := by decide +kernel
theorem dX6_moves_23 : decode cX6_moves 23 = .ok (.dup2, 1) := by decide +kernel
theorem dX6_moves_24 : decode cX6_moves 24 = .ok (.iaload, 1) := by decide +kernel
theorem dX6_moves_25 : decode cX6_moves 25 = .ok (.iload_n 3, 1) := by decide +kernel
theorem dX6_moves_26 : decode cX6_moves 26 = .ok (.iadd, 1) := by decide +kernel
theorem dX6_moves_27 : decode cX6_moves 27 = .ok (.iastore, 1) := by decide +kernel
theorem dX6_moves_28 : decode cX6_moves 28 = .ok (.return_, 1) := by decide +kernel
set_option maxRecDepth 20000 in
theorem ggX6_vire_X6_areTwo : GoodIn wsX6_vire wsX6_areTwo := goodIn_r _ [6, 7, 8, 9, 5, 10, 1, 11, 12, 13, 71, 72, 73, 74, 75, 76, 77, 78, 79, 80] (by decide +kernel) (by decide +kernel)
set_option maxRecDepth 20000 in
theorem gX6_vire_X6_areTwo : GoodIn wsX6_vire (wsV RX6 101 RX6 yX6_areTwo wsX6_areTwo) := goodIn_app (goodIn_of _ (by decide +kernel)) ggX6_vire_X6_areTwo
set_option maxRecDepth 20000 in
theorem ggX6_vire_X6_isAmount : GoodIn wsX6_vire wsX6_isAmount := goodIn_r _ [16, 17, 11, 12, 5, 13] (by decide +kernel) (by decide +kernel)
set_option maxRecDepth 20000 in
theorem gX6_vire_X6_isAmount : GoodIn wsX6_vire (va_wsS RX6 75 yX6_isAmount wsX6_isAmount) := goodIn_app (goodIn_of _ (by decide +kernel)) ggX6_vire_X6_isAmount
set_option maxRecDepth 20000 in
theorem ggX6_vire_X6_free : GoodIn wsX6_vire wsX6_free := goodIn_r _ [21, 1, 22, 23, 5, 24, 71, 72, 73, 74, 75, 76, 77, 78, 79, 80] (by decide +kernel) (by decide +kernel)
set_option maxRecDepth 20000 in
theorem gX6_vire_X6_free : GoodIn wsX6_vire (wsV RX6 83 RX6 yX6_free wsX6_free) := goodIn_app (goodIn_of _ (by decide +kernel)) ggX6_vire_X6_free
set_option maxRecDepth 20000 in
theorem ggX6_vire_X6_isAllowed : GoodIn wsX6_vire wsX6_isAllowed := goodIn_r _ [28, 1, 29, 30, 31, 5, 32, 33, 34, 35, 36, 22, 23, 24, 37, 38, 39, 40, 71, 72, 73, 74, 75, 76, 77, 78, 79, 80] (by decide +kernel) (by decide +kernel)
set_option maxRecDepth 20000 in
theorem gX6_vire_X6_isAllowed : GoodIn wsX6_vire (wsV RX6 104 RX6 yX6_isAllowed wsX6_isAllowed) := goodIn_app (goodIn_of _ (by decide +kernel)) ggX6_vire_X6_isAllowed
set_option maxRecDepth 20000 in
theorem ggX6_vire_X6_leaveOf : GoodIn wsX6_vire wsX6_leaveOf := goodIn_r _ [44, 1, 45, 22, 23, 5, 24, 71, 72, 73, 74, 75, 76, 77, 78, 79, 80] (by decide +kernel) (by decide +kernel)
set_option maxRecDepth 20000 in
theorem gX6_vire_X6_leaveOf : GoodIn wsX6_vire (wsV RX6 107 RX6 yX6_leaveOf wsX6_leaveOf) := goodIn_app (goodIn_of _ (by decide +kernel)) ggX6_vire_X6_leaveOf
set_option maxRecDepth 20000 in
theorem ggX6_vire_X6_remember : GoodIn wsX6_vire wsX6_remember := goodIn_r _ [49, 50, 51, 52, 53, 54, 55, 1, 56, 57, 58, 59, 60, 61, 5, 62, 63, 64, 65, 66, 71, 72, 73, 74, 75, 76, 77, 78, 79, 80] (by decide +kernel) (by decide +kernel)
set_option maxRecDepth 20000 in
theorem gX6_vire_X6_remember : GoodIn wsX6_vire (wsV RX6 71 RX6 yX6_remember wsX6_remember) := goodIn_app (goodIn_of _ (by decide +kernel)) ggX6_vire_X6_remember
set_option maxRecDepth 20000 in
theorem ggX6_vire_X6_moves : GoodIn wsX6_vire wsX6_moves := goodIn_r _ [70, 1, 22, 23, 5, 24, 71, 72, 73, 74, 75, 76, 77, 78, 79, 80] (by decide +kernel) (by decide +kernel)
set_option maxRecDepth 20000 in
theorem gX6_vire_X6_moves : GoodIn wsX6_vire (wsV RX6 110 RX6 yX6_moves wsX6_moves) := goodIn_app (goodIn_of _ (by decide +kernel)) ggX6_vire_X6_moves
set_option maxRecDepth 20000 in
theorem ggX6_vire_X6_of : GoodIn wsX6_vire wsX6_of := goodIn_r _ [24] (by decide +kernel) (by decide +kernel)
set_option maxRecDepth 20000 in
theorem gX6_vire_X6_of : GoodIn wsX6_vire (va_wsS RX6 34 yX6_of wsX6_of) := goodIn_app (goodIn_of _ (by decide +kernel)) ggX6_vire_X6_of
theorem dX6_vire_0 : decode cX6_vire 0 = .ok (.aload_n 0, 1) := by decide +kernel
theorem dX6_vire_1 : decode cX6_vire 1 = .ok (.iload_n 1, 1) := by decide +kernel
theorem dX6_vire_2 : decode cX6_vire 2 = .ok (.iload_n 2, 1) := by decide +kernel
theorem dX6_vire_3 : decode cX6_vire 3 = .ok (.invokevirtual 101, 3) := by decide +kernel
theorem dX6_vire_6 : decode cX6_vire 6 = .ok (.ifCond .eq 10, 3) := by decide +kernel
theorem dX6_vire_9 : decode cX6_vire 9 = .ok (.iload_n 3, 1) := by decide +kernel
theorem dX6_vire_10 : decode cX6_vire 10 = .ok (.invokestatic 75, 3) := by decide +kernel
theorem dX6_vire_13 : decode cX6_vire 13 = .ok (.ifCond .ne 5, 3) := by decide +kernel
theorem dX6_vire_16 : decode cX6_vire 16 = .ok (.iconst (-1), 1) := by decide +kernel
theorem dX6_vire_17 : decode cX6_vire 17 = .ok (.ireturn, 1) := by decide +kernel
theorem dX6_vire_18 : decode cX6_vire 18 = .ok (.iload_n 3, 1) := by decide +kernel
theorem dX6_vire_19 : decode cX6_vire 19 = .ok (.aload_n 0, 1) := by decide +kernel
theorem dX6_vire_20 : decode cX6_vire 20 = .ok (.iload_n 1, 1) := by decide +kernel
theorem dX6_vire_21 : decode cX6_vire 21 = .ok (.invokevirtual 83, 3) := by decide +kernel
theorem dX6_vire_24 : decode cX6_vire 24 = .ok (.if_icmp .gt 21, 3) := by decide +kernel
theorem dX6_vire_27 : decode cX6_vire 27 = .ok (.aload_n 0, 1) := by decide +kernel
theorem dX6_vire_28 : decode cX6_vire 28 = .ok (.iload_n 1, 1) := by decide +kernel
theorem dX6_vire_29 : decode cX6_vire 29 = .ok (.iload_n 2, 1) := by decide +kernel
theorem dX6_vire_30 : decode cX6_vire 30 = .ok (.invokevirtual 104, 3) := by decide +kernel
theorem dX6_vire_33 : decode cX6_vire 33 = .ok (.ifCond .eq 12, 3) := by decide +kernel
theorem dX6_vire_36 : decode cX6_vire 36 = .ok (.iload_n 3, 1) := by decide +kernel
theorem dX6_vire_37 : decode cX6_vire 37 = .ok (.aload_n 0, 1) := by decide +kernel
theorem dX6_vire_38 : decode cX6_vire 38 = .ok (.iload_n 1, 1) := by decide +kernel
theorem dX6_vire_39 : decode cX6_vire 39 = .ok (.invokevirtual 107, 3) := by decide +kernel
theorem dX6_vire_42 : decode cX6_vire 42 = .ok (.if_icmp .le 6, 3) := by decide +kernel
theorem dX6_vire_45 : decode cX6_vire 45 = .ok (.bipush (-2), 2) := by decide +kernel
theorem dX6_vire_47 : decode cX6_vire 47 = .ok (.ireturn, 1) := by decide +kernel
theorem dX6_vire_48 : decode cX6_vire 48 = .ok (.aload_n 0, 1) := by decide +kernel
theorem dX6_vire_49 : decode cX6_vire 49 = .ok (.bipush 8, 2) := by decide +kernel
theorem dX6_vire_51 : decode cX6_vire 51 = .ok (.iload_n 1, 1) := by decide +kernel
theorem dX6_vire_52 : decode cX6_vire 52 = .ok (.iload_n 2, 1) := by decide +kernel
theorem dX6_vire_53 : decode cX6_vire 53 = .ok (.iload_n 3, 1) := by decide +kernel
theorem dX6_vire_54 : decode cX6_vire 54 = .ok (.invokevirtual 71, 3) := by decide +kernel
theorem dX6_vire_57 : decode cX6_vire 57 = .ok (.aload_n 0, 1) := by decide +kernel
theorem dX6_vire_58 : decode cX6_vire 58 = .ok (.iload_n 1, 1) := by decide +kernel
theorem dX6_vire_59 : decode cX6_vire 59 = .ok (.iload_n 2, 1) := by decide +kernel
theorem dX6_vire_60 : decode cX6_vire 60 = .ok (.iload_n 3, 1) := by decide +kernel
theorem dX6_vire_61 : decode cX6_vire 61 = .ok (.invokevirtual 110, 3) := by decide +kernel
theorem dX6_vire_64 : decode cX6_vire 64 = .ok (.aload_n 0, 1) := by decide +kernel
theorem dX6_vire_65 : decode cX6_vire 65 = .ok (.getfield 7, 3) := by decide +kernel
theorem dX6_vire_68 : decode cX6_vire 68 = .ok (.iload_n 1, 1) := by decide +kernel
theorem dX6_vire_69 : decode cX6_vire 69 = .ok (.bipush 7, 2) := by decide +kernel
theorem dX6_vire_71 : decode cX6_vire 71 = .ok (.invokestatic 34, 3) := by decide +kernel
theorem dX6_vire_74 : decode cX6_vire 74 = .ok (.dup2, 1) := by decide +kernel
theorem dX6_vire_75 : decode cX6_vire 75 = .ok (.iaload, 1) := by decide +kernel
theorem dX6_vire_76 : decode cX6_vire 76 = .ok (.iload_n 3, 1) := by decide +kernel
theorem dX6_vire_77 : decode cX6_vire 77 = .ok (.iadd, 1) := by decide +kernel
theorem dX6_vire_78 : decode cX6_vire 78 = .ok (.iastore, 1) := by decide +kernel
theorem dX6_vire_79 : decode cX6_vire 79 = .ok (.aload_n 0, 1) := by decide +kernel
theorem dX6_vire_80 : decode cX6_vire 80 = .ok (.iload_n 1, 1) := by decide +kernel
theorem dX6_vire_81 : decode cX6_vire 81 = .ok (.invokevirtual 83, 3) := by decide +kernel
theorem dX6_vire_84 : decode cX6_vire 84 = .ok (.ireturn, 1) := by decide +kernel
set_option maxRecDepth 20000 in
theorem ggX6_lapseOf_X6_free : GoodIn wsX6_lapseOf wsX6_free := goodIn_r _ [7, 1, 8, 9, 6, 10, 11, 12, 13, 14, 15, 16, 17, 18, 19, 20] (by decide +kernel) (by decide +kernel)
set_option maxRecDepth 20000 in
theorem gX6_lapseOf_X6_free : GoodIn wsX6_lapseOf (wsV RX6 83 RX6 yX6_free wsX6_free) := goodIn_app (goodIn_of _ (by decide +kernel)) ggX6_lapseOf_X6_free
theorem dX6_lapseOf_0 : decode cX6_lapseOf 0 = .ok (.aload_n 0, 1) := by decide +kernel
theorem dX6_lapseOf_1 : decode cX6_lapseOf 1 = .ok (.iload_n 1, 1) := by decide +kernel
theorem dX6_lapseOf_2 : decode cX6_lapseOf 2 = .ok (.invokevirtual 83, 3) := by decide +kernel
theorem dX6_lapseOf_5 : decode cX6_lapseOf 5 = .ok (.aload_n 0, 1) := by decide +kernel
theorem dX6_lapseOf_6 : decode cX6_lapseOf 6 = .ok (.iload_n 1, 1) := by decide +kernel
theorem dX6_lapseOf_7 : decode cX6_lapseOf 7 = .ok (.invokevirtual 83, 3) := by decide +kernel
theorem dX6_lapseOf_10 : decode cX6_lapseOf 10 = .ok (.i2l, 1) := by decide +kernel
theorem dX6_lapseOf_11 : decode cX6_lapseOf 11 = .ok (.aload_n 0, 1) := by decide +kernel
theorem dX6_lapseOf_12 : decode cX6_lapseOf 12 = .ok (.getfield 7, 3) := by decide +kernel
theorem dX6_lapseOf_15 : decode cX6_lapseOf 15 = .ok (.iconst 3, 1) := by decide +kernel
theorem dX6_lapseOf_16 : decode cX6_lapseOf 16 = .ok (.iaload, 1) := by decide +kernel
theorem dX6_lapseOf_17 : decode cX6_lapseOf 17 = .ok (.i2l, 1) := by decide +kernel
theorem dX6_lapseOf_18 : decode cX6_lapseOf 18 = .ok (.lmul, 1) := by decide +kernel
theorem dX6_lapseOf_19 : decode cX6_lapseOf 19 = .ok (.ldc2_w 99, 3) := by decide +kernel
theorem dX6_lapseOf_22 : decode cX6_lapseOf 22 = .ok (.ldiv, 1) := by decide +kernel
theorem dX6_lapseOf_23 : decode cX6_lapseOf 23 = .ok (.l2i, 1) := by decide +kernel
theorem dX6_lapseOf_24 : decode cX6_lapseOf 24 = .ok (.isub, 1) := by decide +kernel
theorem dX6_lapseOf_25 : decode cX6_lapseOf 25 = .ok (.ireturn, 1) := by decide +kernel
set_option maxRecDepth 20000 in
theorem ggX6_endYear_X6_remember : GoodIn wsX6_endYear wsX6_remember := goodIn_r _ [6, 7, 8, 9, 10, 11, 12, 1, 13, 14, 15, 16, 17, 18, 5, 19, 20, 21, 22, 23, 36, 37, 38, 39, 40, 41, 42, 43, 44, 45] (by decide +kernel) (by decide +kernel)
set_option maxRecDepth 20000 in
theorem gX6_endYear_X6_remember : GoodIn wsX6_endYear (wsV RX6 71 RX6 yX6_remember wsX6_remember) := goodIn_app (goodIn_of _ (by decide +kernel)) ggX6_endYear_X6_remember
set_option maxRecDepth 20000 in
theorem ggX6_endYear_X6_lapseOf : GoodIn wsX6_endYear wsX6_lapseOf := goodIn_r _ [27, 1, 28, 29, 30, 31, 5, 32, 33, 34, 35, 36, 37, 38, 39, 40, 41, 42, 43, 44, 45] (by decide +kernel) (by decide +kernel)
set_option maxRecDepth 20000 in
theorem gX6_endYear_X6_lapseOf : GoodIn wsX6_endYear (wsV RX6 114 RX6 yX6_lapseOf wsX6_lapseOf) := goodIn_app (goodIn_of _ (by decide +kernel)) ggX6_endYear_X6_lapseOf
set_option maxRecDepth 20000 in
theorem ggX6_endYear_X6_of : GoodIn wsX6_endYear wsX6_of := goodIn_r _ [35] (by decide +kernel) (by decide +kernel)
set_option maxRecDepth 20000 in
theorem gX6_endYear_X6_of : GoodIn wsX6_endYear (va_wsS RX6 34 yX6_of wsX6_of) := goodIn_app (goodIn_of _ (by decide +kernel)) ggX6_endYear_X6_of
set_option maxRecDepth 20000 in
theorem ggX6_endYear_X6_free : GoodIn wsX6_endYear wsX6_free := goodIn_r _ [32, 1, 33, 34, 5, 35, 36, 37, 38, 39, 40, 41, 42, 43, 44, 45] (by decide +kernel) (by decide +kernel)
set_option maxRecDepth 20000 in
theorem gX6_endYear_X6_free : GoodIn wsX6_endYear (wsV RX6 83 RX6 yX6_free wsX6_free) := goodIn_app (goodIn_of _ (by decide +kernel)) ggX6_endYear_X6_free
end
section
theorem dX6_endYear_0 : decode cX6_endYear 0 = .ok (.aload_n 0, 1) := by decide +kernel
theorem dX6_endYear_1 : decode cX6_endYear 1 = .ok (.getfield 7, 3) := by decide +kernel
theorem dX6_endYear_4 : decode cX6_endYear 4 = .ok (.iconst 0, 1) := by decide +kernel
theorem dX6_endYear_5 : decode cX6_endYear 5 = .ok (.iaload, 1) := by decide +kernel
theorem dX6_endYear_6 : decode cX6_endYear 6 = .ok (.bipush 99, 2) := by decide +kernel
theorem dX6_endYear_8 : decode cX6_endYear 8 = .ok (.if_icmp .ne 6, 3) := by decide +kernel
theorem dX6_endYear_11 : decode cX6_endYear 11 = .ok (.bipush (-2), 2) := by decide +kernel
theorem dX6_endYear_13 : decode cX6_endYear 13 = .ok (.ireturn, 1) := by decide +kernel
theorem dX6_endYear_14 : decode cX6_endYear 14 = .ok (.aload_n 0, 1) := by decide +kernel
theorem dX6_endYear_15 : decode cX6_endYear 15 = .ok (.bipush 9, 2) := by decide +kernel
theorem dX6_endYear_17 : decode cX6_endYear 17 = .ok (.iconst 0, 1) := by decide +kernel
theorem dX6_endYear_18 : decode cX6_endYear 18 = .ok (.iconst 0, 1) := by decide +kernel
theorem dX6_endYear_19 : decode cX6_endYear 19 = .ok (.iconst 0, 1) := by decide +kernel
theorem dX6_endYear_20 : decode cX6_endYear 20 = .ok (.invokevirtual 71, 3) := by decide +kernel
theorem dX6_endYear_23 : decode cX6_endYear 23 = .ok (.iconst 0, 1) := by decide +kernel
theorem dX6_endYear_24 : decode cX6_endYear 24 = .ok (.istore_n 1, 1) := by decide +kernel
theorem dX6_endYear_25 : decode cX6_endYear 25 = .ok (.iconst 0, 1) := by decide +kernel
theorem dX6_endYear_26 : decode cX6_endYear 26 = .ok (.istore_n 2, 1) := by decide +kernel
theorem dX6_endYear_27 : decode cX6_endYear 27 = .ok (.iload_n 2, 1) := by decide +kernel
theorem dX6_endYear_28 : decode cX6_endYear 28 = .ok (.aload_n 0, 1) := by decide +kernel
theorem dX6_endYear_29 : decode cX6_endYear 29 = .ok (.getfield 7, 3) := by decide +kernel
theorem dX6_endYear_32 : decode cX6_endYear 32 = .ok (.iconst 1, 1) := by decide +kernel
theorem dX6_endYear_33 : decode cX6_endYear 33 = .ok (.iaload, 1) := by decide +kernel
theorem dX6_endYear_34 : decode cX6_endYear 34 = .ok (.if_icmp .ge 85, 3) := by decide +kernel
theorem dX6_endYear_37 : decode cX6_endYear 37 = .ok (.aload_n 0, 1) := by decide +kernel
theorem dX6_endYear_38 : decode cX6_endYear 38 = .ok (.iload_n 2, 1) := by decide +kernel
theorem dX6_endYear_39 : decode cX6_endYear 39 = .ok (.invokevirtual 114, 3) := by decide +kernel
theorem dX6_endYear_42 : decode cX6_endYear 42 = .ok (.istore_n 3, 1) := by decide +kernel
theorem dX6_endYear_43 : decode cX6_endYear 43 = .ok (.iload_n 1, 1) := by decide +kernel
theorem dX6_endYear_44 : decode cX6_endYear 44 = .ok (.iload_n 3, 1) := by decide +kernel
theorem dX6_endYear_45 : decode cX6_endYear 45 = .ok (.iadd, 1) := by decide +kernel
theorem dX6_endYear_46 : decode cX6_endYear 46 = .ok (.istore_n 1, 1) := by decide +kernel
theorem dX6_endYear_47 : decode cX6_endYear 47 = .ok (.aload_n 0, 1) := by decide +kernel
theorem dX6_endYear_48 : decode cX6_endYear 48 = .ok (.getfield 7, 3) := by decide +kernel
theorem dX6_endYear_51 : decode cX6_endYear 51 = .ok (.iload_n 2, 1) := by decide +kernel
theorem dX6_endYear_52 : decode cX6_endYear 52 = .ok (.bipush 6, 2) := by decide +kernel
theorem dX6_endYear_54 : decode cX6_endYear 54 = .ok (.invokestatic 34, 3) := by decide +kernel
theorem dX6_endYear_57 : decode cX6_endYear 57 = .ok (.aload_n 0, 1) := by decide +kernel
theorem dX6_endYear_58 : decode cX6_endYear 58 = .ok (.iload_n 2, 1) := by decide +kernel
theorem dX6_endYear_59 : decode cX6_endYear 59 = .ok (.invokevirtual 83, 3) := by decide +kernel
theorem dX6_endYear_62 : decode cX6_endYear 62 = .ok (.iload_n 3, 1) := by decide +kernel
theorem dX6_endYear_63 : decode cX6_endYear 63 = .ok (.isub, 1) := by decide +kernel
theorem dX6_endYear_64 : decode cX6_endYear 64 = .ok (.iastore, 1) := by decide +kernel
theorem dX6_endYear_65 : decode cX6_endYear 65 = .ok (.aload_n 0, 1) := by decide +kernel
theorem dX6_endYear_66 : decode cX6_endYear 66 = .ok (.getfield 7, 3) := by decide +kernel
theorem dX6_endYear_69 : decode cX6_endYear 69 = .ok (.iload_n 2, 1) := by decide +kernel
theorem dX6_endYear_70 : decode cX6_endYear 70 = .ok (.iconst 3, 1) := by decide +kernel
theorem dX6_endYear_71 : decode cX6_endYear 71 = .ok (.invokestatic 34, 3) := by decide +kernel
theorem dX6_endYear_74 : decode cX6_endYear 74 = .ok (.dup2, 1) := by decide +kernel
theorem dX6_endYear_75 : decode cX6_endYear 75 = .ok (.iaload, 1) := by decide +kernel
theorem dX6_endYear_76 : decode cX6_endYear 76 = .ok (.iload_n 3, 1) := by decide +kernel
theorem dX6_endYear_77 : decode cX6_endYear 77 = .ok (.aload_n 0, 1) := by decide +kernel
theorem dX6_endYear_78 : decode cX6_endYear 78 = .ok (.getfield 7, 3) := by decide +kernel
theorem dX6_endYear_81 : decode cX6_endYear 81 = .ok (.iload_n 2, 1) := by decide +kernel
theorem dX6_endYear_82 : decode cX6_endYear 82 = .ok (.iconst 5, 1) := by decide +kernel
theorem dX6_endYear_83 : decode cX6_endYear 83 = .ok (.invokestatic 34, 3) := by decide +kernel
theorem dX6_endYear_86 : decode cX6_endYear 86 = .ok (.iaload, 1) := by decide +kernel
theorem dX6_endYear_87 : decode cX6_endYear 87 = .ok (.iadd, 1) := by decide +kernel
theorem dX6_endYear_88 : decode cX6_endYear 88 = .ok (.isub, 1) := by decide +kernel
theorem dX6_endYear_89 : decode cX6_endYear 89 = .ok (.iastore, 1) := by decide +kernel
theorem dX6_endYear_90 : decode cX6_endYear 90 = .ok (.aload_n 0, 1) := by decide +kernel
theorem dX6_endYear_91 : decode cX6_endYear 91 = .ok (.getfield 7, 3) := by decide +kernel
theorem dX6_endYear_94 : decode cX6_endYear 94 = .ok (.iload_n 2, 1) := by decide +kernel
theorem dX6_endYear_95 : decode cX6_endYear 95 = .ok (.iconst 5, 1) := by decide +kernel
theorem dX6_endYear_96 : decode cX6_endYear 96 = .ok (.invokestatic 34, 3) := by decide +kernel
theorem dX6_endYear_99 : decode cX6_endYear 99 = .ok (.iconst 0, 1) := by decide +kernel
theorem dX6_endYear_100 : decode cX6_endYear 100 = .ok (.iastore, 1) := by decide +kernel
theorem dX6_endYear_101 : decode cX6_endYear 101 = .ok (.aload_n 0, 1) := by decide +kernel
theorem dX6_endYear_102 : decode cX6_endYear 102 = .ok (.getfield 7, 3) := by decide +kernel
theorem dX6_endYear_105 : decode cX6_endYear 105 = .ok (.iload_n 2, 1) := by decide +kernel
theorem dX6_endYear_106 : decode cX6_endYear 106 = .ok (.bipush 7, 2) := by decide +kernel
theorem dX6_endYear_108 : decode cX6_endYear 108 = .ok (.invokestatic 34, 3) := by decide +kernel
theorem dX6_endYear_111 : decode cX6_endYear 111 = .ok (.iconst 0, 1) := by decide +kernel
theorem dX6_endYear_112 : decode cX6_endYear 112 = .ok (.iastore, 1) := by decide +kernel
theorem dX6_endYear_113 : decode cX6_endYear 113 = .ok (.iinc 2 1, 3) := by decide +kernel
theorem dX6_endYear_116 : decode cX6_endYear 116 = .ok (.goto (-89), 3) := by decide +kernel
theorem dX6_endYear_119 : decode cX6_endYear 119 = .ok (.aload_n 0, 1) := by decide +kernel
theorem dX6_endYear_120 : decode cX6_endYear 120 = .ok (.getfield 7, 3) := by decide +kernel
theorem dX6_endYear_123 : decode cX6_endYear 123 = .ok (.iconst 4, 1) := by decide +kernel
theorem dX6_endYear_124 : decode cX6_endYear 124 = .ok (.dup2, 1) := by decide +kernel
theorem dX6_endYear_125 : decode cX6_endYear 125 = .ok (.iaload, 1) := by decide +kernel
theorem dX6_endYear_126 : decode cX6_endYear 126 = .ok (.iload_n 1, 1) := by decide +kernel
theorem dX6_endYear_127 : decode cX6_endYear 127 = .ok (.iadd, 1) := by decide +kernel
theorem dX6_endYear_128 : decode cX6_endYear 128 = .ok (.iastore, 1) := by decide +kernel
theorem dX6_endYear_129 : decode cX6_endYear 129 = .ok (.aload_n 0, 1) := by decide +kernel
theorem dX6_endYear_130 : decode cX6_endYear 130 = .ok (.getfield 7, 3) := by decide +kernel
theorem dX6_endYear_133 : decode cX6_endYear 133 = .ok (.iconst 0, 1) := by decide +kernel
theorem dX6_endYear_134 : decode cX6_endYear 134 = .ok (.dup2, 1) := by decide +kernel
theorem dX6_endYear_135 : decode cX6_endYear 135 = .ok (.iaload, 1) := by decide +kernel
theorem dX6_endYear_136 : decode cX6_endYear 136 = .ok (.iconst 1, 1) := by decide +kernel
theorem dX6_endYear_137 : decode cX6_endYear 137 = .ok (.iadd, 1) := by decide +kernel
theorem dX6_endYear_138 : decode cX6_endYear 138 = .ok (.iastore, 1) := by decide +kernel
theorem dX6_endYear_139 : decode cX6_endYear 139 = .ok (.iload_n 1, 1) := by decide +kernel
theorem dX6_endYear_140 : decode cX6_endYear 140 = .ok (.ireturn, 1) := by decide +kernel
set_option maxRecDepth 20000 in
theorem ggX6_canRevoke_X6_free : GoodIn wsX6_canRevoke wsX6_free := goodIn_r _ [12, 3, 13, 14, 11, 15, 19, 20, 21, 22, 23, 24, 25, 26, 27, 28] (by decide +kernel) (by decide +kernel)
set_option maxRecDepth 20000 in
theorem gX6_canRevoke_X6_free : GoodIn wsX6_canRevoke (wsV RX6 83 RX6 yX6_free wsX6_free) := goodIn_app (goodIn_of _ (by decide +kernel)) ggX6_canRevoke_X6_free
set_option maxRecDepth 20000 in
theorem ggX6_canRevoke_X6_ofCommitment : GoodIn wsX6_canRevoke wsX6_ofCommitment := goodIn_r _ [18] (by decide +kernel) (by decide +kernel)
set_option maxRecDepth 20000 in
theorem gX6_canRevoke_X6_ofCommitment : GoodIn wsX6_canRevoke (va_wsS RX6 86 yX6_ofCommitment wsX6_ofCommitment) := goodIn_app (goodIn_of _ (by decide +kernel)) ggX6_canRevoke_X6_ofCommitment
theorem dX6_canRevoke_0 : decode cX6_canRevoke 0 = .ok (.aload_n 0, 1) := by decide +kernel
theorem dX6_canRevoke_1 : decode cX6_canRevoke 1 = .ok (.getfield 28, 3) := by decide +kernel
theorem dX6_canRevoke_4 : decode cX6_canRevoke 4 = .ok (.iload_n 1, 1) := by decide +kernel
theorem dX6_canRevoke_5 : decode cX6_canRevoke 5 = .ok (.iaload, 1) := by decide +kernel
theorem dX6_canRevoke_6 : decode cX6_canRevoke 6 = .ok (.iconst 1, 1) := by decide +kernel
theorem dX6_canRevoke_7 : decode cX6_canRevoke 7 = .ok (.if_icmp .eq 18, 3) := by decide +kernel
theorem dX6_canRevoke_10 : decode cX6_canRevoke 10 = .ok (.aload_n 0, 1) := by decide +kernel
theorem dX6_canRevoke_11 : decode cX6_canRevoke 11 = .ok (.getfield 25, 3) := by decide +kernel
theorem dX6_canRevoke_14 : decode cX6_canRevoke 14 = .ok (.iload_n 1, 1) := by decide +kernel
theorem dX6_canRevoke_15 : decode cX6_canRevoke 15 = .ok (.iaload, 1) := by decide +kernel
theorem dX6_canRevoke_16 : decode cX6_canRevoke 16 = .ok (.aload_n 0, 1) := by decide +kernel
theorem dX6_canRevoke_17 : decode cX6_canRevoke 17 = .ok (.getfield 7, 3) := by decide +kernel
theorem dX6_canRevoke_20 : decode cX6_canRevoke 20 = .ok (.iconst 0, 1) := by decide +kernel
theorem dX6_canRevoke_21 : decode cX6_canRevoke 21 = .ok (.iaload, 1) := by decide +kernel
theorem dX6_canRevoke_22 : decode cX6_canRevoke 22 = .ok (.if_icmp .eq 5, 3) := by decide +kernel
theorem dX6_canRevoke_25 : decode cX6_canRevoke 25 = .ok (.iconst 0, 1) := by decide +kernel
theorem dX6_canRevoke_26 : decode cX6_canRevoke 26 = .ok (.ireturn, 1) := by decide +kernel
theorem dX6_canRevoke_27 : decode cX6_canRevoke 27 = .ok (.aload_n 0, 1) := by decide +kernel
theorem dX6_canRevoke_28 : decode cX6_canRevoke 28 = .ok (.getfield 13, 3) := by decide +kernel
theorem dX6_canRevoke_31 : decode cX6_canRevoke 31 = .ok (.iload_n 1, 1) := by decide +kernel
theorem dX6_canRevoke_32 : decode cX6_canRevoke 32 = .ok (.iaload, 1) := by decide +kernel
theorem dX6_canRevoke_33 : decode cX6_canRevoke 33 = .ok (.bipush 8, 2) := by decide +kernel
theorem dX6_canRevoke_35 : decode cX6_canRevoke 35 = .ok (.if_icmp .ne 30, 3) := by decide +kernel
theorem dX6_canRevoke_38 : decode cX6_canRevoke 38 = .ok (.aload_n 0, 1) := by decide +kernel
theorem dX6_canRevoke_39 : decode cX6_canRevoke 39 = .ok (.getfield 22, 3) := by decide +kernel
theorem dX6_canRevoke_42 : decode cX6_canRevoke 42 = .ok (.iload_n 1, 1) := by decide +kernel
theorem dX6_canRevoke_43 : decode cX6_canRevoke 43 = .ok (.iaload, 1) := by decide +kernel
theorem dX6_canRevoke_44 : decode cX6_canRevoke 44 = .ok (.aload_n 0, 1) := by decide +kernel
theorem dX6_canRevoke_45 : decode cX6_canRevoke 45 = .ok (.aload_n 0, 1) := by decide +kernel
theorem dX6_canRevoke_46 : decode cX6_canRevoke 46 = .ok (.getfield 19, 3) := by decide +kernel
theorem dX6_canRevoke_49 : decode cX6_canRevoke 49 = .ok (.iload_n 1, 1) := by decide +kernel
theorem dX6_canRevoke_50 : decode cX6_canRevoke 50 = .ok (.iaload, 1) := by decide +kernel
theorem dX6_canRevoke_51 : decode cX6_canRevoke 51 = .ok (.invokevirtual 83, 3) := by decide +kernel
theorem dX6_canRevoke_54 : decode cX6_canRevoke 54 = .ok (.if_icmp .gt 7, 3) := by decide +kernel
theorem dX6_canRevoke_57 : decode cX6_canRevoke 57 = .ok (.iconst 1, 1) := by decide +kernel
theorem dX6_canRevoke_58 : decode cX6_canRevoke 58 = .ok (.goto 40, 3) := by decide +kernel
theorem dX6_canRevoke_61 : decode cX6_canRevoke 61 = .ok (.iconst 0, 1) := by decide +kernel
theorem dX6_canRevoke_62 : decode cX6_canRevoke 62 = .ok (.goto 36, 3) := by decide +kernel
theorem dX6_canRevoke_65 : decode cX6_canRevoke 65 = .ok (.aload_n 0, 1) := by decide +kernel
theorem dX6_canRevoke_66 : decode cX6_canRevoke 66 = .ok (.getfield 13, 3) := by decide +kernel
theorem dX6_canRevoke_69 : decode cX6_canRevoke 69 = .ok (.iload_n 1, 1) := by decide +kernel
theorem dX6_canRevoke_70 : decode cX6_canRevoke 70 = .ok (.iaload, 1) := by decide +kernel
theorem dX6_canRevoke_71 : decode cX6_canRevoke 71 = .ok (.iconst 5, 1) := by decide +kernel
theorem dX6_canRevoke_72 : decode cX6_canRevoke 72 = .ok (.if_icmp .ne 25, 3) := by decide +kernel
theorem dX6_canRevoke_75 : decode cX6_canRevoke 75 = .ok (.aload_n 0, 1) := by decide +kernel
theorem dX6_canRevoke_76 : decode cX6_canRevoke 76 = .ok (.getfield 7, 3) := by decide +kernel
theorem dX6_canRevoke_79 : decode cX6_canRevoke 79 = .ok (.aload_n 0, 1) := by decide +kernel
theorem dX6_canRevoke_80 : decode cX6_canRevoke 80 = .ok (.getfield 16, 3) := by decide +kernel
theorem dX6_canRevoke_83 : decode cX6_canRevoke 83 = .ok (.iload_n 1, 1) := by decide +kernel
theorem dX6_canRevoke_84 : decode cX6_canRevoke 84 = .ok (.iaload, 1) := by decide +kernel
theorem dX6_canRevoke_85 : decode cX6_canRevoke 85 = .ok (.iconst 1, 1) := by decide +kernel
theorem dX6_canRevoke_86 : decode cX6_canRevoke 86 = .ok (.invokestatic 86, 3) := by decide +kernel
theorem dX6_canRevoke_89 : decode cX6_canRevoke 89 = .ok (.iaload, 1) := by decide +kernel
theorem dX6_canRevoke_90 : decode cX6_canRevoke 90 = .ok (.ifCond .le 7, 3) := by decide +kernel
theorem dX6_canRevoke_93 : decode cX6_canRevoke 93 = .ok (.iconst 1, 1) := by decide +kernel
theorem dX6_canRevoke_94 : decode cX6_canRevoke 94 = .ok (.goto 4, 3) := by decide +kernel
theorem dX6_canRevoke_97 : decode cX6_canRevoke 97 = .ok (.iconst 0, 1) := by decide +kernel
theorem dX6_canRevoke_98 : decode cX6_canRevoke 98 = .ok (.ireturn, 1) := by decide +kernel
set_option maxRecDepth 20000 in
theorem ggX6_revoke_X6_canRevoke : GoodIn wsX6_revoke wsX6_canRevoke := goodIn_r _ [13, 6, 14, 8, 2, 5, 4, 3, 15, 16, 17, 12, 18, 19, 20, 21, 22, 23, 24, 46, 47, 48, 49, 50, 51, 52, 53, 54, 55] (by decide +kernel) (by decide +kernel)
set_option maxRecDepth 20000 in
theorem gX6_revoke_X6_canRevoke : GoodIn wsX6_revoke (wsV RX6 117 RX6 yX6_canRevoke wsX6_canRevoke) := goodIn_app (goodIn_of _ (by decide +kernel)) ggX6_revoke_X6_canRevoke
set_option maxRecDepth 20000 in
theorem ggX6_revoke_X6_remember : GoodIn wsX6_revoke wsX6_remember := goodIn_r _ [28, 1, 2, 3, 4, 5, 14, 8, 6, 7, 29, 30, 31, 32, 12, 33, 34, 35, 36, 37, 46, 47, 48, 49, 50, 51, 52, 53, 54, 55] (by decide +kernel) (by decide +kernel)
set_option maxRecDepth 20000 in
theorem gX6_revoke_X6_remember : GoodIn wsX6_revoke (wsV RX6 71 RX6 yX6_remember wsX6_remember) := goodIn_app (goodIn_of _ (by decide +kernel)) ggX6_revoke_X6_remember
set_option maxRecDepth 20000 in
theorem ggX6_revoke_X6_free0 : GoodIn wsX6_revoke wsX6_free0 := goodIn_r _ [41, 8, 22, 23, 12, 24, 19, 20, 21, 46, 47, 48, 49, 50, 51, 52, 53, 54, 55] (by decide +kernel) (by decide +kernel)
set_option maxRecDepth 20000 in
theorem gX6_revoke_X6_free0 : GoodIn wsX6_revoke (wsV RX6 92 RX6 yX6_free0 wsX6_free0) := goodIn_app (goodIn_of _ (by decide +kernel)) ggX6_revoke_X6_free0
set_option maxRecDepth 20000 in
theorem ggX6_revoke_X6_moves : GoodIn wsX6_revoke wsX6_moves := goodIn_r _ [45, 8, 19, 20, 12, 21, 46, 47, 48, 49, 50, 51, 52, 53, 54, 55] (by decide +kernel) (by decide +kernel)
set_option maxRecDepth 20000 in
theorem gX6_revoke_X6_moves : GoodIn wsX6_revoke (wsV RX6 110 RX6 yX6_moves wsX6_moves) := goodIn_app (goodIn_of _ (by decide +kernel)) ggX6_revoke_X6_moves
set_option maxRecDepth 20000 in
theorem ggX6_revoke_X6_of : GoodIn wsX6_revoke wsX6_of := goodIn_r _ [21] (by decide +kernel) (by decide +kernel)
set_option maxRecDepth 20000 in
theorem gX6_revoke_X6_of : GoodIn wsX6_revoke (va_wsS RX6 34 yX6_of wsX6_of) := goodIn_app (goodIn_of _ (by decide +kernel)) ggX6_revoke_X6_of
theorem dX6_revoke_0 : decode cX6_revoke 0 = .ok (.iload_n 1, 1) := by decide +kernel
theorem dX6_revoke_1 : decode cX6_revoke 1 = .ok (.ifCond .ge 5, 3) := by decide +kernel
theorem dX6_revoke_4 : decode cX6_revoke 4 = .ok (.iconst (-1), 1) := by decide +kernel
theorem dX6_revoke_5 : decode cX6_revoke 5 = .ok (.ireturn, 1) := by decide +kernel
theorem dX6_revoke_6 : decode cX6_revoke 6 = .ok (.iload_n 1, 1) := by decide +kernel
theorem dX6_revoke_7 : decode cX6_revoke 7 = .ok (.aload_n 0, 1) := by decide +kernel
theorem dX6_revoke_8 : decode cX6_revoke 8 = .ok (.getfield 47, 3) := by decide +kernel
theorem dX6_revoke_11 : decode cX6_revoke 11 = .ok (.if_icmp .ge 18, 3) := by decide +kernel
theorem dX6_revoke_14 : decode cX6_revoke 14 = .ok (.aload_n 0, 1) := by decide +kernel
theorem dX6_revoke_15 : decode cX6_revoke 15 = .ok (.aload_n 0, 1) := by decide +kernel
theorem dX6_revoke_16 : decode cX6_revoke 16 = .ok (.getfield 47, 3) := by decide +kernel
theorem dX6_revoke_19 : decode cX6_revoke 19 = .ok (.iconst 1, 1) := by decide +kernel
theorem dX6_revoke_20 : decode cX6_revoke 20 = .ok (.isub, 1) := by decide +kernel
theorem dX6_revoke_21 : decode cX6_revoke 21 = .ok (.iload_n 1, 1) := by decide +kernel
theorem dX6_revoke_22 : decode cX6_revoke 22 = .ok (.isub, 1) := by decide +kernel
theorem dX6_revoke_23 : decode cX6_revoke 23 = .ok (.invokevirtual 117, 3) := by decide +kernel
theorem dX6_revoke_26 : decode cX6_revoke 26 = .ok (.ifCond .ne 6, 3) := by decide +kernel
theorem dX6_revoke_29 : decode cX6_revoke 29 = .ok (.bipush (-2), 2) := by decide +kernel
theorem dX6_revoke_31 : decode cX6_revoke 31 = .ok (.ireturn, 1) := by decide +kernel
theorem dX6_revoke_32 : decode cX6_revoke 32 = .ok (.aload_n 0, 1) := by decide +kernel
theorem dX6_revoke_33 : decode cX6_revoke 33 = .ok (.getfield 47, 3) := by decide +kernel
theorem dX6_revoke_36 : decode cX6_revoke 36 = .ok (.iconst 1, 1) := by decide +kernel
theorem dX6_revoke_37 : decode cX6_revoke 37 = .ok (.isub, 1) := by decide +kernel
theorem dX6_revoke_38 : decode cX6_revoke 38 = .ok (.iload_n 1, 1) := by decide +kernel
theorem dX6_revoke_39 : decode cX6_revoke 39 = .ok (.isub, 1) := by decide +kernel
theorem dX6_revoke_40 : decode cX6_revoke 40 = .ok (.istore_n 2, 1) := by decide +kernel
theorem dX6_revoke_41 : decode cX6_revoke 41 = .ok (.aload_n 0, 1) := by decide +kernel
theorem dX6_revoke_42 : decode cX6_revoke 42 = .ok (.getfield 13, 3) := by decide +kernel
theorem dX6_revoke_45 : decode cX6_revoke 45 = .ok (.iload_n 2, 1) := by decide +kernel
theorem dX6_revoke_46 : decode cX6_revoke 46 = .ok (.iaload, 1) := by decide +kernel
theorem dX6_revoke_47 : decode cX6_revoke 47 = .ok (.istore_n 3, 1) := by decide +kernel
theorem dX6_revoke_48 : decode cX6_revoke 48 = .ok (.aload_n 0, 1) := by decide +kernel
theorem dX6_revoke_49 : decode cX6_revoke 49 = .ok (.getfield 16, 3) := by decide +kernel
theorem dX6_revoke_52 : decode cX6_revoke 52 = .ok (.iload_n 2, 1) := by decide +kernel
theorem dX6_revoke_53 : decode cX6_revoke 53 = .ok (.iaload, 1) := by decide +kernel
theorem dX6_revoke_54 : decode cX6_revoke 54 = .ok (.istore 4, 2) := by decide +kernel
theorem dX6_revoke_56 : decode cX6_revoke 56 = .ok (.aload_n 0, 1) := by decide +kernel
theorem dX6_revoke_57 : decode cX6_revoke 57 = .ok (.getfield 19, 3) := by decide +kernel
theorem dX6_revoke_60 : decode cX6_revoke 60 = .ok (.iload_n 2, 1) := by decide +kernel
theorem dX6_revoke_61 : decode cX6_revoke 61 = .ok (.iaload, 1) := by decide +kernel
theorem dX6_revoke_62 : decode cX6_revoke 62 = .ok (.istore 5, 2) := by decide +kernel
theorem dX6_revoke_64 : decode cX6_revoke 64 = .ok (.aload_n 0, 1) := by decide +kernel
theorem dX6_revoke_65 : decode cX6_revoke 65 = .ok (.getfield 22, 3) := by decide +kernel
theorem dX6_revoke_68 : decode cX6_revoke 68 = .ok (.iload_n 2, 1) := by decide +kernel
theorem dX6_revoke_69 : decode cX6_revoke 69 = .ok (.iaload, 1) := by decide +kernel
theorem dX6_revoke_70 : decode cX6_revoke 70 = .ok (.istore 6, 2) := by decide +kernel
theorem dX6_revoke_72 : decode cX6_revoke 72 = .ok (.aload_n 0, 1) := by decide +kernel
theorem dX6_revoke_73 : decode cX6_revoke 73 = .ok (.getfield 28, 3) := by decide +kernel
theorem dX6_revoke_76 : decode cX6_revoke 76 = .ok (.iload_n 2, 1) := by decide +kernel
theorem dX6_revoke_77 : decode cX6_revoke 77 = .ok (.iconst 1, 1) := by decide +kernel
theorem dX6_revoke_78 : decode cX6_revoke 78 = .ok (.iastore, 1) := by decide +kernel
theorem dX6_revoke_79 : decode cX6_revoke 79 = .ok (.aload_n 0, 1) := by decide +kernel
theorem dX6_revoke_80 : decode cX6_revoke 80 = .ok (.bipush 10, 2) := by decide +kernel
theorem dX6_revoke_82 : decode cX6_revoke 82 = .ok (.aload_n 0, 1) := by decide +kernel
theorem dX6_revoke_83 : decode cX6_revoke 83 = .ok (.getfield 31, 3) := by decide +kernel
theorem dX6_revoke_86 : decode cX6_revoke 86 = .ok (.iload_n 2, 1) := by decide +kernel
theorem dX6_revoke_87 : decode cX6_revoke 87 = .ok (.iaload, 1) := by decide +kernel
theorem dX6_revoke_88 : decode cX6_revoke 88 = .ok (.iconst 0, 1) := by decide +kernel
theorem dX6_revoke_89 : decode cX6_revoke 89 = .ok (.iconst 0, 1) := by decide +kernel
theorem dX6_revoke_90 : decode cX6_revoke 90 = .ok (.invokevirtual 71, 3) := by decide +kernel
theorem dX6_revoke_93 : decode cX6_revoke 93 = .ok (.iload_n 3, 1) := by decide +kernel
theorem dX6_revoke_94 : decode cX6_revoke 94 = .ok (.iconst 5, 1) := by decide +kernel
theorem dX6_revoke_95 : decode cX6_revoke 95 = .ok (.if_icmp .ne 10, 3) := by decide +kernel
theorem dX6_revoke_98 : decode cX6_revoke 98 = .ok (.aload_n 0, 1) := by decide +kernel
theorem dX6_revoke_99 : decode cX6_revoke 99 = .ok (.iload 4, 2) := by decide +kernel
theorem dX6_revoke_101 : decode cX6_revoke 101 = .ok (.invokevirtual 92, 3) := by decide +kernel
theorem dX6_revoke_104 : decode cX6_revoke 104 = .ok (.ireturn, 1) := by decide +kernel
theorem dX6_revoke_105 : decode cX6_revoke 105 = .ok (.aload_n 0, 1) := by decide +kernel
theorem dX6_revoke_106 : decode cX6_revoke 106 = .ok (.iload 5, 2) := by decide +kernel
theorem dX6_revoke_108 : decode cX6_revoke 108 = .ok (.iload 4, 2) := by decide +kernel
theorem dX6_revoke_110 : decode cX6_revoke 110 = .ok (.iload 6, 2) := by decide +kernel
theorem dX6_revoke_112 : decode cX6_revoke 112 = .ok (.invokevirtual 110, 3) := by decide +kernel
theorem dX6_revoke_115 : decode cX6_revoke 115 = .ok (.aload_n 0, 1) := by decide +kernel
theorem dX6_revoke_116 : decode cX6_revoke 116 = .ok (.getfield 7, 3) := by decide +kernel
theorem dX6_revoke_119 : decode cX6_revoke 119 = .ok (.iload 4, 2) := by decide +kernel
theorem dX6_revoke_121 : decode cX6_revoke 121 = .ok (.bipush 7, 2) := by decide +kernel
theorem dX6_revoke_123 : decode cX6_revoke 123 = .ok (.invokestatic 34, 3) := by decide +kernel
theorem dX6_revoke_126 : decode cX6_revoke 126 = .ok (.dup2, 1) := by decide +kernel
theorem dX6_revoke_127 : decode cX6_revoke 127 = .ok (.iaload, 1) := by decide +kernel
theorem dX6_revoke_128 : decode cX6_revoke 128 = .ok (.iload 6, 2) := by decide +kernel
theorem dX6_revoke_130 : decode cX6_revoke 130 = .ok (.isub, 1) := by decide +kernel
theorem dX6_revoke_131 : decode cX6_revoke 131 = .ok (.iastore, 1) := by decide +kernel
theorem dX6_revoke_132 : decode cX6_revoke 132 = .ok (.iload 6, 2) := by decide +kernel
theorem dX6_revoke_134 : decode cX6_revoke 134 = .ok (.ireturn, 1) := by decide +kernel
set_option maxRecDepth 20000 in
theorem ggX6_sumOf_X6_of : GoodIn wsX6_sumOf wsX6_of := goodIn_r _ [5] (by decide +kernel) (by decide +kernel)
set_option maxRecDepth 20000 in
theorem gX6_sumOf_X6_of : GoodIn wsX6_sumOf (va_wsS RX6 34 yX6_of wsX6_of) := goodIn_app (goodIn_of _ (by decide +kernel)) ggX6_sumOf_X6_of
theorem dX6_sumOf_0 : decode cX6_sumOf 0 = .ok (.iconst 0, 1) := by decide +kernel
theorem dX6_sumOf_1 : decode cX6_sumOf 1 = .ok (.istore_n 2, 1) := by decide +kernel
theorem dX6_sumOf_2 : decode cX6_sumOf 2 = .ok (.iconst 0, 1) := by decide +kernel
theorem dX6_sumOf_3 : decode cX6_sumOf 3 = .ok (.istore_n 3, 1) := by decide +kernel
theorem dX6_sumOf_4 : decode cX6_sumOf 4 = .ok (.iload_n 3, 1) := by decide +kernel
theorem dX6_sumOf_5 : decode cX6_sumOf 5 = .ok (.aload_n 0, 1) := by decide +kernel
theorem dX6_sumOf_6 : decode cX6_sumOf 6 = .ok (.getfield 7, 3) := by decide +kernel
theorem dX6_sumOf_9 : decode cX6_sumOf 9 = .ok (.iconst 1, 1) := by decide +kernel
theorem dX6_sumOf_10 : decode cX6_sumOf 10 = .ok (.iaload, 1) := by decide +kernel
theorem dX6_sumOf_11 : decode cX6_sumOf 11 = .ok (.if_icmp .ge 22, 3) := by decide +kernel
theorem dX6_sumOf_14 : decode cX6_sumOf 14 = .ok (.iload_n 2, 1) := by decide +kernel
theorem dX6_sumOf_15 : decode cX6_sumOf 15 = .ok (.aload_n 0, 1) := by decide +kernel
theorem dX6_sumOf_16 : decode cX6_sumOf 16 = .ok (.getfield 7, 3) := by decide +kernel
theorem dX6_sumOf_19 : decode cX6_sumOf 19 = .ok (.iload_n 3, 1) := by decide +kernel
theorem dX6_sumOf_20 : decode cX6_sumOf 20 = .ok (.iload_n 1, 1) := by decide +kernel
theorem dX6_sumOf_21 : decode cX6_sumOf 21 = .ok (.invokestatic 34, 3) := by decide +kernel
theorem dX6_sumOf_24 : decode cX6_sumOf 24 = .ok (.iaload, 1) := by decide +kernel
theorem dX6_sumOf_25 : decode cX6_sumOf 25 = .ok (.iadd, 1) := by decide +kernel
theorem dX6_sumOf_26 : decode cX6_sumOf 26 = .ok (.istore_n 2, 1) := by decide +kernel
theorem dX6_sumOf_27 : decode cX6_sumOf 27 = .ok (.iinc 3 1, 3) := by decide +kernel
theorem dX6_sumOf_30 : decode cX6_sumOf 30 = .ok (.goto (-26), 3) := by decide +kernel
theorem dX6_sumOf_33 : decode cX6_sumOf 33 = .ok (.iload_n 2, 1) := by decide +kernel
theorem dX6_sumOf_34 : decode cX6_sumOf 34 = .ok (.ireturn, 1) := by decide +kernel
set_option maxRecDepth 20000 in
theorem ggX6_opens_X6_ofCommitment : GoodIn wsX6_opens wsX6_ofCommitment := goodIn_r _ [5] (by decide +kernel) (by decide +kernel)
set_option maxRecDepth 20000 in
theorem gX6_opens_X6_ofCommitment : GoodIn wsX6_opens (va_wsS RX6 86 yX6_ofCommitment wsX6_ofCommitment) := goodIn_app (goodIn_of _ (by decide +kernel)) ggX6_opens_X6_ofCommitment
theorem dX6_opens_0 : decode cX6_opens 0 = .ok (.iconst 0, 1) := by decide +kernel
theorem dX6_opens_1 : decode cX6_opens 1 = .ok (.istore_n 1, 1) := by decide +kernel
theorem dX6_opens_2 : decode cX6_opens 2 = .ok (.iconst 0, 1) := by decide +kernel
theorem dX6_opens_3 : decode cX6_opens 3 = .ok (.istore_n 2, 1) := by decide +kernel
theorem dX6_opens_4 : decode cX6_opens 4 = .ok (.iload_n 2, 1) := by decide +kernel
theorem dX6_opens_5 : decode cX6_opens 5 = .ok (.aload_n 0, 1) := by decide +kernel
theorem dX6_opens_6 : decode cX6_opens 6 = .ok (.getfield 7, 3) := by decide +kernel
theorem dX6_opens_9 : decode cX6_opens 9 = .ok (.iconst 2, 1) := by decide +kernel
theorem dX6_opens_10 : decode cX6_opens 10 = .ok (.iaload, 1) := by decide +kernel
theorem dX6_opens_11 : decode cX6_opens 11 = .ok (.if_icmp .ge 30, 3) := by decide +kernel
theorem dX6_opens_14 : decode cX6_opens 14 = .ok (.iload_n 1, 1) := by decide +kernel
theorem dX6_opens_15 : decode cX6_opens 15 = .ok (.aload_n 0, 1) := by decide +kernel
theorem dX6_opens_16 : decode cX6_opens 16 = .ok (.getfield 7, 3) := by decide +kernel
theorem dX6_opens_19 : decode cX6_opens 19 = .ok (.iload_n 2, 1) := by decide +kernel
theorem dX6_opens_20 : decode cX6_opens 20 = .ok (.iconst 1, 1) := by decide +kernel
theorem dX6_opens_21 : decode cX6_opens 21 = .ok (.invokestatic 86, 3) := by decide +kernel
theorem dX6_opens_24 : decode cX6_opens 24 = .ok (.iaload, 1) := by decide +kernel
theorem dX6_opens_25 : decode cX6_opens 25 = .ok (.ifCond .le 7, 3) := by decide +kernel
theorem dX6_opens_28 : decode cX6_opens 28 = .ok (.iconst 1, 1) := by decide +kernel
theorem dX6_opens_29 : decode cX6_opens 29 = .ok (.goto 4, 3) := by decide +kernel
theorem dX6_opens_32 : decode cX6_opens 32 = .ok (.iconst 0, 1) := by decide +kernel
theorem dX6_opens_33 : decode cX6_opens 33 = .ok (.iadd, 1) := by decide +kernel
theorem dX6_opens_34 : decode cX6_opens 34 = .ok (.istore_n 1, 1) := by decide +kernel
theorem dX6_opens_35 : decode cX6_opens 35 = .ok (.iinc 2 1, 3) := by decide +kernel
theorem dX6_opens_38 : decode cX6_opens 38 = .ok (.goto (-34), 3) := by decide +kernel
theorem dX6_opens_41 : decode cX6_opens 41 = .ok (.iload_n 1, 1) := by decide +kernel
theorem dX6_opens_42 : decode cX6_opens 42 = .ok (.ireturn, 1) := by decide +kernel
set_option maxRecDepth 20000 in
theorem ggX6_count_X6_opens : GoodIn wsX6_count wsX6_opens := goodIn_r _ [7, 1, 8, 9, 6, 10, 30, 31, 32, 33, 34, 35, 36, 37, 38, 39] (by decide +kernel) (by decide +kernel)
set_option maxRecDepth 20000 in
theorem gX6_count_X6_opens : GoodIn wsX6_count (wsV RX6 120 RX6 yX6_opens wsX6_opens) := goodIn_app (goodIn_of _ (by decide +kernel)) ggX6_count_X6_opens
set_option maxRecDepth 20000 in
theorem ggX6_count_X6_barred : GoodIn wsX6_count wsX6_barred := goodIn_r _ [14, 1, 15, 16, 17, 6, 18, 19, 20, 21, 22, 23, 24, 25, 30, 31, 32, 33, 34, 35, 36, 37, 38, 39] (by decide +kernel) (by decide +kernel)
set_option maxRecDepth 20000 in
theorem gX6_count_X6_barred : GoodIn wsX6_count (wsV RX6 79 RX6 yX6_barred wsX6_barred) := goodIn_app (goodIn_of _ (by decide +kernel)) ggX6_count_X6_barred
set_option maxRecDepth 20000 in
theorem ggX6_count_X6_sumOf : GoodIn wsX6_count wsX6_sumOf := goodIn_r _ [29, 1, 19, 20, 6, 21, 30, 31, 32, 33, 34, 35, 36, 37, 38, 39] (by decide +kernel) (by decide +kernel)
set_option maxRecDepth 20000 in
theorem gX6_count_X6_sumOf : GoodIn wsX6_count (wsV RX6 123 RX6 yX6_sumOf wsX6_sumOf) := goodIn_app (goodIn_of _ (by decide +kernel)) ggX6_count_X6_sumOf
theorem dX6_count_0 : decode cX6_count 0 = .ok (.iload_n 1, 1) := by decide +kernel
theorem dX6_count_1 : decode cX6_count 1 = .ok (.tableswitch 104 0 9 #[55, 55, 55, 62, 67, 72, 79, 85, 92, 99], 55) := by decide +kernel
theorem dX6_count_56 : decode cX6_count 56 = .ok (.aload_n 0, 1) := by decide +kernel
theorem dX6_count_57 : decode cX6_count 57 = .ok (.getfield 7, 3) := by decide +kernel
theorem dX6_count_60 : decode cX6_count 60 = .ok (.iload_n 1, 1) := by decide +kernel
theorem dX6_count_61 : decode cX6_count 61 = .ok (.iaload, 1) := by decide +kernel
theorem dX6_count_62 : decode cX6_count 62 = .ok (.ireturn, 1) := by decide +kernel
theorem dX6_count_63 : decode cX6_count 63 = .ok (.aload_n 0, 1) := by decide +kernel
theorem dX6_count_64 : decode cX6_count 64 = .ok (.invokevirtual 120, 3) := by decide +kernel
theorem dX6_count_67 : decode cX6_count 67 = .ok (.ireturn, 1) := by decide +kernel
theorem dX6_count_68 : decode cX6_count 68 = .ok (.aload_n 0, 1) := by decide +kernel
theorem dX6_count_69 : decode cX6_count 69 = .ok (.invokevirtual 79, 3) := by decide +kernel
theorem dX6_count_72 : decode cX6_count 72 = .ok (.ireturn, 1) := by decide +kernel
theorem dX6_count_73 : decode cX6_count 73 = .ok (.aload_n 0, 1) := by decide +kernel
theorem dX6_count_74 : decode cX6_count 74 = .ok (.getfield 7, 3) := by decide +kernel
theorem dX6_count_77 : decode cX6_count 77 = .ok (.iconst 3, 1) := by decide +kernel
theorem dX6_count_78 : decode cX6_count 78 = .ok (.iaload, 1) := by decide +kernel
theorem dX6_count_79 : decode cX6_count 79 = .ok (.ireturn, 1) := by decide +kernel
theorem dX6_count_80 : decode cX6_count 80 = .ok (.aload_n 0, 1) := by decide +kernel
theorem dX6_count_81 : decode cX6_count 81 = .ok (.iconst 3, 1) := by decide +kernel
theorem dX6_count_82 : decode cX6_count 82 = .ok (.invokevirtual 123, 3) := by decide +kernel
theorem dX6_count_85 : decode cX6_count 85 = .ok (.ireturn, 1) := by decide +kernel
theorem dX6_count_86 : decode cX6_count 86 = .ok (.aload_n 0, 1) := by decide +kernel
theorem dX6_count_87 : decode cX6_count 87 = .ok (.getfield 7, 3) := by decide +kernel
theorem dX6_count_90 : decode cX6_count 90 = .ok (.iconst 4, 1) := by decide +kernel
theorem dX6_count_91 : decode cX6_count 91 = .ok (.iaload, 1) := by decide +kernel
theorem dX6_count_92 : decode cX6_count 92 = .ok (.ireturn, 1) := by decide +kernel
theorem dX6_count_93 : decode cX6_count 93 = .ok (.aload_n 0, 1) := by decide +kernel
theorem dX6_count_94 : decode cX6_count 94 = .ok (.getfield 7, 3) := by decide +kernel
theorem dX6_count_97 : decode cX6_count 97 = .ok (.iconst 5, 1) := by decide +kernel
theorem dX6_count_98 : decode cX6_count 98 = .ok (.iaload, 1) := by decide +kernel
theorem dX6_count_99 : decode cX6_count 99 = .ok (.ireturn, 1) := by decide +kernel
theorem dX6_count_100 : decode cX6_count 100 = .ok (.aload_n 0, 1) := by decide +kernel
theorem dX6_count_101 : decode cX6_count 101 = .ok (.getfield 47, 3) := by decide +kernel
theorem dX6_count_104 : decode cX6_count 104 = .ok (.ireturn, 1) := by decide +kernel
theorem dX6_count_105 : decode cX6_count 105 = .ok (.iconst (-1), 1) := by decide +kernel
theorem dX6_count_106 : decode cX6_count 106 = .ok (.ireturn, 1) := by decide +kernel
set_option maxRecDepth 20000 in
theorem ggX6_head_X6_isHead : GoodIn wsX6_head wsX6_isHead := goodIn_r _ [6, 1, 7, 8, 5, 9, 29, 30, 31, 32, 33, 34, 35, 36, 37, 38] (by decide +kernel) (by decide +kernel)
set_option maxRecDepth 20000 in
theorem gX6_head_X6_isHead : GoodIn wsX6_head (wsV RX6 65 RX6 yX6_isHead wsX6_isHead) := goodIn_app (goodIn_of _ (by decide +kernel)) ggX6_head_X6_isHead
set_option maxRecDepth 20000 in
theorem ggX6_head_X6_aboveOf : GoodIn wsX6_head wsX6_aboveOf := goodIn_r _ [13, 1, 14, 15, 5, 16, 29, 30, 31, 32, 33, 34, 35, 36, 37, 38] (by decide +kernel) (by decide +kernel)
set_option maxRecDepth 20000 in
theorem gX6_head_X6_aboveOf : GoodIn wsX6_head (wsV RX6 57 RX6 yX6_aboveOf wsX6_aboveOf) := goodIn_app (goodIn_of _ (by decide +kernel)) ggX6_head_X6_aboveOf
set_option maxRecDepth 20000 in
theorem ggX6_head_X6_depth : GoodIn wsX6_head wsX6_depth := goodIn_r _ [20, 10, 11, 12, 5, 13, 1, 14, 15, 16, 29, 30, 31, 32, 33, 34, 35, 36, 37, 38] (by decide +kernel) (by decide +kernel)
set_option maxRecDepth 20000 in
theorem gX6_head_X6_depth : GoodIn wsX6_head (wsV RX6 68 RX6 yX6_depth wsX6_depth) := goodIn_app (goodIn_of _ (by decide +kernel)) ggX6_head_X6_depth
set_option maxRecDepth 20000 in
theorem ggX6_head_X6_of : GoodIn wsX6_head wsX6_of := goodIn_r _ [16] (by decide +kernel) (by decide +kernel)
set_option maxRecDepth 20000 in
theorem gX6_head_X6_of : GoodIn wsX6_head (va_wsS RX6 34 yX6_of wsX6_of) := goodIn_app (goodIn_of _ (by decide +kernel)) ggX6_head_X6_of
set_option maxRecDepth 20000 in
theorem ggX6_head_X6_isBarred : GoodIn wsX6_head wsX6_isBarred := goodIn_r _ [24, 1, 14, 15, 5, 16, 10, 11, 12, 13, 29, 30, 31, 32, 33, 34, 35, 36, 37, 38] (by decide +kernel) (by decide +kernel)
set_option maxRecDepth 20000 in
theorem gX6_head_X6_isBarred : GoodIn wsX6_head (wsV RX6 61 RX6 yX6_isBarred wsX6_isBarred) := goodIn_app (goodIn_of _ (by decide +kernel)) ggX6_head_X6_isBarred
set_option maxRecDepth 20000 in
theorem ggX6_head_X6_free : GoodIn wsX6_head wsX6_free := goodIn_r _ [28, 1, 14, 15, 5, 16, 29, 30, 31, 32, 33, 34, 35, 36, 37, 38] (by decide +kernel) (by decide +kernel)
set_option maxRecDepth 20000 in
theorem gX6_head_X6_free : GoodIn wsX6_head (wsV RX6 83 RX6 yX6_free wsX6_free) := goodIn_app (goodIn_of _ (by decide +kernel)) ggX6_head_X6_free
theorem dX6_head_0 : decode cX6_head 0 = .ok (.aload_n 0, 1) := by decide +kernel
theorem dX6_head_1 : decode cX6_head 1 = .ok (.iload_n 1, 1) := by decide +kernel
theorem dX6_head_2 : decode cX6_head 2 = .ok (.invokevirtual 65, 3) := by decide +kernel
theorem dX6_head_5 : decode cX6_head 5 = .ok (.ifCond .ne 5, 3) := by decide +kernel
theorem dX6_head_8 : decode cX6_head 8 = .ok (.iconst (-1), 1) := by decide +kernel
theorem dX6_head_9 : decode cX6_head 9 = .ok (.ireturn, 1) := by decide +kernel
theorem dX6_head_10 : decode cX6_head 10 = .ok (.iload_n 2, 1) := by decide +kernel
theorem dX6_head_11 : decode cX6_head 11 = .ok (.tableswitch 132 0 11 #[61, 67, 73, 73, 86, 100, 100, 100, 113, 119, 119, 119], 61) := by decide +kernel
theorem dX6_head_72 : decode cX6_head 72 = .ok (.aload_n 0, 1) := by decide +kernel
theorem dX6_head_73 : decode cX6_head 73 = .ok (.iload_n 1, 1) := by decide +kernel
theorem dX6_head_74 : decode cX6_head 74 = .ok (.invokevirtual 57, 3) := by decide +kernel
theorem dX6_head_77 : decode cX6_head 77 = .ok (.ireturn, 1) := by decide +kernel
theorem dX6_head_78 : decode cX6_head 78 = .ok (.aload_n 0, 1) := by decide +kernel
theorem dX6_head_79 : decode cX6_head 79 = .ok (.iload_n 1, 1) := by decide +kernel
theorem dX6_head_80 : decode cX6_head 80 = .ok (.invokevirtual 68, 3) := by decide +kernel
theorem dX6_head_83 : decode cX6_head 83 = .ok (.ireturn, 1) := by decide +kernel
theorem dX6_head_84 : decode cX6_head 84 = .ok (.aload_n 0, 1) := by decide +kernel
theorem dX6_head_85 : decode cX6_head 85 = .ok (.getfield 7, 3) := by decide +kernel
theorem dX6_head_88 : decode cX6_head 88 = .ok (.iload_n 1, 1) := by decide +kernel
theorem dX6_head_89 : decode cX6_head 89 = .ok (.iload_n 2, 1) := by decide +kernel
theorem dX6_head_90 : decode cX6_head 90 = .ok (.iconst 1, 1) := by decide +kernel
theorem dX6_head_91 : decode cX6_head 91 = .ok (.isub, 1) := by decide +kernel
theorem dX6_head_92 : decode cX6_head 92 = .ok (.invokestatic 34, 3) := by decide +kernel
theorem dX6_head_95 : decode cX6_head 95 = .ok (.iaload, 1) := by decide +kernel
theorem dX6_head_96 : decode cX6_head 96 = .ok (.ireturn, 1) := by decide +kernel
theorem dX6_head_97 : decode cX6_head 97 = .ok (.aload_n 0, 1) := by decide +kernel
theorem dX6_head_98 : decode cX6_head 98 = .ok (.iload_n 1, 1) := by decide +kernel
theorem dX6_head_99 : decode cX6_head 99 = .ok (.invokevirtual 61, 3) := by decide +kernel
theorem dX6_head_102 : decode cX6_head 102 = .ok (.ifCond .eq 7, 3) := by decide +kernel
theorem dX6_head_105 : decode cX6_head 105 = .ok (.iconst 1, 1) := by decide +kernel
theorem dX6_head_106 : decode cX6_head 106 = .ok (.goto 4, 3) := by decide +kernel
theorem dX6_head_109 : decode cX6_head 109 = .ok (.iconst 0, 1) := by decide +kernel
theorem dX6_head_110 : decode cX6_head 110 = .ok (.ireturn, 1) := by decide +kernel
theorem dX6_head_111 : decode cX6_head 111 = .ok (.aload_n 0, 1) := by decide +kernel
theorem dX6_head_112 : decode cX6_head 112 = .ok (.getfield 7, 3) := by decide +kernel
theorem dX6_head_115 : decode cX6_head 115 = .ok (.iload_n 1, 1) := by decide +kernel
theorem dX6_head_116 : decode cX6_head 116 = .ok (.iload_n 2, 1) := by decide +kernel
theorem dX6_head_117 : decode cX6_head 117 = .ok (.iconst 2, 1) := by decide +kernel
theorem dX6_head_118 : decode cX6_head 118 = .ok (.isub, 1) := by decide +kernel
theorem dX6_head_119 : decode cX6_head 119 = .ok (.invokestatic 34, 3) := by decide +kernel
theorem dX6_head_122 : decode cX6_head 122 = .ok (.iaload, 1) := by decide +kernel
theorem dX6_head_123 : decode cX6_head 123 = .ok (.ireturn, 1) := by decide +kernel
theorem dX6_head_124 : decode cX6_head 124 = .ok (.aload_n 0, 1) := by decide +kernel
theorem dX6_head_125 : decode cX6_head 125 = .ok (.iload_n 1, 1) := by decide +kernel
theorem dX6_head_126 : decode cX6_head 126 = .ok (.invokevirtual 83, 3) := by decide +kernel
theorem dX6_head_129 : decode cX6_head 129 = .ok (.ireturn, 1) := by decide +kernel
theorem dX6_head_130 : decode cX6_head 130 = .ok (.aload_n 0, 1) := by decide +kernel
theorem dX6_head_131 : decode cX6_head 131 = .ok (.getfield 7, 3) := by decide +kernel
theorem dX6_head_134 : decode cX6_head 134 = .ok (.iload_n 1, 1) := by decide +kernel
theorem dX6_head_135 : decode cX6_head 135 = .ok (.iload_n 2, 1) := by decide +kernel
theorem dX6_head_136 : decode cX6_head 136 = .ok (.iconst 3, 1) := by decide +kernel
theorem dX6_head_137 : decode cX6_head 137 = .ok (.isub, 1) := by decide +kernel
theorem dX6_head_138 : decode cX6_head 138 = .ok (.invokestatic 34, 3) := by decide +kernel
theorem dX6_head_141 : decode cX6_head 141 = .ok (.iaload, 1) := by decide +kernel
theorem dX6_head_142 : decode cX6_head 142 = .ok (.ireturn, 1) := by decide +kernel
theorem dX6_head_143 : decode cX6_head 143 = .ok (.iconst (-1), 1) := by decide +kernel
theorem dX6_head_144 : decode cX6_head 144 = .ok (.ireturn, 1) := by decide +kernel
set_option maxRecDepth 20000 in
theorem ggX6_valueOf_X6_of : GoodIn wsX6_valueOf wsX6_of := goodIn_r _ [5] (by decide +kernel) (by decide +kernel)
set_option maxRecDepth 20000 in
theorem gX6_valueOf_X6_of : GoodIn wsX6_valueOf (va_wsS RX6 34 yX6_of wsX6_of) := goodIn_app (goodIn_of _ (by decide +kernel)) ggX6_valueOf_X6_of
set_option maxRecDepth 20000 in
theorem ggX6_valueOf_X6_free : GoodIn wsX6_valueOf wsX6_free := goodIn_r _ [9, 1, 2, 3, 4, 5, 15, 16, 17, 18, 19, 20, 21, 22, 23, 24] (by decide +kernel) (by decide +kernel)
set_option maxRecDepth 20000 in
theorem gX6_valueOf_X6_free : GoodIn wsX6_valueOf (wsV RX6 83 RX6 yX6_free wsX6_free) := goodIn_app (goodIn_of _ (by decide +kernel)) ggX6_valueOf_X6_free
set_option maxRecDepth 20000 in
theorem ggX6_valueOf_X6_lapseOf : GoodIn wsX6_valueOf wsX6_lapseOf := goodIn_r _ [13, 1, 14, 6, 7, 8, 4, 9, 2, 3, 5, 15, 16, 17, 18, 19, 20, 21, 22, 23, 24] (by decide +kernel) (by decide +kernel)
set_option maxRecDepth 20000 in
theorem gX6_valueOf_X6_lapseOf : GoodIn wsX6_valueOf (wsV RX6 114 RX6 yX6_lapseOf wsX6_lapseOf) := goodIn_app (goodIn_of _ (by decide +kernel)) ggX6_valueOf_X6_lapseOf
theorem dX6_valueOf_0 : decode cX6_valueOf 0 = .ok (.iload_n 2, 1) := by decide +kernel
theorem dX6_valueOf_1 : decode cX6_valueOf 1 = .ok (.ifCond .ne 16, 3) := by decide +kernel
theorem dX6_valueOf_4 : decode cX6_valueOf 4 = .ok (.aload_n 0, 1) := by decide +kernel
theorem dX6_valueOf_5 : decode cX6_valueOf 5 = .ok (.getfield 7, 3) := by decide +kernel
theorem dX6_valueOf_8 : decode cX6_valueOf 8 = .ok (.iload_n 1, 1) := by decide +kernel
theorem dX6_valueOf_9 : decode cX6_valueOf 9 = .ok (.iconst 3, 1) := by decide +kernel
theorem dX6_valueOf_10 : decode cX6_valueOf 10 = .ok (.invokestatic 34, 3) := by decide +kernel
theorem dX6_valueOf_13 : decode cX6_valueOf 13 = .ok (.iaload, 1) := by decide +kernel
theorem dX6_valueOf_14 : decode cX6_valueOf 14 = .ok (.goto 66, 3) := by decide +kernel
theorem dX6_valueOf_17 : decode cX6_valueOf 17 = .ok (.iload_n 2, 1) := by decide +kernel
theorem dX6_valueOf_18 : decode cX6_valueOf 18 = .ok (.iconst 1, 1) := by decide +kernel
theorem dX6_valueOf_19 : decode cX6_valueOf 19 = .ok (.if_icmp .ne 16, 3) := by decide +kernel
theorem dX6_valueOf_22 : decode cX6_valueOf 22 = .ok (.aload_n 0, 1) := by decide +kernel
theorem dX6_valueOf_23 : decode cX6_valueOf 23 = .ok (.getfield 7, 3) := by decide +kernel
theorem dX6_valueOf_26 : decode cX6_valueOf 26 = .ok (.iload_n 1, 1) := by decide +kernel
theorem dX6_valueOf_27 : decode cX6_valueOf 27 = .ok (.iconst 4, 1) := by decide +kernel
theorem dX6_valueOf_28 : decode cX6_valueOf 28 = .ok (.invokestatic 34, 3) := by decide +kernel
theorem dX6_valueOf_31 : decode cX6_valueOf 31 = .ok (.iaload, 1) := by decide +kernel
theorem dX6_valueOf_32 : decode cX6_valueOf 32 = .ok (.goto 48, 3) := by decide +kernel
theorem dX6_valueOf_35 : decode cX6_valueOf 35 = .ok (.iload_n 2, 1) := by decide +kernel
theorem dX6_valueOf_36 : decode cX6_valueOf 36 = .ok (.iconst 2, 1) := by decide +kernel
theorem dX6_valueOf_37 : decode cX6_valueOf 37 = .ok (.if_icmp .ne 16, 3) := by decide +kernel
theorem dX6_valueOf_40 : decode cX6_valueOf 40 = .ok (.aload_n 0, 1) := by decide +kernel
theorem dX6_valueOf_41 : decode cX6_valueOf 41 = .ok (.getfield 7, 3) := by decide +kernel
theorem dX6_valueOf_44 : decode cX6_valueOf 44 = .ok (.iload_n 1, 1) := by decide +kernel
theorem dX6_valueOf_45 : decode cX6_valueOf 45 = .ok (.iconst 5, 1) := by decide +kernel
theorem dX6_valueOf_46 : decode cX6_valueOf 46 = .ok (.invokestatic 34, 3) := by decide +kernel
theorem dX6_valueOf_49 : decode cX6_valueOf 49 = .ok (.iaload, 1) := by decide +kernel
theorem dX6_valueOf_50 : decode cX6_valueOf 50 = .ok (.goto 30, 3) := by decide +kernel
theorem dX6_valueOf_53 : decode cX6_valueOf 53 = .ok (.iload_n 2, 1) := by decide +kernel
theorem dX6_valueOf_54 : decode cX6_valueOf 54 = .ok (.iconst 3, 1) := by decide +kernel
theorem dX6_valueOf_55 : decode cX6_valueOf 55 = .ok (.if_icmp .ne 11, 3) := by decide +kernel
theorem dX6_valueOf_58 : decode cX6_valueOf 58 = .ok (.aload_n 0, 1) := by decide +kernel
theorem dX6_valueOf_59 : decode cX6_valueOf 59 = .ok (.iload_n 1, 1) := by decide +kernel
theorem dX6_valueOf_60 : decode cX6_valueOf 60 = .ok (.invokevirtual 83, 3) := by decide +kernel
theorem dX6_valueOf_63 : decode cX6_valueOf 63 = .ok (.goto 17, 3) := by decide +kernel
theorem dX6_valueOf_66 : decode cX6_valueOf 66 = .ok (.iload_n 2, 1) := by decide +kernel
theorem dX6_valueOf_67 : decode cX6_valueOf 67 = .ok (.iconst 4, 1) := by decide +kernel
theorem dX6_valueOf_68 : decode cX6_valueOf 68 = .ok (.if_icmp .ne 7, 3) := by decide +kernel
theorem dX6_valueOf_71 : decode cX6_valueOf 71 = .ok (.iconst 1, 1) := by decide +kernel
theorem dX6_valueOf_72 : decode cX6_valueOf 72 = .ok (.goto 8, 3) := by decide +kernel
theorem dX6_valueOf_75 : decode cX6_valueOf 75 = .ok (.aload_n 0, 1) := by decide +kernel
theorem dX6_valueOf_76 : decode cX6_valueOf 76 = .ok (.iload_n 1, 1) := by decide +kernel
theorem dX6_valueOf_77 : decode cX6_valueOf 77 = .ok (.invokevirtual 114, 3) := by decide +kernel
theorem dX6_valueOf_80 : decode cX6_valueOf 80 = .ok (.ireturn, 1) := by decide +kernel
set_option maxRecDepth 20000 in
theorem ggX6_totalOf_X6_isBelow : GoodIn wsX6_totalOf wsX6_isBelow := goodIn_r _ [6, 7, 8, 9, 5, 10, 1, 11, 12, 13, 27, 28, 29, 30, 31, 32, 33, 34, 35, 36] (by decide +kernel) (by decide +kernel)
set_option maxRecDepth 20000 in
theorem gX6_totalOf_X6_isBelow : GoodIn wsX6_totalOf (wsV RX6 95 RX6 yX6_isBelow wsX6_isBelow) := goodIn_app (goodIn_of _ (by decide +kernel)) ggX6_totalOf_X6_isBelow
set_option maxRecDepth 20000 in
theorem ggX6_totalOf_X6_valueOf : GoodIn wsX6_totalOf wsX6_valueOf := goodIn_r _ [17, 1, 11, 12, 5, 13, 18, 19, 20, 21, 22, 23, 24, 25, 26, 27, 28, 29, 30, 31, 32, 33, 34, 35, 36] (by decide +kernel) (by decide +kernel)
set_option maxRecDepth 20000 in
theorem gX6_totalOf_X6_valueOf : GoodIn wsX6_totalOf (wsV RX6 126 RX6 yX6_valueOf wsX6_valueOf) := goodIn_app (goodIn_of _ (by decide +kernel)) ggX6_totalOf_X6_valueOf
theorem dX6_totalOf_0 : decode cX6_totalOf 0 = .ok (.iconst 0, 1) := by decide +kernel
theorem dX6_totalOf_1 : decode cX6_totalOf 1 = .ok (.istore_n 3, 1) := by decide +kernel
theorem dX6_totalOf_2 : decode cX6_totalOf 2 = .ok (.iconst 0, 1) := by decide +kernel
theorem dX6_totalOf_3 : decode cX6_totalOf 3 = .ok (.istore 4, 2) := by decide +kernel
theorem dX6_totalOf_5 : decode cX6_totalOf 5 = .ok (.iload 4, 2) := by decide +kernel
theorem dX6_totalOf_7 : decode cX6_totalOf 7 = .ok (.aload_n 0, 1) := by decide +kernel
theorem dX6_totalOf_8 : decode cX6_totalOf 8 = .ok (.getfield 7, 3) := by decide +kernel
theorem dX6_totalOf_11 : decode cX6_totalOf 11 = .ok (.iconst 1, 1) := by decide +kernel
theorem dX6_totalOf_12 : decode cX6_totalOf 12 = .ok (.iaload, 1) := by decide +kernel
theorem dX6_totalOf_13 : decode cX6_totalOf 13 = .ok (.if_icmp .ge 39, 3) := by decide +kernel
theorem dX6_totalOf_16 : decode cX6_totalOf 16 = .ok (.iload_n 3, 1) := by decide +kernel
theorem dX6_totalOf_17 : decode cX6_totalOf 17 = .ok (.iload 4, 2) := by decide +kernel
theorem dX6_totalOf_19 : decode cX6_totalOf 19 = .ok (.iload_n 1, 1) := by decide +kernel
theorem dX6_totalOf_20 : decode cX6_totalOf 20 = .ok (.if_icmp .eq 13, 3) := by decide +kernel
theorem dX6_totalOf_23 : decode cX6_totalOf 23 = .ok (.aload_n 0, 1) := by decide +kernel
theorem dX6_totalOf_24 : decode cX6_totalOf 24 = .ok (.iload 4, 2) := by decide +kernel
theorem dX6_totalOf_26 : decode cX6_totalOf 26 = .ok (.iload_n 1, 1) := by decide +kernel
theorem dX6_totalOf_27 : decode cX6_totalOf 27 = .ok (.invokevirtual 95, 3) := by decide +kernel
theorem dX6_totalOf_30 : decode cX6_totalOf 30 = .ok (.ifCond .eq 13, 3) := by decide +kernel
theorem dX6_totalOf_33 : decode cX6_totalOf 33 = .ok (.aload_n 0, 1) := by decide +kernel
theorem dX6_totalOf_34 : decode cX6_totalOf 34 = .ok (.iload 4, 2) := by decide +kernel
theorem dX6_totalOf_36 : decode cX6_totalOf 36 = .ok (.iload_n 2, 1) := by decide +kernel
theorem dX6_totalOf_37 : decode cX6_totalOf 37 = .ok (.invokevirtual 126, 3) := by decide +kernel
theorem dX6_totalOf_40 : decode cX6_totalOf 40 = .ok (.goto 4, 3) := by decide +kernel
theorem dX6_totalOf_43 : decode cX6_totalOf 43 = .ok (.iconst 0, 1) := by decide +kernel
theorem dX6_totalOf_44 : decode cX6_totalOf 44 = .ok (.iadd, 1) := by decide +kernel
theorem dX6_totalOf_45 : decode cX6_totalOf 45 = .ok (.istore_n 3, 1) := by decide +kernel
theorem dX6_totalOf_46 : decode cX6_totalOf 46 = .ok (.iinc 4 1, 3) := by decide +kernel
theorem dX6_totalOf_49 : decode cX6_totalOf 49 = .ok (.goto (-44), 3) := by decide +kernel
theorem dX6_totalOf_52 : decode cX6_totalOf 52 = .ok (.iload_n 3, 1) := by decide +kernel
theorem dX6_totalOf_53 : decode cX6_totalOf 53 = .ok (.ireturn, 1) := by decide +kernel
set_option maxRecDepth 20000 in
theorem ggX6_total_X6_isHead : GoodIn wsX6_total wsX6_isHead := goodIn_r _ [5, 6, 7, 8, 4, 9, 38, 39, 40, 41, 42, 43, 44, 45, 46, 47] (by decide +kernel) (by decide +kernel)
set_option maxRecDepth 20000 in
theorem gX6_total_X6_isHead : GoodIn wsX6_total (wsV RX6 65 RX6 yX6_isHead wsX6_isHead) := goodIn_app (goodIn_of _ (by decide +kernel)) ggX6_total_X6_isHead
set_option maxRecDepth 20000 in
theorem ggX6_total_X6_in : GoodIn wsX6_total wsX6_in := goodIn_r _ [9] (by decide +kernel) (by decide +kernel)
set_option maxRecDepth 20000 in
theorem gX6_total_X6_in : GoodIn wsX6_total (va_wsS RX6 38 yX6_in wsX6_in) := goodIn_app (goodIn_of _ (by decide +kernel)) ggX6_total_X6_in
set_option maxRecDepth 20000 in
theorem ggX6_total_X6_totalOf : GoodIn wsX6_total wsX6_totalOf := goodIn_r _ [13, 6, 14, 15, 16, 4, 17, 18, 19, 20, 21, 22, 23, 24, 25, 26, 27, 28, 29, 30, 31, 32, 33, 34, 35, 36, 37, 38, 39, 40, 41, 42, 43, 44, 45, 46, 47] (by decide +kernel) (by decide +kernel)
set_option maxRecDepth 20000 in
theorem gX6_total_X6_totalOf : GoodIn wsX6_total (wsV RX6 129 RX6 yX6_totalOf wsX6_totalOf) := goodIn_app (goodIn_of _ (by decide +kernel)) ggX6_total_X6_totalOf
theorem dX6_total_0 : decode cX6_total 0 = .ok (.aload_n 0, 1) := by decide +kernel
theorem dX6_total_1 : decode cX6_total 1 = .ok (.iload_n 1, 1) := by decide +kernel
theorem dX6_total_2 : decode cX6_total 2 = .ok (.invokevirtual 65, 3) := by decide +kernel
theorem dX6_total_5 : decode cX6_total 5 = .ok (.ifCond .eq 21, 3) := by decide +kernel
theorem dX6_total_8 : decode cX6_total 8 = .ok (.iload_n 2, 1) := by decide +kernel
theorem dX6_total_9 : decode cX6_total 9 = .ok (.iconst 0, 1) := by decide +kernel
theorem dX6_total_10 : decode cX6_total 10 = .ok (.iconst 4, 1) := by decide +kernel
theorem dX6_total_11 : decode cX6_total 11 = .ok (.invokestatic 38, 3) := by decide +kernel
theorem dX6_total_14 : decode cX6_total 14 = .ok (.ifCond .eq 12, 3) := by decide +kernel
theorem dX6_total_17 : decode cX6_total 17 = .ok (.aload_n 0, 1) := by decide +kernel
theorem dX6_total_18 : decode cX6_total 18 = .ok (.iload_n 1, 1) := by decide +kernel
theorem dX6_total_19 : decode cX6_total 19 = .ok (.iload_n 2, 1) := by decide +kernel
theorem dX6_total_20 : decode cX6_total 20 = .ok (.invokevirtual 129, 3) := by decide +kernel
theorem dX6_total_23 : decode cX6_total 23 = .ok (.goto 4, 3) := by decide +kernel
theorem dX6_total_26 : decode cX6_total 26 = .ok (.iconst (-1), 1) := by decide +kernel
theorem dX6_total_27 : decode cX6_total 27 = .ok (.ireturn, 1) := by decide +kernel
set_option maxRecDepth 20000 in
theorem ggX6_commitment_X6_isCommitment : GoodIn wsX6_commitment wsX6_isCommitment := goodIn_r _ [6, 1, 7, 8, 5, 9, 13, 14, 15, 16, 17, 18, 19, 20, 21, 22] (by decide +kernel) (by decide +kernel)
set_option maxRecDepth 20000 in
theorem gX6_commitment_X6_isCommitment : GoodIn wsX6_commitment (wsV RX6 89 RX6 yX6_isCommitment wsX6_isCommitment) := goodIn_app (goodIn_of _ (by decide +kernel)) ggX6_commitment_X6_isCommitment
set_option maxRecDepth 20000 in
theorem ggX6_commitment_X6_in : GoodIn wsX6_commitment wsX6_in := goodIn_r _ [9] (by decide +kernel) (by decide +kernel)
set_option maxRecDepth 20000 in
theorem gX6_commitment_X6_in : GoodIn wsX6_commitment (va_wsS RX6 38 yX6_in wsX6_in) := goodIn_app (goodIn_of _ (by decide +kernel)) ggX6_commitment_X6_in
set_option maxRecDepth 20000 in
theorem ggX6_commitment_X6_ofCommitment : GoodIn wsX6_commitment wsX6_ofCommitment := goodIn_r _ [12] (by decide +kernel) (by decide +kernel)
set_option maxRecDepth 20000 in
theorem gX6_commitment_X6_ofCommitment : GoodIn wsX6_commitment (va_wsS RX6 86 yX6_ofCommitment wsX6_ofCommitment) := goodIn_app (goodIn_of _ (by decide +kernel)) ggX6_commitment_X6_ofCommitment
theorem dX6_commitment_0 : decode cX6_commitment 0 = .ok (.aload_n 0, 1) := by decide +kernel
theorem dX6_commitment_1 : decode cX6_commitment 1 = .ok (.iload_n 1, 1) := by decide +kernel
theorem dX6_commitment_2 : decode cX6_commitment 2 = .ok (.invokevirtual 89, 3) := by decide +kernel
theorem dX6_commitment_5 : decode cX6_commitment 5 = .ok (.ifCond .eq 25, 3) := by decide +kernel
theorem dX6_commitment_8 : decode cX6_commitment 8 = .ok (.iload_n 2, 1) := by decide +kernel
theorem dX6_commitment_9 : decode cX6_commitment 9 = .ok (.iconst 0, 1) := by decide +kernel
theorem dX6_commitment_10 : decode cX6_commitment 10 = .ok (.iconst 3, 1) := by decide +kernel
theorem dX6_commitment_11 : decode cX6_commitment 11 = .ok (.invokestatic 38, 3) := by decide +kernel
theorem dX6_commitment_14 : decode cX6_commitment 14 = .ok (.ifCond .eq 16, 3) := by decide +kernel
theorem dX6_commitment_17 : decode cX6_commitment 17 = .ok (.aload_n 0, 1) := by decide +kernel
theorem dX6_commitment_18 : decode cX6_commitment 18 = .ok (.getfield 7, 3) := by decide +kernel
theorem dX6_commitment_21 : decode cX6_commitment 21 = .ok (.iload_n 1, 1) := by decide +kernel
theorem dX6_commitment_22 : decode cX6_commitment 22 = .ok (.iload_n 2, 1) := by decide +kernel
theorem dX6_commitment_23 : decode cX6_commitment 23 = .ok (.invokestatic 86, 3) := by decide +kernel
theorem dX6_commitment_26 : decode cX6_commitment 26 = .ok (.iaload, 1) := by decide +kernel
theorem dX6_commitment_27 : decode cX6_commitment 27 = .ok (.goto 4, 3) := by decide +kernel
theorem dX6_commitment_30 : decode cX6_commitment 30 = .ok (.iconst (-1), 1) := by decide +kernel
theorem dX6_commitment_31 : decode cX6_commitment 31 = .ok (.ireturn, 1) := by decide +kernel
set_option maxRecDepth 20000 in
theorem ggX6_mostOf_X6_isAllowed : GoodIn wsX6_mostOf wsX6_isAllowed := goodIn_r _ [6, 7, 8, 9, 10, 5, 11, 12, 13, 14, 15, 16, 17, 18, 19, 20, 21, 22, 32, 33, 34, 35, 36, 37, 38, 39, 40, 41] (by decide +kernel) (by decide +kernel)
set_option maxRecDepth 20000 in
theorem gX6_mostOf_X6_isAllowed : GoodIn wsX6_mostOf (wsV RX6 104 RX6 yX6_isAllowed wsX6_isAllowed) := goodIn_app (goodIn_of _ (by decide +kernel)) ggX6_mostOf_X6_isAllowed
set_option maxRecDepth 20000 in
theorem ggX6_mostOf_X6_free : GoodIn wsX6_mostOf wsX6_free := goodIn_r _ [26, 7, 16, 17, 5, 18, 32, 33, 34, 35, 36, 37, 38, 39, 40, 41] (by decide +kernel) (by decide +kernel)
set_option maxRecDepth 20000 in
theorem gX6_mostOf_X6_free : GoodIn wsX6_mostOf (wsV RX6 83 RX6 yX6_free wsX6_free) := goodIn_app (goodIn_of _ (by decide +kernel)) ggX6_mostOf_X6_free
set_option maxRecDepth 20000 in
theorem ggX6_mostOf_X6_leaveOf : GoodIn wsX6_mostOf wsX6_leaveOf := goodIn_r _ [30, 7, 31, 16, 17, 5, 18, 32, 33, 34, 35, 36, 37, 38, 39, 40, 41] (by decide +kernel) (by decide +kernel)
set_option maxRecDepth 20000 in
theorem gX6_mostOf_X6_leaveOf : GoodIn wsX6_mostOf (wsV RX6 107 RX6 yX6_leaveOf wsX6_leaveOf) := goodIn_app (goodIn_of _ (by decide +kernel)) ggX6_mostOf_X6_leaveOf
theorem dX6_mostOf_0 : decode cX6_mostOf 0 = .ok (.aload_n 0, 1) := by decide +kernel
theorem dX6_mostOf_1 : decode cX6_mostOf 1 = .ok (.iload_n 1, 1) := by decide +kernel
theorem dX6_mostOf_2 : decode cX6_mostOf 2 = .ok (.iload_n 2, 1) := by decide +kernel
theorem dX6_mostOf_3 : decode cX6_mostOf 3 = .ok (.invokevirtual 104, 3) := by decide +kernel
theorem dX6_mostOf_6 : decode cX6_mostOf 6 = .ok (.ifCond .ne 5, 3) := by decide +kernel
theorem dX6_mostOf_9 : decode cX6_mostOf 9 = .ok (.iconst 0, 1) := by decide +kernel
theorem dX6_mostOf_10 : decode cX6_mostOf 10 = .ok (.ireturn, 1) := by decide +kernel
theorem dX6_mostOf_11 : decode cX6_mostOf 11 = .ok (.aload_n 0, 1) := by decide +kernel
theorem dX6_mostOf_12 : decode cX6_mostOf 12 = .ok (.iload_n 1, 1) := by decide +kernel
theorem dX6_mostOf_13 : decode cX6_mostOf 13 = .ok (.invokevirtual 83, 3) := by decide +kernel
theorem dX6_mostOf_16 : decode cX6_mostOf 16 = .ok (.aload_n 0, 1) := by decide +kernel
theorem dX6_mostOf_17 : decode cX6_mostOf 17 = .ok (.iload_n 1, 1) := by decide +kernel
theorem dX6_mostOf_18 : decode cX6_mostOf 18 = .ok (.invokevirtual 107, 3) := by decide +kernel
theorem dX6_mostOf_21 : decode cX6_mostOf 21 = .ok (.if_icmp .ge 11, 3) := by decide +kernel
theorem dX6_mostOf_24 : decode cX6_mostOf 24 = .ok (.aload_n 0, 1) := by decide +kernel
theorem dX6_mostOf_25 : decode cX6_mostOf 25 = .ok (.iload_n 1, 1) := by decide +kernel
theorem dX6_mostOf_26 : decode cX6_mostOf 26 = .ok (.invokevirtual 83, 3) := by decide +kernel
theorem dX6_mostOf_29 : decode cX6_mostOf 29 = .ok (.goto 8, 3) := by decide +kernel
theorem dX6_mostOf_32 : decode cX6_mostOf 32 = .ok (.aload_n 0, 1) := by decide +kernel
theorem dX6_mostOf_33 : decode cX6_mostOf 33 = .ok (.iload_n 1, 1) := by decide +kernel
theorem dX6_mostOf_34 : decode cX6_mostOf 34 = .ok (.invokevirtual 107, 3) := by decide +kernel
theorem dX6_mostOf_37 : decode cX6_mostOf 37 = .ok (.istore_n 3, 1) := by decide +kernel
theorem dX6_mostOf_38 : decode cX6_mostOf 38 = .ok (.iload_n 3, 1) := by decide +kernel
theorem dX6_mostOf_39 : decode cX6_mostOf 39 = .ok (.ifCond .ge 7, 3) := by decide +kernel
theorem dX6_mostOf_42 : decode cX6_mostOf 42 = .ok (.iconst 0, 1) := by decide +kernel
theorem dX6_mostOf_43 : decode cX6_mostOf 43 = .ok (.goto 15, 3) := by decide +kernel
theorem dX6_mostOf_46 : decode cX6_mostOf 46 = .ok (.iload_n 3, 1) := by decide +kernel
theorem dX6_mostOf_47 : decode cX6_mostOf 47 = .ok (.ldc 42, 2) := by decide +kernel
theorem dX6_mostOf_49 : decode cX6_mostOf 49 = .ok (.if_icmp .ge 7, 3) := by decide +kernel
theorem dX6_mostOf_52 : decode cX6_mostOf 52 = .ok (.iload_n 3, 1) := by decide +kernel
theorem dX6_mostOf_53 : decode cX6_mostOf 53 = .ok (.goto 5, 3) := by decide +kernel
theorem dX6_mostOf_56 : decode cX6_mostOf 56 = .ok (.ldc 42, 2) := by decide +kernel
theorem dX6_mostOf_58 : decode cX6_mostOf 58 = .ok (.ireturn, 1) := by decide +kernel
set_option maxRecDepth 20000 in
theorem ggX6_mostFrom_X6_areTwo : GoodIn wsX6_mostFrom wsX6_areTwo := goodIn_r _ [5, 6, 7, 8, 4, 9, 10, 11, 12, 13, 47, 48, 49, 50, 51, 52, 53, 54, 55, 56] (by decide +kernel) (by decide +kernel)
set_option maxRecDepth 20000 in
theorem gX6_mostFrom_X6_areTwo : GoodIn wsX6_mostFrom (wsV RX6 101 RX6 yX6_areTwo wsX6_areTwo) := goodIn_app (goodIn_of _ (by decide +kernel)) ggX6_mostFrom_X6_areTwo
set_option maxRecDepth 20000 in
theorem ggX6_mostFrom_X6_mostOf : GoodIn wsX6_mostFrom wsX6_mostOf := goodIn_r _ [17, 18, 19, 20, 21, 4, 22, 10, 23, 24, 25, 26, 27, 28, 29, 30, 31, 32, 33, 34, 35, 36, 37, 38, 39, 40, 41, 42, 43, 44, 45, 46, 47, 48, 49, 50, 51, 52, 53, 54, 55, 56] (by decide +kernel) (by decide +kernel)
set_option maxRecDepth 20000 in
theorem gX6_mostFrom_X6_mostOf : GoodIn wsX6_mostFrom (wsV RX6 132 RX6 yX6_mostOf wsX6_mostOf) := goodIn_app (goodIn_of _ (by decide +kernel)) ggX6_mostFrom_X6_mostOf
theorem dX6_mostFrom_0 : decode cX6_mostFrom 0 = .ok (.aload_n 0, 1) := by decide +kernel
theorem dX6_mostFrom_1 : decode cX6_mostFrom 1 = .ok (.iload_n 1, 1) := by decide +kernel
theorem dX6_mostFrom_2 : decode cX6_mostFrom 2 = .ok (.iload_n 2, 1) := by decide +kernel
theorem dX6_mostFrom_3 : decode cX6_mostFrom 3 = .ok (.invokevirtual 101, 3) := by decide +kernel
theorem dX6_mostFrom_6 : decode cX6_mostFrom 6 = .ok (.ifCond .eq 12, 3) := by decide +kernel
theorem dX6_mostFrom_9 : decode cX6_mostFrom 9 = .ok (.aload_n 0, 1) := by decide +kernel
theorem dX6_mostFrom_10 : decode cX6_mostFrom 10 = .ok (.iload_n 1, 1) := by decide +kernel
theorem dX6_mostFrom_11 : decode cX6_mostFrom 11 = .ok (.iload_n 2, 1) := by decide +kernel
theorem dX6_mostFrom_12 : decode cX6_mostFrom 12 = .ok (.invokevirtual 132, 3) := by decide +kernel
theorem dX6_mostFrom_15 : decode cX6_mostFrom 15 = .ok (.goto 4, 3) := by decide +kernel
theorem dX6_mostFrom_18 : decode cX6_mostFrom 18 = .ok (.iconst (-1), 1) := by decide +kernel
theorem dX6_mostFrom_19 : decode cX6_mostFrom 19 = .ok (.ireturn, 1) := by decide +kernel
set_option maxRecDepth 20000 in
theorem ggX6_bestGiver_X6_isHead : GoodIn wsX6_bestGiver wsX6_isHead := goodIn_r _ [6, 1, 7, 8, 5, 9, 43, 44, 45, 46, 47, 48, 49, 50, 51, 52] (by decide +kernel) (by decide +kernel)
set_option maxRecDepth 20000 in
theorem gX6_bestGiver_X6_isHead : GoodIn wsX6_bestGiver (wsV RX6 65 RX6 yX6_isHead wsX6_isHead) := goodIn_app (goodIn_of _ (by decide +kernel)) ggX6_bestGiver_X6_isHead
set_option maxRecDepth 20000 in
theorem ggX6_bestGiver_X6_mostOf : GoodIn wsX6_bestGiver wsX6_mostOf := goodIn_r _ [13, 14, 15, 16, 17, 5, 18, 1, 19, 20, 21, 22, 23, 24, 25, 26, 27, 28, 29, 30, 31, 32, 33, 34, 35, 36, 37, 38, 39, 40, 41, 42, 43, 44, 45, 46, 47, 48, 49, 50, 51, 52] (by decide +kernel) (by decide +kernel)
set_option maxRecDepth 20000 in
theorem gX6_bestGiver_X6_mostOf : GoodIn wsX6_bestGiver (wsV RX6 132 RX6 yX6_mostOf wsX6_mostOf) := goodIn_app (goodIn_of _ (by decide +kernel)) ggX6_bestGiver_X6_mostOf
set_option maxRecDepth 20000 in
theorem ggX6_bestGiver_X6_of : GoodIn wsX6_bestGiver wsX6_of := goodIn_r _ [29] (by decide +kernel) (by decide +kernel)
set_option maxRecDepth 20000 in
theorem gX6_bestGiver_X6_of : GoodIn wsX6_bestGiver (va_wsS RX6 34 yX6_of wsX6_of) := goodIn_app (goodIn_of _ (by decide +kernel)) ggX6_bestGiver_X6_of
theorem dX6_bestGiver_0 : decode cX6_bestGiver 0 = .ok (.aload_n 0, 1) := by decide +kernel
theorem dX6_bestGiver_1 : decode cX6_bestGiver 1 = .ok (.iload_n 1, 1) := by decide +kernel
theorem dX6_bestGiver_2 : decode cX6_bestGiver 2 = .ok (.invokevirtual 65, 3) := by decide +kernel
theorem dX6_bestGiver_5 : decode cX6_bestGiver 5 = .ok (.ifCond .ne 5, 3) := by decide +kernel
theorem dX6_bestGiver_8 : decode cX6_bestGiver 8 = .ok (.iconst (-1), 1) := by decide +kernel
theorem dX6_bestGiver_9 : decode cX6_bestGiver 9 = .ok (.ireturn, 1) := by decide +kernel
theorem dX6_bestGiver_10 : decode cX6_bestGiver 10 = .ok (.bipush (-9), 2) := by decide +kernel
theorem dX6_bestGiver_12 : decode cX6_bestGiver 12 = .ok (.istore_n 2, 1) := by decide +kernel
theorem dX6_bestGiver_13 : decode cX6_bestGiver 13 = .ok (.iconst 0, 1) := by decide +kernel
theorem dX6_bestGiver_14 : decode cX6_bestGiver 14 = .ok (.istore_n 3, 1) := by decide +kernel
theorem dX6_bestGiver_15 : decode cX6_bestGiver 15 = .ok (.iconst 0, 1) := by decide +kernel
theorem dX6_bestGiver_16 : decode cX6_bestGiver 16 = .ok (.istore 4, 2) := by decide +kernel
theorem dX6_bestGiver_18 : decode cX6_bestGiver 18 = .ok (.iload 4, 2) := by decide +kernel
theorem dX6_bestGiver_20 : decode cX6_bestGiver 20 = .ok (.aload_n 0, 1) := by decide +kernel
theorem dX6_bestGiver_21 : decode cX6_bestGiver 21 = .ok (.getfield 7, 3) := by decide +kernel
theorem dX6_bestGiver_24 : decode cX6_bestGiver 24 = .ok (.iconst 1, 1) := by decide +kernel
theorem dX6_bestGiver_25 : decode cX6_bestGiver 25 = .ok (.iaload, 1) := by decide +kernel
theorem dX6_bestGiver_26 : decode cX6_bestGiver 26 = .ok (.if_icmp .ge 100, 3) := by decide +kernel
theorem dX6_bestGiver_29 : decode cX6_bestGiver 29 = .ok (.iload 4, 2) := by decide +kernel
theorem dX6_bestGiver_31 : decode cX6_bestGiver 31 = .ok (.iload_n 1, 1) := by decide +kernel
theorem dX6_bestGiver_32 : decode cX6_bestGiver 32 = .ok (.if_icmp .ne 7, 3) := by decide +kernel
theorem dX6_bestGiver_35 : decode cX6_bestGiver 35 = .ok (.iconst 0, 1) := by decide +kernel
theorem dX6_bestGiver_36 : decode cX6_bestGiver 36 = .ok (.goto 10, 3) := by decide +kernel
theorem dX6_bestGiver_39 : decode cX6_bestGiver 39 = .ok (.aload_n 0, 1) := by decide +kernel
theorem dX6_bestGiver_40 : decode cX6_bestGiver 40 = .ok (.iload 4, 2) := by decide +kernel
theorem dX6_bestGiver_42 : decode cX6_bestGiver 42 = .ok (.iload_n 1, 1) := by decide +kernel
theorem dX6_bestGiver_43 : decode cX6_bestGiver 43 = .ok (.invokevirtual 132, 3) := by decide +kernel
theorem dX6_bestGiver_46 : decode cX6_bestGiver 46 = .ok (.istore 5, 2) := by decide +kernel
theorem dX6_bestGiver_48 : decode cX6_bestGiver 48 = .ok (.iload 5, 2) := by decide +kernel
theorem dX6_bestGiver_50 : decode cX6_bestGiver 50 = .ok (.iload_n 3, 1) := by decide +kernel
theorem dX6_bestGiver_51 : decode cX6_bestGiver 51 = .ok (.if_icmp .gt 38, 3) := by decide +kernel
theorem dX6_bestGiver_54 : decode cX6_bestGiver 54 = .ok (.iload 5, 2) := by decide +kernel
theorem dX6_bestGiver_56 : decode cX6_bestGiver 56 = .ok (.ifCond .le 37, 3) := by decide +kernel
theorem dX6_bestGiver_59 : decode cX6_bestGiver 59 = .ok (.iload 5, 2) := by decide +kernel
theorem dX6_bestGiver_61 : decode cX6_bestGiver 61 = .ok (.iload_n 3, 1) := by decide +kernel
theorem dX6_bestGiver_62 : decode cX6_bestGiver 62 = .ok (.if_icmp .ne 31, 3) := by decide +kernel
theorem dX6_bestGiver_65 : decode cX6_bestGiver 65 = .ok (.aload_n 0, 1) := by decide +kernel
theorem dX6_bestGiver_66 : decode cX6_bestGiver 66 = .ok (.getfield 7, 3) := by decide +kernel
theorem dX6_bestGiver_69 : decode cX6_bestGiver 69 = .ok (.iload 4, 2) := by decide +kernel
theorem dX6_bestGiver_71 : decode cX6_bestGiver 71 = .ok (.iconst 1, 1) := by decide +kernel
theorem dX6_bestGiver_72 : decode cX6_bestGiver 72 = .ok (.invokestatic 34, 3) := by decide +kernel
theorem dX6_bestGiver_75 : decode cX6_bestGiver 75 = .ok (.iaload, 1) := by decide +kernel
theorem dX6_bestGiver_76 : decode cX6_bestGiver 76 = .ok (.aload_n 0, 1) := by decide +kernel
theorem dX6_bestGiver_77 : decode cX6_bestGiver 77 = .ok (.getfield 7, 3) := by decide +kernel
theorem dX6_bestGiver_80 : decode cX6_bestGiver 80 = .ok (.iload_n 2, 1) := by decide +kernel
theorem dX6_bestGiver_81 : decode cX6_bestGiver 81 = .ok (.iconst 1, 1) := by decide +kernel
theorem dX6_bestGiver_82 : decode cX6_bestGiver 82 = .ok (.invokestatic 34, 3) := by decide +kernel
theorem dX6_bestGiver_85 : decode cX6_bestGiver 85 = .ok (.iaload, 1) := by decide +kernel
theorem dX6_bestGiver_86 : decode cX6_bestGiver 86 = .ok (.if_icmp .le 7, 3) := by decide +kernel
theorem dX6_bestGiver_89 : decode cX6_bestGiver 89 = .ok (.iconst 1, 1) := by decide +kernel
theorem dX6_bestGiver_90 : decode cX6_bestGiver 90 = .ok (.goto 4, 3) := by decide +kernel
theorem dX6_bestGiver_93 : decode cX6_bestGiver 93 = .ok (.iconst 0, 1) := by decide +kernel
theorem dX6_bestGiver_94 : decode cX6_bestGiver 94 = .ok (.istore 6, 2) := by decide +kernel
theorem dX6_bestGiver_96 : decode cX6_bestGiver 96 = .ok (.iload 6, 2) := by decide +kernel
theorem dX6_bestGiver_98 : decode cX6_bestGiver 98 = .ok (.ifCond .eq 8, 3) := by decide +kernel
theorem dX6_bestGiver_101 : decode cX6_bestGiver 101 = .ok (.iload 4, 2) := by decide +kernel
theorem dX6_bestGiver_103 : decode cX6_bestGiver 103 = .ok (.goto 4, 3) := by decide +kernel
theorem dX6_bestGiver_106 : decode cX6_bestGiver 106 = .ok (.iload_n 2, 1) := by decide +kernel
theorem dX6_bestGiver_107 : decode cX6_bestGiver 107 = .ok (.istore_n 2, 1) := by decide +kernel
theorem dX6_bestGiver_108 : decode cX6_bestGiver 108 = .ok (.iload 6, 2) := by decide +kernel
theorem dX6_bestGiver_110 : decode cX6_bestGiver 110 = .ok (.ifCond .eq 8, 3) := by decide +kernel
theorem dX6_bestGiver_113 : decode cX6_bestGiver 113 = .ok (.iload 5, 2) := by decide +kernel
theorem dX6_bestGiver_115 : decode cX6_bestGiver 115 = .ok (.goto 4, 3) := by decide +kernel
theorem dX6_bestGiver_118 : decode cX6_bestGiver 118 = .ok (.iload_n 3, 1) := by decide +kernel
theorem dX6_bestGiver_119 : decode cX6_bestGiver 119 = .ok (.istore_n 3, 1) := by decide +kernel
theorem dX6_bestGiver_120 : decode cX6_bestGiver 120 = .ok (.iinc 4 1, 3) := by decide +kernel
theorem dX6_bestGiver_123 : decode cX6_bestGiver 123 = .ok (.goto (-105), 3) := by decide +kernel
theorem dX6_bestGiver_126 : decode cX6_bestGiver 126 = .ok (.iload_n 2, 1) := by decide +kernel
theorem dX6_bestGiver_127 : decode cX6_bestGiver 127 = .ok (.ireturn, 1) := by decide +kernel
set_option maxRecDepth 20000 in
theorem ggX6_isRicher_X6_free : GoodIn wsX6_isRicher wsX6_free := goodIn_r _ [6, 1, 7, 8, 5, 9, 10, 11, 12, 13, 14, 15, 16, 17, 18, 19] (by decide +kernel) (by decide +kernel)
set_option maxRecDepth 20000 in
theorem gX6_isRicher_X6_free : GoodIn wsX6_isRicher (wsV RX6 83 RX6 yX6_free wsX6_free) := goodIn_app (goodIn_of _ (by decide +kernel)) ggX6_isRicher_X6_free
set_option maxRecDepth 20000 in
theorem ggX6_isRicher_X6_of : GoodIn wsX6_isRicher wsX6_of := goodIn_r _ [9] (by decide +kernel) (by decide +kernel)
set_option maxRecDepth 20000 in
theorem gX6_isRicher_X6_of : GoodIn wsX6_isRicher (va_wsS RX6 34 yX6_of wsX6_of) := goodIn_app (goodIn_of _ (by decide +kernel)) ggX6_isRicher_X6_of
theorem dX6_isRicher_0 : decode cX6_isRicher 0 = .ok (.aload_n 0, 1) := by decide +kernel
theorem dX6_isRicher_1 : decode cX6_isRicher 1 = .ok (.iload_n 1, 1) := by decide +kernel
theorem dX6_isRicher_2 : decode cX6_isRicher 2 = .ok (.invokevirtual 83, 3) := by decide +kernel
theorem dX6_isRicher_5 : decode cX6_isRicher 5 = .ok (.aload_n 0, 1) := by decide +kernel
theorem dX6_isRicher_6 : decode cX6_isRicher 6 = .ok (.iload_n 2, 1) := by decide +kernel
theorem dX6_isRicher_7 : decode cX6_isRicher 7 = .ok (.invokevirtual 83, 3) := by decide +kernel
theorem dX6_isRicher_10 : decode cX6_isRicher 10 = .ok (.isub, 1) := by decide +kernel
theorem dX6_isRicher_11 : decode cX6_isRicher 11 = .ok (.istore_n 3, 1) := by decide +kernel
theorem dX6_isRicher_12 : decode cX6_isRicher 12 = .ok (.aload_n 0, 1) := by decide +kernel
theorem dX6_isRicher_13 : decode cX6_isRicher 13 = .ok (.getfield 7, 3) := by decide +kernel
theorem dX6_isRicher_16 : decode cX6_isRicher 16 = .ok (.iload_n 1, 1) := by decide +kernel
theorem dX6_isRicher_17 : decode cX6_isRicher 17 = .ok (.iconst 1, 1) := by decide +kernel
theorem dX6_isRicher_18 : decode cX6_isRicher 18 = .ok (.invokestatic 34, 3) := by decide +kernel
theorem dX6_isRicher_21 : decode cX6_isRicher 21 = .ok (.iaload, 1) := by decide +kernel
theorem dX6_isRicher_22 : decode cX6_isRicher 22 = .ok (.aload_n 0, 1) := by decide +kernel
theorem dX6_isRicher_23 : decode cX6_isRicher 23 = .ok (.getfield 7, 3) := by decide +kernel
theorem dX6_isRicher_26 : decode cX6_isRicher 26 = .ok (.iload_n 2, 1) := by decide +kernel
theorem dX6_isRicher_27 : decode cX6_isRicher 27 = .ok (.iconst 1, 1) := by decide +kernel
theorem dX6_isRicher_28 : decode cX6_isRicher 28 = .ok (.invokestatic 34, 3) := by decide +kernel
theorem dX6_isRicher_31 : decode cX6_isRicher 31 = .ok (.iaload, 1) := by decide +kernel
theorem dX6_isRicher_32 : decode cX6_isRicher 32 = .ok (.isub, 1) := by decide +kernel
theorem dX6_isRicher_33 : decode cX6_isRicher 33 = .ok (.istore 4, 2) := by decide +kernel
theorem dX6_isRicher_35 : decode cX6_isRicher 35 = .ok (.iload_n 3, 1) := by decide +kernel
theorem dX6_isRicher_36 : decode cX6_isRicher 36 = .ok (.ifCond .gt 22, 3) := by decide +kernel
theorem dX6_isRicher_39 : decode cX6_isRicher 39 = .ok (.iload_n 3, 1) := by decide +kernel
theorem dX6_isRicher_40 : decode cX6_isRicher 40 = .ok (.ifCond .ne 22, 3) := by decide +kernel
theorem dX6_isRicher_43 : decode cX6_isRicher 43 = .ok (.iload 4, 2) := by decide +kernel
theorem dX6_isRicher_45 : decode cX6_isRicher 45 = .ok (.ifCond .gt 13, 3) := by decide +kernel
theorem dX6_isRicher_48 : decode cX6_isRicher 48 = .ok (.iload 4, 2) := by decide +kernel
theorem dX6_isRicher_50 : decode cX6_isRicher 50 = .ok (.ifCond .ne 12, 3) := by decide +kernel
theorem dX6_isRicher_53 : decode cX6_isRicher 53 = .ok (.iload_n 1, 1) := by decide +kernel
theorem dX6_isRicher_54 : decode cX6_isRicher 54 = .ok (.iload_n 2, 1) := by decide +kernel
theorem dX6_isRicher_55 : decode cX6_isRicher 55 = .ok (.if_icmp .ge 7, 3) := by decide +kernel
theorem dX6_isRicher_58 : decode cX6_isRicher 58 = .ok (.iconst 1, 1) := by decide +kernel
theorem dX6_isRicher_59 : decode cX6_isRicher 59 = .ok (.goto 4, 3) := by decide +kernel
theorem dX6_isRicher_62 : decode cX6_isRicher 62 = .ok (.iconst 0, 1) := by decide +kernel
theorem dX6_isRicher_63 : decode cX6_isRicher 63 = .ok (.ireturn, 1) := by decide +kernel
set_option maxRecDepth 20000 in
theorem ggX6_richest_X6_isHead : GoodIn wsX6_richest wsX6_isHead := goodIn_r _ [6, 1, 7, 8, 5, 9, 29, 30, 31, 32, 33, 34, 35, 36, 37, 38] (by decide +kernel) (by decide +kernel)
set_option maxRecDepth 20000 in
theorem gX6_richest_X6_isHead : GoodIn wsX6_richest (wsV RX6 65 RX6 yX6_isHead wsX6_isHead) := goodIn_app (goodIn_of _ (by decide +kernel)) ggX6_richest_X6_isHead
set_option maxRecDepth 20000 in
theorem ggX6_richest_X6_isBelow : GoodIn wsX6_richest wsX6_isBelow := goodIn_r _ [13, 14, 15, 16, 5, 17, 1, 18, 19, 20, 29, 30, 31, 32, 33, 34, 35, 36, 37, 38] (by decide +kernel) (by decide +kernel)
set_option maxRecDepth 20000 in
theorem gX6_richest_X6_isBelow : GoodIn wsX6_richest (wsV RX6 95 RX6 yX6_isBelow wsX6_isBelow) := goodIn_app (goodIn_of _ (by decide +kernel)) ggX6_richest_X6_isBelow
set_option maxRecDepth 20000 in
theorem ggX6_richest_X6_isRicher : GoodIn wsX6_richest wsX6_isRicher := goodIn_r _ [24, 1, 25, 26, 27, 5, 28, 18, 19, 20, 29, 30, 31, 32, 33, 34, 35, 36, 37, 38] (by decide +kernel) (by decide +kernel)
set_option maxRecDepth 20000 in
theorem gX6_richest_X6_isRicher : GoodIn wsX6_richest (wsV RX6 135 RX6 yX6_isRicher wsX6_isRicher) := goodIn_app (goodIn_of _ (by decide +kernel)) ggX6_richest_X6_isRicher
theorem dX6_richest_0 : decode cX6_richest 0 = .ok (.aload_n 0, 1) := by decide +kernel
theorem dX6_richest_1 : decode cX6_richest 1 = .ok (.iload_n 1, 1) := by decide +kernel
theorem dX6_richest_2 : decode cX6_richest 2 = .ok (.invokevirtual 65, 3) := by decide +kernel
theorem dX6_richest_5 : decode cX6_richest 5 = .ok (.ifCond .eq 7, 3) := by decide +kernel
theorem dX6_richest_8 : decode cX6_richest 8 = .ok (.iload_n 2, 1) := by decide +kernel
theorem dX6_richest_9 : decode cX6_richest 9 = .ok (.ifCond .ge 5, 3) := by decide +kernel
theorem dX6_richest_12 : decode cX6_richest 12 = .ok (.iconst (-1), 1) := by decide +kernel
theorem dX6_richest_13 : decode cX6_richest 13 = .ok (.ireturn, 1) := by decide +kernel
theorem dX6_richest_14 : decode cX6_richest 14 = .ok (.iconst 0, 1) := by decide +kernel
theorem dX6_richest_15 : decode cX6_richest 15 = .ok (.istore_n 3, 1) := by decide +kernel
theorem dX6_richest_16 : decode cX6_richest 16 = .ok (.iload_n 3, 1) := by decide +kernel
theorem dX6_richest_17 : decode cX6_richest 17 = .ok (.aload_n 0, 1) := by decide +kernel
theorem dX6_richest_18 : decode cX6_richest 18 = .ok (.getfield 7, 3) := by decide +kernel
theorem dX6_richest_21 : decode cX6_richest 21 = .ok (.iconst 1, 1) := by decide +kernel
theorem dX6_richest_22 : decode cX6_richest 22 = .ok (.iaload, 1) := by decide +kernel
theorem dX6_richest_23 : decode cX6_richest 23 = .ok (.if_icmp .ge 79, 3) := by decide +kernel
theorem dX6_richest_26 : decode cX6_richest 26 = .ok (.iconst 0, 1) := by decide +kernel
theorem dX6_richest_27 : decode cX6_richest 27 = .ok (.istore 4, 2) := by decide +kernel
theorem dX6_richest_29 : decode cX6_richest 29 = .ok (.iconst 0, 1) := by decide +kernel
theorem dX6_richest_30 : decode cX6_richest 30 = .ok (.istore 5, 2) := by decide +kernel
theorem dX6_richest_32 : decode cX6_richest 32 = .ok (.iload 5, 2) := by decide +kernel
theorem dX6_richest_34 : decode cX6_richest 34 = .ok (.aload_n 0, 1) := by decide +kernel
theorem dX6_richest_35 : decode cX6_richest 35 = .ok (.getfield 7, 3) := by decide +kernel
theorem dX6_richest_38 : decode cX6_richest 38 = .ok (.iconst 1, 1) := by decide +kernel
theorem dX6_richest_39 : decode cX6_richest 39 = .ok (.iaload, 1) := by decide +kernel
theorem dX6_richest_40 : decode cX6_richest 40 = .ok (.if_icmp .ge 39, 3) := by decide +kernel
theorem dX6_richest_43 : decode cX6_richest 43 = .ok (.iload 4, 2) := by decide +kernel
theorem dX6_richest_45 : decode cX6_richest 45 = .ok (.aload_n 0, 1) := by decide +kernel
theorem dX6_richest_46 : decode cX6_richest 46 = .ok (.iload 5, 2) := by decide +kernel
theorem dX6_richest_48 : decode cX6_richest 48 = .ok (.iload_n 1, 1) := by decide +kernel
theorem dX6_richest_49 : decode cX6_richest 49 = .ok (.invokevirtual 95, 3) := by decide +kernel
theorem dX6_richest_52 : decode cX6_richest 52 = .ok (.ifCond .eq 17, 3) := by decide +kernel
theorem dX6_richest_55 : decode cX6_richest 55 = .ok (.aload_n 0, 1) := by decide +kernel
theorem dX6_richest_56 : decode cX6_richest 56 = .ok (.iload 5, 2) := by decide +kernel
theorem dX6_richest_58 : decode cX6_richest 58 = .ok (.iload_n 3, 1) := by decide +kernel
theorem dX6_richest_59 : decode cX6_richest 59 = .ok (.invokevirtual 135, 3) := by decide +kernel
theorem dX6_richest_62 : decode cX6_richest 62 = .ok (.ifCond .eq 7, 3) := by decide +kernel
theorem dX6_richest_65 : decode cX6_richest 65 = .ok (.iconst 1, 1) := by decide +kernel
theorem dX6_richest_66 : decode cX6_richest 66 = .ok (.goto 4, 3) := by decide +kernel
theorem dX6_richest_69 : decode cX6_richest 69 = .ok (.iconst 0, 1) := by decide +kernel
theorem dX6_richest_70 : decode cX6_richest 70 = .ok (.iadd, 1) := by decide +kernel
theorem dX6_richest_71 : decode cX6_richest 71 = .ok (.istore 4, 2) := by decide +kernel
theorem dX6_richest_73 : decode cX6_richest 73 = .ok (.iinc 5 1, 3) := by decide +kernel
theorem dX6_richest_76 : decode cX6_richest 76 = .ok (.goto (-44), 3) := by decide +kernel
theorem dX6_richest_79 : decode cX6_richest 79 = .ok (.aload_n 0, 1) := by decide +kernel
theorem dX6_richest_80 : decode cX6_richest 80 = .ok (.iload_n 3, 1) := by decide +kernel
theorem dX6_richest_81 : decode cX6_richest 81 = .ok (.iload_n 1, 1) := by decide +kernel
theorem dX6_richest_82 : decode cX6_richest 82 = .ok (.invokevirtual 95, 3) := by decide +kernel
theorem dX6_richest_85 : decode cX6_richest 85 = .ok (.ifCond .eq 11, 3) := by decide +kernel
theorem dX6_richest_88 : decode cX6_richest 88 = .ok (.iload 4, 2) := by decide +kernel
theorem dX6_richest_90 : decode cX6_richest 90 = .ok (.iload_n 2, 1) := by decide +kernel
theorem dX6_richest_91 : decode cX6_richest 91 = .ok (.if_icmp .ne 5, 3) := by decide +kernel
theorem dX6_richest_94 : decode cX6_richest 94 = .ok (.iload_n 3, 1) := by decide +kernel
theorem dX6_richest_95 : decode cX6_richest 95 = .ok (.ireturn, 1) := by decide +kernel
theorem dX6_richest_96 : decode cX6_richest 96 = .ok (.iinc 3 1, 3) := by decide +kernel
theorem dX6_richest_99 : decode cX6_richest 99 = .ok (.goto (-83), 3) := by decide +kernel
theorem dX6_richest_102 : decode cX6_richest 102 = .ok (.bipush (-9), 2) := by decide +kernel
theorem dX6_richest_104 : decode cX6_richest 104 = .ok (.ireturn, 1) := by decide +kernel
set_option maxRecDepth 20000 in
theorem ggX6_wouldLapse_X6_isHead : GoodIn wsX6_wouldLapse wsX6_isHead := goodIn_r _ [5, 6, 7, 8, 4, 9, 38, 39, 40, 41, 42, 43, 44, 45, 46, 47] (by decide +kernel) (by decide +kernel)
set_option maxRecDepth 20000 in
theorem gX6_wouldLapse_X6_isHead : GoodIn wsX6_wouldLapse (wsV RX6 65 RX6 yX6_isHead wsX6_isHead) := goodIn_app (goodIn_of _ (by decide +kernel)) ggX6_wouldLapse_X6_isHead
set_option maxRecDepth 20000 in
theorem ggX6_wouldLapse_X6_totalOf : GoodIn wsX6_wouldLapse wsX6_totalOf := goodIn_r _ [13, 6, 14, 15, 16, 4, 17, 18, 19, 20, 21, 22, 23, 24, 25, 26, 27, 28, 29, 30, 31, 32, 33, 34, 35, 36, 37, 38, 39, 40, 41, 42, 43, 44, 45, 46, 47] (by decide +kernel) (by decide +kernel)
set_option maxRecDepth 20000 in
theorem gX6_wouldLapse_X6_totalOf : GoodIn wsX6_wouldLapse (wsV RX6 129 RX6 yX6_totalOf wsX6_totalOf) := goodIn_app (goodIn_of _ (by decide +kernel)) ggX6_wouldLapse_X6_totalOf
theorem dX6_wouldLapse_0 : decode cX6_wouldLapse 0 = .ok (.aload_n 0, 1) := by decide +kernel
theorem dX6_wouldLapse_1 : decode cX6_wouldLapse 1 = .ok (.iload_n 1, 1) := by decide +kernel
theorem dX6_wouldLapse_2 : decode cX6_wouldLapse 2 = .ok (.invokevirtual 65, 3) := by decide +kernel
theorem dX6_wouldLapse_5 : decode cX6_wouldLapse 5 = .ok (.ifCond .eq 12, 3) := by decide +kernel
theorem dX6_wouldLapse_8 : decode cX6_wouldLapse 8 = .ok (.aload_n 0, 1) := by decide +kernel
theorem dX6_wouldLapse_9 : decode cX6_wouldLapse 9 = .ok (.iload_n 1, 1) := by decide +kernel
theorem dX6_wouldLapse_10 : decode cX6_wouldLapse 10 = .ok (.iconst 5, 1) := by decide +kernel
theorem dX6_wouldLapse_11 : decode cX6_wouldLapse 11 = .ok (.invokevirtual 129, 3) := by decide +kernel
theorem dX6_wouldLapse_14 : decode cX6_wouldLapse 14 = .ok (.goto 4, 3) := by decide +kernel
theorem dX6_wouldLapse_17 : decode cX6_wouldLapse 17 = .ok (.iconst (-1), 1) := by decide +kernel
theorem dX6_wouldLapse_18 : decode cX6_wouldLapse 18 = .ok (.ireturn, 1) := by decide +kernel
theorem dJ9_floorMod_7cf53_0 : decode cJ9_floorMod_7cf53 0 = .ok (.iload_n 0, 1) := by decide +kernel
theorem dJ9_floorMod_7cf53_1 : decode cJ9_floorMod_7cf53 1 = .ok (.iload_n 1, 1) := by decide +kernel
theorem dJ9_floorMod_7cf53_2 : decode cJ9_floorMod_7cf53 2 = .ok (.irem, 1) := by decide +kernel
theorem dJ9_floorMod_7cf53_3 : decode cJ9_floorMod_7cf53 3 = .ok (.istore_n 2, 1) := by decide +kernel
theorem dJ9_floorMod_7cf53_4 : decode cJ9_floorMod_7cf53 4 = .ok (.iload_n 0, 1) := by decide +kernel
theorem dJ9_floorMod_7cf53_5 : decode cJ9_floorMod_7cf53 5 = .ok (.iload_n 1, 1) := by decide +kernel
theorem dJ9_floorMod_7cf53_6 : decode cJ9_floorMod_7cf53 6 = .ok (.ixor, 1) := by decide +kernel
theorem dJ9_floorMod_7cf53_7 : decode cJ9_floorMod_7cf53 7 = .ok (.ifCond .ge 11, 3) := by decide +kernel
theorem dJ9_floorMod_7cf53_10 : decode cJ9_floorMod_7cf53 10 = .ok (.iload_n 2, 1) := by decide +kernel
theorem dJ9_floorMod_7cf53_11 : decode cJ9_floorMod_7cf53 11 = .ok (.ifCond .eq 7, 3) := by decide +kernel
theorem dJ9_floorMod_7cf53_14 : decode cJ9_floorMod_7cf53 14 = .ok (.iload_n 2, 1) := by decide +kernel
theorem dJ9_floorMod_7cf53_15 : decode cJ9_floorMod_7cf53 15 = .ok (.iload_n 1, 1) := by decide +kernel
theorem dJ9_floorMod_7cf53_16 : decode cJ9_floorMod_7cf53 16 = .ok (.iadd, 1) := by decide +kernel
theorem dJ9_floorMod_7cf53_17 : decode cJ9_floorMod_7cf53 17 = .ok (.ireturn, 1) := by decide +kernel
theorem dJ9_floorMod_7cf53_18 : decode cJ9_floorMod_7cf53 18 = .ok (.iload_n 2, 1) := by decide +kernel
theorem dJ9_floorMod_7cf53_19 : decode cJ9_floorMod_7cf53 19 = .ok (.ireturn, 1) := by decide +kernel
theorem dJ9_max_7cf53_0 : decode cJ9_max_7cf53 0 = .ok (.iload_n 0, 1) := by decide +kernel
theorem dJ9_max_7cf53_1 : decode cJ9_max_7cf53 1 = .ok (.iload_n 1, 1) := by decide +kernel
theorem dJ9_max_7cf53_2 : decode cJ9_max_7cf53 2 = .ok (.if_icmp .lt 7, 3) := by decide +kernel
theorem dJ9_max_7cf53_5 : decode cJ9_max_7cf53 5 = .ok (.iload_n 0, 1) := by decide +kernel
theorem dJ9_max_7cf53_6 : decode cJ9_max_7cf53 6 = .ok (.goto 4, 3) := by decide +kernel
theorem dJ9_max_7cf53_9 : decode cJ9_max_7cf53 9 = .ok (.iload_n 1, 1) := by decide +kernel
theorem dJ9_max_7cf53_10 : decode cJ9_max_7cf53 10 = .ok (.ireturn, 1) := by decide +kernel
theorem dJ9_min_7cf53_0 : decode cJ9_min_7cf53 0 = .ok (.iload_n 0, 1) := by decide +kernel
theorem dJ9_min_7cf53_1 : decode cJ9_min_7cf53 1 = .ok (.iload_n 1, 1) := by decide +kernel
theorem dJ9_min_7cf53_2 : decode cJ9_min_7cf53 2 = .ok (.if_icmp .gt 7, 3) := by decide +kernel
theorem dJ9_min_7cf53_5 : decode cJ9_min_7cf53 5 = .ok (.iload_n 0, 1) := by decide +kernel
theorem dJ9_min_7cf53_6 : decode cJ9_min_7cf53 6 = .ok (.goto 4, 3) := by decide +kernel
theorem dJ9_min_7cf53_9 : decode cJ9_min_7cf53 9 = .ok (.iload_n 1, 1) := by decide +kernel
theorem dJ9_min_7cf53_10 : decode cJ9_min_7cf53 10 = .ok (.ireturn, 1) := by decide +kernel
abbrev vwCl : List vw_C := [(RX0, TX0, 6), (RX1, TX1, 5), (RX2, TX2, 6), (RX3, TX3, 11), (RX4, TX4, 4), (RX5, TX5, 2), (RX6, TX6, 10)]
end
section
/-! THE WORLDS. A state of the class: X g f i (g 0..12 the books, now and before each of the 12 places; f 0..8 the heads' columns as the reference numbers them, 9 depths, 10..13 the commitments' columns, 14 the numbers: 0 year, 1 heads, 2 commitments, 3 carried, 4 lapsed, 5 spent; group 13: the deeds (f: 0 number 1 kind 2 subject 3 taker 4 amount, i the place); group 14: X 14 0: 0 oldest 1 held 2 latestNumber). A state of the reference: the same groups 0..12 (its row's parts), 13: its seven arrays, 14: deeds, deedNumber. -/
abbrev St : Type := Nat → Nat → Nat → Int32
abbrev Bk : Type := Nat → Nat → Int32
def b2 (r : Bk) (f i : Nat) (v : Int32) : Bk := fun b c => if b = f ∧ c = i then v else r b c
def u3 (X : St) (g f i : Nat) (v : Int32) : St := fun a => if a = g then b2 (X a) f i v else X a
/-- the book g becomes r -/
def sg (X : St) (g : Nat) (r : Bk) : St := fun a => if a = g then r else X a
def qv (r : Bk) (f : Nat) (h : Int32) : Int32 := r f h.toNatClampNeg
theorem u3_g (X : St) (g f i : Nat) (v : Int32) : u3 X g f i v g = b2 (X g) f i v := by simp [u3]
theorem u3_n (X : St) (g f i : Nat) (v : Int32) {a : Nat} (h : a ≠ g) : u3 X g f i v a = X a := by simp [u3, h]
theorem u3_sg (X : St) (g f i : Nat) (v : Int32) : u3 X g f i v = sg X g (b2 (X g) f i v) := by funext a; unfold u3 sg; by_cases h : a = g <;> simp [h]
theorem sg_g (X : St) (g : Nat) (r : Bk) : sg X g r g = r := by simp [sg]
theorem sg_n (X : St) (g : Nat) (r : Bk) {a : Nat} (h : a ≠ g) : sg X g r a = X a := by simp [sg, h]
theorem sg_sg (X : St) (g : Nat) (r r2 : Bk) : sg (sg X g r) g r2 = sg X g r2 := by funext a; unfold sg; by_cases h : a = g <;> simp [h]
theorem sg_self (X : St) (g : Nat) : sg X g (X g) = X := by funext a; unfold sg; by_cases h : a = g <;> simp [h]
theorem b2_s (r : Bk) (f i : Nat) (v : Int32) : b2 r f i v f i = v := by simp [b2]
theorem b2_nf (r : Bk) (f i : Nat) (v : Int32) {b c : Nat} (h : b ≠ f) : b2 r f i v b c = r b c := by simp [b2, h]
theorem b2_ni (r : Bk) (f i : Nat) (v : Int32) {b c : Nat} (h : c ≠ i) : b2 r f i v b c = r b c := by simp [b2, h]
theorem b2_col (r : Bk) (f i : Nat) (v : Int32) : b2 r f i v f = upd (r f) i v := by funext c; simp [b2, upd]
theorem b2_coln (r : Bk) (f i : Nat) (v : Int32) {b : Nat} (h : b ≠ f) : b2 r f i v b = r b := by funext c; simp [b2, h]

def bkE (cI : ClassId) (ad : Nat → Nat) (g : Nat) (r : Bk) (j : Nat) : va_E := match j with
  | 0 => .inr (0, [.ref (ad (17 * g + 1)), .ref (ad (17 * g + 12)), .int (r 14 0), .int (r 14 3), .int (r 14 4), .int (r 14 5)])
  | 1 => .inr (3, [.ref (ad (17 * g + 2)), .ref (ad (17 * g + 3)), .ref (ad (17 * g + 4)), .ref (ad (17 * g + 5)), .ref (ad (17 * g + 6)), .ref (ad (17 * g + 7)), .ref (ad (17 * g + 8)), .ref (ad (17 * g + 9)), .ref (ad (17 * g + 10)), .ref (ad (17 * g + 11)), .int (r 14 1)])
  | 2 => .inl (cI, 20, .inl (r 0))
  | 3 => .inl (cI, 20, .inl (r 9))
  | 4 => .inl (cI, 20, .inl (r 1))
  | 5 => .inl (cI, 20, .inl (r 2))
  | 6 => .inl (cI, 20, .inl (r 3))
  | 7 => .inl (cI, 20, .inl (r 4))
  | 8 => .inl (cI, 20, .inl (r 5))
  | 9 => .inl (cI, 20, .inl (r 6))
  | 10 => .inl (cI, 20, .inl (r 7))
  | 11 => .inl (cI, 20, .inl (r 8))
  | 12 => .inr (1, [.ref (ad (17 * g + 13)), .ref (ad (17 * g + 14)), .ref (ad (17 * g + 15)), .ref (ad (17 * g + 16)), .int (r 14 2)])
  | 13 => .inl (cI, 40, .inl (r 10))
  | 14 => .inl (cI, 40, .inl (r 11))
  | 15 => .inl (cI, 40, .inl (r 12))
  | _ => .inl (cI, 40, .inl (r 13))
def deE (ad : Nat → Nat) (d : Bk) (i : Nat) : va_E := .inr (2, [.ref (ad (17 * (i + 1))), .int (d 0 i), .int (d 1 i), .int (d 2 i), .int (d 3 i), .int (d 4 i)])
def cellC (cI cR : ClassId) (ad : Nat → Nat) (X : St) (g j : Nat) : va_E := if g < 13 then bkE cI ad g (X g) j else if j = 12 then .inr (5, [.ref (ad 0), .ref (ad 234)]) else if j = 13 then .inr (4, [.ref (ad 235), .int (X 14 0 0), .int (X 14 0 1), .int (X 14 0 2)]) else if j = 14 then .inl (cR, 12, .inr (.inr (.inr (.inr (fun i => some (ad (221 + i))))))) else deE ad (X 13) j
def wC (cI cR : ClassId) (ad : Nat → Nat) (X : St) : va_W := (List.range 236).map (fun k => (ad k, cellC cI cR ad X (k / 17) (k % 17)))
section
variable {cI cR : ClassId} {ad : Nat → Nat} {X : St}
theorem wC_get {g j k : Nat} (hk : k = 17 * g + j) (hj : j < 17) (h : k < 236) : (wC cI cR ad X)[k]? = some (ad k, cellC cI cR ad X g j) := by
  subst hk
  unfold wC
  rw [List.getElem?_map, List.getElem?_range h]
  show some (ad (17 * g + j), cellC cI cR ad X ((17 * g + j) / 17) ((17 * g + j) % 17)) = _
  rw [show (17 * g + j) / 17 = g by omega, show (17 * g + j) % 17 = j by omega]
theorem wC_bk {g j k : Nat} (hg : g < 13) (hk : k = 17 * g + j) (hj : j < 17) : (wC cI cR ad X)[k]? = some (ad k, bkE cI ad g (X g) j) := by
  rw [wC_get hk hj (by omega)]
  unfold cellC
  rw [if_pos hg]
theorem wC_de {i k : Nat} (hi : i < 12) (hk : k = 221 + i) : (wC cI cR ad X)[k]? = some (ad k, deE ad (X 13) i) := by
  rw [wC_get (g := 13) (j := i) (by omega) (by omega) (by omega)]
  unfold cellC
  rw [if_neg (by omega), if_neg (by omega), if_neg (by omega), if_neg (by omega)]
theorem wC_len : (wC cI cR ad X).length = 236 := by simp [wC]
theorem wC_set {g j k : Nat} {X' : St} {e : va_E} (hk : k = 17 * g + j) (hj : j < 17) (h : k < 236) (he : cellC cI cR ad X' g j = e) (ho : ∀ a b : Nat, b < 17 → 17 * a + b < 236 → ¬ (a = g ∧ b = j) → cellC cI cR ad X' a b = cellC cI cR ad X a b) : (wC cI cR ad X).set k (ad k, e) = wC cI cR ad X' := by
  apply List.ext_getElem?
  intro n
  rw [List.getElem?_set]
  by_cases e1 : k = n
  · rw [if_pos e1, ← e1, if_pos (by rw [wC_len]; exact h), wC_get (X := X') hk hj h, he]
  · rw [if_neg e1]
    unfold wC
    rw [List.getElem?_map, List.getElem?_map]
    by_cases e2 : n < 236
    · rw [List.getElem?_range e2]
      show some (ad n, _) = some (ad n, _)
      rw [ho (n / 17) (n % 17) (by omega) (by omega) (fun z => e1 (by omega))]
    · rw [List.getElem?_eq_none (by simp; omega)]
      rfl
/-- which column of a book a cell shows -/
def jc (j : Nat) : Nat := match j with
  | 0 => 14 | 1 => 14 | 2 => 0 | 3 => 9 | 4 => 1 | 5 => 2 | 6 => 3 | 7 => 4 | 8 => 5 | 9 => 6 | 10 => 7 | 11 => 8 | 12 => 14 | 13 => 10 | 14 => 11 | 15 => 12 | _ => 13
theorem bkE_same {g : Nat} {r r' : Bk} {j : Nat} (hj : j < 17) (h : r' (jc j) = r (jc j)) : bkE cI ad g r' j = bkE cI ad g r j := by
  rcases (show j = 0 ∨ j = 1 ∨ j = 2 ∨ j = 3 ∨ j = 4 ∨ j = 5 ∨ j = 6 ∨ j = 7 ∨ j = 8 ∨ j = 9 ∨ j = 10 ∨ j = 11 ∨ j = 12 ∨ j = 13 ∨ j = 14 ∨ j = 15 ∨ j = 16 by omega) with rfl | rfl | rfl | rfl | rfl | rfl | rfl | rfl | rfl | rfl | rfl | rfl | rfl | rfl | rfl | rfl | rfl <;> (simp only [jc] at h; simp only [bkE, h])
/-- a write into a books' column -/
theorem wC_col {g j k f i : Nat} {v : Int32} {n : Nat} (hg : g < 13) (hk : k = 17 * g + j) (hj : j < 17) (he : ∀ r : Bk, bkE cI ad g r j = .inl (cI, n, .inl (r f))) (ho : ∀ r r' : Bk, (∀ b, b ≠ f → r' b = r b) → ∀ b : Nat, b < 17 → b ≠ j → bkE cI ad g r' b = bkE cI ad g r b) : (wC cI cR ad X).set k (ad k, .inl (cI, n, .inl (upd (X g f) i v))) = wC cI cR ad (u3 X g f i v) := by
  refine wC_set hk hj (by omega) ?_ ?_
  · unfold cellC
    rw [if_pos hg, he, u3_g, b2_col]
  · intro a b hb hab hne
    unfold cellC
    by_cases ha : a = g
    · subst ha
      rw [if_pos hg, if_pos hg, u3_g]
      exact ho _ _ (fun c hc => b2_coln _ _ _ _ hc) b hb (fun z => hne ⟨rfl, z⟩)
    · by_cases ha2 : a < 13
      · rw [if_pos ha2, if_pos ha2, u3_n _ _ _ _ _ ha]
      · rw [if_neg ha2, if_neg ha2, u3_n X g f i v (a := 14) (by omega), u3_n X g f i v (a := 13) (by omega)]
/-- a write of a books' number -/
theorem wC_num {g j k i : Nat} {v : Int32} {e : va_E} (hg : g < 13) (hk : k = 17 * g + j) (hj : j < 17) (he : bkE cI ad g (b2 (X g) 14 i v) j = e) (ho : ∀ b : Nat, b < 17 → b ≠ j → bkE cI ad g (b2 (X g) 14 i v) b = bkE cI ad g (X g) b) : (wC cI cR ad X).set k (ad k, e) = wC cI cR ad (u3 X g 14 i v) := by
  refine wC_set hk hj (by omega) ?_ ?_
  · unfold cellC
    rw [if_pos hg, u3_g, he]
  · intro a b hb hab hne
    unfold cellC
    by_cases ha : a = g
    · subst ha
      rw [if_pos hg, if_pos hg, u3_g]
      exact ho b hb (fun z => hne ⟨rfl, z⟩)
    · by_cases ha2 : a < 13
      · rw [if_pos ha2, if_pos ha2, u3_n _ _ _ _ _ ha]
      · rw [if_neg ha2, if_neg ha2, u3_n X g 14 i v (a := 14) (by omega), u3_n X g 14 i v (a := 13) (by omega)]

theorem g0_0 : (wC cI cR ad X)[0]? = some (ad 0, .inr (0, [.ref (ad 1), .ref (ad 12), .int (X 0 14 0), .int (X 0 14 3), .int (X 0 14 4), .int (X 0 14 5)])) := wC_bk (g := 0) (j := 0) (by omega) rfl (by omega)
theorem gg_0 {g : Nat} (hg : g < 13) : (wC cI cR ad X)[17 * g + 0]? = some (ad (17 * g + 0), .inr (0, [.ref (ad (17 * g + 1)), .ref (ad (17 * g + 12)), .int (X g 14 0), .int (X g 14 3), .int (X g 14 4), .int (X g 14 5)])) := wC_bk hg rfl (by omega)
theorem g0_1 : (wC cI cR ad X)[1]? = some (ad 1, .inr (3, [.ref (ad 2), .ref (ad 3), .ref (ad 4), .ref (ad 5), .ref (ad 6), .ref (ad 7), .ref (ad 8), .ref (ad 9), .ref (ad 10), .ref (ad 11), .int (X 0 14 1)])) := wC_bk (g := 0) (j := 1) (by omega) rfl (by omega)
theorem gg_1 {g : Nat} (hg : g < 13) : (wC cI cR ad X)[17 * g + 1]? = some (ad (17 * g + 1), .inr (3, [.ref (ad (17 * g + 2)), .ref (ad (17 * g + 3)), .ref (ad (17 * g + 4)), .ref (ad (17 * g + 5)), .ref (ad (17 * g + 6)), .ref (ad (17 * g + 7)), .ref (ad (17 * g + 8)), .ref (ad (17 * g + 9)), .ref (ad (17 * g + 10)), .ref (ad (17 * g + 11)), .int (X g 14 1)])) := wC_bk hg rfl (by omega)
theorem g0_2 : (wC cI cR ad X)[2]? = some (ad 2, .inl (cI, 20, .inl (X 0 0))) := wC_bk (g := 0) (j := 2) (by omega) rfl (by omega)
theorem gg_2 {g : Nat} (hg : g < 13) : (wC cI cR ad X)[17 * g + 2]? = some (ad (17 * g + 2), .inl (cI, 20, .inl (X g 0))) := wC_bk hg rfl (by omega)
theorem g0_3 : (wC cI cR ad X)[3]? = some (ad 3, .inl (cI, 20, .inl (X 0 9))) := wC_bk (g := 0) (j := 3) (by omega) rfl (by omega)
theorem gg_3 {g : Nat} (hg : g < 13) : (wC cI cR ad X)[17 * g + 3]? = some (ad (17 * g + 3), .inl (cI, 20, .inl (X g 9))) := wC_bk hg rfl (by omega)
theorem g0_4 : (wC cI cR ad X)[4]? = some (ad 4, .inl (cI, 20, .inl (X 0 1))) := wC_bk (g := 0) (j := 4) (by omega) rfl (by omega)
theorem gg_4 {g : Nat} (hg : g < 13) : (wC cI cR ad X)[17 * g + 4]? = some (ad (17 * g + 4), .inl (cI, 20, .inl (X g 1))) := wC_bk hg rfl (by omega)
theorem g0_5 : (wC cI cR ad X)[5]? = some (ad 5, .inl (cI, 20, .inl (X 0 2))) := wC_bk (g := 0) (j := 5) (by omega) rfl (by omega)
theorem gg_5 {g : Nat} (hg : g < 13) : (wC cI cR ad X)[17 * g + 5]? = some (ad (17 * g + 5), .inl (cI, 20, .inl (X g 2))) := wC_bk hg rfl (by omega)
theorem g0_6 : (wC cI cR ad X)[6]? = some (ad 6, .inl (cI, 20, .inl (X 0 3))) := wC_bk (g := 0) (j := 6) (by omega) rfl (by omega)
theorem gg_6 {g : Nat} (hg : g < 13) : (wC cI cR ad X)[17 * g + 6]? = some (ad (17 * g + 6), .inl (cI, 20, .inl (X g 3))) := wC_bk hg rfl (by omega)
theorem g0_7 : (wC cI cR ad X)[7]? = some (ad 7, .inl (cI, 20, .inl (X 0 4))) := wC_bk (g := 0) (j := 7) (by omega) rfl (by omega)
theorem gg_7 {g : Nat} (hg : g < 13) : (wC cI cR ad X)[17 * g + 7]? = some (ad (17 * g + 7), .inl (cI, 20, .inl (X g 4))) := wC_bk hg rfl (by omega)
theorem g0_8 : (wC cI cR ad X)[8]? = some (ad 8, .inl (cI, 20, .inl (X 0 5))) := wC_bk (g := 0) (j := 8) (by omega) rfl (by omega)
theorem gg_8 {g : Nat} (hg : g < 13) : (wC cI cR ad X)[17 * g + 8]? = some (ad (17 * g + 8), .inl (cI, 20, .inl (X g 5))) := wC_bk hg rfl (by omega)
theorem g0_9 : (wC cI cR ad X)[9]? = some (ad 9, .inl (cI, 20, .inl (X 0 6))) := wC_bk (g := 0) (j := 9) (by omega) rfl (by omega)
theorem gg_9 {g : Nat} (hg : g < 13) : (wC cI cR ad X)[17 * g + 9]? = some (ad (17 * g + 9), .inl (cI, 20, .inl (X g 6))) := wC_bk hg rfl (by omega)
theorem g0_10 : (wC cI cR ad X)[10]? = some (ad 10, .inl (cI, 20, .inl (X 0 7))) := wC_bk (g := 0) (j := 10) (by omega) rfl (by omega)
theorem gg_10 {g : Nat} (hg : g < 13) : (wC cI cR ad X)[17 * g + 10]? = some (ad (17 * g + 10), .inl (cI, 20, .inl (X g 7))) := wC_bk hg rfl (by omega)
theorem g0_11 : (wC cI cR ad X)[11]? = some (ad 11, .inl (cI, 20, .inl (X 0 8))) := wC_bk (g := 0) (j := 11) (by omega) rfl (by omega)
theorem gg_11 {g : Nat} (hg : g < 13) : (wC cI cR ad X)[17 * g + 11]? = some (ad (17 * g + 11), .inl (cI, 20, .inl (X g 8))) := wC_bk hg rfl (by omega)
theorem g0_12 : (wC cI cR ad X)[12]? = some (ad 12, .inr (1, [.ref (ad 13), .ref (ad 14), .ref (ad 15), .ref (ad 16), .int (X 0 14 2)])) := wC_bk (g := 0) (j := 12) (by omega) rfl (by omega)
theorem gg_12 {g : Nat} (hg : g < 13) : (wC cI cR ad X)[17 * g + 12]? = some (ad (17 * g + 12), .inr (1, [.ref (ad (17 * g + 13)), .ref (ad (17 * g + 14)), .ref (ad (17 * g + 15)), .ref (ad (17 * g + 16)), .int (X g 14 2)])) := wC_bk hg rfl (by omega)
theorem g0_13 : (wC cI cR ad X)[13]? = some (ad 13, .inl (cI, 40, .inl (X 0 10))) := wC_bk (g := 0) (j := 13) (by omega) rfl (by omega)
theorem gg_13 {g : Nat} (hg : g < 13) : (wC cI cR ad X)[17 * g + 13]? = some (ad (17 * g + 13), .inl (cI, 40, .inl (X g 10))) := wC_bk hg rfl (by omega)
theorem g0_14 : (wC cI cR ad X)[14]? = some (ad 14, .inl (cI, 40, .inl (X 0 11))) := wC_bk (g := 0) (j := 14) (by omega) rfl (by omega)
theorem gg_14 {g : Nat} (hg : g < 13) : (wC cI cR ad X)[17 * g + 14]? = some (ad (17 * g + 14), .inl (cI, 40, .inl (X g 11))) := wC_bk hg rfl (by omega)
theorem g0_15 : (wC cI cR ad X)[15]? = some (ad 15, .inl (cI, 40, .inl (X 0 12))) := wC_bk (g := 0) (j := 15) (by omega) rfl (by omega)
theorem gg_15 {g : Nat} (hg : g < 13) : (wC cI cR ad X)[17 * g + 15]? = some (ad (17 * g + 15), .inl (cI, 40, .inl (X g 12))) := wC_bk hg rfl (by omega)
theorem g0_16 : (wC cI cR ad X)[16]? = some (ad 16, .inl (cI, 40, .inl (X 0 13))) := wC_bk (g := 0) (j := 16) (by omega) rfl (by omega)
theorem gg_16 {g : Nat} (hg : g < 13) : (wC cI cR ad X)[17 * g + 16]? = some (ad (17 * g + 16), .inl (cI, 40, .inl (X g 13))) := wC_bk hg rfl (by omega)
theorem g0_233 : (wC cI cR ad X)[233]? = some (ad 233, .inr (5, [.ref (ad 0), .ref (ad 234)])) := wC_get (g := 13) (j := 12) rfl (by omega) (by omega)
theorem g0_234 : (wC cI cR ad X)[234]? = some (ad 234, .inr (4, [.ref (ad 235), .int (X 14 0 0), .int (X 14 0 1), .int (X 14 0 2)])) := wC_get (g := 13) (j := 13) rfl (by omega) (by omega)
theorem g0_235 : (wC cI cR ad X)[235]? = some (ad 235, .inl (cR, 12, .inr (.inr (.inr (.inr (fun i => some (ad (221 + i)))))))) := wC_get (g := 13) (j := 14) rfl (by omega) (by omega)
theorem gd {i : Nat} (hi : i < 12) : (wC cI cR ad X)[221 + i]? = some (ad (221 + i), .inr (2, [.ref (ad (17 * (i + 1))), .int (X 13 0 i), .int (X 13 1 i), .int (X 13 2 i), .int (X 13 3 i), .int (X 13 4 i)])) := wC_de hi rfl
theorem sa_0 {g i : Nat} {v : Int32} (hg : g < 13) : (wC cI cR ad X).set (17 * g + 2) (ad (17 * g + 2), .inl (cI, 20, .inl (upd (X g 0) i v))) = wC cI cR ad (u3 X g 0 i v) := wC_col (j := 2) hg rfl (by omega) (fun _ => rfl) (fun r r2 h b hb hne => bkE_same hb (h _ (by
  rcases (show b = 0 ∨ b = 1 ∨ b = 2 ∨ b = 3 ∨ b = 4 ∨ b = 5 ∨ b = 6 ∨ b = 7 ∨ b = 8 ∨ b = 9 ∨ b = 10 ∨ b = 11 ∨ b = 12 ∨ b = 13 ∨ b = 14 ∨ b = 15 ∨ b = 16 by omega) with rfl | rfl | rfl | rfl | rfl | rfl | rfl | rfl | rfl | rfl | rfl | rfl | rfl | rfl | rfl | rfl | rfl <;> first | exact absurd rfl hne | decide)))
theorem s0_0 {i : Nat} {v : Int32} : (wC cI cR ad X).set 2 (ad 2, .inl (cI, 20, .inl (upd (X 0 0) i v))) = wC cI cR ad (u3 X 0 0 i v) := sa_0 (g := 0) (by omega)
theorem sa_1 {g i : Nat} {v : Int32} (hg : g < 13) : (wC cI cR ad X).set (17 * g + 4) (ad (17 * g + 4), .inl (cI, 20, .inl (upd (X g 1) i v))) = wC cI cR ad (u3 X g 1 i v) := wC_col (j := 4) hg rfl (by omega) (fun _ => rfl) (fun r r2 h b hb hne => bkE_same hb (h _ (by
  rcases (show b = 0 ∨ b = 1 ∨ b = 2 ∨ b = 3 ∨ b = 4 ∨ b = 5 ∨ b = 6 ∨ b = 7 ∨ b = 8 ∨ b = 9 ∨ b = 10 ∨ b = 11 ∨ b = 12 ∨ b = 13 ∨ b = 14 ∨ b = 15 ∨ b = 16 by omega) with rfl | rfl | rfl | rfl | rfl | rfl | rfl | rfl | rfl | rfl | rfl | rfl | rfl | rfl | rfl | rfl | rfl <;> first | exact absurd rfl hne | decide)))
theorem s0_1 {i : Nat} {v : Int32} : (wC cI cR ad X).set 4 (ad 4, .inl (cI, 20, .inl (upd (X 0 1) i v))) = wC cI cR ad (u3 X 0 1 i v) := sa_1 (g := 0) (by omega)
theorem sa_2 {g i : Nat} {v : Int32} (hg : g < 13) : (wC cI cR ad X).set (17 * g + 5) (ad (17 * g + 5), .inl (cI, 20, .inl (upd (X g 2) i v))) = wC cI cR ad (u3 X g 2 i v) := wC_col (j := 5) hg rfl (by omega) (fun _ => rfl) (fun r r2 h b hb hne => bkE_same hb (h _ (by
  rcases (show b = 0 ∨ b = 1 ∨ b = 2 ∨ b = 3 ∨ b = 4 ∨ b = 5 ∨ b = 6 ∨ b = 7 ∨ b = 8 ∨ b = 9 ∨ b = 10 ∨ b = 11 ∨ b = 12 ∨ b = 13 ∨ b = 14 ∨ b = 15 ∨ b = 16 by omega) with rfl | rfl | rfl | rfl | rfl | rfl | rfl | rfl | rfl | rfl | rfl | rfl | rfl | rfl | rfl | rfl | rfl <;> first | exact absurd rfl hne | decide)))
theorem s0_2 {i : Nat} {v : Int32} : (wC cI cR ad X).set 5 (ad 5, .inl (cI, 20, .inl (upd (X 0 2) i v))) = wC cI cR ad (u3 X 0 2 i v) := sa_2 (g := 0) (by omega)
theorem sa_3 {g i : Nat} {v : Int32} (hg : g < 13) : (wC cI cR ad X).set (17 * g + 6) (ad (17 * g + 6), .inl (cI, 20, .inl (upd (X g 3) i v))) = wC cI cR ad (u3 X g 3 i v) := wC_col (j := 6) hg rfl (by omega) (fun _ => rfl) (fun r r2 h b hb hne => bkE_same hb (h _ (by
  rcases (show b = 0 ∨ b = 1 ∨ b = 2 ∨ b = 3 ∨ b = 4 ∨ b = 5 ∨ b = 6 ∨ b = 7 ∨ b = 8 ∨ b = 9 ∨ b = 10 ∨ b = 11 ∨ b = 12 ∨ b = 13 ∨ b = 14 ∨ b = 15 ∨ b = 16 by omega) with rfl | rfl | rfl | rfl | rfl | rfl | rfl | rfl | rfl | rfl | rfl | rfl | rfl | rfl | rfl | rfl | rfl <;> first | exact absurd rfl hne | decide)))
theorem s0_3 {i : Nat} {v : Int32} : (wC cI cR ad X).set 6 (ad 6, .inl (cI, 20, .inl (upd (X 0 3) i v))) = wC cI cR ad (u3 X 0 3 i v) := sa_3 (g := 0) (by omega)
theorem sa_4 {g i : Nat} {v : Int32} (hg : g < 13) : (wC cI cR ad X).set (17 * g + 7) (ad (17 * g + 7), .inl (cI, 20, .inl (upd (X g 4) i v))) = wC cI cR ad (u3 X g 4 i v) := wC_col (j := 7) hg rfl (by omega) (fun _ => rfl) (fun r r2 h b hb hne => bkE_same hb (h _ (by
  rcases (show b = 0 ∨ b = 1 ∨ b = 2 ∨ b = 3 ∨ b = 4 ∨ b = 5 ∨ b = 6 ∨ b = 7 ∨ b = 8 ∨ b = 9 ∨ b = 10 ∨ b = 11 ∨ b = 12 ∨ b = 13 ∨ b = 14 ∨ b = 15 ∨ b = 16 by omega) with rfl | rfl | rfl | rfl | rfl | rfl | rfl | rfl | rfl | rfl | rfl | rfl | rfl | rfl | rfl | rfl | rfl <;> first | exact absurd rfl hne | decide)))
theorem s0_4 {i : Nat} {v : Int32} : (wC cI cR ad X).set 7 (ad 7, .inl (cI, 20, .inl (upd (X 0 4) i v))) = wC cI cR ad (u3 X 0 4 i v) := sa_4 (g := 0) (by omega)
theorem sa_5 {g i : Nat} {v : Int32} (hg : g < 13) : (wC cI cR ad X).set (17 * g + 8) (ad (17 * g + 8), .inl (cI, 20, .inl (upd (X g 5) i v))) = wC cI cR ad (u3 X g 5 i v) := wC_col (j := 8) hg rfl (by omega) (fun _ => rfl) (fun r r2 h b hb hne => bkE_same hb (h _ (by
  rcases (show b = 0 ∨ b = 1 ∨ b = 2 ∨ b = 3 ∨ b = 4 ∨ b = 5 ∨ b = 6 ∨ b = 7 ∨ b = 8 ∨ b = 9 ∨ b = 10 ∨ b = 11 ∨ b = 12 ∨ b = 13 ∨ b = 14 ∨ b = 15 ∨ b = 16 by omega) with rfl | rfl | rfl | rfl | rfl | rfl | rfl | rfl | rfl | rfl | rfl | rfl | rfl | rfl | rfl | rfl | rfl <;> first | exact absurd rfl hne | decide)))
theorem s0_5 {i : Nat} {v : Int32} : (wC cI cR ad X).set 8 (ad 8, .inl (cI, 20, .inl (upd (X 0 5) i v))) = wC cI cR ad (u3 X 0 5 i v) := sa_5 (g := 0) (by omega)
theorem sa_6 {g i : Nat} {v : Int32} (hg : g < 13) : (wC cI cR ad X).set (17 * g + 9) (ad (17 * g + 9), .inl (cI, 20, .inl (upd (X g 6) i v))) = wC cI cR ad (u3 X g 6 i v) := wC_col (j := 9) hg rfl (by omega) (fun _ => rfl) (fun r r2 h b hb hne => bkE_same hb (h _ (by
  rcases (show b = 0 ∨ b = 1 ∨ b = 2 ∨ b = 3 ∨ b = 4 ∨ b = 5 ∨ b = 6 ∨ b = 7 ∨ b = 8 ∨ b = 9 ∨ b = 10 ∨ b = 11 ∨ b = 12 ∨ b = 13 ∨ b = 14 ∨ b = 15 ∨ b = 16 by omega) with rfl | rfl | rfl | rfl | rfl | rfl | rfl | rfl | rfl | rfl | rfl | rfl | rfl | rfl | rfl | rfl | rfl <;> first | exact absurd rfl hne | decide)))
theorem s0_6 {i : Nat} {v : Int32} : (wC cI cR ad X).set 9 (ad 9, .inl (cI, 20, .inl (upd (X 0 6) i v))) = wC cI cR ad (u3 X 0 6 i v) := sa_6 (g := 0) (by omega)
theorem sa_7 {g i : Nat} {v : Int32} (hg : g < 13) : (wC cI cR ad X).set (17 * g + 10) (ad (17 * g + 10), .inl (cI, 20, .inl (upd (X g 7) i v))) = wC cI cR ad (u3 X g 7 i v) := wC_col (j := 10) hg rfl (by omega) (fun _ => rfl) (fun r r2 h b hb hne => bkE_same hb (h _ (by
  rcases (show b = 0 ∨ b = 1 ∨ b = 2 ∨ b = 3 ∨ b = 4 ∨ b = 5 ∨ b = 6 ∨ b = 7 ∨ b = 8 ∨ b = 9 ∨ b = 10 ∨ b = 11 ∨ b = 12 ∨ b = 13 ∨ b = 14 ∨ b = 15 ∨ b = 16 by omega) with rfl | rfl | rfl | rfl | rfl | rfl | rfl | rfl | rfl | rfl | rfl | rfl | rfl | rfl | rfl | rfl | rfl <;> first | exact absurd rfl hne | decide)))
theorem s0_7 {i : Nat} {v : Int32} : (wC cI cR ad X).set 10 (ad 10, .inl (cI, 20, .inl (upd (X 0 7) i v))) = wC cI cR ad (u3 X 0 7 i v) := sa_7 (g := 0) (by omega)
theorem sa_8 {g i : Nat} {v : Int32} (hg : g < 13) : (wC cI cR ad X).set (17 * g + 11) (ad (17 * g + 11), .inl (cI, 20, .inl (upd (X g 8) i v))) = wC cI cR ad (u3 X g 8 i v) := wC_col (j := 11) hg rfl (by omega) (fun _ => rfl) (fun r r2 h b hb hne => bkE_same hb (h _ (by
  rcases (show b = 0 ∨ b = 1 ∨ b = 2 ∨ b = 3 ∨ b = 4 ∨ b = 5 ∨ b = 6 ∨ b = 7 ∨ b = 8 ∨ b = 9 ∨ b = 10 ∨ b = 11 ∨ b = 12 ∨ b = 13 ∨ b = 14 ∨ b = 15 ∨ b = 16 by omega) with rfl | rfl | rfl | rfl | rfl | rfl | rfl | rfl | rfl | rfl | rfl | rfl | rfl | rfl | rfl | rfl | rfl <;> first | exact absurd rfl hne | decide)))
theorem s0_8 {i : Nat} {v : Int32} : (wC cI cR ad X).set 11 (ad 11, .inl (cI, 20, .inl (upd (X 0 8) i v))) = wC cI cR ad (u3 X 0 8 i v) := sa_8 (g := 0) (by omega)
theorem sa_9 {g i : Nat} {v : Int32} (hg : g < 13) : (wC cI cR ad X).set (17 * g + 3) (ad (17 * g + 3), .inl (cI, 20, .inl (upd (X g 9) i v))) = wC cI cR ad (u3 X g 9 i v) := wC_col (j := 3) hg rfl (by omega) (fun _ => rfl) (fun r r2 h b hb hne => bkE_same hb (h _ (by
  rcases (show b = 0 ∨ b = 1 ∨ b = 2 ∨ b = 3 ∨ b = 4 ∨ b = 5 ∨ b = 6 ∨ b = 7 ∨ b = 8 ∨ b = 9 ∨ b = 10 ∨ b = 11 ∨ b = 12 ∨ b = 13 ∨ b = 14 ∨ b = 15 ∨ b = 16 by omega) with rfl | rfl | rfl | rfl | rfl | rfl | rfl | rfl | rfl | rfl | rfl | rfl | rfl | rfl | rfl | rfl | rfl <;> first | exact absurd rfl hne | decide)))
theorem s0_9 {i : Nat} {v : Int32} : (wC cI cR ad X).set 3 (ad 3, .inl (cI, 20, .inl (upd (X 0 9) i v))) = wC cI cR ad (u3 X 0 9 i v) := sa_9 (g := 0) (by omega)
theorem sa_10 {g i : Nat} {v : Int32} (hg : g < 13) : (wC cI cR ad X).set (17 * g + 13) (ad (17 * g + 13), .inl (cI, 40, .inl (upd (X g 10) i v))) = wC cI cR ad (u3 X g 10 i v) := wC_col (j := 13) hg rfl (by omega) (fun _ => rfl) (fun r r2 h b hb hne => bkE_same hb (h _ (by
  rcases (show b = 0 ∨ b = 1 ∨ b = 2 ∨ b = 3 ∨ b = 4 ∨ b = 5 ∨ b = 6 ∨ b = 7 ∨ b = 8 ∨ b = 9 ∨ b = 10 ∨ b = 11 ∨ b = 12 ∨ b = 13 ∨ b = 14 ∨ b = 15 ∨ b = 16 by omega) with rfl | rfl | rfl | rfl | rfl | rfl | rfl | rfl | rfl | rfl | rfl | rfl | rfl | rfl | rfl | rfl | rfl <;> first | exact absurd rfl hne | decide)))
theorem s0_10 {i : Nat} {v : Int32} : (wC cI cR ad X).set 13 (ad 13, .inl (cI, 40, .inl (upd (X 0 10) i v))) = wC cI cR ad (u3 X 0 10 i v) := sa_10 (g := 0) (by omega)
theorem sa_11 {g i : Nat} {v : Int32} (hg : g < 13) : (wC cI cR ad X).set (17 * g + 14) (ad (17 * g + 14), .inl (cI, 40, .inl (upd (X g 11) i v))) = wC cI cR ad (u3 X g 11 i v) := wC_col (j := 14) hg rfl (by omega) (fun _ => rfl) (fun r r2 h b hb hne => bkE_same hb (h _ (by
  rcases (show b = 0 ∨ b = 1 ∨ b = 2 ∨ b = 3 ∨ b = 4 ∨ b = 5 ∨ b = 6 ∨ b = 7 ∨ b = 8 ∨ b = 9 ∨ b = 10 ∨ b = 11 ∨ b = 12 ∨ b = 13 ∨ b = 14 ∨ b = 15 ∨ b = 16 by omega) with rfl | rfl | rfl | rfl | rfl | rfl | rfl | rfl | rfl | rfl | rfl | rfl | rfl | rfl | rfl | rfl | rfl <;> first | exact absurd rfl hne | decide)))
theorem s0_11 {i : Nat} {v : Int32} : (wC cI cR ad X).set 14 (ad 14, .inl (cI, 40, .inl (upd (X 0 11) i v))) = wC cI cR ad (u3 X 0 11 i v) := sa_11 (g := 0) (by omega)
theorem sa_12 {g i : Nat} {v : Int32} (hg : g < 13) : (wC cI cR ad X).set (17 * g + 15) (ad (17 * g + 15), .inl (cI, 40, .inl (upd (X g 12) i v))) = wC cI cR ad (u3 X g 12 i v) := wC_col (j := 15) hg rfl (by omega) (fun _ => rfl) (fun r r2 h b hb hne => bkE_same hb (h _ (by
  rcases (show b = 0 ∨ b = 1 ∨ b = 2 ∨ b = 3 ∨ b = 4 ∨ b = 5 ∨ b = 6 ∨ b = 7 ∨ b = 8 ∨ b = 9 ∨ b = 10 ∨ b = 11 ∨ b = 12 ∨ b = 13 ∨ b = 14 ∨ b = 15 ∨ b = 16 by omega) with rfl | rfl | rfl | rfl | rfl | rfl | rfl | rfl | rfl | rfl | rfl | rfl | rfl | rfl | rfl | rfl | rfl <;> first | exact absurd rfl hne | decide)))
theorem s0_12 {i : Nat} {v : Int32} : (wC cI cR ad X).set 15 (ad 15, .inl (cI, 40, .inl (upd (X 0 12) i v))) = wC cI cR ad (u3 X 0 12 i v) := sa_12 (g := 0) (by omega)
theorem sa_13 {g i : Nat} {v : Int32} (hg : g < 13) : (wC cI cR ad X).set (17 * g + 16) (ad (17 * g + 16), .inl (cI, 40, .inl (upd (X g 13) i v))) = wC cI cR ad (u3 X g 13 i v) := wC_col (j := 16) hg rfl (by omega) (fun _ => rfl) (fun r r2 h b hb hne => bkE_same hb (h _ (by
  rcases (show b = 0 ∨ b = 1 ∨ b = 2 ∨ b = 3 ∨ b = 4 ∨ b = 5 ∨ b = 6 ∨ b = 7 ∨ b = 8 ∨ b = 9 ∨ b = 10 ∨ b = 11 ∨ b = 12 ∨ b = 13 ∨ b = 14 ∨ b = 15 ∨ b = 16 by omega) with rfl | rfl | rfl | rfl | rfl | rfl | rfl | rfl | rfl | rfl | rfl | rfl | rfl | rfl | rfl | rfl | rfl <;> first | exact absurd rfl hne | decide)))
theorem s0_13 {i : Nat} {v : Int32} : (wC cI cR ad X).set 16 (ad 16, .inl (cI, 40, .inl (upd (X 0 13) i v))) = wC cI cR ad (u3 X 0 13 i v) := sa_13 (g := 0) (by omega)
theorem sn_year {g : Nat} {v : Int32} (hg : g < 13) : (wC cI cR ad X).set (17 * g + 0) (ad (17 * g + 0), .inr (0, [.ref (ad (17 * g + 1)), .ref (ad (17 * g + 12)), .int v, .int (X g 14 3), .int (X g 14 4), .int (X g 14 5)])) = wC cI cR ad (u3 X g 14 0 v) := by
  refine wC_num (j := 0) hg rfl (by omega) ?_ ?_
  · simp [bkE, b2]
  · intro b hb hne
    rcases (show b = 0 ∨ b = 1 ∨ b = 2 ∨ b = 3 ∨ b = 4 ∨ b = 5 ∨ b = 6 ∨ b = 7 ∨ b = 8 ∨ b = 9 ∨ b = 10 ∨ b = 11 ∨ b = 12 ∨ b = 13 ∨ b = 14 ∨ b = 15 ∨ b = 16 by omega) with rfl | rfl | rfl | rfl | rfl | rfl | rfl | rfl | rfl | rfl | rfl | rfl | rfl | rfl | rfl | rfl | rfl <;> first | exact absurd rfl hne | simp [bkE, b2, b2_coln]
theorem s0_year {v : Int32} : (wC cI cR ad X).set 0 (ad 0, .inr (0, [.ref (ad 1), .ref (ad 12), .int v, .int (X 0 14 3), .int (X 0 14 4), .int (X 0 14 5)])) = wC cI cR ad (u3 X 0 14 0 v) := sn_year (g := 0) (by omega)
theorem sn_heads {g : Nat} {v : Int32} (hg : g < 13) : (wC cI cR ad X).set (17 * g + 1) (ad (17 * g + 1), .inr (3, [.ref (ad (17 * g + 2)), .ref (ad (17 * g + 3)), .ref (ad (17 * g + 4)), .ref (ad (17 * g + 5)), .ref (ad (17 * g + 6)), .ref (ad (17 * g + 7)), .ref (ad (17 * g + 8)), .ref (ad (17 * g + 9)), .ref (ad (17 * g + 10)), .ref (ad (17 * g + 11)), .int v])) = wC cI cR ad (u3 X g 14 1 v) := by
  refine wC_num (j := 1) hg rfl (by omega) ?_ ?_
  · simp [bkE, b2]
  · intro b hb hne
    rcases (show b = 0 ∨ b = 1 ∨ b = 2 ∨ b = 3 ∨ b = 4 ∨ b = 5 ∨ b = 6 ∨ b = 7 ∨ b = 8 ∨ b = 9 ∨ b = 10 ∨ b = 11 ∨ b = 12 ∨ b = 13 ∨ b = 14 ∨ b = 15 ∨ b = 16 by omega) with rfl | rfl | rfl | rfl | rfl | rfl | rfl | rfl | rfl | rfl | rfl | rfl | rfl | rfl | rfl | rfl | rfl <;> first | exact absurd rfl hne | simp [bkE, b2, b2_coln]
theorem s0_heads {v : Int32} : (wC cI cR ad X).set 1 (ad 1, .inr (3, [.ref (ad 2), .ref (ad 3), .ref (ad 4), .ref (ad 5), .ref (ad 6), .ref (ad 7), .ref (ad 8), .ref (ad 9), .ref (ad 10), .ref (ad 11), .int v])) = wC cI cR ad (u3 X 0 14 1 v) := sn_heads (g := 0) (by omega)
theorem sn_comms {g : Nat} {v : Int32} (hg : g < 13) : (wC cI cR ad X).set (17 * g + 12) (ad (17 * g + 12), .inr (1, [.ref (ad (17 * g + 13)), .ref (ad (17 * g + 14)), .ref (ad (17 * g + 15)), .ref (ad (17 * g + 16)), .int v])) = wC cI cR ad (u3 X g 14 2 v) := by
  refine wC_num (j := 12) hg rfl (by omega) ?_ ?_
  · simp [bkE, b2]
  · intro b hb hne
    rcases (show b = 0 ∨ b = 1 ∨ b = 2 ∨ b = 3 ∨ b = 4 ∨ b = 5 ∨ b = 6 ∨ b = 7 ∨ b = 8 ∨ b = 9 ∨ b = 10 ∨ b = 11 ∨ b = 12 ∨ b = 13 ∨ b = 14 ∨ b = 15 ∨ b = 16 by omega) with rfl | rfl | rfl | rfl | rfl | rfl | rfl | rfl | rfl | rfl | rfl | rfl | rfl | rfl | rfl | rfl | rfl <;> first | exact absurd rfl hne | simp [bkE, b2, b2_coln]
theorem s0_comms {v : Int32} : (wC cI cR ad X).set 12 (ad 12, .inr (1, [.ref (ad 13), .ref (ad 14), .ref (ad 15), .ref (ad 16), .int v])) = wC cI cR ad (u3 X 0 14 2 v) := sn_comms (g := 0) (by omega)
theorem sn_carried {g : Nat} {v : Int32} (hg : g < 13) : (wC cI cR ad X).set (17 * g + 0) (ad (17 * g + 0), .inr (0, [.ref (ad (17 * g + 1)), .ref (ad (17 * g + 12)), .int (X g 14 0), .int v, .int (X g 14 4), .int (X g 14 5)])) = wC cI cR ad (u3 X g 14 3 v) := by
  refine wC_num (j := 0) hg rfl (by omega) ?_ ?_
  · simp [bkE, b2]
  · intro b hb hne
    rcases (show b = 0 ∨ b = 1 ∨ b = 2 ∨ b = 3 ∨ b = 4 ∨ b = 5 ∨ b = 6 ∨ b = 7 ∨ b = 8 ∨ b = 9 ∨ b = 10 ∨ b = 11 ∨ b = 12 ∨ b = 13 ∨ b = 14 ∨ b = 15 ∨ b = 16 by omega) with rfl | rfl | rfl | rfl | rfl | rfl | rfl | rfl | rfl | rfl | rfl | rfl | rfl | rfl | rfl | rfl | rfl <;> first | exact absurd rfl hne | simp [bkE, b2, b2_coln]
theorem s0_carried {v : Int32} : (wC cI cR ad X).set 0 (ad 0, .inr (0, [.ref (ad 1), .ref (ad 12), .int (X 0 14 0), .int v, .int (X 0 14 4), .int (X 0 14 5)])) = wC cI cR ad (u3 X 0 14 3 v) := sn_carried (g := 0) (by omega)
theorem sn_lapsed {g : Nat} {v : Int32} (hg : g < 13) : (wC cI cR ad X).set (17 * g + 0) (ad (17 * g + 0), .inr (0, [.ref (ad (17 * g + 1)), .ref (ad (17 * g + 12)), .int (X g 14 0), .int (X g 14 3), .int v, .int (X g 14 5)])) = wC cI cR ad (u3 X g 14 4 v) := by
  refine wC_num (j := 0) hg rfl (by omega) ?_ ?_
  · simp [bkE, b2]
  · intro b hb hne
    rcases (show b = 0 ∨ b = 1 ∨ b = 2 ∨ b = 3 ∨ b = 4 ∨ b = 5 ∨ b = 6 ∨ b = 7 ∨ b = 8 ∨ b = 9 ∨ b = 10 ∨ b = 11 ∨ b = 12 ∨ b = 13 ∨ b = 14 ∨ b = 15 ∨ b = 16 by omega) with rfl | rfl | rfl | rfl | rfl | rfl | rfl | rfl | rfl | rfl | rfl | rfl | rfl | rfl | rfl | rfl | rfl <;> first | exact absurd rfl hne | simp [bkE, b2, b2_coln]
theorem s0_lapsed {v : Int32} : (wC cI cR ad X).set 0 (ad 0, .inr (0, [.ref (ad 1), .ref (ad 12), .int (X 0 14 0), .int (X 0 14 3), .int v, .int (X 0 14 5)])) = wC cI cR ad (u3 X 0 14 4 v) := sn_lapsed (g := 0) (by omega)
theorem sn_spent {g : Nat} {v : Int32} (hg : g < 13) : (wC cI cR ad X).set (17 * g + 0) (ad (17 * g + 0), .inr (0, [.ref (ad (17 * g + 1)), .ref (ad (17 * g + 12)), .int (X g 14 0), .int (X g 14 3), .int (X g 14 4), .int v])) = wC cI cR ad (u3 X g 14 5 v) := by
  refine wC_num (j := 0) hg rfl (by omega) ?_ ?_
  · simp [bkE, b2]
  · intro b hb hne
    rcases (show b = 0 ∨ b = 1 ∨ b = 2 ∨ b = 3 ∨ b = 4 ∨ b = 5 ∨ b = 6 ∨ b = 7 ∨ b = 8 ∨ b = 9 ∨ b = 10 ∨ b = 11 ∨ b = 12 ∨ b = 13 ∨ b = 14 ∨ b = 15 ∨ b = 16 by omega) with rfl | rfl | rfl | rfl | rfl | rfl | rfl | rfl | rfl | rfl | rfl | rfl | rfl | rfl | rfl | rfl | rfl <;> first | exact absurd rfl hne | simp [bkE, b2, b2_coln]
theorem s0_spent {v : Int32} : (wC cI cR ad X).set 0 (ad 0, .inr (0, [.ref (ad 1), .ref (ad 12), .int (X 0 14 0), .int (X 0 14 3), .int (X 0 14 4), .int v])) = wC cI cR ad (u3 X 0 14 5 v) := sn_spent (g := 0) (by omega)
theorem sd_0 {i : Nat} {v : Int32} (hi : i < 12) : (wC cI cR ad X).set (221 + i) (ad (221 + i), .inr (2, [.ref (ad (17 * (i + 1))), .int v, .int (X 13 1 i), .int (X 13 2 i), .int (X 13 3 i), .int (X 13 4 i)])) = wC cI cR ad (u3 X 13 0 i v) := by
  refine wC_set (g := 13) (j := i) (by omega) (by omega) (by omega) ?_ ?_
  · unfold cellC
    rw [if_neg (by omega), if_neg (by omega), if_neg (by omega), if_neg (by omega), u3_g]
    simp [deE, b2]
  · intro a b hb hab hne
    unfold cellC
    by_cases ha2 : a < 13
    · rw [if_pos ha2, if_pos ha2, u3_n _ _ _ _ _ (by omega)]
    · rw [if_neg ha2, if_neg ha2, u3_n X 13 0 i v (a := 14) (by omega), u3_g]
      by_cases hb1 : b < 12
      · have hb2 : ¬ b = i := fun z => hne ⟨by omega, z⟩
        rw [if_neg (by omega), if_neg (by omega), if_neg (by omega), if_neg (by omega), if_neg (by omega), if_neg (by omega)]
        simp [deE, b2, hb2]
      · by_cases h12 : b = 12
        · rw [if_pos h12, if_pos h12]
        · by_cases h13 : b = 13
          · rw [if_neg h12, if_neg h12, if_pos h13, if_pos h13]
          · by_cases h14 : b = 14
            · rw [if_neg h12, if_neg h12, if_neg h13, if_neg h13, if_pos h14, if_pos h14]
            · exact absurd hab (by omega)
theorem sd_1 {i : Nat} {v : Int32} (hi : i < 12) : (wC cI cR ad X).set (221 + i) (ad (221 + i), .inr (2, [.ref (ad (17 * (i + 1))), .int (X 13 0 i), .int v, .int (X 13 2 i), .int (X 13 3 i), .int (X 13 4 i)])) = wC cI cR ad (u3 X 13 1 i v) := by
  refine wC_set (g := 13) (j := i) (by omega) (by omega) (by omega) ?_ ?_
  · unfold cellC
    rw [if_neg (by omega), if_neg (by omega), if_neg (by omega), if_neg (by omega), u3_g]
    simp [deE, b2]
  · intro a b hb hab hne
    unfold cellC
    by_cases ha2 : a < 13
    · rw [if_pos ha2, if_pos ha2, u3_n _ _ _ _ _ (by omega)]
    · rw [if_neg ha2, if_neg ha2, u3_n X 13 1 i v (a := 14) (by omega), u3_g]
      by_cases hb1 : b < 12
      · have hb2 : ¬ b = i := fun z => hne ⟨by omega, z⟩
        rw [if_neg (by omega), if_neg (by omega), if_neg (by omega), if_neg (by omega), if_neg (by omega), if_neg (by omega)]
        simp [deE, b2, hb2]
      · by_cases h12 : b = 12
        · rw [if_pos h12, if_pos h12]
        · by_cases h13 : b = 13
          · rw [if_neg h12, if_neg h12, if_pos h13, if_pos h13]
          · by_cases h14 : b = 14
            · rw [if_neg h12, if_neg h12, if_neg h13, if_neg h13, if_pos h14, if_pos h14]
            · exact absurd hab (by omega)
theorem sd_2 {i : Nat} {v : Int32} (hi : i < 12) : (wC cI cR ad X).set (221 + i) (ad (221 + i), .inr (2, [.ref (ad (17 * (i + 1))), .int (X 13 0 i), .int (X 13 1 i), .int v, .int (X 13 3 i), .int (X 13 4 i)])) = wC cI cR ad (u3 X 13 2 i v) := by
  refine wC_set (g := 13) (j := i) (by omega) (by omega) (by omega) ?_ ?_
  · unfold cellC
    rw [if_neg (by omega), if_neg (by omega), if_neg (by omega), if_neg (by omega), u3_g]
    simp [deE, b2]
  · intro a b hb hab hne
    unfold cellC
    by_cases ha2 : a < 13
    · rw [if_pos ha2, if_pos ha2, u3_n _ _ _ _ _ (by omega)]
    · rw [if_neg ha2, if_neg ha2, u3_n X 13 2 i v (a := 14) (by omega), u3_g]
      by_cases hb1 : b < 12
      · have hb2 : ¬ b = i := fun z => hne ⟨by omega, z⟩
        rw [if_neg (by omega), if_neg (by omega), if_neg (by omega), if_neg (by omega), if_neg (by omega), if_neg (by omega)]
        simp [deE, b2, hb2]
      · by_cases h12 : b = 12
        · rw [if_pos h12, if_pos h12]
        · by_cases h13 : b = 13
          · rw [if_neg h12, if_neg h12, if_pos h13, if_pos h13]
          · by_cases h14 : b = 14
            · rw [if_neg h12, if_neg h12, if_neg h13, if_neg h13, if_pos h14, if_pos h14]
            · exact absurd hab (by omega)
theorem sd_3 {i : Nat} {v : Int32} (hi : i < 12) : (wC cI cR ad X).set (221 + i) (ad (221 + i), .inr (2, [.ref (ad (17 * (i + 1))), .int (X 13 0 i), .int (X 13 1 i), .int (X 13 2 i), .int v, .int (X 13 4 i)])) = wC cI cR ad (u3 X 13 3 i v) := by
  refine wC_set (g := 13) (j := i) (by omega) (by omega) (by omega) ?_ ?_
  · unfold cellC
    rw [if_neg (by omega), if_neg (by omega), if_neg (by omega), if_neg (by omega), u3_g]
    simp [deE, b2]
  · intro a b hb hab hne
    unfold cellC
    by_cases ha2 : a < 13
    · rw [if_pos ha2, if_pos ha2, u3_n _ _ _ _ _ (by omega)]
    · rw [if_neg ha2, if_neg ha2, u3_n X 13 3 i v (a := 14) (by omega), u3_g]
      by_cases hb1 : b < 12
      · have hb2 : ¬ b = i := fun z => hne ⟨by omega, z⟩
        rw [if_neg (by omega), if_neg (by omega), if_neg (by omega), if_neg (by omega), if_neg (by omega), if_neg (by omega)]
        simp [deE, b2, hb2]
      · by_cases h12 : b = 12
        · rw [if_pos h12, if_pos h12]
        · by_cases h13 : b = 13
          · rw [if_neg h12, if_neg h12, if_pos h13, if_pos h13]
          · by_cases h14 : b = 14
            · rw [if_neg h12, if_neg h12, if_neg h13, if_neg h13, if_pos h14, if_pos h14]
            · exact absurd hab (by omega)
theorem sd_4 {i : Nat} {v : Int32} (hi : i < 12) : (wC cI cR ad X).set (221 + i) (ad (221 + i), .inr (2, [.ref (ad (17 * (i + 1))), .int (X 13 0 i), .int (X 13 1 i), .int (X 13 2 i), .int (X 13 3 i), .int v])) = wC cI cR ad (u3 X 13 4 i v) := by
  refine wC_set (g := 13) (j := i) (by omega) (by omega) (by omega) ?_ ?_
  · unfold cellC
    rw [if_neg (by omega), if_neg (by omega), if_neg (by omega), if_neg (by omega), u3_g]
    simp [deE, b2]
  · intro a b hb hab hne
    unfold cellC
    by_cases ha2 : a < 13
    · rw [if_pos ha2, if_pos ha2, u3_n _ _ _ _ _ (by omega)]
    · rw [if_neg ha2, if_neg ha2, u3_n X 13 4 i v (a := 14) (by omega), u3_g]
      by_cases hb1 : b < 12
      · have hb2 : ¬ b = i := fun z => hne ⟨by omega, z⟩
        rw [if_neg (by omega), if_neg (by omega), if_neg (by omega), if_neg (by omega), if_neg (by omega), if_neg (by omega)]
        simp [deE, b2, hb2]
      · by_cases h12 : b = 12
        · rw [if_pos h12, if_pos h12]
        · by_cases h13 : b = 13
          · rw [if_neg h12, if_neg h12, if_pos h13, if_pos h13]
          · by_cases h14 : b = 14
            · rw [if_neg h12, if_neg h12, if_neg h13, if_neg h13, if_pos h14, if_pos h14]
            · exact absurd hab (by omega)
theorem s0_m0 {v : Int32} : (wC cI cR ad X).set 234 (ad 234, .inr (4, [.ref (ad 235), .int v, .int (X 14 0 1), .int (X 14 0 2)])) = wC cI cR ad (u3 X 14 0 0 v) := by
  refine wC_set (g := 13) (j := 13) (by omega) (by omega) (by omega) ?_ ?_
  · unfold cellC
    rw [if_neg (by omega), if_neg (by omega), if_pos rfl, u3_g]
    simp [b2]
  · intro a b hb hab hne
    unfold cellC
    by_cases ha2 : a < 13
    · rw [if_pos ha2, if_pos ha2, u3_n _ _ _ _ _ (by omega)]
    · have h13 : ¬ b = 13 := fun z => hne ⟨by omega, z⟩
      rw [if_neg ha2, if_neg ha2, if_neg h13, if_neg h13, u3_n X 14 0 0 v (a := 13) (by omega)]
theorem s0_m1 {v : Int32} : (wC cI cR ad X).set 234 (ad 234, .inr (4, [.ref (ad 235), .int (X 14 0 0), .int v, .int (X 14 0 2)])) = wC cI cR ad (u3 X 14 0 1 v) := by
  refine wC_set (g := 13) (j := 13) (by omega) (by omega) (by omega) ?_ ?_
  · unfold cellC
    rw [if_neg (by omega), if_neg (by omega), if_pos rfl, u3_g]
    simp [b2]
  · intro a b hb hab hne
    unfold cellC
    by_cases ha2 : a < 13
    · rw [if_pos ha2, if_pos ha2, u3_n _ _ _ _ _ (by omega)]
    · have h13 : ¬ b = 13 := fun z => hne ⟨by omega, z⟩
      rw [if_neg ha2, if_neg ha2, if_neg h13, if_neg h13, u3_n X 14 0 1 v (a := 13) (by omega)]
theorem s0_m2 {v : Int32} : (wC cI cR ad X).set 234 (ad 234, .inr (4, [.ref (ad 235), .int (X 14 0 0), .int (X 14 0 1), .int v])) = wC cI cR ad (u3 X 14 0 2 v) := by
  refine wC_set (g := 13) (j := 13) (by omega) (by omega) (by omega) ?_ ?_
  · unfold cellC
    rw [if_neg (by omega), if_neg (by omega), if_pos rfl, u3_g]
    simp [b2]
  · intro a b hb hab hne
    unfold cellC
    by_cases ha2 : a < 13
    · rw [if_pos ha2, if_pos ha2, u3_n _ _ _ _ _ (by omega)]
    · have h13 : ¬ b = 13 := fun z => hne ⟨by omega, z⟩
      rw [if_neg ha2, if_neg ha2, if_neg h13, if_neg h13, u3_n X 14 0 2 v (a := 13) (by omega)]
end
/-- which cells the class may write: its own -/
def Aw (n : Nat) (ad : Nat → Nat) : Nat → Prop := fun q => ∃ k, k < n ∧ q = ad k
/-- the cells lie apart -/
def Dj (n : Nat) (ad : Nat → Nat) : Prop := ∀ i j : Nat, i < n → j < n → ad i = ad j → i = j
theorem wC_at {cI cR : ClassId} {ad : Nat → Nat} {X : St} {k : Nat} {q : Nat × va_E} (h : (wC cI cR ad X)[k]? = some q) : k < 236 ∧ q = (ad k, cellC cI cR ad X (k / 17) (k % 17)) := by
  have hk : k < 236 := by
    have := (List.getElem?_eq_some_iff.mp h).1
    rwa [wC_len] at this
  rw [wC_get (g := k / 17) (j := k % 17) (by omega) (by omega) hk] at h
  exact ⟨hk, (Option.some.inj h).symm⟩
theorem wC_D {cI cR : ClassId} {ad : Nat → Nat} {X : St} (h : Dj 236 ad) : va_D (Aw 236 ad) (wC cI cR ad X) := by
  refine ⟨fun i j p q hp hq e => ?_, fun k q hq => ?_⟩
  · obtain ⟨hi, rfl⟩ := wC_at hp
    obtain ⟨hj, rfl⟩ := wC_at hq
    exact h i j hi hj e
  · obtain ⟨hk, rfl⟩ := wC_at hq
    exact ⟨k, hk, rfl⟩
theorem vp_cell_ext {cA : ClassId} {n : Nat} {f f' : Nat → Int32} (h : ∀ j, j < n → f' j = f j) : vp_cell cA (n, .inl f') = vp_cell cA (n, .inl f) := by
  rw [vp_cell_i, vp_cell_i]
  unfold arrV
  congr 1
  apply Array.ext
  · simp
  · intro i h1 h2
    simp at h1
    simp [h i h1]
/-- what cannot be seen in the cells may change -/
theorem wC_ext {D : va_G} {cl : List vw_C} {cI cR : ClassId} {ad : Nat → Nat} {X X' : St} {H : Heap} (h : va_P D cl (wC cI cR ad X) H) (hc : ∀ g f i : Nat, (g < 13 → f < 10 → i < 20 → X' g f i = X g f i)) (hc2 : ∀ g f i : Nat, (g < 13 → 10 ≤ f → f < 14 → i < 40 → X' g f i = X g f i)) (hn : ∀ g i : Nat, g < 13 → i < 6 → X' g 14 i = X g 14 i) (hd : ∀ f i : Nat, f < 5 → i < 12 → X' 13 f i = X 13 f i) (hm : ∀ i : Nat, i < 3 → X' 14 0 i = X 14 0 i) : va_P D cl (wC cI cR ad X') H := by
  intro k q hq
  obtain ⟨hk, rfl⟩ := wC_at hq
  have hP := h k _ (wC_get (g := k / 17) (j := k % 17) (by omega) (by omega) hk)
  have hj : k % 17 < 17 := by omega
  have hkk : k = 17 * (k / 17) + k % 17 := by omega
  revert hP
  generalize k / 17 = g at hkk ⊢
  generalize k % 17 = j at hj hkk ⊢
  intro hP
  unfold cellC at hP ⊢
  by_cases hg : g < 13
  · rw [if_pos hg] at hP ⊢
    rcases (show j = 0 ∨ j = 1 ∨ j = 2 ∨ j = 3 ∨ j = 4 ∨ j = 5 ∨ j = 6 ∨ j = 7 ∨ j = 8 ∨ j = 9 ∨ j = 10 ∨ j = 11 ∨ j = 12 ∨ j = 13 ∨ j = 14 ∨ j = 15 ∨ j = 16 by omega) with rfl | rfl | rfl | rfl | rfl | rfl | rfl | rfl | rfl | rfl | rfl | rfl | rfl | rfl | rfl | rfl | rfl
    · simp only [bkE, hn g _ hg (show 0 < 6 by omega), hn g _ hg (show 3 < 6 by omega), hn g _ hg (show 4 < 6 by omega), hn g _ hg (show 5 < 6 by omega)] at hP ⊢
      exact hP
    · simp only [bkE, hn g _ hg (show 1 < 6 by omega)] at hP ⊢
      exact hP
    · exact (show H[_]? = some (vp_cell _ _) from by rw [vp_cell_ext (fun j hj => hc g 0 j hg (by omega) hj)]; exact hP)
    · exact (show H[_]? = some (vp_cell _ _) from by rw [vp_cell_ext (fun j hj => hc g 9 j hg (by omega) hj)]; exact hP)
    · exact (show H[_]? = some (vp_cell _ _) from by rw [vp_cell_ext (fun j hj => hc g 1 j hg (by omega) hj)]; exact hP)
    · exact (show H[_]? = some (vp_cell _ _) from by rw [vp_cell_ext (fun j hj => hc g 2 j hg (by omega) hj)]; exact hP)
    · exact (show H[_]? = some (vp_cell _ _) from by rw [vp_cell_ext (fun j hj => hc g 3 j hg (by omega) hj)]; exact hP)
    · exact (show H[_]? = some (vp_cell _ _) from by rw [vp_cell_ext (fun j hj => hc g 4 j hg (by omega) hj)]; exact hP)
    · exact (show H[_]? = some (vp_cell _ _) from by rw [vp_cell_ext (fun j hj => hc g 5 j hg (by omega) hj)]; exact hP)
    · exact (show H[_]? = some (vp_cell _ _) from by rw [vp_cell_ext (fun j hj => hc g 6 j hg (by omega) hj)]; exact hP)
    · exact (show H[_]? = some (vp_cell _ _) from by rw [vp_cell_ext (fun j hj => hc g 7 j hg (by omega) hj)]; exact hP)
    · exact (show H[_]? = some (vp_cell _ _) from by rw [vp_cell_ext (fun j hj => hc g 8 j hg (by omega) hj)]; exact hP)
    · simp only [bkE, hn g _ hg (show 2 < 6 by omega)] at hP ⊢
      exact hP
    · exact (show H[_]? = some (vp_cell _ _) from by rw [vp_cell_ext (fun j hj => hc2 g 10 j hg (by omega) (by omega) hj)]; exact hP)
    · exact (show H[_]? = some (vp_cell _ _) from by rw [vp_cell_ext (fun j hj => hc2 g 11 j hg (by omega) (by omega) hj)]; exact hP)
    · exact (show H[_]? = some (vp_cell _ _) from by rw [vp_cell_ext (fun j hj => hc2 g 12 j hg (by omega) (by omega) hj)]; exact hP)
    · exact (show H[_]? = some (vp_cell _ _) from by rw [vp_cell_ext (fun j hj => hc2 g 13 j hg (by omega) (by omega) hj)]; exact hP)
  · rw [if_neg hg] at hP ⊢
    by_cases h12 : j = 12
    · rw [if_pos h12] at hP ⊢
      exact hP
    · rw [if_neg h12] at hP ⊢
      by_cases h13 : j = 13
      · rw [if_pos h13] at hP ⊢
        rw [hm 0 (by omega), hm 1 (by omega), hm 2 (by omega)]
        exact hP
      · rw [if_neg h13] at hP ⊢
        by_cases h14 : j = 14
        · rw [if_pos h14] at hP ⊢
          exact hP
        · rw [if_neg h14] at hP ⊢
          unfold deE at hP ⊢
          rw [hd 0 j (by omega) (by omega), hd 1 j (by omega) (by omega), hd 2 j (by omega) (by omega), hd 3 j (by omega) (by omega), hd 4 j (by omega) (by omega)]
          exact hP
/-! ===== the reference's world ===== -/
def dcd (r : Bk) (o : Nat) : Int32 := if o < 6 then r 14 o else if o < 186 then r ((o - 6) % 9) ((o - 6) / 9) else r (10 + (o - 186) % 4) ((o - 186) / 4)
def rowM (Y : St) : Nat → Int32 := fun k => if k < 4498 then dcd (Y (k / 346)) (k % 346) else 0
def wMr (cI : ClassId) (am : Nat → Nat) (Y : St) (R : Nat → Int32) : va_W := [(am 0, .inr (6, [.ref (am 1), .int (Y 14 0 0), .int (Y 14 0 1), .ref (am 2), .ref (am 3), .ref (am 4), .ref (am 5), .ref (am 6), .ref (am 7), .ref (am 8)])), (am 1, .inl (cI, 4498, .inl R)), (am 2, .inl (cI, 12, .inl (Y 13 0))), (am 3, .inl (cI, 12, .inl (Y 13 1))), (am 4, .inl (cI, 12, .inl (Y 13 2))), (am 5, .inl (cI, 12, .inl (Y 13 3))), (am 6, .inl (cI, 12, .inl (Y 13 4))), (am 7, .inl (cI, 12, .inl (Y 13 5))), (am 8, .inl (cI, 12, .inl (Y 13 6)))]
def wM (cI : ClassId) (am : Nat → Nat) (Y : St) : va_W := wMr cI am Y (rowM Y)
theorem dcd_h (r : Bk) {h f : Nat} (hh : h < 20) (hf : f < 9) : dcd r (6 + 9 * h + f) = r f h := by
  unfold dcd
  rw [if_neg (by omega), if_pos (by omega), show (6 + 9 * h + f - 6) % 9 = f by omega, show (6 + 9 * h + f - 6) / 9 = h by omega]
theorem dcd_c (r : Bk) {c f : Nat} (hf : f < 4) : dcd r (186 + 4 * c + f) = r (10 + f) c := by
  unfold dcd
  rw [if_neg (by omega), if_neg (by omega), show 10 + (186 + 4 * c + f - 186) % 4 = 10 + f by omega, show (186 + 4 * c + f - 186) / 4 = c by omega]
theorem dcd_n (r : Bk) {o : Nat} (h : o < 6) : dcd r o = r 14 o := by
  unfold dcd
  rw [if_pos h]
theorem row_at (Y : St) {t k : Nat} (h : k < 346) (ht : t < 13) : rowM Y (346 * t + k) = dcd (Y t) k := by
  unfold rowM
  rw [if_pos (by omega), show (346 * t + k) / 346 = t by omega, show (346 * t + k) % 346 = k by omega]
theorem row_h (Y : St) {h f : Nat} (hh : h < 20) (hf : f < 9) : rowM Y (6 + 9 * h + f) = Y 0 f h := by
  have := row_at Y (t := 0) (k := 6 + 9 * h + f) (by omega) (by omega)
  rw [Nat.mul_zero, Nat.zero_add] at this
  rw [this, dcd_h _ hh hf]
theorem row_c (Y : St) {c f : Nat} (hh : c < 40) (hf : f < 4) : rowM Y (186 + 4 * c + f) = Y 0 (10 + f) c := by
  have := row_at Y (t := 0) (k := 186 + 4 * c + f) (by omega) (by omega)
  rw [Nat.mul_zero, Nat.zero_add] at this
  rw [this, dcd_c _ hf]
theorem row_n (Y : St) {o : Nat} (h : o < 6) : rowM Y o = Y 0 14 o := by
  have := row_at Y (t := 0) (k := o) (by omega) (by omega)
  rw [Nat.mul_zero, Nat.zero_add] at this
  rw [this, dcd_n _ h]
theorem row_u (Y : St) (r : Bk) {o : Nat} {v : Int32} (ho : o < 346) (h1 : dcd r o = v) (h2 : ∀ q, q < 346 → q ≠ o → dcd r q = dcd (Y 0) q) : upd (rowM Y) o v = rowM (sg Y 0 r) := by
  funext k
  unfold upd
  by_cases e : k = o
  · subst e
    rw [if_pos rfl]
    unfold rowM
    rw [if_pos (by omega), show k / 346 = 0 by omega, show k % 346 = k by omega, sg_g, h1]
  · rw [if_neg e]
    unfold rowM
    by_cases h0 : k / 346 = 0
    · rw [h0, sg_g, show k % 346 = k by omega, h2 k (by omega) e]
    · rw [sg_n _ _ _ h0]
theorem row_uh (Y : St) {h f : Nat} {v : Int32} (hh : h < 20) (hf : f < 9) : upd (rowM Y) (6 + 9 * h + f) v = rowM (u3 Y 0 f h v) := by
  rw [u3_sg]
  refine row_u Y _ (by omega) (by rw [dcd_h _ hh hf, b2_s]) (fun q hq hne => ?_)
  unfold dcd b2
  by_cases h1 : q < 6
  · rw [if_pos h1, if_pos h1, if_neg (by omega)]
  · by_cases h2 : q < 186
    · rw [if_neg h1, if_neg h1, if_pos h2, if_pos h2, if_neg (by omega)]
    · rw [if_neg h1, if_neg h1, if_neg h2, if_neg h2, if_neg (by omega)]
theorem row_uc (Y : St) {c f : Nat} {v : Int32} (hh : c < 40) (hf : f < 4) : upd (rowM Y) (186 + 4 * c + f) v = rowM (u3 Y 0 (10 + f) c v) := by
  rw [u3_sg]
  refine row_u Y _ (by omega) (by rw [dcd_c _ hf, b2_s]) (fun q hq hne => ?_)
  unfold dcd b2
  by_cases h1 : q < 6
  · rw [if_pos h1, if_pos h1, if_neg (by omega)]
  · by_cases h2 : q < 186
    · rw [if_neg h1, if_neg h1, if_pos h2, if_pos h2, if_neg (by omega)]
    · rw [if_neg h1, if_neg h1, if_neg h2, if_neg h2, if_neg (by omega)]
theorem row_un (Y : St) {o : Nat} {v : Int32} (h : o < 6) : upd (rowM Y) o v = rowM (u3 Y 0 14 o v) := by
  rw [u3_sg]
  refine row_u Y _ (by omega) (by rw [dcd_n _ h, b2_s]) (fun q hq hne => ?_)
  unfold dcd b2
  by_cases h1 : q < 6
  · rw [if_pos h1, if_pos h1, if_neg (by omega)]
  · by_cases h2 : q < 186
    · rw [if_neg h1, if_neg h1, if_pos h2, if_pos h2, if_neg (by omega)]
    · rw [if_neg h1, if_neg h1, if_neg h2, if_neg h2, if_neg (by omega)]
/-- a depth is not in the reference's row -/
theorem row_d (Y : St) (i : Nat) (v : Int32) : rowM (u3 Y 0 9 i v) = rowM Y := by
  funext k
  unfold rowM
  by_cases h0 : k / 346 = 0
  · rw [if_pos (show k < 4498 by omega), if_pos (show k < 4498 by omega), h0, u3_g]
    unfold dcd b2
    by_cases h1 : k % 346 < 6
    · rw [if_pos h1, if_pos h1, if_neg (by omega)]
    · by_cases h2 : k % 346 < 186
      · rw [if_neg h1, if_neg h1, if_pos h2, if_pos h2, if_neg (by omega)]
      · rw [if_neg h1, if_neg h1, if_neg h2, if_neg h2, if_neg (by omega)]
  · rw [u3_n _ _ _ _ _ h0]
theorem row_g (Y : St) (f i : Nat) (v : Int32) {g : Nat} (hg : 13 ≤ g) : rowM (u3 Y g f i v) = rowM Y := by
  funext k
  unfold rowM
  by_cases hk : k < 4498
  · rw [if_pos hk, if_pos hk, u3_n _ _ _ _ _ (by omega)]
  · rw [if_neg hk, if_neg hk]
section
variable {cI : ClassId} {am : Nat → Nat} {Y : St}
theorem wM_row {R : Nat → Int32} {o : Nat} {v : Int32} : (wMr cI am Y R).set 1 (am 1, .inl (cI, 4498, .inl (upd R o v))) = wMr cI am Y (upd R o v) := rfl
theorem wM_same {Y Y' : St} (h0 : rowM Y' = rowM Y) (h1 : Y' 13 = Y 13) (h2 : Y' 14 = Y 14) : wM cI am Y' = wM cI am Y := by
  unfold wM wMr
  rw [h0, h1, h2]
theorem wM_to {R : Nat → Int32} {Y' : St} (h0 : R = rowM Y') (h1 : Y' 13 = Y 13) (h2 : Y' 14 = Y 14) : wMr cI am Y R = wM cI am Y' := by
  unfold wM wMr
  rw [h0, h1, h2]
theorem wM_sh {i : Nat} {f : Nat} {v : Int32} (hh : i < 20) (hf : f < 9) : (wM cI am Y).set 1 (am 1, .inl (cI, 4498, .inl (upd (rowM Y) (6 + 9 * i + f) v))) = wM cI am (u3 Y 0 f i v) :=
  wM_to (row_uh Y hh hf) (u3_n _ _ _ _ _ (by omega)) (u3_n _ _ _ _ _ (by omega))
theorem wM_sc {i : Nat} {f : Nat} {v : Int32} (hh : i < 40) (hf : f < 4) : (wM cI am Y).set 1 (am 1, .inl (cI, 4498, .inl (upd (rowM Y) (186 + 4 * i + f) v))) = wM cI am (u3 Y 0 (10 + f) i v) :=
  wM_to (row_uc Y hh hf) (u3_n _ _ _ _ _ (by omega)) (u3_n _ _ _ _ _ (by omega))
theorem wM_sn {o : Nat} {v : Int32} (hh : o < 6) : (wM cI am Y).set 1 (am 1, .inl (cI, 4498, .inl (upd (rowM Y) o v))) = wM cI am (u3 Y 0 14 o v) :=
  wM_to (row_un Y hh) (u3_n _ _ _ _ _ (by omega)) (u3_n _ _ _ _ _ (by omega))
theorem wM_d {i : Nat} {v : Int32} : wM cI am (u3 Y 0 9 i v) = wM cI am Y := wM_same (row_d Y i v) (u3_n _ _ _ _ _ (by omega)) (u3_n _ _ _ _ _ (by omega))
theorem wM_a0 {i : Nat} {v : Int32} : (wM cI am Y).set 2 (am 2, .inl (cI, 12, .inl (upd (Y 13 0) i v))) = wM cI am (u3 Y 13 0 i v) := by
  show _ = wMr cI am (u3 Y 13 0 i v) (rowM (u3 Y 13 0 i v))
  rw [row_g Y 0 i v (by omega)]
  unfold wM wMr
  rw [u3_g, u3_n Y 13 0 i v (a := 14) (by omega), b2_col]
  simp [b2_coln]
theorem wM_a1 {i : Nat} {v : Int32} : (wM cI am Y).set 3 (am 3, .inl (cI, 12, .inl (upd (Y 13 1) i v))) = wM cI am (u3 Y 13 1 i v) := by
  show _ = wMr cI am (u3 Y 13 1 i v) (rowM (u3 Y 13 1 i v))
  rw [row_g Y 1 i v (by omega)]
  unfold wM wMr
  rw [u3_g, u3_n Y 13 1 i v (a := 14) (by omega), b2_col]
  simp [b2_coln]
theorem wM_a2 {i : Nat} {v : Int32} : (wM cI am Y).set 4 (am 4, .inl (cI, 12, .inl (upd (Y 13 2) i v))) = wM cI am (u3 Y 13 2 i v) := by
  show _ = wMr cI am (u3 Y 13 2 i v) (rowM (u3 Y 13 2 i v))
  rw [row_g Y 2 i v (by omega)]
  unfold wM wMr
  rw [u3_g, u3_n Y 13 2 i v (a := 14) (by omega), b2_col]
  simp [b2_coln]
theorem wM_a3 {i : Nat} {v : Int32} : (wM cI am Y).set 5 (am 5, .inl (cI, 12, .inl (upd (Y 13 3) i v))) = wM cI am (u3 Y 13 3 i v) := by
  show _ = wMr cI am (u3 Y 13 3 i v) (rowM (u3 Y 13 3 i v))
  rw [row_g Y 3 i v (by omega)]
  unfold wM wMr
  rw [u3_g, u3_n Y 13 3 i v (a := 14) (by omega), b2_col]
  simp [b2_coln]
theorem wM_a4 {i : Nat} {v : Int32} : (wM cI am Y).set 6 (am 6, .inl (cI, 12, .inl (upd (Y 13 4) i v))) = wM cI am (u3 Y 13 4 i v) := by
  show _ = wMr cI am (u3 Y 13 4 i v) (rowM (u3 Y 13 4 i v))
  rw [row_g Y 4 i v (by omega)]
  unfold wM wMr
  rw [u3_g, u3_n Y 13 4 i v (a := 14) (by omega), b2_col]
  simp [b2_coln]
theorem wM_a5 {i : Nat} {v : Int32} : (wM cI am Y).set 7 (am 7, .inl (cI, 12, .inl (upd (Y 13 5) i v))) = wM cI am (u3 Y 13 5 i v) := by
  show _ = wMr cI am (u3 Y 13 5 i v) (rowM (u3 Y 13 5 i v))
  rw [row_g Y 5 i v (by omega)]
  unfold wM wMr
  rw [u3_g, u3_n Y 13 5 i v (a := 14) (by omega), b2_col]
  simp [b2_coln]
theorem wM_a6 {i : Nat} {v : Int32} : (wM cI am Y).set 8 (am 8, .inl (cI, 12, .inl (upd (Y 13 6) i v))) = wM cI am (u3 Y 13 6 i v) := by
  show _ = wMr cI am (u3 Y 13 6 i v) (rowM (u3 Y 13 6 i v))
  rw [row_g Y 6 i v (by omega)]
  unfold wM wMr
  rw [u3_g, u3_n Y 13 6 i v (a := 14) (by omega), b2_col]
  simp [b2_coln]
theorem wM_n0 {v : Int32} : (wM cI am Y).set 0 (am 0, .inr (6, [.ref (am 1), .int v, .int (Y 14 0 1), .ref (am 2), .ref (am 3), .ref (am 4), .ref (am 5), .ref (am 6), .ref (am 7), .ref (am 8)])) = wM cI am (u3 Y 14 0 0 v) := by
  show _ = wMr cI am (u3 Y 14 0 0 v) (rowM (u3 Y 14 0 0 v))
  rw [row_g Y 0 0 v (by omega)]
  unfold wM wMr
  rw [u3_g, u3_n Y 14 0 0 v (a := 13) (by omega)]
  simp [b2]
theorem wM_n1 {v : Int32} : (wM cI am Y).set 0 (am 0, .inr (6, [.ref (am 1), .int (Y 14 0 0), .int v, .ref (am 2), .ref (am 3), .ref (am 4), .ref (am 5), .ref (am 6), .ref (am 7), .ref (am 8)])) = wM cI am (u3 Y 14 0 1 v) := by
  show _ = wMr cI am (u3 Y 14 0 1 v) (rowM (u3 Y 14 0 1 v))
  rw [row_g Y 0 1 v (by omega)]
  unfold wM wMr
  rw [u3_g, u3_n Y 14 0 1 v (a := 13) (by omega)]
  simp [b2]
end
theorem wM_D {cI : ClassId} {am : Nat → Nat} {Y : St} {R : Nat → Int32} (h : Dj 9 am) : va_D (Aw 9 am) (wMr cI am Y R) := by
  have at' : ∀ (k : Nat) (q : Nat × va_E), (wMr cI am Y R)[k]? = some q → k < 9 ∧ q.1 = am k := by
    intro k q hq
    have hk : k < 9 := (List.getElem?_eq_some_iff.mp hq).1
    refine ⟨hk, ?_⟩
    rcases (show k = 0 ∨ k = 1 ∨ k = 2 ∨ k = 3 ∨ k = 4 ∨ k = 5 ∨ k = 6 ∨ k = 7 ∨ k = 8 by omega) with rfl | rfl | rfl | rfl | rfl | rfl | rfl | rfl | rfl <;> (cases hq; rfl)
  refine ⟨fun i j p q hp hq e => ?_, fun k q hq => ?_⟩
  · obtain ⟨hi, e1⟩ := at' i p hp
    obtain ⟨hj, e2⟩ := at' j q hq
    exact h i j hi hj (by rw [← e1, ← e2]; exact e)
  · obtain ⟨hk, e1⟩ := at' k q hq
    exact ⟨k, hk, e1⟩
end
section
/-! THE ROWS OF THIS CLAIM over the kit's: the contracts' forms (Ro..: nothing is written; Wo..: the world ws becomes ws'), a method's begin, its ends, its calls. -/
def tysC (cI cR : ClassId) : List (ClassId × FieldType) := [(cI, .int), (cR, .object "HeadBudgets$Deed")]
def Nst (U : State) : Prop := va_Nw (.methodLinkNest RX5 9 yX0_init RX5) U ∧ va_Nw (.methodLinkNest RX0 11 yX3_init RX5) U ∧ va_Nw (.methodLinkNest RX0 20 yX1_init RX5) U ∧ va_Nw (.methodLinkNest RX4 17 yX2_init RX5) U ∧ va_Nw (.methodLinkNest RX2 9 yX0_init RX5) U ∧ va_Nw (.methodLinkNest RX3 77 yX5_partOf RX5) U
theorem Nst.warm {s U : State} (hW : s.WarmedH U.vm) (h : Nst s) : Nst U := ⟨va_Nw.warmM hW h.1, va_Nw.warmM hW h.2.1, va_Nw.warmM hW h.2.2.1, va_Nw.warmM hW h.2.2.2.1, va_Nw.warmM hW h.2.2.2.2.1, va_Nw.warmM hW h.2.2.2.2.2⟩
theorem Nst.same {u U : State} (e : u.vm = U.vm) (h : Nst u) : Nst U := ⟨va_Nw.same rfl e h.1, va_Nw.same rfl e h.2.1, va_Nw.same rfl e h.2.2.1, va_Nw.same rfl e h.2.2.2.1, va_Nw.same rfl e h.2.2.2.2.1, va_Nw.same rfl e h.2.2.2.2.2⟩
def Pw (D : va_G) (cI cR : ClassId) (ws : va_W) (av : List Value) : Array Value → State → Prop := va_Pc av (fun U => va_P D vwCl ws U.heap ∧ va_K D vwCl (tysC cI cR) U ∧ Nst U)
theorem Pw.blind {D : va_G} {cI cR : ClassId} {ws : va_W} {av : List Value} : FrameBlind (Pw D cI cR ws av) := fun a U g mk q => by
  obtain ⟨q0, qP, qK, qN⟩ := q
  exact ⟨q0, qP, va_K.moved (u := U) (U := U.calling g mk a) (Vm.Alike.refl U.vm) qK, Nst.same (u := U) (U := U.calling g mk a) rfl qN⟩
theorem Pw.at {D : va_G} {cI cR : ClassId} {ws : va_W} {av : List Value} {s : State} {H : Heap} (hP : va_P D vwCl ws H) (hK : va_K D vwCl (tysC cI cR) s) (hN : Nst s) : ∀ U : State, U.heap = H → s.WarmedH U.vm → Pw D cI cR ws av av.toArray U := fun U hU hW => ⟨rfl, by rw [hU]; exact hP, va_K.moved hW.alike hK, hN.warm hW⟩
theorem nilP {D : va_G} {cl : List vw_C} {H : Heap} : va_P D cl [] H := fun k q h => by simp at h
def RoE (l : Launch) (D : va_G) (cI cR : ClassId) (ws : va_W) (y : MethodName) (wds : List Cond) (rm : Room) (av : List Value) (v : Int32) : Prop := Met l y wds rm (Pw D cI cR ws av) (vp_Si (fun r => r = v)) 0 0 (fun _ => False)
def RoB (l : Launch) (D : va_G) (cI cR : ClassId) (ws : va_W) (y : MethodName) (wds : List Cond) (rm : Room) (av : List Value) (P : Prop) : Prop := Met l y wds rm (Pw D cI cR ws av) (vp_Si (fun r => (r = 1 ∧ P) ∨ (r = 0 ∧ ¬ P))) 0 0 (fun _ => False)
def RoQ (l : Launch) (D : va_G) (cI cR : ClassId) (ws : va_W) (y : MethodName) (wds : List Cond) (rm : Room) (av : List Value) (v : Option Nat) : Prop := Met l y wds rm (Pw D cI cR ws av) (va_Sq (fun r => r = v)) 0 0 (fun _ => False)
def WoE (l : Launch) (D : va_G) (cI cR : ClassId) (A : Nat → Prop) (ws ws' : va_W) (y : MethodName) (wds : List Cond) (rm : Room) (av : List Value) (v : Int32) : Prop := Met l y wds rm (Pw D cI cR ws av) (va_Qi (S := Unit) (fun r _ => r = v) (fun _ t => va_P D vwCl ws' t.heap) A) 0 0 A
def WoV (l : Launch) (D : va_G) (cI cR : ClassId) (A : Nat → Prop) (ws ws' : va_W) (y : MethodName) (wds : List Cond) (rm : Room) (av : List Value) : Prop := Met l y wds rm (Pw D cI cR ws av) (va_Qv (S := Unit) (fun _ => True) (fun _ t => va_P D vwCl ws' t.heap) A) 0 0 A
/-- a method's begin -/
theorem OfW {l : Launch} {D : va_G} {cI cR : ClassId} {ws : va_W} {y : MethodName} {wds wds' : List Cond} {rm : Room} {av : List Value} {Qc : Array Value → State → Outcome → State → Prop} {mc ms : Nat} {free : Addr → Prop} {cc : ByteArray} {maxL : Nat} {ret : Option FieldType}
    (hy : plainName y.cls = true) (hw : wds = Cond.code y cc maxL ret :: wds') (hlen : (lg_sl av).length ≤ maxL)
    (body : ∀ (p : Program) (e : Env) (s : State) (m : MethodId) (below : List Frame) (meth : Method) (c : Code), p.tables.exec = Jvm.exec → c.code = cc → meth.sig.returnType = ret → (∀ w ∈ wds, w.before av.toArray s = true) → s.vm.findClass y.cls = some m.cls → meth.locks = false → c.maxLocals = maxL → meth.name = y.name → va_P D vwCl ws s.heap → va_K D vwCl (tysC cI cR) s → Nst s → ∀ ls : Array Slot, lv_has ls maxL (lv_args 0 av) →
      W p l e rm s m av.toArray below meth c s.heap [] 0 0 (MQ below Qc av.toArray s mc ms free) (F0 m 0 ls [])) : Met l y wds rm (Pw D cI cR ws av) Qc mc ms free := by
  refine Met.ofW (cc := cc) (maxL := maxL) (ret := ret) hy hw ?_
  intro p e s m args below meth c s₁ B hml hv
  obtain ⟨rfl, hP, hK, hN⟩ := hv
  have hl := lv_entry av (n := maxL) hlen
  rw [lg_entry_eq]
  exact body p e s m below meth c B.exec B.bytes B.returns (atoms_spec (ws := wds) B.pre) (findClass_of_methodNamed B.named) B.notSynchronized hml (name_of_methodNamed B.named B.method).1 hP hK hN _ hl
/-- the same, of a method of a class that has natives (java/lang/Math) -/
theorem OfWF {l : Launch} {D : va_G} {cI cR : ClassId} {ws : va_W} {y : MethodName} {wds wds' : List Cond} {rm : Room} {av : List Value} {Qc : Array Value → State → Outcome → State → Prop} {mc ms : Nat} {free : Addr → Prop} {cc : ByteArray} {maxL : Nat} {ret : Option FieldType}
    (hy : plainFor y = true) (hw : wds = Cond.code y cc maxL ret :: wds') (hlen : (lg_sl av).length ≤ maxL)
    (body : ∀ (p : Program) (e : Env) (s : State) (m : MethodId) (below : List Frame) (meth : Method) (c : Code), p.tables.exec = Jvm.exec → c.code = cc → meth.sig.returnType = ret → (∀ w ∈ wds, w.before av.toArray s = true) → s.vm.findClass y.cls = some m.cls → meth.locks = false → c.maxLocals = maxL → meth.name = y.name → va_P D vwCl ws s.heap → va_K D vwCl (tysC cI cR) s → Nst s → ∀ ls : Array Slot, lv_has ls maxL (lv_args 0 av) →
      W p l e rm s m av.toArray below meth c s.heap [] 0 0 (MQ below Qc av.toArray s mc ms free) (F0 m 0 ls [])) : Met l y wds rm (Pw D cI cR ws av) Qc mc ms free := by
  refine MetFree.of_bodySF (code := cc) (maxLocals := maxL) (ret := ret) hy ?_ ?_
  · intro args s m h hn
    obtain ⟨meth, c, h1, h2, h3, h4, h5, h6, -, -⟩ := Cond.code_spec hn (atoms_spec (ws := wds) h _ (by rw [hw]; exact List.mem_cons_self))
    exact ⟨meth, c, h1, h2, h3, h4, h5, h6⟩
  · intro p e s m args below meth c s₁ B hml hv _
    have hh0 : s₁.heap = s.heap := by rw [B.state]; rfl
    obtain ⟨rfl, hP, hK, hN⟩ := hv
    have hl := lv_entry av (n := maxL) hlen
    have W0 := body p e s m below meth c B.exec B.bytes B.returns (atoms_spec (ws := wds) B.pre) (findClass_of_methodNamed B.named) B.notSynchronized hml (name_of_methodNamed B.named B.method).1 hP hK hN _ hl
    rw [← lg_entry_eq] at W0
    obtain ⟨t, a1, o, b1, b2, b3⟩ := W0 s₁ hh0 (Stand.of_body B)
    exact ⟨t, o, a1, b1, b2, ⟨b3.1, b3.2⟩⟩
section
variable {p : Program} {l : Launch} {e : Env} {R : Room} {s : State} {m : MethodId} {args : Array Value} {below : List Frame} {meth : Method} {c : Code} {H H0 : Heap} {locs : List Loc} {cells slots : Nat} {Q : State → Prop}
variable {cc bytes : ByteArray} {pc nL maxL index n : Nat} {ls : Array Slot} {rest st0 As : List Value} {D : va_G} {cI cR : ClassId} {ws ws' : va_W} {A : Nat → Prop} {a b : Nat} {own C : String} {y : MethodName} {ret : Option FieldType} {wds Ts : List Cond} {rm : Room} {v x : Int32} {P : Prop}
/-- ends -/
theorem retE (hx : p.tables.exec = Jvm.exec) (hb : c.code = cc) (hr : meth.sig.returnType = some .int) (hlocks : meth.locks = false) (hdg : decode cc pc = .ok (.ireturn, 1)) (hv : x = v) : W p l e R s m args below meth c s.heap [] 0 0 (MQ below (vp_Si (fun r => r = v)) args s 0 0 (fun _ => False)) (F0 m pc ls [.int x]) :=
  W.iret hx hb hr (fun t ht _ => ⟨x, rfl, hv, ht⟩) (fun q h => by cases h) hdg hlocks
theorem retB1 (hx : p.tables.exec = Jvm.exec) (hb : c.code = cc) (hr : meth.sig.returnType = some .boolean) (hlocks : meth.locks = false) (hdg : decode cc pc = .ok (.ireturn, 1)) (hv : P) : W p l e R s m args below meth c s.heap [] 0 0 (MQ below (vp_Si (fun r => (r = 1 ∧ P) ∨ (r = 0 ∧ ¬ P))) args s 0 0 (fun _ => False)) (F0 m pc ls [.int 1]) :=
  W.zret hx hb hr rfl (fun t ht _ => ⟨1, rfl, Or.inl ⟨rfl, hv⟩, ht⟩) (fun q h => by cases h) hdg hlocks
theorem retB0 (hx : p.tables.exec = Jvm.exec) (hb : c.code = cc) (hr : meth.sig.returnType = some .boolean) (hlocks : meth.locks = false) (hdg : decode cc pc = .ok (.ireturn, 1)) (hv : ¬ P) : W p l e R s m args below meth c s.heap [] 0 0 (MQ below (vp_Si (fun r => (r = 1 ∧ P) ∨ (r = 0 ∧ ¬ P))) args s 0 0 (fun _ => False)) (F0 m pc ls [.int 0]) :=
  W.zret hx hb hr rfl (fun t ht _ => ⟨0, rfl, Or.inr ⟨rfl, hv⟩, ht⟩) (fun q h => by cases h) hdg hlocks
theorem retQ {q v : Option Nat} {nm : String} {val : Value} (hx : p.tables.exec = Jvm.exec) (hb : c.code = cc) (hr : meth.sig.returnType = some (.object nm)) (hlocks : meth.locks = false) (hdg : decode cc pc = .ok (.areturn, 1)) (hq : val = va_rf q) (hv : q = v) : W p l e R s m args below meth c s.heap [] 0 0 (MQ below (va_Sq (fun r => r = v)) args s 0 0 (fun _ => False)) (F0 m pc ls [val]) := by
  subst hq
  exact W.aret hx hb hr (Or.inl ⟨nm, rfl⟩) (va_rf_or q) (fun t ht _ => ⟨q, rfl, hv, ht⟩) (fun q h => by cases h) hdg hlocks
theorem retWE (hx : p.tables.exec = Jvm.exec) (hb : c.code = cc) (hr : meth.sig.returnType = some .int) (hlocks : meth.locks = false) (hP : va_P D vwCl ws' H) (hS : va_S A s.heap H locs) (hdg : decode cc pc = .ok (.ireturn, 1)) (hv : x = v) : W p l e R s m args below meth c H locs 0 0 (MQ below (va_Qi (S := Unit) (fun r _ => r = v) (fun _ t => va_P D vwCl ws' t.heap) A) args s 0 0 A) (F0 m pc ls [.int x]) :=
  W.iret hx hb hr (fun t ht _ => ⟨⟨x, (), rfl, hv, by show va_P D vwCl ws' t.heap; rw [ht]; exact hP⟩, hS.F ht⟩) hS.2.2 hdg hlocks
theorem retWV (hx : p.tables.exec = Jvm.exec) (hb : c.code = cc) (hr : meth.sig.returnType = none) (hlocks : meth.locks = false) (hP : va_P D vwCl ws' H) (hS : va_S A s.heap H locs) (hdg : decode cc pc = .ok (.return_, 1)) : W p l e R s m args below meth c H locs 0 0 (MQ below (va_Qv (S := Unit) (fun _ => True) (fun _ t => va_P D vwCl ws' t.heap) A) args s 0 0 A) (F0 m pc ls []) :=
  W.vret hx hb hr (fun t ht _ => ⟨⟨(), rfl, trivial, by show va_P D vwCl ws' t.heap; rw [ht]; exact hP⟩, hS.F ht⟩) hS.2.2 hdg hlocks
/-- calls of methods of objects -/
theorem callE {ci N : Nat} {fs : List Value} {T : u_T} (S : CallFix p m c cc nL s args Ts own) (hM : RoE l D cI cR ws y wds rm (.ref b :: As) v) (cw : CallW R s args own C index y bytes maxL ret wds rm 0 0 n) (hK : va_K D vwCl (tysC cI cR) s) (hN : Nst s) (hP : va_P D vwCl ws H) (q0 : Nat) (he : ws[q0]? = some (b, .inr (ci, fs))) (hc : vwCl[ci]? = some (C, T, N)) (hn : As.length = n) (hsize : ls.size = nL) (hstack : st0 = As.reverse ++ .ref b :: rest) (hW : (rest.map fun v => v.category).sum ≤ 8) (hdg : decode cc pc = .ok (.invokevirtual index, 3)) (hf : cells ≤ R.cells ∧ slots ≤ R.slots)
    (kk : W p l e R s m args below meth c H locs cells slots Q (F0 m (pc + 3) ls (.int v :: rest))) : W p l e R s m args below meth c H locs cells slots Q (F0 m pc ls st0) :=
  vp_callSi (va_Run.run (va_runV S hM cw ⟨Pw.blind, va_recv hK hP hc he, Pw.at hP hK hN⟩ rfl hn hsize hstack (lv_room hW) hdg hf)) (fun r hr => by rw [show r = v from hr]; exact kk)
theorem callB {ci N : Nat} {fs : List Value} {T : u_T} (S : CallFix p m c cc nL s args Ts own) (hM : RoB l D cI cR ws y wds rm (.ref b :: As) P) (cw : CallW R s args own C index y bytes maxL ret wds rm 0 0 n) (hK : va_K D vwCl (tysC cI cR) s) (hN : Nst s) (hP : va_P D vwCl ws H) (q0 : Nat) (he : ws[q0]? = some (b, .inr (ci, fs))) (hc : vwCl[ci]? = some (C, T, N)) (hn : As.length = n) (hsize : ls.size = nL) (hstack : st0 = As.reverse ++ .ref b :: rest) (hW : (rest.map fun v => v.category).sum ≤ 8) (hdg : decode cc pc = .ok (.invokevirtual index, 3)) (hf : cells ≤ R.cells ∧ slots ≤ R.slots)
    (k1 : P → W p l e R s m args below meth c H locs cells slots Q (F0 m (pc + 3) ls (.int 1 :: rest))) (k0 : ¬ P → W p l e R s m args below meth c H locs cells slots Q (F0 m (pc + 3) ls (.int 0 :: rest))) : W p l e R s m args below meth c H locs cells slots Q (F0 m pc ls st0) :=
  vp_callSi (va_Run.run (va_runV S hM cw ⟨Pw.blind, va_recv hK hP hc he, Pw.at hP hK hN⟩ rfl hn hsize hstack (lv_room hW) hdg hf)) (fun r hr => by
    rcases hr with ⟨e1, h⟩ | ⟨e1, h⟩ <;> rw [e1]
    · exact k1 h
    · exact k0 h)
theorem callQ {ci N : Nat} {fs : List Value} {T : u_T} {v : Option Nat} (S : CallFix p m c cc nL s args Ts own) (hM : RoQ l D cI cR ws y wds rm (.ref b :: As) v) (cw : CallW R s args own C index y bytes maxL ret wds rm 0 0 n) (hK : va_K D vwCl (tysC cI cR) s) (hN : Nst s) (hP : va_P D vwCl ws H) (q0 : Nat) (he : ws[q0]? = some (b, .inr (ci, fs))) (hc : vwCl[ci]? = some (C, T, N)) (hn : As.length = n) (hsize : ls.size = nL) (hstack : st0 = As.reverse ++ .ref b :: rest) (hW : (rest.map fun v => v.category).sum ≤ 8) (hdg : decode cc pc = .ok (.invokevirtual index, 3)) (hf : cells ≤ R.cells ∧ slots ≤ R.slots)
    (kk : W p l e R s m args below meth c H locs cells slots Q (F0 m (pc + 3) ls (va_rf v :: rest))) : W p l e R s m args below meth c H locs cells slots Q (F0 m pc ls st0) :=
  va_csq (va_Run.run (va_runV S hM cw ⟨Pw.blind, va_recv hK hP hc he, Pw.at hP hK hN⟩ rfl hn hsize hstack (lv_room hW) hdg hf)) (fun r hr => by rw [show r = v from hr]; exact kk)
theorem callWE {ci N : Nat} {fs : List Value} {T : u_T} {A0 : Nat → Prop} (S : CallFix p m c cc nL s args Ts own) (hM : WoE l D cI cR A ws ws' y wds rm (.ref b :: As) v) (cw : CallW R s args own C index y bytes maxL ret wds rm 0 0 n) (hK : va_K D vwCl (tysC cI cR) s) (hN : Nst s) (hP : va_P D vwCl ws H) (q0 : Nat) (he : ws[q0]? = some (b, .inr (ci, fs))) (hc : vwCl[ci]? = some (C, T, N)) (hn : As.length = n) (hsize : ls.size = nL) (hstack : st0 = As.reverse ++ .ref b :: rest) (hW : (rest.map fun v => v.category).sum ≤ 8) (hdg : decode cc pc = .ok (.invokevirtual index, 3)) (hf : cells ≤ R.cells ∧ slots ≤ R.slots) (hS : va_S A0 H0 H locs) (hA : ∀ q, A q → A0 q)
    (kk : ∀ (H1 : Heap) (locs1 : List Loc), va_P D vwCl ws' H1 → va_S A0 H0 H1 locs1 → H.size ≤ H1.size → (∀ q : Nat, q < H.size → ¬ A q → H1[q]? = H[q]?) → W p l e R s m args below meth c H1 locs1 cells slots Q (F0 m (pc + 3) ls (.int v :: rest))) : W p l e R s m args below meth c H locs cells slots Q (F0 m pc ls st0) :=
  va_calli (va_runV S hM cw ⟨Pw.blind, va_recv hK hP hc he, Pw.at hP hK hN⟩ rfl hn hsize hstack (lv_room hW) hdg hf) hS (fun q _ h => hA q h) hA (fun r u t H1 locs1 ht _ hr hB hz hk hS1 => by rw [show r = v from hr]; rw [ht] at hB; exact kk H1 locs1 hB hS1 hz hk)
theorem callWV {ci N : Nat} {fs : List Value} {T : u_T} {A0 : Nat → Prop} (S : CallFix p m c cc nL s args Ts own) (hM : WoV l D cI cR A ws ws' y wds rm (.ref b :: As)) (cw : CallW R s args own C index y bytes maxL ret wds rm 0 0 n) (hK : va_K D vwCl (tysC cI cR) s) (hN : Nst s) (hP : va_P D vwCl ws H) (q0 : Nat) (he : ws[q0]? = some (b, .inr (ci, fs))) (hc : vwCl[ci]? = some (C, T, N)) (hn : As.length = n) (hsize : ls.size = nL) (hstack : st0 = As.reverse ++ .ref b :: rest) (hW : (rest.map fun v => v.category).sum ≤ 8) (hdg : decode cc pc = .ok (.invokevirtual index, 3)) (hf : cells ≤ R.cells ∧ slots ≤ R.slots) (hS : va_S A0 H0 H locs) (hA : ∀ q, A q → A0 q)
    (kk : ∀ (H1 : Heap) (locs1 : List Loc), va_P D vwCl ws' H1 → va_S A0 H0 H1 locs1 → W p l e R s m args below meth c H1 locs1 cells slots Q (F0 m (pc + 3) ls rest)) : W p l e R s m args below meth c H locs cells slots Q (F0 m pc ls st0) :=
  va_callv (va_runV S hM cw ⟨Pw.blind, va_recv hK hP hc he, Pw.at hP hK hN⟩ rfl hn hsize hstack (lv_room hW) hdg hf) hS (fun q _ h => hA q h) hA (fun u t H1 locs1 ht _ hr hB hz hk hS1 => by rw [ht] at hB; exact kk H1 locs1 hB hS1)
/-- calls of static methods -/
theorem callSE (S : CallFix p m c cc nL s args Ts own) (hM : RoE l D cI cR [] y wds rm As v) (cw : CallB R s args own index y bytes maxL ret wds rm 0 0 n ∧ (Cond.static y).before args s = true) (hK : va_K D vwCl (tysC cI cR) s) (hN : Nst s) (hn : As.length = n) (hsize : ls.size = nL) (hstack : st0 = As.reverse ++ rest) (hW : (rest.map fun v => v.category).sum ≤ 8) (hdg : decode cc pc = .ok (.invokestatic index, 3)) (hf : cells ≤ R.cells ∧ slots ≤ R.slots)
    (kk : W p l e R s m args below meth c H locs cells slots Q (F0 m (pc + 3) ls (.int v :: rest))) : W p l e R s m args below meth c H locs cells slots Q (F0 m pc ls st0) :=
  vp_callSi (va_Run.run (va_runS S hM cw ⟨Pw.blind, Pw.at nilP hK hN⟩ rfl hn hsize hstack (lv_room hW) hdg hf)) (fun r hr => by rw [show r = v from hr]; exact kk)
theorem callSB (S : CallFix p m c cc nL s args Ts own) (hM : RoB l D cI cR [] y wds rm As P) (cw : CallB R s args own index y bytes maxL ret wds rm 0 0 n ∧ (Cond.static y).before args s = true) (hK : va_K D vwCl (tysC cI cR) s) (hN : Nst s) (hn : As.length = n) (hsize : ls.size = nL) (hstack : st0 = As.reverse ++ rest) (hW : (rest.map fun v => v.category).sum ≤ 8) (hdg : decode cc pc = .ok (.invokestatic index, 3)) (hf : cells ≤ R.cells ∧ slots ≤ R.slots)
    (k1 : P → W p l e R s m args below meth c H locs cells slots Q (F0 m (pc + 3) ls (.int 1 :: rest))) (k0 : ¬ P → W p l e R s m args below meth c H locs cells slots Q (F0 m (pc + 3) ls (.int 0 :: rest))) : W p l e R s m args below meth c H locs cells slots Q (F0 m pc ls st0) :=
  vp_callSi (va_Run.run (va_runS S hM cw ⟨Pw.blind, Pw.at nilP hK hN⟩ rfl hn hsize hstack (lv_room hW) hdg hf)) (fun r hr => by
    rcases hr with ⟨e1, h⟩ | ⟨e1, h⟩ <;> rw [e1]
    · exact k1 h
    · exact k0 h)
/-- a static method of the nest's host -/
theorem callNE {host : String} (S : CallFix p m c cc nL s args Ts own) (hM : RoE l D cI cR [] y wds rm As v) (cw : va_CN R s args own index y host bytes maxL ret wds rm 0 0 n ∧ (Cond.static y).before args s = true ∧ True) (hK : va_K D vwCl (tysC cI cR) s) (hN : Nst s) (hn : As.length = n) (hsize : ls.size = nL) (hstack : st0 = As.reverse ++ rest) (hW : (rest.map fun v => v.category).sum ≤ 8) (hdg : decode cc pc = .ok (.invokestatic index, 3)) (hf : cells ≤ R.cells ∧ slots ≤ R.slots)
    (kk : W p l e R s m args below meth c H locs cells slots Q (F0 m (pc + 3) ls (.int v :: rest))) : W p l e R s m args below meth c H locs cells slots Q (F0 m pc ls st0) :=
  vp_callSi (va_Run.run (va_runSN S hM cw ⟨Pw.blind, Pw.at nilP hK hN⟩ rfl hn hsize hstack (lv_room hW) hdg hf)) (fun r hr => by rw [show r = v from hr]; exact kk)
/-- reads and writes -/
theorem xget {T : u_T} {N ci : Nat} {fs : List Value} {w : Value} (hx : p.tables.exec = Jvm.exec) (hb : c.code = cc) (hts : ∀ w ∈ Ts, w.before args s = true) (hin : ∀ w ∈ u_ws C T N, w ∈ Ts) (hown : s.vm.findClass own = some m.cls) (hK : va_K D vwCl (tysC cI cR) s) (hP : va_P D vwCl ws H) (q0 : Nat) (he : ws[q0]? = some (a, .inr (ci, fs))) (hc : vwCl[ci]? = some (C, T, N)) (k : Nat) (hk : k < N) (hlink : (Cond.fieldLink own index (T k).1 (T k).2.1 (T k).2.2.1).before args s = true) (hv : fs[k]? = some w) (hdg : decode cc pc = .ok (.getfield index, 3))
    (kk : W p l e R s m args below meth c H locs cells slots Q (F0 m (pc + 3) ls (w :: rest))) : W p l e R s m args below meth c H locs cells slots Q (F0 m pc ls (.ref a :: rest)) :=
  va_get hx hb hts hin hown hK hP q0 he hc k hk hlink (fun _ h9 => h9) hv hdg kk
theorem xput {T : u_T} {N ci : Nat} {fs : List Value} {A0 : Nat → Prop} (hx : p.tables.exec = Jvm.exec) (hb : c.code = cc) (hts : ∀ w ∈ Ts, w.before args s = true) (hin : ∀ w ∈ u_ws C T N, w ∈ Ts) (ty0 : Nat → FieldType) (hty : ∀ k, k < N → parseFieldDescriptor (T k).2.2.1 = some (ty0 k)) (hnm : ∀ a, a < N → ∀ b, b < N → a ≠ b → (T a).2.1 ≠ (T b).2.1) (hown : s.vm.findClass own = some m.cls) (hK : va_K D vwCl (tysC cI cR) s) (hP : va_P D vwCl ws H) (hD : va_D A0 ws) (hS : va_S A0 H0 H locs) (q0 : Nat) (he : ws[q0]? = some (a, .inr (ci, fs))) (hc : vwCl[ci]? = some (C, T, N)) (k : Nat) (hk : k < N) (hlink : (Cond.fieldLink own index (T k).1 (T k).2.1 (T k).2.2.1).before args s = true) (hfin : (T k).2.2.2 = false) (hd : parseFieldDescriptor (T k).2.2.1 = some .int) (hl : k < fs.length) (hset : ws.set q0 (a, .inr (ci, fs.set k (.int x))) = ws') (hdg : decode cc pc = .ok (.putfield index, 3))
    (kk : ∀ (H1 : Heap) (locs1 : List Loc), va_P D vwCl ws' H1 → va_S A0 H0 H1 locs1 → W p l e R s m args below meth c H1 locs1 cells slots Q (F0 m (pc + 3) ls rest)) : W p l e R s m args below meth c H locs cells slots Q (F0 m pc ls (.int x :: .ref a :: rest)) :=
  va_put hx hb hts hin ty0 hty hnm hown hK hP hD hS q0 he hc k hk hlink (fun _ h9 => h9) hfin hd rfl rfl hl hdg (fun H1 locs1 h1 _ h3 => kk H1 locs1 (by rw [← hset]; exact h1) h3)
theorem xald {k : Nat} {f : Nat → Int32} {i : Int32} (hx : p.tables.exec = Jvm.exec) (hb : c.code = cc) (hK : va_K D vwCl (tysC cI cR) s) (hP : va_P D vwCl ws H) (q0 : Nat) (ha : ws[q0]? = some (a, .inl (cI, k, .inl f))) (hin : vp_in i k) (hv : f i.toNatClampNeg = x) (hdg : decode cc pc = .ok (.iaload, 1))
    (kk : W p l e R s m args below meth c H locs cells slots Q (F0 m (pc + 1) ls (.int x :: rest))) : W p l e R s m args below meth c H locs cells slots Q (F0 m pc ls (.int i :: .ref a :: rest)) :=
  va_iald hx hb hK hP q0 0 ha rfl hin hdg (by rw [hv]; exact kk)
theorem xast {k : Nat} {f : Nat → Int32} {i : Int32} {A0 : Nat → Prop} (hx : p.tables.exec = Jvm.exec) (hb : c.code = cc) (hK : va_K D vwCl (tysC cI cR) s) (hP : va_P D vwCl ws H) (hD : va_D A0 ws) (hS : va_S A0 H0 H locs) (q0 : Nat) (ha : ws[q0]? = some (a, .inl (cI, k, .inl f))) (hin : vp_in i k) (hset : ws.set q0 (a, .inl (cI, k, .inl (upd f i.toNatClampNeg x))) = ws') (hdg : decode cc pc = .ok (.iastore, 1))
    (kk : ∀ (H1 : Heap) (locs1 : List Loc), va_P D vwCl ws' H1 → va_S A0 H0 H1 locs1 → W p l e R s m args below meth c H1 locs1 cells slots Q (F0 m (pc + 1) ls rest)) : W p l e R s m args below meth c H locs cells slots Q (F0 m pc ls (.int x :: .int i :: .ref a :: rest)) :=
  va_iast hx hb hK hP hD hS q0 0 ha rfl hin hdg (fun H1 locs1 h1 _ h3 => kk H1 locs1 (by rw [← hset]; exact h1) h3)
end
end
section
/-! THE BOOK's numbers: what a head is, its free money, who is barred, who is within whom .. as functions of a book r; the class and the reference are both held against them. -/
noncomputable def ci {α : Type} (P : Prop) (a b : α) : α := @ite _ P (Classical.propDecidable P) a b
theorem ci_t {α : Type} {P : Prop} {a b : α} (h : P) : ci P a b = a := by simp [ci, h]
theorem ci_f {α : Type} {P : Prop} {a b : α} (h : ¬ P) : ci P a b = b := by simp [ci, h]
theorem ci_T {α : Type} {a b : α} : ci True a b = a := ci_t trivial
theorem ci_F {α : Type} {a b : α} : ci False a b = b := ci_f not_false
def hin (h : Int32) : Prop := 0 ≤ h.toInt ∧ h.toInt < 20
def cin (c : Int32) : Prop := 0 ≤ c.toInt ∧ c.toInt < 40
def p_has (r : Bk) (h : Int32) : Prop := 0 ≤ h.toInt ∧ h.toInt < (r 14 1).toInt ∧ h.toInt < 20
def p_hasC (r : Bk) (c : Int32) : Prop := 0 ≤ c.toInt ∧ c.toInt < (r 14 2).toInt ∧ c.toInt < 40
theorem hin_has {r : Bk} {h : Int32} (p : p_has r h) : hin h := ⟨p.1, p.2.2⟩
theorem cin_has {r : Bk} {c : Int32} (p : p_hasC r c) : cin c := ⟨p.1, p.2.2⟩
theorem in20 {h : Int32} (p : hin h) : vp_in h 20 := vp_in_iff.mpr ⟨p.1, by have := p.2; omega⟩
theorem in40 {c : Int32} (p : cin c) : vp_in c 40 := vp_in_iff.mpr ⟨p.1, by have := p.2; omega⟩
theorem in20h {r : Bk} {h : Int32} (p : p_has r h) : vp_in h 20 := in20 (hin_has p)
theorem in40h {r : Bk} {h : Int32} (p : p_hasC r h) : vp_in h 40 := in40 (cin_has p)
theorem i3_lt {a b : Int32} : a < b ↔ a.toInt < b.toInt := Int32.lt_iff_toInt_lt
theorem i3_le {a b : Int32} : a ≤ b ↔ a.toInt ≤ b.toInt := Int32.le_iff_toInt_le
theorem i3_eq {a b : Int32} : a = b ↔ a.toInt = b.toInt := Int32.toInt_inj.symm
theorem t_0 : (0 : Int32).toInt = 0 := by decide
theorem t_1 : (1 : Int32).toInt = 1 := by decide
theorem t_2 : (2 : Int32).toInt = 2 := by decide
theorem t_4 : (4 : Int32).toInt = 4 := by decide
theorem t_9 : (9 : Int32).toInt = 9 := by decide
theorem t_m9 : (-9 : Int32).toInt = -9 := by decide
theorem t_12 : (12 : Int32).toInt = 12 := by decide
theorem t_20 : (20 : Int32).toInt = 20 := by decide
theorem t_40 : (40 : Int32).toInt = 40 := by decide
theorem t_99 : (99 : Int32).toInt = 99 := by decide
theorem t_100 : (100 : Int32).toInt = 100 := by decide
theorem t_h : (100000 : Int32).toInt = 100000 := by decide
theorem t_m : (1000000 : Int32).toInt = 1000000 := by decide
def p_amt (a : Int32) : Prop := 1 ≤ a.toInt ∧ a.toInt ≤ 100000
def p_pct (v : Int32) : Prop := 0 ≤ v.toInt ∧ v.toInt ≤ 100
noncomputable def p_free (r : Bk) (h : Int32) : Int32 := ci (p_has r h) (qv r 3 h - qv r 4 h - qv r 5 h) 0
def p_bar (r : Bk) : Nat → Int32 → Prop
  | 0, _ => False
  | n + 1, h => p_has r h ∧ (qv r 2 h = 1 ∨ p_bar r n (qv r 0 h))
def p_wit (r : Bk) : Nat → Int32 → Int32 → Prop
  | 0, _, _ => False
  | n + 1, h, top => p_has r h ∧ (h = top ∨ p_wit r n (qv r 0 h) top)
def sumI (f : Nat → Int32) : Nat → Int32
  | 0 => 0
  | n + 1 => sumI f n + f n
def p_part (a b : Int32) : Int32 := (a.toInt64 * b.toInt64 / 100).toInt32
noncomputable def p_cntb (r : Bk) (n : Nat) : Int32 := sumI (fun h => ci (p_bar r 5 (nI h)) 1 0) n
noncomputable def p_smd (r : Bk) (h w : Int32) : Int32 := ci (p_has r h) (ci (w = 0) (qv r 3 h) (ci (w = 1) (qv r 4 h) (ci (w = 2) (qv r 5 h) (ci (w = 3) (p_free r h) 1)))) 0
noncomputable def p_sum (r : Bk) (top w : Int32) (n : Nat) : Int32 := sumI (fun h => ci (p_wit r 5 (nI h) top) (p_smd r (nI h) w) 0) n
def p_lv (r : Bk) (h : Int32) : Int32 := p_part (qv r 6 h) (qv r 8 h) - qv r 7 h
def p_may (r : Bk) (a b : Int32) : Prop := p_has r a ∧ p_has r b ∧ a ≠ b ∧ ¬ p_bar r 5 a ∧ ¬ p_bar r 5 b ∧ (p_wit r 5 a b ∨ p_wit r 5 b a ∨ qv r 0 a = qv r 0 b ∨ qv r 1 a ≤ qv r 1 b)
def i3min (x y : Int32) : Int32 := if y < x then y else x
def i3max (x y : Int32) : Int32 := if x < y then y else x
noncomputable def p_mov (r : Bk) (a b : Int32) : Int32 := ci (p_may r a b) (i3max 0 (i3min 100000 (i3min (p_free r a) (p_lv r a)))) 0
noncomputable def p_lapse (r : Bk) (top p : Int32) (n : Nat) : Int32 := sumI (fun h => ci (p_wit r 5 (nI h) top) (p_free r (nI h) - p_part (p_free r (nI h)) p) 0) n
def p_rich (r : Bk) (a b : Int32) : Prop := p_has r a ∧ p_has r b ∧ a ≠ b ∧ (p_free r b < p_free r a ∨ (p_free r a = p_free r b ∧ (qv r 1 b < qv r 1 a ∨ (qv r 1 a = qv r 1 b ∧ a < b))))
noncomputable def p_ahead (r : Bk) (h top : Int32) (n : Nat) : Int32 := sumI (fun k => ci (nI k ≠ top ∧ p_wit r 5 (nI k) top ∧ p_rich r (nI k) h) 1 0) n
/-- the first n heads looked through for a place: the head found, or NONE -/
noncomputable def p_place (r : Bk) (top w : Int32) : Nat → Int32
  | 0 => -9
  | n + 1 => ci (p_place r top w n ≠ -9) (p_place r top w n) (ci (nI n ≠ top ∧ p_wit r 5 (nI n) top ∧ p_ahead r (nI n) top 20 = w) (nI n) (-9))
/-- the first n heads looked through for the best giver: the head, and how much -/
noncomputable def p_best (r : Bk) (b : Int32) : Nat → Int32 × Int32
  | 0 => (-9, 0)
  | n + 1 => ci ((p_best r b n).2 < p_mov r (nI n) b ∨ (p_mov r (nI n) b = (p_best r b n).2 ∧ p_has r (p_best r b n).1 ∧ qv r 1 (p_best r b n).1 < qv r 1 (nI n))) (nI n, p_mov r (nI n) b) (p_best r b n)
noncomputable def p_open (r : Bk) (n : Nat) : Int32 := sumI (fun c => ci (0 < r 11 c) 1 0) n
theorem sumI_ci {P : Prop} {f : Nat → Int32} {k : Nat} {x : Int32} (h : P) (e : f k = ci P x 0) : sumI f (k + 1) = sumI f k + x := by
  show sumI f k + f k = _
  rw [e, ci_t h]
theorem sumI_c0 {P : Prop} {f : Nat → Int32} {k : Nat} {x : Int32} (h : ¬ P) (e : f k = ci P x 0) : sumI f (k + 1) = sumI f k := by
  show sumI f k + f k = _
  rw [e, ci_f h]
  exact Int32.add_zero _
theorem nI_t {k : Nat} (h : k ≤ 40) : (nI k).toInt = k := nI_toInt (by omega)
theorem nI_lt20 {k : Nat} (h : k ≤ 40) (c : ¬ (20 : Int32) ≤ nI k) : k < 20 := by
  rw [i3_le, nI_t h, t_20] at c
  omega
theorem nI_ge20 {k : Nat} (h : k ≤ 20) (c : (20 : Int32) ≤ nI k) : k = 20 := by
  rw [i3_le, nI_t (by omega), t_20] at c
  omega
theorem nI_lt40 {k : Nat} (h : k ≤ 40) (c : ¬ (40 : Int32) ≤ nI k) : k < 40 := by
  rw [i3_le, nI_t h, t_40] at c
  omega
theorem nI_ge40 {k : Nat} (h : k ≤ 40) (c : (40 : Int32) ≤ nI k) : k = 40 := by
  rw [i3_le, nI_t h, t_40] at c
  omega
theorem nI_hin {k : Nat} (h : k < 20) : hin (nI k) := ⟨by rw [nI_t (by omega)]; omega, by rw [nI_t (by omega)]; omega⟩
theorem nI_cin {k : Nat} (h : k < 40) : cin (nI k) := ⟨by rw [nI_t (by omega)]; omega, by rw [nI_t (by omega)]; omega⟩
theorem nI_c {k : Nat} (h : k ≤ 40) : (nI k).toNatClampNeg = k := nI_clamp (by omega)
theorem place_no {r : Bk} {t w : Int32} {k : Nat} (e : p_place r t w k = -9) (h : ¬ (nI k ≠ t ∧ p_wit r 5 (nI k) t ∧ p_ahead r (nI k) t 20 = w)) : p_place r t w (k + 1) = -9 := by
  show ci _ _ _ = _
  rw [ci_f (fun q => q e), ci_f h]
theorem nI_ne9 {k : Nat} (h : k < 20) : nI k ≠ -9 := by
  intro e
  have := i3_eq.mp e
  rw [nI_t (by omega), t_m9] at this
  omega
theorem place_yes {r : Bk} {t w : Int32} {k : Nat} (e : p_place r t w k = -9) (h : nI k ≠ t ∧ p_wit r 5 (nI k) t ∧ p_ahead r (nI k) t 20 = w) (hk : k < 20) : p_place r t w 20 = nI k := by
  have h1 : p_place r t w (k + 1) = nI k := by
    show ci _ _ _ = _
    rw [ci_f (fun q => q e), ci_t h]
  have h2 : ∀ j, p_place r t w (k + 1 + j) = nI k := by
    intro j
    induction j with
    | zero => exact h1
    | succ j ih =>
      show ci (p_place r t w (k + 1 + j) ≠ -9) (p_place r t w (k + 1 + j)) _ = _
      rw [ih, ci_t (nI_ne9 hk)]
  have := h2 (19 - k)
  rwa [show k + 1 + (19 - k) = 20 by omega] at this
theorem best_yes {r : Bk} {t b m xk : Int32} {k : Nat} (e : p_best r t k = (b, m)) (ek : xk = nI k) (h : m < p_mov r xk t ∨ (p_mov r xk t = m ∧ p_has r b ∧ qv r 1 b < qv r 1 xk)) : p_best r t (k + 1) = (xk, p_mov r xk t) := by
  subst ek
  show ci _ _ _ = _
  rw [e, ci_t h]
theorem best_no {r : Bk} {t b m xk : Int32} {k : Nat} (e : p_best r t k = (b, m)) (ek : xk = nI k) (h : ¬ (m < p_mov r xk t ∨ (p_mov r xk t = m ∧ p_has r b ∧ qv r 1 b < qv r 1 xk))) : p_best r t (k + 1) = (b, m) := by
  subst ek
  show ci _ _ _ = _
  rw [e, ci_f h]
noncomputable def p_fm (a q : Int32) : Int32 := ci (0 ≤ a ^^^ q) (a - a / q * q) (ci (a - a / q * q = 0) (a - a / q * q) (a - a / q * q + q))
end
section
set_option maxHeartbeats 4000000 in
set_option maxRecDepth 100000 in
theorem c_X5_isAmount {l : Launch} {D : va_G} {cI cR : ClassId} (a : Int32) : RoB l D cI cR ([]) yX5_isAmount wsX5_isAmount ({ frames := 0, cells := 0, slots := 0, locals := 0 } : Room) [.int a] (p_amt a) := by
  refine OfW (cc := cX5_isAmount) (maxL := 1) (ret := (some .boolean)) (by decide +kernel) rfl (Nat.le_of_ble_eq_true rfl) (fun p e s m below meth c hx hb hr hts hown hlocks hml hnm hP hK hN ls hl => ?_)
  have hl : lv_has ls 1 [(0, .int a)] := hl
  refine lv_iload_n hx hb dX5_isAmount_0 rfl (lv_at hl 0 rfl) ?_
  refine lv_iconst (v := 1) hx hb dX5_isAmount_1 (by decide) ?_
  refine lv_icmp_lt (tgt := 15) hx hb dX5_isAmount_2 (by decide) (fun c_2 => ?_) (fun c_2 => ?_)
  · refine lv_iconst (v := 0) hx hb dX5_isAmount_15 (by decide) ?_
    exact retB0 hx hb hr hlocks dX5_isAmount_16 (by simp only [i3_lt, i3_le, t_0, t_1, t_9, t_20, t_40, t_100, t_h, t_m] at c_2; intro q; have q1 := q.1; have q2 := q.2; omega)
  · refine lv_iload_n hx hb dX5_isAmount_5 rfl (lv_at hl 0 rfl) ?_
    refine lv_ldc (v := 100000) hx hb hown (hts (.constant RX5 222 100000) (by decide +kernel)) dX5_isAmount_6 ?_
    refine lv_icmp_gt (tgt := 15) hx hb dX5_isAmount_8 (by decide) (fun c_8 => ?_) (fun c_8 => ?_)
    · refine lv_iconst (v := 0) hx hb dX5_isAmount_15 (by decide) ?_
      exact retB0 hx hb hr hlocks dX5_isAmount_16 (by simp only [i3_lt, i3_le, t_0, t_1, t_9, t_20, t_40, t_100, t_h, t_m] at c_2 c_8; intro q; have q1 := q.1; have q2 := q.2; omega)
    · refine lv_iconst (v := 1) hx hb dX5_isAmount_11 (by decide) ?_
      refine lv_goto (tgt := 16) hx hb dX5_isAmount_12 (by decide) ?_
      exact retB1 hx hb hr hlocks dX5_isAmount_16 (by simp only [i3_lt, i3_le, t_0, t_1, t_9, t_20, t_40, t_100, t_h, t_m] at c_2 c_8; exact ⟨by omega, by omega⟩)
set_option maxHeartbeats 4000000 in
set_option maxRecDepth 100000 in
theorem c_X5_isPercentage {l : Launch} {D : va_G} {cI cR : ClassId} (a : Int32) : RoB l D cI cR ([]) yX5_isPercentage wsX5_isPercentage ({ frames := 0, cells := 0, slots := 0, locals := 0 } : Room) [.int a] (p_pct a) := by
  refine OfW (cc := cX5_isPercentage) (maxL := 1) (ret := (some .boolean)) (by decide +kernel) rfl (Nat.le_of_ble_eq_true rfl) (fun p e s m below meth c hx hb hr hts hown hlocks hml hnm hP hK hN ls hl => ?_)
  have hl : lv_has ls 1 [(0, .int a)] := hl
  refine lv_iload_n hx hb dX5_isPercentage_0 rfl (lv_at hl 0 rfl) ?_
  refine lv_if_lt (tgt := 14) hx hb dX5_isPercentage_1 (by decide) (fun c_1 => ?_) (fun c_1 => ?_)
  · refine lv_iconst (v := 0) hx hb dX5_isPercentage_14 (by decide) ?_
    exact retB0 hx hb hr hlocks dX5_isPercentage_15 (by simp only [i3_lt, i3_le, t_0, t_1, t_9, t_20, t_40, t_100, t_h, t_m] at c_1; intro q; have q1 := q.1; have q2 := q.2; omega)
  · refine lv_iload_n hx hb dX5_isPercentage_4 rfl (lv_at hl 0 rfl) ?_
    refine lv_bipush (v := 100) hx hb dX5_isPercentage_5 (by decide) ?_
    refine lv_icmp_gt (tgt := 14) hx hb dX5_isPercentage_7 (by decide) (fun c_7 => ?_) (fun c_7 => ?_)
    · refine lv_iconst (v := 0) hx hb dX5_isPercentage_14 (by decide) ?_
      exact retB0 hx hb hr hlocks dX5_isPercentage_15 (by simp only [i3_lt, i3_le, t_0, t_1, t_9, t_20, t_40, t_100, t_h, t_m] at c_1 c_7; intro q; have q1 := q.1; have q2 := q.2; omega)
    · refine lv_iconst (v := 1) hx hb dX5_isPercentage_10 (by decide) ?_
      refine lv_goto (tgt := 15) hx hb dX5_isPercentage_11 (by decide) ?_
      exact retB1 hx hb hr hlocks dX5_isPercentage_15 (by simp only [i3_lt, i3_le, t_0, t_1, t_9, t_20, t_40, t_100, t_h, t_m] at c_1 c_7; exact ⟨by omega, by omega⟩)
set_option maxHeartbeats 4000000 in
set_option maxRecDepth 100000 in
theorem c_X5_partOf {l : Launch} {D : va_G} {cI cR : ClassId} (a : Int32) (q : Int32) : RoE l D cI cR ([]) yX5_partOf wsX5_partOf ({ frames := 0, cells := 0, slots := 0, locals := 0 } : Room) [.int a, .int q] (p_part a q) := by
  refine OfW (cc := cX5_partOf) (maxL := 2) (ret := (some .int)) (by decide +kernel) rfl (Nat.le_of_ble_eq_true rfl) (fun p e s m below meth c hx hb hr hts hown hlocks hml hnm hP hK hN ls hl => ?_)
  have hl : lv_has ls 2 [(0, .int a), (1, .int q)] := hl
  refine lv_iload_n hx hb dX5_partOf_0 rfl (lv_at hl 0 rfl) ?_
  refine lv_i2l (v := a.toInt64) hx hb dX5_partOf_1 rfl ?_
  refine lv_iload_n hx hb dX5_partOf_2 rfl (lv_at hl 1 rfl) ?_
  refine lv_i2l (v := q.toInt64) hx hb dX5_partOf_3 rfl ?_
  refine lv_lmul hx hb dX5_partOf_4 ?_
  refine lv_ldc2 (v := 100) hx hb hown (hts (.constantLong RX5 223 100) (by decide +kernel)) dX5_partOf_5 ?_
  refine lv_ldiv hx hb dX5_partOf_8 (by decide) ?_
  refine lv_l2i (v := ((a.toInt64 * q.toInt64) / 100).toInt32) hx hb dX5_partOf_9 rfl ?_
  exact retE hx hb hr hlocks dX5_partOf_10 rfl
set_option maxHeartbeats 4000000 in
set_option maxRecDepth 100000 in
theorem c_J9_floorMod_7cf53 {l : Launch} {D : va_G} {cI cR : ClassId} (a : Int32) (q : Int32) (hq : ¬ q = 0) : RoE l D cI cR ([]) yJ9_floorMod_7cf53 wsJ9_floorMod_7cf53 ({ frames := 0, cells := 0, slots := 0, locals := 0 } : Room) [.int a, .int q] (p_fm a q) := by
  refine OfWF (cc := cJ9_floorMod_7cf53) (maxL := 3) (ret := (some .int)) (by decide +kernel) rfl (Nat.le_of_ble_eq_true rfl) (fun p e s m below meth c hx hb hr hts hown hlocks hml hnm hP hK hN ls hl => ?_)
  have hl : lv_has ls 3 [(0, .int a), (1, .int q)] := hl
  refine lv_iload_n hx hb dJ9_floorMod_7cf53_0 rfl (lv_at hl 0 rfl) ?_
  refine lv_iload_n hx hb dJ9_floorMod_7cf53_1 rfl (lv_at hl 1 rfl) ?_
  refine lv_irem hx hb dJ9_floorMod_7cf53_2 hq ?_
  refine lv_istore_n (lv' := [(2, .int (a - a / q * q)), (0, .int a), (1, .int q)]) hx hb dJ9_floorMod_7cf53_3 rfl hl (by decide) rfl (fun ls hl => ?_)
  refine lv_iload_n hx hb dJ9_floorMod_7cf53_4 rfl (lv_at hl 1 rfl) ?_
  refine lv_iload_n hx hb dJ9_floorMod_7cf53_5 rfl (lv_at hl 2 rfl) ?_
  refine lv_ixor hx hb dJ9_floorMod_7cf53_6 ?_
  refine lv_if_ge (tgt := 18) hx hb dJ9_floorMod_7cf53_7 (by decide) (fun c_7 => ?_) (fun c_7 => ?_)
  · refine lv_iload_n hx hb dJ9_floorMod_7cf53_18 rfl (lv_at hl 0 rfl) ?_
    exact retE hx hb hr hlocks dJ9_floorMod_7cf53_19 (by first | rfl | (unfold p_fm; repeat (first | rw [ci_t c_7] | rw [ci_f c_7])))
  · refine lv_iload_n hx hb dJ9_floorMod_7cf53_10 rfl (lv_at hl 0 rfl) ?_
    refine lv_if_eq (tgt := 18) hx hb dJ9_floorMod_7cf53_11 (by decide) (fun c_11 => ?_) (fun c_11 => ?_)
    · refine lv_iload_n hx hb dJ9_floorMod_7cf53_18 rfl (lv_at hl 0 rfl) ?_
      exact retE hx hb hr hlocks dJ9_floorMod_7cf53_19 (by first | rfl | (unfold p_fm; repeat (first | rw [ci_t c_7] | rw [ci_f c_7] | rw [ci_t c_11] | rw [ci_f c_11])))
    · refine lv_iload_n hx hb dJ9_floorMod_7cf53_14 rfl (lv_at hl 0 rfl) ?_
      refine lv_iload_n hx hb dJ9_floorMod_7cf53_15 rfl (lv_at hl 2 rfl) ?_
      refine lv_iadd hx hb dJ9_floorMod_7cf53_16 ?_
      exact retE hx hb hr hlocks dJ9_floorMod_7cf53_17 (by first | rfl | (unfold p_fm; repeat (first | rw [ci_t c_7] | rw [ci_f c_7] | rw [ci_t c_11] | rw [ci_f c_11])))
set_option maxHeartbeats 4000000 in
set_option maxRecDepth 100000 in
theorem c_X3_has {l : Launch} {D : va_G} {cI cR : ClassId} {ad : Nat → Nat} (X : St) (h : Int32) : RoB l D cI cR (wC cI cR ad X) yX3_has wsX3_has ({ frames := 0, cells := 0, slots := 0, locals := 0 } : Room) [.ref (ad 1), .int h] (p_has (X 0) h) := by
  refine OfW (cc := cX3_has) (maxL := 2) (ret := (some .boolean)) (by decide +kernel) rfl (Nat.le_of_ble_eq_true rfl) (fun p e s m below meth c hx hb hr hts hown hlocks hml hnm hP hK hN ls hl => ?_)
  have hl : lv_has ls 2 [(0, .ref (ad 1)), (1, .int h)] := hl
  have lk_48 := hts (.fieldLink RX3 48 "HeadBudgets$Heads" "made" "I") (by decide +kernel)
  have hi_X3 : ∀ w ∈ wsX30, w ∈ wsX3_has := by decide +kernel
  refine lv_iload_n hx hb dX3_has_0 rfl (lv_at hl 1 rfl) ?_
  refine lv_if_lt (tgt := 22) hx hb dX3_has_1 (by decide) (fun c_1 => ?_) (fun c_1 => ?_)
  · refine lv_iconst (v := 0) hx hb dX3_has_22 (by decide) ?_
    exact retB0 hx hb hr hlocks dX3_has_23 (by simp only [i3_lt, i3_le, t_0, t_1, t_9, t_20, t_40, t_100, t_h, t_m] at c_1; intro q; have q1 := q.1; have q2 := q.2.1; have q3 := q.2.2; omega)
  · refine lv_iload_n hx hb dX3_has_4 rfl (lv_at hl 1 rfl) ?_
    refine lv_aload_n hx hb dX3_has_5 rfl (lv_at hl 0 rfl) ?_
    refine xget (C := RX3) (T := TX3) (N := 11) (ci := 3) (w := .int (X 0 14 1)) hx hb hts hi_X3 hown hK hP 1 g0_1 rfl 10 (by decide) lk_48 rfl dX3_has_6 ?_
    refine lv_icmp_ge (tgt := 22) hx hb dX3_has_9 (by decide) (fun c_9 => ?_) (fun c_9 => ?_)
    · refine lv_iconst (v := 0) hx hb dX3_has_22 (by decide) ?_
      exact retB0 hx hb hr hlocks dX3_has_23 (by simp only [i3_lt, i3_le, t_0, t_1, t_9, t_20, t_40, t_100, t_h, t_m] at c_1 c_9; intro q; have q1 := q.1; have q2 := q.2.1; have q3 := q.2.2; omega)
    · refine lv_iload_n hx hb dX3_has_12 rfl (lv_at hl 1 rfl) ?_
      refine lv_bipush (v := 20) hx hb dX3_has_13 (by decide) ?_
      refine lv_icmp_ge (tgt := 22) hx hb dX3_has_15 (by decide) (fun c_15 => ?_) (fun c_15 => ?_)
      · refine lv_iconst (v := 0) hx hb dX3_has_22 (by decide) ?_
        exact retB0 hx hb hr hlocks dX3_has_23 (by simp only [i3_lt, i3_le, t_0, t_1, t_9, t_20, t_40, t_100, t_h, t_m] at c_1 c_9 c_15; intro q; have q1 := q.1; have q2 := q.2.1; have q3 := q.2.2; omega)
      · refine lv_iconst (v := 1) hx hb dX3_has_18 (by decide) ?_
        refine lv_goto (tgt := 23) hx hb dX3_has_19 (by decide) ?_
        exact retB1 hx hb hr hlocks dX3_has_23 (by simp only [i3_lt, i3_le, t_0, t_1, t_9, t_20, t_40, t_100, t_h, t_m] at c_1 c_9 c_15; exact ⟨by omega, by omega, by omega⟩)
set_option maxHeartbeats 4000000 in
set_option maxRecDepth 100000 in
theorem c_X1_has {l : Launch} {D : va_G} {cI cR : ClassId} {ad : Nat → Nat} (X : St) (h : Int32) : RoB l D cI cR (wC cI cR ad X) yX1_has wsX1_has ({ frames := 0, cells := 0, slots := 0, locals := 0 } : Room) [.ref (ad 12), .int h] (p_hasC (X 0) h) := by
  refine OfW (cc := cX1_has) (maxL := 2) (ret := (some .boolean)) (by decide +kernel) rfl (Nat.le_of_ble_eq_true rfl) (fun p e s m below meth c hx hb hr hts hown hlocks hml hnm hP hK hN ls hl => ?_)
  have hl : lv_has ls 2 [(0, .ref (ad 12)), (1, .int h)] := hl
  have lk_30 := hts (.fieldLink RX1 30 "HeadBudgets$Commitments" "made" "I") (by decide +kernel)
  have hi_X1 : ∀ w ∈ wsX10, w ∈ wsX1_has := by decide +kernel
  refine lv_iload_n hx hb dX1_has_0 rfl (lv_at hl 1 rfl) ?_
  refine lv_if_lt (tgt := 22) hx hb dX1_has_1 (by decide) (fun c_1 => ?_) (fun c_1 => ?_)
  · refine lv_iconst (v := 0) hx hb dX1_has_22 (by decide) ?_
    exact retB0 hx hb hr hlocks dX1_has_23 (by simp only [i3_lt, i3_le, t_0, t_1, t_9, t_20, t_40, t_100, t_h, t_m] at c_1; intro q; have q1 := q.1; have q2 := q.2.1; have q3 := q.2.2; omega)
  · refine lv_iload_n hx hb dX1_has_4 rfl (lv_at hl 1 rfl) ?_
    refine lv_aload_n hx hb dX1_has_5 rfl (lv_at hl 0 rfl) ?_
    refine xget (C := RX1) (T := TX1) (N := 5) (ci := 1) (w := .int (X 0 14 2)) hx hb hts hi_X1 hown hK hP 12 g0_12 rfl 4 (by decide) lk_30 rfl dX1_has_6 ?_
    refine lv_icmp_ge (tgt := 22) hx hb dX1_has_9 (by decide) (fun c_9 => ?_) (fun c_9 => ?_)
    · refine lv_iconst (v := 0) hx hb dX1_has_22 (by decide) ?_
      exact retB0 hx hb hr hlocks dX1_has_23 (by simp only [i3_lt, i3_le, t_0, t_1, t_9, t_20, t_40, t_100, t_h, t_m] at c_1 c_9; intro q; have q1 := q.1; have q2 := q.2.1; have q3 := q.2.2; omega)
    · refine lv_iload_n hx hb dX1_has_12 rfl (lv_at hl 1 rfl) ?_
      refine lv_bipush (v := 40) hx hb dX1_has_13 (by decide) ?_
      refine lv_icmp_ge (tgt := 22) hx hb dX1_has_15 (by decide) (fun c_15 => ?_) (fun c_15 => ?_)
      · refine lv_iconst (v := 0) hx hb dX1_has_22 (by decide) ?_
        exact retB0 hx hb hr hlocks dX1_has_23 (by simp only [i3_lt, i3_le, t_0, t_1, t_9, t_20, t_40, t_100, t_h, t_m] at c_1 c_9 c_15; intro q; have q1 := q.1; have q2 := q.2.1; have q3 := q.2.2; omega)
      · refine lv_iconst (v := 1) hx hb dX1_has_18 (by decide) ?_
        refine lv_goto (tgt := 23) hx hb dX1_has_19 (by decide) ?_
        exact retB1 hx hb hr hlocks dX1_has_23 (by simp only [i3_lt, i3_le, t_0, t_1, t_9, t_20, t_40, t_100, t_h, t_m] at c_1 c_9 c_15; exact ⟨by omega, by omega, by omega⟩)
set_option maxHeartbeats 4000000 in
set_option maxRecDepth 100000 in
theorem c_X3_hasBoth {l : Launch} {D : va_G} {cI cR : ClassId} {ad : Nat → Nat} (X : St) (h : Int32) (k : Int32) : RoB l D cI cR (wC cI cR ad X) yX3_hasBoth wsX3_hasBoth ({ frames := 1, cells := 0, slots := 0, locals := 21 } : Room) [.ref (ad 1), .int h, .int k] (p_has (X 0) h ∧ p_has (X 0) k ∧ h ≠ k) := by
  refine OfW (cc := cX3_hasBoth) (maxL := 3) (ret := (some .boolean)) (by decide +kernel) rfl (Nat.le_of_ble_eq_true rfl) (fun p e s m below meth c hx hb hr hts hown hlocks hml hnm hP hK hN ls hl => ?_)
  have hl : lv_has ls 3 [(0, .ref (ad 1)), (1, .int h), (2, .int k)] := hl
  refine lv_aload_n hx hb dX3_hasBoth_0 rfl (lv_at hl 0 rfl) ?_
  refine lv_iload_n hx hb dX3_hasBoth_1 rfl (lv_at hl 1 rfl) ?_
  refine callB (As := [.int h]) (rest := []) ⟨hx, hb, hml, hown, hts⟩ (c_X3_has X h) (cwV 1 hts gX3_hasBoth_X3_has rfl rfl rfl (by decide +kernel) ⟨Nat.le_of_ble_eq_true rfl, Nat.le_of_ble_eq_true rfl⟩) hK hN hP 1 g0_1 rfl rfl hl.1 rfl (Nat.le_of_ble_eq_true rfl) dX3_hasBoth_2 ⟨Nat.zero_le _, Nat.zero_le _⟩ (fun c_2 => ?_) (fun c_2 => ?_)
  · refine lv_if_eq (tgt := 25) hx hb dX3_hasBoth_5 (by decide) (fun h9 => absurd h9 (by decide)) (fun _ => ?_)
    refine lv_aload_n hx hb dX3_hasBoth_8 rfl (lv_at hl 0 rfl) ?_
    refine lv_iload_n hx hb dX3_hasBoth_9 rfl (lv_at hl 2 rfl) ?_
    refine callB (As := [.int k]) (rest := []) ⟨hx, hb, hml, hown, hts⟩ (c_X3_has X k) (cwV 1 hts gX3_hasBoth_X3_has rfl rfl rfl (by decide +kernel) ⟨Nat.le_of_ble_eq_true rfl, Nat.le_of_ble_eq_true rfl⟩) hK hN hP 1 g0_1 rfl rfl hl.1 rfl (Nat.le_of_ble_eq_true rfl) dX3_hasBoth_10 ⟨Nat.zero_le _, Nat.zero_le _⟩ (fun c_10 => ?_) (fun c_10 => ?_)
    · refine lv_if_eq (tgt := 25) hx hb dX3_hasBoth_13 (by decide) (fun h9 => absurd h9 (by decide)) (fun _ => ?_)
      refine lv_iload_n hx hb dX3_hasBoth_16 rfl (lv_at hl 1 rfl) ?_
      refine lv_iload_n hx hb dX3_hasBoth_17 rfl (lv_at hl 2 rfl) ?_
      refine lv_icmp_eq (tgt := 25) hx hb dX3_hasBoth_18 (by decide) (fun c_18 => ?_) (fun c_18 => ?_)
      · refine lv_iconst (v := 0) hx hb dX3_hasBoth_25 (by decide) ?_
        exact retB0 hx hb hr hlocks dX3_hasBoth_26 (by grind)
      · refine lv_iconst (v := 1) hx hb dX3_hasBoth_21 (by decide) ?_
        refine lv_goto (tgt := 26) hx hb dX3_hasBoth_22 (by decide) ?_
        exact retB1 hx hb hr hlocks dX3_hasBoth_26 (by grind)
    · refine lv_if_eq (tgt := 25) hx hb dX3_hasBoth_13 (by decide) (fun _ => ?_) (fun h9 => absurd (by decide) h9)
      refine lv_iconst (v := 0) hx hb dX3_hasBoth_25 (by decide) ?_
      exact retB0 hx hb hr hlocks dX3_hasBoth_26 (by grind)
  · refine lv_if_eq (tgt := 25) hx hb dX3_hasBoth_5 (by decide) (fun _ => ?_) (fun h9 => absurd (by decide) h9)
    refine lv_iconst (v := 0) hx hb dX3_hasBoth_25 (by decide) ?_
    exact retB0 hx hb hr hlocks dX3_hasBoth_26 (by grind)
set_option maxHeartbeats 4000000 in
set_option maxRecDepth 100000 in
theorem c_X3_freeOf {l : Launch} {D : va_G} {cI cR : ClassId} {ad : Nat → Nat} (X : St) (h : Int32) : RoE l D cI cR (wC cI cR ad X) yX3_freeOf wsX3_freeOf ({ frames := 1, cells := 0, slots := 0, locals := 21 } : Room) [.ref (ad 1), .int h] (p_free (X 0) h) := by
  refine OfW (cc := cX3_freeOf) (maxL := 2) (ret := (some .int)) (by decide +kernel) rfl (Nat.le_of_ble_eq_true rfl) (fun p e s m below meth c hx hb hr hts hown hlocks hml hnm hP hK hN ls hl => ?_)
  have hl : lv_has ls 2 [(0, .ref (ad 1)), (1, .int h)] := hl
  have lk_24 := hts (.fieldLink RX3 24 "HeadBudgets$Heads" "allotment" "[I") (by decide +kernel)
  have lk_27 := hts (.fieldLink RX3 27 "HeadBudgets$Heads" "committed" "[I") (by decide +kernel)
  have lk_30 := hts (.fieldLink RX3 30 "HeadBudgets$Heads" "spent" "[I") (by decide +kernel)
  have hi_X3 : ∀ w ∈ wsX30, w ∈ wsX3_freeOf := by decide +kernel
  refine lv_aload_n hx hb dX3_freeOf_0 rfl (lv_at hl 0 rfl) ?_
  refine lv_iload_n hx hb dX3_freeOf_1 rfl (lv_at hl 1 rfl) ?_
  refine callB (As := [.int h]) (rest := []) ⟨hx, hb, hml, hown, hts⟩ (c_X3_has X h) (cwV 1 hts gX3_freeOf_X3_has rfl rfl rfl (by decide +kernel) ⟨Nat.le_of_ble_eq_true rfl, Nat.le_of_ble_eq_true rfl⟩) hK hN hP 1 g0_1 rfl rfl hl.1 rfl (Nat.le_of_ble_eq_true rfl) dX3_freeOf_2 ⟨Nat.zero_le _, Nat.zero_le _⟩ (fun c_2 => ?_) (fun c_2 => ?_)
  · refine lv_if_eq (tgt := 31) hx hb dX3_freeOf_5 (by decide) (fun h9 => absurd h9 (by decide)) (fun _ => ?_)
    refine lv_aload_n hx hb dX3_freeOf_8 rfl (lv_at hl 0 rfl) ?_
    refine xget (C := RX3) (T := TX3) (N := 11) (ci := 3) (w := .ref (ad 6)) hx hb hts hi_X3 hown hK hP 1 g0_1 rfl 4 (by decide) lk_24 rfl dX3_freeOf_9 ?_
    refine lv_iload_n hx hb dX3_freeOf_12 rfl (lv_at hl 1 rfl) ?_
    refine xald (x := qv (X 0) 3 h) hx hb hK hP 6 g0_6 (in20h c_2) rfl dX3_freeOf_13 ?_
    refine lv_aload_n hx hb dX3_freeOf_14 rfl (lv_at hl 0 rfl) ?_
    refine xget (C := RX3) (T := TX3) (N := 11) (ci := 3) (w := .ref (ad 7)) hx hb hts hi_X3 hown hK hP 1 g0_1 rfl 5 (by decide) lk_27 rfl dX3_freeOf_15 ?_
    refine lv_iload_n hx hb dX3_freeOf_18 rfl (lv_at hl 1 rfl) ?_
    refine xald (x := qv (X 0) 4 h) hx hb hK hP 7 g0_7 (in20h c_2) rfl dX3_freeOf_19 ?_
    refine lv_isub hx hb dX3_freeOf_20 ?_
    refine lv_aload_n hx hb dX3_freeOf_21 rfl (lv_at hl 0 rfl) ?_
    refine xget (C := RX3) (T := TX3) (N := 11) (ci := 3) (w := .ref (ad 8)) hx hb hts hi_X3 hown hK hP 1 g0_1 rfl 6 (by decide) lk_30 rfl dX3_freeOf_22 ?_
    refine lv_iload_n hx hb dX3_freeOf_25 rfl (lv_at hl 1 rfl) ?_
    refine xald (x := qv (X 0) 5 h) hx hb hK hP 8 g0_8 (in20h c_2) rfl dX3_freeOf_26 ?_
    refine lv_isub hx hb dX3_freeOf_27 ?_
    refine lv_goto (tgt := 32) hx hb dX3_freeOf_28 (by decide) ?_
    exact retE hx hb hr hlocks dX3_freeOf_32 (by first | rfl | (unfold p_free; repeat (first | rw [ci_t c_2] | rw [ci_f c_2])))
  · refine lv_if_eq (tgt := 31) hx hb dX3_freeOf_5 (by decide) (fun _ => ?_) (fun h9 => absurd (by decide) h9)
    refine lv_iconst (v := 0) hx hb dX3_freeOf_31 (by decide) ?_
    exact retE hx hb hr hlocks dX3_freeOf_32 (by first | rfl | (unfold p_free; repeat (first | rw [ci_t c_2] | rw [ci_f c_2])))
set_option maxHeartbeats 4000000 in
set_option maxRecDepth 100000 in
theorem c_X3_isBarred {l : Launch} {D : va_G} {cI cR : ClassId} {ad : Nat → Nat} (X : St) (h : Int32) : RoB l D cI cR (wC cI cR ad X) yX3_isBarred wsX3_isBarred ({ frames := 1, cells := 0, slots := 0, locals := 21 } : Room) [.ref (ad 1), .int h] (p_bar (X 0) 5 h) := by
  refine OfW (cc := cX3_isBarred) (maxL := 4) (ret := (some .boolean)) (by decide +kernel) rfl (Nat.le_of_ble_eq_true rfl) (fun p e s m below meth c hx hb hr hts hown hlocks hml hnm hP hK hN ls hl => ?_)
  have hl : lv_has ls 4 [(0, .ref (ad 1)), (1, .int h)] := hl
  have lk_21 := hts (.fieldLink RX3 21 "HeadBudgets$Heads" "frozen" "[I") (by decide +kernel)
  have lk_9 := hts (.fieldLink RX3 9 "HeadBudgets$Heads" "above" "[I") (by decide +kernel)
  have hi_X3 : ∀ w ∈ wsX30, w ∈ wsX3_isBarred := by decide +kernel
  refine lv_iload_n hx hb dX3_isBarred_0 rfl (lv_at hl 1 rfl) ?_
  refine lv_istore_n (lv' := [(2, .int h), (0, .ref (ad 1)), (1, .int h)]) hx hb dX3_isBarred_1 rfl hl (by decide) rfl (fun ls hl => ?_)
  refine lv_iconst (v := 0) hx hb dX3_isBarred_2 (by decide) ?_
  refine lv_istore_n (lv' := [(3, .int 0), (2, .int h), (0, .ref (ad 1)), (1, .int h)]) hx hb dX3_isBarred_3 rfl hl (by decide) rfl (fun ls hl => ?_)
  have hloop_4 : ∀ (n_4 : Nat) (k : Nat) (x2 x3 : Int32), k ≤ 5 → 5 < k + n_4 → x3 = nI k → (p_bar (X 0) (5 - k) x2 ↔ p_bar (X 0) 5 h) → ∀ ls : Array Slot, lv_has ls 4 [(0, .ref (ad 1)), (1, .int h), (2, .int x2), (3, .int x3)] → W p l e ({ frames := 1, cells := 0, slots := 0, locals := 21 } : Room) s m ([.ref (ad 1), .int h]).toArray below meth c s.heap [] 0 0 (MQ below (vp_Si (fun r => (r = 1 ∧ (p_bar (X 0) 5 h)) ∨ (r = 0 ∧ ¬ (p_bar (X 0) 5 h)))) ([.ref (ad 1), .int h]).toArray s 0 0 (fun _ => False)) (F0 m 4 ls []) := by
    intro n_4
    induction n_4 with
    | zero =>
      intro k x2 x3 hk hn e3 hb5 ls hl
      exfalso; omega
    | succ n_4 ih_4 =>
      intro k x2 x3 hk hn e3 hb5 ls hl
      refine lv_iload_n hx hb dX3_isBarred_4 rfl (lv_at hl 3 rfl) ?_
      refine lv_iconst (v := 4) hx hb dX3_isBarred_5 (by decide) ?_
      refine lv_icmp_gt (tgt := 42) hx hb dX3_isBarred_6 (by decide) (fun c_6 => ?_) (fun c_6 => ?_)
      · have hk5 : k = 5 := by
          rw [e3, i3_lt, nI_t (by omega), t_4] at c_6
          omega
        subst hk5
        refine lv_iconst (v := 0) hx hb dX3_isBarred_42 (by decide) ?_
        exact retB0 hx hb hr hlocks dX3_isBarred_43 (fun q => hb5.mpr q)
      · have hk4 : k + 1 ≤ 5 := by
          rw [e3, i3_lt, nI_t (by omega), t_4] at c_6
          omega
        rw [show 5 - k = (5 - (k + 1)) + 1 by omega] at hb5
        refine lv_aload_n hx hb dX3_isBarred_9 rfl (lv_at hl 0 rfl) ?_
        refine lv_iload_n hx hb dX3_isBarred_10 rfl (lv_at hl 2 rfl) ?_
        refine callB (As := [.int x2]) (rest := []) ⟨hx, hb, hml, hown, hts⟩ (c_X3_has X x2) (cwV 1 hts gX3_isBarred_X3_has rfl rfl rfl (by decide +kernel) ⟨Nat.le_of_ble_eq_true rfl, Nat.le_of_ble_eq_true rfl⟩) hK hN hP 1 g0_1 rfl rfl hl.1 rfl (Nat.le_of_ble_eq_true rfl) dX3_isBarred_11 ⟨Nat.zero_le _, Nat.zero_le _⟩ (fun c_11 => ?_) (fun c_11 => ?_)
        · refine lv_if_eq (tgt := 42) hx hb dX3_isBarred_14 (by decide) (fun h9 => absurd h9 (by decide)) (fun _ => ?_)
          refine lv_aload_n hx hb dX3_isBarred_17 rfl (lv_at hl 0 rfl) ?_
          refine xget (C := RX3) (T := TX3) (N := 11) (ci := 3) (w := .ref (ad 5)) hx hb hts hi_X3 hown hK hP 1 g0_1 rfl 3 (by decide) lk_21 rfl dX3_isBarred_18 ?_
          refine lv_iload_n hx hb dX3_isBarred_21 rfl (lv_at hl 2 rfl) ?_
          refine xald (x := qv (X 0) 2 x2) hx hb hK hP 5 g0_5 (in20h c_11) rfl dX3_isBarred_22 ?_
          refine lv_iconst (v := 1) hx hb dX3_isBarred_23 (by decide) ?_
          refine lv_icmp_ne (tgt := 29) hx hb dX3_isBarred_24 (by decide) (fun c_24 => ?_) (fun c_24 => ?_)
          · have hb6 : p_bar (X 0) (5 - (k + 1)) (qv (X 0) 0 x2) ↔ p_bar (X 0) 5 h := by
              rw [← hb5]
              exact ⟨fun q => ⟨c_11, Or.inr q⟩, fun q => q.2.elim (fun z => absurd z c_24) id⟩
            refine lv_aload_n hx hb dX3_isBarred_29 rfl (lv_at hl 0 rfl) ?_
            refine xget (C := RX3) (T := TX3) (N := 11) (ci := 3) (w := .ref (ad 2)) hx hb hts hi_X3 hown hK hP 1 g0_1 rfl 0 (by decide) lk_9 rfl dX3_isBarred_30 ?_
            refine lv_iload_n hx hb dX3_isBarred_33 rfl (lv_at hl 2 rfl) ?_
            refine xald (x := qv (X 0) 0 x2) hx hb hK hP 2 g0_2 (in20h c_11) rfl dX3_isBarred_34 ?_
            refine lv_istore_n (lv' := [(2, .int (qv (X 0) 0 x2)), (0, .ref (ad 1)), (1, .int h), (3, .int x3)]) hx hb dX3_isBarred_35 rfl hl (by decide) rfl (fun ls hl => ?_)
            refine lv_iinc (v := x3 + 1) (lv' := [(3, .int (x3 + 1)), (2, .int (qv (X 0) 0 x2)), (0, .ref (ad 1)), (1, .int h)]) hx hb dX3_isBarred_36 hl (k := 3) rfl rfl (by decide) rfl (fun ls hl => ?_)
            refine lv_goto (tgt := 4) hx hb dX3_isBarred_39 (by decide) ?_
            exact ih_4  (k + 1) _ _ hk4 (by omega) (by rw [e3]; exact nI_1 k) hb6 _ (lv_sub hl [2, 3, 1, 0] rfl)
          · refine lv_iconst (v := 1) hx hb dX3_isBarred_27 (by decide) ?_
            exact retB1 hx hb hr hlocks dX3_isBarred_28 (hb5.mp ⟨c_11, Or.inl c_24⟩)
        · refine lv_if_eq (tgt := 42) hx hb dX3_isBarred_14 (by decide) (fun _ => ?_) (fun h9 => absurd (by decide) h9)
          refine lv_iconst (v := 0) hx hb dX3_isBarred_42 (by decide) ?_
          exact retB0 hx hb hr hlocks dX3_isBarred_43 (fun q => c_11 (hb5.mpr q).1)
  exact hloop_4  6 0 h 0 (by omega) (by omega) rfl Iff.rfl _ (lv_sub hl [2, 3, 1, 0] rfl)
set_option maxHeartbeats 4000000 in
set_option maxRecDepth 100000 in
theorem c_X3_countBarred {l : Launch} {D : va_G} {cI cR : ClassId} {ad : Nat → Nat} (X : St) : RoE l D cI cR (wC cI cR ad X) yX3_countBarred wsX3_countBarred ({ frames := 2, cells := 0, slots := 0, locals := 44 } : Room) [.ref (ad 1)] (p_cntb (X 0) 20) := by
  refine OfW (cc := cX3_countBarred) (maxL := 3) (ret := (some .int)) (by decide +kernel) rfl (Nat.le_of_ble_eq_true rfl) (fun p e s m below meth c hx hb hr hts hown hlocks hml hnm hP hK hN ls hl => ?_)
  have hl : lv_has ls 3 [(0, .ref (ad 1))] := hl
  refine lv_iconst (v := 0) hx hb dX3_countBarred_0 (by decide) ?_
  refine lv_istore_n (lv' := [(1, .int 0), (0, .ref (ad 1))]) hx hb dX3_countBarred_1 rfl hl (by decide) rfl (fun ls hl => ?_)
  refine lv_iconst (v := 0) hx hb dX3_countBarred_2 (by decide) ?_
  refine lv_istore_n (lv' := [(2, .int 0), (1, .int 0), (0, .ref (ad 1))]) hx hb dX3_countBarred_3 rfl hl (by decide) rfl (fun ls hl => ?_)
  have hloop_4 : ∀ (n_4 : Nat) (k : Nat) (xa xk : Int32), k ≤ 20 → 20 < k + n_4 → xk = nI k → xa = p_cntb (X 0) k → ∀ ls : Array Slot, lv_has ls 3 [(0, .ref (ad 1)), (1, .int xa), (2, .int xk)] → W p l e ({ frames := 2, cells := 0, slots := 0, locals := 44 } : Room) s m ([.ref (ad 1)]).toArray below meth c s.heap [] 0 0 (MQ below (vp_Si (fun r => r = p_cntb (X 0) 20)) ([.ref (ad 1)]).toArray s 0 0 (fun _ => False)) (F0 m 4 ls []) := by
    intro n_4
    induction n_4 with
    | zero =>
      intro k xa xk hk hn ek ea ls hl
      exfalso; omega
    | succ n_4 ih_4 =>
      intro k xa xk hk hn ek ea ls hl
      refine lv_iload_n hx hb dX3_countBarred_4 rfl (lv_at hl 2 rfl) ?_
      refine lv_bipush (v := 20) hx hb dX3_countBarred_5 (by decide) ?_
      refine lv_icmp_ge (tgt := 27) hx hb dX3_countBarred_7 (by decide) (fun c_7 => ?_) (fun c_7 => ?_)
      · have hk2 : k = 20 := nI_ge20 hk (by rw [← ek]; exact c_7)
        subst hk2
        refine lv_iload_n hx hb dX3_countBarred_27 rfl (lv_at hl 1 rfl) ?_
        exact retE hx hb hr hlocks dX3_countBarred_28 ea
      · have hlt : k < 20 := nI_lt20 (by omega) (by rw [← ek]; exact c_7)
        refine lv_aload_n hx hb dX3_countBarred_10 rfl (lv_at hl 0 rfl) ?_
        refine lv_iload_n hx hb dX3_countBarred_11 rfl (lv_at hl 2 rfl) ?_
        refine callB (As := [.int xk]) (rest := []) ⟨hx, hb, hml, hown, hts⟩ (c_X3_isBarred X xk) (cwV 1 hts gX3_countBarred_X3_isBarred rfl rfl rfl (by decide +kernel) ⟨Nat.le_of_ble_eq_true rfl, Nat.le_of_ble_eq_true rfl⟩) hK hN hP 1 g0_1 rfl rfl hl.1 rfl (Nat.le_of_ble_eq_true rfl) dX3_countBarred_12 ⟨Nat.zero_le _, Nat.zero_le _⟩ (fun c_12 => ?_) (fun c_12 => ?_)
        · refine lv_if_eq (tgt := 21) hx hb dX3_countBarred_15 (by decide) (fun h9 => absurd h9 (by decide)) (fun _ => ?_)
          refine lv_iinc (v := xa + 1) (lv' := [(1, .int (xa + 1)), (0, .ref (ad 1)), (2, .int xk)]) hx hb dX3_countBarred_18 hl (k := 1) rfl rfl (by decide) rfl (fun ls hl => ?_)
          refine lv_iinc (v := xk + 1) (lv' := [(2, .int (xk + 1)), (1, .int (xa + 1)), (0, .ref (ad 1))]) hx hb dX3_countBarred_21 hl (k := 2) rfl rfl (by decide) rfl (fun ls hl => ?_)
          refine lv_goto (tgt := 4) hx hb dX3_countBarred_24 (by decide) ?_
          exact ih_4  (k + 1) _ _ (by omega) (by omega) (by rw [ek]; exact nI_1 k) (by rw [ea]; exact (sumI_ci (by rw [← ek]; exact c_12) rfl).symm) _ (lv_sub hl [2, 1, 0] rfl)
        · refine lv_if_eq (tgt := 21) hx hb dX3_countBarred_15 (by decide) (fun _ => ?_) (fun h9 => absurd (by decide) h9)
          refine lv_iinc (v := xk + 1) (lv' := [(2, .int (xk + 1)), (0, .ref (ad 1)), (1, .int xa)]) hx hb dX3_countBarred_21 hl (k := 2) rfl rfl (by decide) rfl (fun ls hl => ?_)
          refine lv_goto (tgt := 4) hx hb dX3_countBarred_24 (by decide) ?_
          exact ih_4  (k + 1) _ _ (by omega) (by omega) (by rw [ek]; exact nI_1 k) (by rw [ea]; exact (sumI_c0 (by rw [← ek]; exact c_12) rfl).symm) _ (lv_sub hl [1, 2, 0] rfl)
  exact hloop_4  21 0 0 0 (by omega) (by omega) rfl rfl _ (lv_sub hl [2, 1, 0] rfl)
set_option maxHeartbeats 4000000 in
set_option maxRecDepth 100000 in
theorem c_X3_isWithin {l : Launch} {D : va_G} {cI cR : ClassId} {ad : Nat → Nat} (X : St) (h : Int32) (t : Int32) : RoB l D cI cR (wC cI cR ad X) yX3_isWithin wsX3_isWithin ({ frames := 1, cells := 0, slots := 0, locals := 21 } : Room) [.ref (ad 1), .int h, .int t] (p_wit (X 0) 5 h t) := by
  refine OfW (cc := cX3_isWithin) (maxL := 5) (ret := (some .boolean)) (by decide +kernel) rfl (Nat.le_of_ble_eq_true rfl) (fun p e s m below meth c hx hb hr hts hown hlocks hml hnm hP hK hN ls hl => ?_)
  have hl : lv_has ls 5 [(0, .ref (ad 1)), (1, .int h), (2, .int t)] := hl
  have lk_9 := hts (.fieldLink RX3 9 "HeadBudgets$Heads" "above" "[I") (by decide +kernel)
  have hi_X3 : ∀ w ∈ wsX30, w ∈ wsX3_isWithin := by decide +kernel
  refine lv_iload_n hx hb dX3_isWithin_0 rfl (lv_at hl 1 rfl) ?_
  refine lv_istore_n (lv' := [(3, .int h), (0, .ref (ad 1)), (1, .int h), (2, .int t)]) hx hb dX3_isWithin_1 rfl hl (by decide) rfl (fun ls hl => ?_)
  refine lv_iconst (v := 0) hx hb dX3_isWithin_2 (by decide) ?_
  refine lv_istore (lv' := [(4, .int 0), (3, .int h), (0, .ref (ad 1)), (1, .int h), (2, .int t)]) hx hb dX3_isWithin_3 hl (by decide) rfl (fun ls hl => ?_)
  have hloop_5 : ∀ (n_5 : Nat) (k : Nat) (x2 x3 : Int32), k ≤ 5 → 5 < k + n_5 → x3 = nI k → (p_wit (X 0) (5 - k) x2 t ↔ p_wit (X 0) 5 h t) → ∀ ls : Array Slot, lv_has ls 5 [(0, .ref (ad 1)), (1, .int h), (2, .int t), (3, .int x2), (4, .int x3)] → W p l e ({ frames := 1, cells := 0, slots := 0, locals := 21 } : Room) s m ([.ref (ad 1), .int h, .int t]).toArray below meth c s.heap [] 0 0 (MQ below (vp_Si (fun r => (r = 1 ∧ (p_wit (X 0) 5 h t)) ∨ (r = 0 ∧ ¬ (p_wit (X 0) 5 h t)))) ([.ref (ad 1), .int h, .int t]).toArray s 0 0 (fun _ => False)) (F0 m 5 ls []) := by
    intro n_5
    induction n_5 with
    | zero =>
      intro k x2 x3 hk hn e3 hb5 ls hl
      exfalso; omega
    | succ n_5 ih_5 =>
      intro k x2 x3 hk hn e3 hb5 ls hl
      refine lv_iload hx hb dX3_isWithin_5 (lv_at hl 4 rfl) ?_
      refine lv_iconst (v := 4) hx hb dX3_isWithin_7 (by decide) ?_
      refine lv_icmp_gt (tgt := 39) hx hb dX3_isWithin_8 (by decide) (fun c_8 => ?_) (fun c_8 => ?_)
      · have hk5 : k = 5 := by
          rw [e3, i3_lt, nI_t (by omega), t_4] at c_8
          omega
        subst hk5
        refine lv_iconst (v := 0) hx hb dX3_isWithin_39 (by decide) ?_
        exact retB0 hx hb hr hlocks dX3_isWithin_40 (fun q => hb5.mpr q)
      · have hk4 : k + 1 ≤ 5 := by
          rw [e3, i3_lt, nI_t (by omega), t_4] at c_8
          omega
        rw [show 5 - k = (5 - (k + 1)) + 1 by omega] at hb5
        refine lv_aload_n hx hb dX3_isWithin_11 rfl (lv_at hl 0 rfl) ?_
        refine lv_iload_n hx hb dX3_isWithin_12 rfl (lv_at hl 3 rfl) ?_
        refine callB (As := [.int x2]) (rest := []) ⟨hx, hb, hml, hown, hts⟩ (c_X3_has X x2) (cwV 1 hts gX3_isWithin_X3_has rfl rfl rfl (by decide +kernel) ⟨Nat.le_of_ble_eq_true rfl, Nat.le_of_ble_eq_true rfl⟩) hK hN hP 1 g0_1 rfl rfl hl.1 rfl (Nat.le_of_ble_eq_true rfl) dX3_isWithin_13 ⟨Nat.zero_le _, Nat.zero_le _⟩ (fun c_13 => ?_) (fun c_13 => ?_)
        · refine lv_if_eq (tgt := 39) hx hb dX3_isWithin_16 (by decide) (fun h9 => absurd h9 (by decide)) (fun _ => ?_)
          refine lv_iload_n hx hb dX3_isWithin_19 rfl (lv_at hl 3 rfl) ?_
          refine lv_iload_n hx hb dX3_isWithin_20 rfl (lv_at hl 2 rfl) ?_
          refine lv_icmp_ne (tgt := 26) hx hb dX3_isWithin_21 (by decide) (fun c_21 => ?_) (fun c_21 => ?_)
          · have hb6 : p_wit (X 0) (5 - (k + 1)) (qv (X 0) 0 x2) t ↔ p_wit (X 0) 5 h t := by
              rw [← hb5]
              exact ⟨fun q => ⟨c_13, Or.inr q⟩, fun q => q.2.elim (fun z => absurd z c_21) id⟩
            refine lv_aload_n hx hb dX3_isWithin_26 rfl (lv_at hl 0 rfl) ?_
            refine xget (C := RX3) (T := TX3) (N := 11) (ci := 3) (w := .ref (ad 2)) hx hb hts hi_X3 hown hK hP 1 g0_1 rfl 0 (by decide) lk_9 rfl dX3_isWithin_27 ?_
            refine lv_iload_n hx hb dX3_isWithin_30 rfl (lv_at hl 3 rfl) ?_
            refine xald (x := qv (X 0) 0 x2) hx hb hK hP 2 g0_2 (in20h c_13) rfl dX3_isWithin_31 ?_
            refine lv_istore_n (lv' := [(3, .int (qv (X 0) 0 x2)), (0, .ref (ad 1)), (1, .int h), (2, .int t), (4, .int x3)]) hx hb dX3_isWithin_32 rfl hl (by decide) rfl (fun ls hl => ?_)
            refine lv_iinc (v := x3 + 1) (lv' := [(4, .int (x3 + 1)), (3, .int (qv (X 0) 0 x2)), (0, .ref (ad 1)), (1, .int h), (2, .int t)]) hx hb dX3_isWithin_33 hl (k := 4) rfl rfl (by decide) rfl (fun ls hl => ?_)
            refine lv_goto (tgt := 5) hx hb dX3_isWithin_36 (by decide) ?_
            exact ih_5  (k + 1) _ _ hk4 (by omega) (by rw [e3]; exact nI_1 k) hb6 _ (lv_sub hl [2, 3, 4, 1, 0] rfl)
          · refine lv_iconst (v := 1) hx hb dX3_isWithin_24 (by decide) ?_
            exact retB1 hx hb hr hlocks dX3_isWithin_25 (hb5.mp ⟨c_13, Or.inl c_21⟩)
        · refine lv_if_eq (tgt := 39) hx hb dX3_isWithin_16 (by decide) (fun _ => ?_) (fun h9 => absurd (by decide) h9)
          refine lv_iconst (v := 0) hx hb dX3_isWithin_39 (by decide) ?_
          exact retB0 hx hb hr hlocks dX3_isWithin_40 (fun q => c_13 (hb5.mpr q).1)
  exact hloop_5  6 0 h 0 (by omega) (by omega) rfl Iff.rfl _ (lv_sub hl [2, 3, 4, 1, 0] rfl)
set_option maxHeartbeats 4000000 in
set_option maxRecDepth 100000 in
theorem c_X3_summand {l : Launch} {D : va_G} {cI cR : ClassId} {ad : Nat → Nat} (X : St) (h : Int32) (wh : Int32) : RoE l D cI cR (wC cI cR ad X) yX3_summand wsX3_summand ({ frames := 2, cells := 0, slots := 0, locals := 42 } : Room) [.ref (ad 1), .int h, .int wh] (p_smd (X 0) h wh) := by
  refine OfW (cc := cX3_summand) (maxL := 3) (ret := (some .int)) (by decide +kernel) rfl (Nat.le_of_ble_eq_true rfl) (fun p e s m below meth c hx hb hr hts hown hlocks hml hnm hP hK hN ls hl => ?_)
  have hl : lv_has ls 3 [(0, .ref (ad 1)), (1, .int h), (2, .int wh)] := hl
  have lk_24 := hts (.fieldLink RX3 24 "HeadBudgets$Heads" "allotment" "[I") (by decide +kernel)
  have lk_27 := hts (.fieldLink RX3 27 "HeadBudgets$Heads" "committed" "[I") (by decide +kernel)
  have lk_30 := hts (.fieldLink RX3 30 "HeadBudgets$Heads" "spent" "[I") (by decide +kernel)
  have hi_X3 : ∀ w ∈ wsX30, w ∈ wsX3_summand := by decide +kernel
  refine lv_aload_n hx hb dX3_summand_0 rfl (lv_at hl 0 rfl) ?_
  refine lv_iload_n hx hb dX3_summand_1 rfl (lv_at hl 1 rfl) ?_
  refine callB (As := [.int h]) (rest := []) ⟨hx, hb, hml, hown, hts⟩ (c_X3_has X h) (cwV 1 hts gX3_summand_X3_has rfl rfl rfl (by decide +kernel) ⟨Nat.le_of_ble_eq_true rfl, Nat.le_of_ble_eq_true rfl⟩) hK hN hP 1 g0_1 rfl rfl hl.1 rfl (Nat.le_of_ble_eq_true rfl) dX3_summand_2 ⟨Nat.zero_le _, Nat.zero_le _⟩ (fun c_2 => ?_) (fun c_2 => ?_)
  · refine lv_if_ne (tgt := 10) hx hb dX3_summand_5 (by decide) (fun _ => ?_) (fun h9 => absurd h9 (by decide))
    refine lv_iload_n hx hb dX3_summand_10 rfl (lv_at hl 2 rfl) ?_
    by_cases s_11_0 : wh = 0
    · refine lv_tableIn (off := 29) (tgt := 40) hx hb dX3_summand_11 (by rw [s_11_0]; decide) (by rw [s_11_0]; decide) (by rw [s_11_0]; rfl) (by decide) ?_
      refine lv_aload_n hx hb dX3_summand_40 rfl (lv_at hl 0 rfl) ?_
      refine xget (C := RX3) (T := TX3) (N := 11) (ci := 3) (w := .ref (ad 6)) hx hb hts hi_X3 hown hK hP 1 g0_1 rfl 4 (by decide) lk_24 rfl dX3_summand_41 ?_
      refine lv_iload_n hx hb dX3_summand_44 rfl (lv_at hl 1 rfl) ?_
      refine xald (x := qv (X 0) 3 h) hx hb hK hP 6 g0_6 (in20h c_2) rfl dX3_summand_45 ?_
      exact retE hx hb hr hlocks dX3_summand_46 (by first | rfl | (unfold p_smd; repeat (first | rw [ci_t c_2] | rw [ci_f c_2] | rw [ci_t s_11_0] | rw [ci_f s_11_0])))
    by_cases s_11_1 : wh = 1
    · refine lv_tableIn (off := 36) (tgt := 47) hx hb dX3_summand_11 (by rw [s_11_1]; decide) (by rw [s_11_1]; decide) (by rw [s_11_1]; rfl) (by decide) ?_
      refine lv_aload_n hx hb dX3_summand_47 rfl (lv_at hl 0 rfl) ?_
      refine xget (C := RX3) (T := TX3) (N := 11) (ci := 3) (w := .ref (ad 7)) hx hb hts hi_X3 hown hK hP 1 g0_1 rfl 5 (by decide) lk_27 rfl dX3_summand_48 ?_
      refine lv_iload_n hx hb dX3_summand_51 rfl (lv_at hl 1 rfl) ?_
      refine xald (x := qv (X 0) 4 h) hx hb hK hP 7 g0_7 (in20h c_2) rfl dX3_summand_52 ?_
      exact retE hx hb hr hlocks dX3_summand_53 (by first | rfl | (unfold p_smd; repeat (first | rw [ci_t c_2] | rw [ci_f c_2] | rw [ci_t s_11_1] | rw [ci_f s_11_1] | rw [ci_t s_11_0] | rw [ci_f s_11_0])))
    by_cases s_11_2 : wh = 2
    · refine lv_tableIn (off := 43) (tgt := 54) hx hb dX3_summand_11 (by rw [s_11_2]; decide) (by rw [s_11_2]; decide) (by rw [s_11_2]; rfl) (by decide) ?_
      refine lv_aload_n hx hb dX3_summand_54 rfl (lv_at hl 0 rfl) ?_
      refine xget (C := RX3) (T := TX3) (N := 11) (ci := 3) (w := .ref (ad 8)) hx hb hts hi_X3 hown hK hP 1 g0_1 rfl 6 (by decide) lk_30 rfl dX3_summand_55 ?_
      refine lv_iload_n hx hb dX3_summand_58 rfl (lv_at hl 1 rfl) ?_
      refine xald (x := qv (X 0) 5 h) hx hb hK hP 8 g0_8 (in20h c_2) rfl dX3_summand_59 ?_
      exact retE hx hb hr hlocks dX3_summand_60 (by first | rfl | (unfold p_smd; repeat (first | rw [ci_t c_2] | rw [ci_f c_2] | rw [ci_t s_11_2] | rw [ci_f s_11_2] | rw [ci_t s_11_0] | rw [ci_f s_11_0] | rw [ci_t s_11_1] | rw [ci_f s_11_1])))
    by_cases s_11_3 : wh = 3
    · refine lv_tableIn (off := 50) (tgt := 61) hx hb dX3_summand_11 (by rw [s_11_3]; decide) (by rw [s_11_3]; decide) (by rw [s_11_3]; rfl) (by decide) ?_
      refine lv_aload_n hx hb dX3_summand_61 rfl (lv_at hl 0 rfl) ?_
      refine lv_iload_n hx hb dX3_summand_62 rfl (lv_at hl 1 rfl) ?_
      refine callE (As := [.int h]) (rest := []) ⟨hx, hb, hml, hown, hts⟩ (c_X3_freeOf X h) (cwV 1 hts gX3_summand_X3_freeOf rfl rfl rfl (by decide +kernel) ⟨Nat.le_of_ble_eq_true rfl, Nat.le_of_ble_eq_true rfl⟩) hK hN hP 1 g0_1 rfl rfl hl.1 rfl (Nat.le_of_ble_eq_true rfl) dX3_summand_63 ⟨Nat.zero_le _, Nat.zero_le _⟩ ?_
      exact retE hx hb hr hlocks dX3_summand_66 (by first | rfl | (unfold p_smd; repeat (first | rw [ci_t c_2] | rw [ci_f c_2] | rw [ci_t s_11_3] | rw [ci_f s_11_3] | rw [ci_t s_11_0] | rw [ci_f s_11_0] | rw [ci_t s_11_1] | rw [ci_f s_11_1] | rw [ci_t s_11_2] | rw [ci_f s_11_2])))
    have h9 : (wh).toInt < 0 ∨ 3 < (wh).toInt := by
      have q_0 := lv_neT (a := 0) s_11_0 rfl
      have q_1 := lv_neT (a := 1) s_11_1 rfl
      have q_2 := lv_neT (a := 2) s_11_2 rfl
      have q_3 := lv_neT (a := 3) s_11_3 rfl
      omega
    refine lv_tableOut (tgt := 67) hx hb dX3_summand_11 h9 (by decide) ?_
    refine lv_iconst (v := 1) hx hb dX3_summand_67 (by decide) ?_
    exact retE hx hb hr hlocks dX3_summand_68 (by first | rfl | (unfold p_smd; repeat (first | rw [ci_t c_2] | rw [ci_f c_2] | rw [ci_t s_11_0] | rw [ci_f s_11_0] | rw [ci_t s_11_1] | rw [ci_f s_11_1] | rw [ci_t s_11_2] | rw [ci_f s_11_2] | rw [ci_t s_11_3] | rw [ci_f s_11_3])))
  · refine lv_if_ne (tgt := 10) hx hb dX3_summand_5 (by decide) (fun h9 => absurd (by decide) h9) (fun _ => ?_)
    refine lv_iconst (v := 0) hx hb dX3_summand_8 (by decide) ?_
    exact retE hx hb hr hlocks dX3_summand_9 (by first | rfl | (unfold p_smd; repeat (first | rw [ci_t c_2] | rw [ci_f c_2])))
set_option maxHeartbeats 4000000 in
set_option maxRecDepth 100000 in
theorem c_X3_sumWithin {l : Launch} {D : va_G} {cI cR : ClassId} {ad : Nat → Nat} (X : St) (t : Int32) (wh : Int32) : RoE l D cI cR (wC cI cR ad X) yX3_sumWithin wsX3_sumWithin ({ frames := 3, cells := 0, slots := 0, locals := 64 } : Room) [.ref (ad 1), .int t, .int wh] (p_sum (X 0) t wh 20) := by
  refine OfW (cc := cX3_sumWithin) (maxL := 5) (ret := (some .int)) (by decide +kernel) rfl (Nat.le_of_ble_eq_true rfl) (fun p e s m below meth c hx hb hr hts hown hlocks hml hnm hP hK hN ls hl => ?_)
  have hl : lv_has ls 5 [(0, .ref (ad 1)), (1, .int t), (2, .int wh)] := hl
  refine lv_iconst (v := 0) hx hb dX3_sumWithin_0 (by decide) ?_
  refine lv_istore_n (lv' := [(3, .int 0), (0, .ref (ad 1)), (1, .int t), (2, .int wh)]) hx hb dX3_sumWithin_1 rfl hl (by decide) rfl (fun ls hl => ?_)
  refine lv_iconst (v := 0) hx hb dX3_sumWithin_2 (by decide) ?_
  refine lv_istore (lv' := [(4, .int 0), (3, .int 0), (0, .ref (ad 1)), (1, .int t), (2, .int wh)]) hx hb dX3_sumWithin_3 hl (by decide) rfl (fun ls hl => ?_)
  have hloop_5 : ∀ (n_5 : Nat) (k : Nat) (xa xk : Int32), k ≤ 20 → 20 < k + n_5 → xk = nI k → xa = p_sum (X 0) t wh k → ∀ ls : Array Slot, lv_has ls 5 [(0, .ref (ad 1)), (1, .int t), (2, .int wh), (3, .int xa), (4, .int xk)] → W p l e ({ frames := 3, cells := 0, slots := 0, locals := 64 } : Room) s m ([.ref (ad 1), .int t, .int wh]).toArray below meth c s.heap [] 0 0 (MQ below (vp_Si (fun r => r = p_sum (X 0) t wh 20)) ([.ref (ad 1), .int t, .int wh]).toArray s 0 0 (fun _ => False)) (F0 m 5 ls []) := by
    intro n_5
    induction n_5 with
    | zero =>
      intro k xa xk hk hn ek ea ls hl
      exfalso; omega
    | succ n_5 ih_5 =>
      intro k xa xk hk hn ek ea ls hl
      refine lv_iload hx hb dX3_sumWithin_5 (lv_at hl 4 rfl) ?_
      refine lv_bipush (v := 20) hx hb dX3_sumWithin_7 (by decide) ?_
      refine lv_icmp_ge (tgt := 38) hx hb dX3_sumWithin_9 (by decide) (fun c_9 => ?_) (fun c_9 => ?_)
      · have hk2 : k = 20 := nI_ge20 hk (by rw [← ek]; exact c_9)
        subst hk2
        refine lv_iload_n hx hb dX3_sumWithin_38 rfl (lv_at hl 3 rfl) ?_
        exact retE hx hb hr hlocks dX3_sumWithin_39 ea
      · have hlt : k < 20 := nI_lt20 (by omega) (by rw [← ek]; exact c_9)
        refine lv_aload_n hx hb dX3_sumWithin_12 rfl (lv_at hl 0 rfl) ?_
        refine lv_iload hx hb dX3_sumWithin_13 (lv_at hl 4 rfl) ?_
        refine lv_iload_n hx hb dX3_sumWithin_15 rfl (lv_at hl 1 rfl) ?_
        refine callB (As := [.int xk, .int t]) (rest := []) ⟨hx, hb, hml, hown, hts⟩ (c_X3_isWithin X xk t) (cwV 2 hts gX3_sumWithin_X3_isWithin rfl rfl rfl (by decide +kernel) ⟨Nat.le_of_ble_eq_true rfl, Nat.le_of_ble_eq_true rfl⟩) hK hN hP 1 g0_1 rfl rfl hl.1 rfl (Nat.le_of_ble_eq_true rfl) dX3_sumWithin_16 ⟨Nat.zero_le _, Nat.zero_le _⟩ (fun c_16 => ?_) (fun c_16 => ?_)
        · refine lv_if_eq (tgt := 32) hx hb dX3_sumWithin_19 (by decide) (fun h9 => absurd h9 (by decide)) (fun _ => ?_)
          refine lv_iload_n hx hb dX3_sumWithin_22 rfl (lv_at hl 3 rfl) ?_
          refine lv_aload_n hx hb dX3_sumWithin_23 rfl (lv_at hl 0 rfl) ?_
          refine lv_iload hx hb dX3_sumWithin_24 (lv_at hl 4 rfl) ?_
          refine lv_iload_n hx hb dX3_sumWithin_26 rfl (lv_at hl 2 rfl) ?_
          refine callE (As := [.int xk, .int wh]) (rest := [.int xa]) ⟨hx, hb, hml, hown, hts⟩ (c_X3_summand X xk wh) (cwV 2 hts gX3_sumWithin_X3_summand rfl rfl rfl (by decide +kernel) ⟨Nat.le_of_ble_eq_true rfl, Nat.le_of_ble_eq_true rfl⟩) hK hN hP 1 g0_1 rfl rfl hl.1 rfl (Nat.le_of_ble_eq_true rfl) dX3_sumWithin_27 ⟨Nat.zero_le _, Nat.zero_le _⟩ ?_
          refine lv_iadd hx hb dX3_sumWithin_30 ?_
          refine lv_istore_n (lv' := [(3, .int (xa + (p_smd (X 0) xk wh))), (0, .ref (ad 1)), (1, .int t), (2, .int wh), (4, .int xk)]) hx hb dX3_sumWithin_31 rfl hl (by decide) rfl (fun ls hl => ?_)
          refine lv_iinc (v := xk + 1) (lv' := [(4, .int (xk + 1)), (3, .int (xa + (p_smd (X 0) xk wh))), (0, .ref (ad 1)), (1, .int t), (2, .int wh)]) hx hb dX3_sumWithin_32 hl (k := 4) rfl rfl (by decide) rfl (fun ls hl => ?_)
          refine lv_goto (tgt := 5) hx hb dX3_sumWithin_35 (by decide) ?_
          exact ih_5  (k + 1) _ _ (by omega) (by omega) (by rw [ek]; exact nI_1 k) (by rw [ea, ek]; exact (sumI_ci (by rw [← ek]; exact c_16) rfl).symm) _ (lv_sub hl [2, 3, 4, 1, 0] rfl)
        · refine lv_if_eq (tgt := 32) hx hb dX3_sumWithin_19 (by decide) (fun _ => ?_) (fun h9 => absurd (by decide) h9)
          refine lv_iinc (v := xk + 1) (lv' := [(4, .int (xk + 1)), (0, .ref (ad 1)), (1, .int t), (2, .int wh), (3, .int xa)]) hx hb dX3_sumWithin_32 hl (k := 4) rfl rfl (by decide) rfl (fun ls hl => ?_)
          refine lv_goto (tgt := 5) hx hb dX3_sumWithin_35 (by decide) ?_
          exact ih_5  (k + 1) _ _ (by omega) (by omega) (by rw [ek]; exact nI_1 k) (by rw [ea]; exact (sumI_c0 (by rw [← ek]; exact c_16) rfl).symm) _ (lv_sub hl [1, 2, 3, 4, 0] rfl)
  exact hloop_5  21 0 0 0 (by omega) (by omega) rfl rfl _ (lv_sub hl [2, 3, 4, 1, 0] rfl)
set_option maxHeartbeats 4000000 in
set_option maxRecDepth 100000 in
theorem c_X3_mayGive {l : Launch} {D : va_G} {cI cR : ClassId} {ad : Nat → Nat} (X : St) (h : Int32) (k : Int32) : RoB l D cI cR (wC cI cR ad X) yX3_mayGive wsX3_mayGive ({ frames := 2, cells := 0, slots := 0, locals := 45 } : Room) [.ref (ad 1), .int h, .int k] (p_may (X 0) h k) := by
  refine OfW (cc := cX3_mayGive) (maxL := 4) (ret := (some .boolean)) (by decide +kernel) rfl (Nat.le_of_ble_eq_true rfl) (fun p e s m below meth c hx hb hr hts hown hlocks hml hnm hP hK hN ls hl => ?_)
  have hl : lv_has ls 4 [(0, .ref (ad 1)), (1, .int h), (2, .int k)] := hl
  have lk_9 := hts (.fieldLink RX3 9 "HeadBudgets$Heads" "above" "[I") (by decide +kernel)
  have lk_18 := hts (.fieldLink RX3 18 "HeadBudgets$Heads" "rank" "[I") (by decide +kernel)
  have hi_X3 : ∀ w ∈ wsX30, w ∈ wsX3_mayGive := by decide +kernel
  refine lv_aload_n hx hb dX3_mayGive_0 rfl (lv_at hl 0 rfl) ?_
  refine lv_iload_n hx hb dX3_mayGive_1 rfl (lv_at hl 1 rfl) ?_
  refine lv_iload_n hx hb dX3_mayGive_2 rfl (lv_at hl 2 rfl) ?_
  refine callB (As := [.int h, .int k]) (rest := []) ⟨hx, hb, hml, hown, hts⟩ (c_X3_hasBoth X h k) (cwV 2 hts gX3_mayGive_X3_hasBoth rfl rfl rfl (by decide +kernel) ⟨Nat.le_of_ble_eq_true rfl, Nat.le_of_ble_eq_true rfl⟩) hK hN hP 1 g0_1 rfl rfl hl.1 rfl (Nat.le_of_ble_eq_true rfl) dX3_mayGive_3 ⟨Nat.zero_le _, Nat.zero_le _⟩ (fun c_3 => ?_) (fun c_3 => ?_)
  · have q1 := in20h c_3.1
    have q2 := in20h c_3.2.1
    refine lv_if_eq (tgt := 25) hx hb dX3_mayGive_6 (by decide) (fun h9 => absurd h9 (by decide)) (fun _ => ?_)
    refine lv_aload_n hx hb dX3_mayGive_9 rfl (lv_at hl 0 rfl) ?_
    refine lv_iload_n hx hb dX3_mayGive_10 rfl (lv_at hl 1 rfl) ?_
    refine callB (As := [.int h]) (rest := []) ⟨hx, hb, hml, hown, hts⟩ (c_X3_isBarred X h) (cwV 1 hts gX3_mayGive_X3_isBarred rfl rfl rfl (by decide +kernel) ⟨Nat.le_of_ble_eq_true rfl, Nat.le_of_ble_eq_true rfl⟩) hK hN hP 1 g0_1 rfl rfl hl.1 rfl (Nat.le_of_ble_eq_true rfl) dX3_mayGive_11 ⟨Nat.zero_le _, Nat.zero_le _⟩ (fun c_11 => ?_) (fun c_11 => ?_)
    · refine lv_if_ne (tgt := 25) hx hb dX3_mayGive_14 (by decide) (fun _ => ?_) (fun h9 => absurd h9 (by decide))
      refine lv_iconst (v := 0) hx hb dX3_mayGive_25 (by decide) ?_
      exact retB0 hx hb hr hlocks dX3_mayGive_26 (by first | exact fun q => c_3 ⟨q.1, q.2.1, q.2.2.1⟩ | exact fun q => q.2.2.2.1 c_11 | exact fun q => q.2.2.2.2.1 c_19 | exact fun q => q.2.2.2.2.2.elim c_30 (fun q => q.elim c_39 (fun q => q.elim c_57 (fun q => Int32.not_le.mpr c_82 q))))
    · refine lv_if_ne (tgt := 25) hx hb dX3_mayGive_14 (by decide) (fun h9 => absurd (by decide) h9) (fun _ => ?_)
      refine lv_aload_n hx hb dX3_mayGive_17 rfl (lv_at hl 0 rfl) ?_
      refine lv_iload_n hx hb dX3_mayGive_18 rfl (lv_at hl 2 rfl) ?_
      refine callB (As := [.int k]) (rest := []) ⟨hx, hb, hml, hown, hts⟩ (c_X3_isBarred X k) (cwV 1 hts gX3_mayGive_X3_isBarred rfl rfl rfl (by decide +kernel) ⟨Nat.le_of_ble_eq_true rfl, Nat.le_of_ble_eq_true rfl⟩) hK hN hP 1 g0_1 rfl rfl hl.1 rfl (Nat.le_of_ble_eq_true rfl) dX3_mayGive_19 ⟨Nat.zero_le _, Nat.zero_le _⟩ (fun c_19 => ?_) (fun c_19 => ?_)
      · refine lv_if_eq (tgt := 27) hx hb dX3_mayGive_22 (by decide) (fun h9 => absurd h9 (by decide)) (fun _ => ?_)
        refine lv_iconst (v := 0) hx hb dX3_mayGive_25 (by decide) ?_
        exact retB0 hx hb hr hlocks dX3_mayGive_26 (by first | exact fun q => c_3 ⟨q.1, q.2.1, q.2.2.1⟩ | exact fun q => q.2.2.2.1 c_11 | exact fun q => q.2.2.2.2.1 c_19 | exact fun q => q.2.2.2.2.2.elim c_30 (fun q => q.elim c_39 (fun q => q.elim c_57 (fun q => Int32.not_le.mpr c_82 q))))
      · refine lv_if_eq (tgt := 27) hx hb dX3_mayGive_22 (by decide) (fun _ => ?_) (fun h9 => absurd (by decide) h9)
        refine lv_aload_n hx hb dX3_mayGive_27 rfl (lv_at hl 0 rfl) ?_
        refine lv_iload_n hx hb dX3_mayGive_28 rfl (lv_at hl 1 rfl) ?_
        refine lv_iload_n hx hb dX3_mayGive_29 rfl (lv_at hl 2 rfl) ?_
        refine callB (As := [.int h, .int k]) (rest := []) ⟨hx, hb, hml, hown, hts⟩ (c_X3_isWithin X h k) (cwV 2 hts gX3_mayGive_X3_isWithin rfl rfl rfl (by decide +kernel) ⟨Nat.le_of_ble_eq_true rfl, Nat.le_of_ble_eq_true rfl⟩) hK hN hP 1 g0_1 rfl rfl hl.1 rfl (Nat.le_of_ble_eq_true rfl) dX3_mayGive_30 ⟨Nat.zero_le _, Nat.zero_le _⟩ (fun c_30 => ?_) (fun c_30 => ?_)
        · refine lv_if_ne (tgt := 60) hx hb dX3_mayGive_33 (by decide) (fun _ => ?_) (fun h9 => absurd h9 (by decide))
          refine lv_iconst (v := 1) hx hb dX3_mayGive_60 (by decide) ?_
          refine lv_goto (tgt := 65) hx hb dX3_mayGive_61 (by decide) ?_
          refine lv_istore_n (lv' := [(3, .int 1), (0, .ref (ad 1)), (1, .int h), (2, .int k)]) hx hb dX3_mayGive_65 rfl hl (by decide) rfl (fun ls hl => ?_)
          refine lv_iload_n hx hb dX3_mayGive_66 rfl (lv_at hl 0 rfl) ?_
          refine lv_if_ne (tgt := 85) hx hb dX3_mayGive_67 (by decide) (fun _ => ?_) (fun h9 => absurd h9 (by decide))
          refine lv_iconst (v := 1) hx hb dX3_mayGive_85 (by decide) ?_
          refine lv_goto (tgt := 90) hx hb dX3_mayGive_86 (by decide) ?_
          exact retB1 hx hb hr hlocks dX3_mayGive_90 (by first | exact ⟨c_3.1, c_3.2.1, c_3.2.2, c_11, c_19, Or.inl c_30⟩ | exact ⟨c_3.1, c_3.2.1, c_3.2.2, c_11, c_19, Or.inr (Or.inl c_39)⟩ | exact ⟨c_3.1, c_3.2.1, c_3.2.2, c_11, c_19, Or.inr (Or.inr (Or.inl c_57))⟩ | exact ⟨c_3.1, c_3.2.1, c_3.2.2, c_11, c_19, Or.inr (Or.inr (Or.inr (Int32.not_lt.mp c_82)))⟩)
        · refine lv_if_ne (tgt := 60) hx hb dX3_mayGive_33 (by decide) (fun h9 => absurd (by decide) h9) (fun _ => ?_)
          refine lv_aload_n hx hb dX3_mayGive_36 rfl (lv_at hl 0 rfl) ?_
          refine lv_iload_n hx hb dX3_mayGive_37 rfl (lv_at hl 2 rfl) ?_
          refine lv_iload_n hx hb dX3_mayGive_38 rfl (lv_at hl 1 rfl) ?_
          refine callB (As := [.int k, .int h]) (rest := []) ⟨hx, hb, hml, hown, hts⟩ (c_X3_isWithin X k h) (cwV 2 hts gX3_mayGive_X3_isWithin rfl rfl rfl (by decide +kernel) ⟨Nat.le_of_ble_eq_true rfl, Nat.le_of_ble_eq_true rfl⟩) hK hN hP 1 g0_1 rfl rfl hl.1 rfl (Nat.le_of_ble_eq_true rfl) dX3_mayGive_39 ⟨Nat.zero_le _, Nat.zero_le _⟩ (fun c_39 => ?_) (fun c_39 => ?_)
          · refine lv_if_ne (tgt := 60) hx hb dX3_mayGive_42 (by decide) (fun _ => ?_) (fun h9 => absurd h9 (by decide))
            refine lv_iconst (v := 1) hx hb dX3_mayGive_60 (by decide) ?_
            refine lv_goto (tgt := 65) hx hb dX3_mayGive_61 (by decide) ?_
            refine lv_istore_n (lv' := [(3, .int 1), (0, .ref (ad 1)), (1, .int h), (2, .int k)]) hx hb dX3_mayGive_65 rfl hl (by decide) rfl (fun ls hl => ?_)
            refine lv_iload_n hx hb dX3_mayGive_66 rfl (lv_at hl 0 rfl) ?_
            refine lv_if_ne (tgt := 85) hx hb dX3_mayGive_67 (by decide) (fun _ => ?_) (fun h9 => absurd h9 (by decide))
            refine lv_iconst (v := 1) hx hb dX3_mayGive_85 (by decide) ?_
            refine lv_goto (tgt := 90) hx hb dX3_mayGive_86 (by decide) ?_
            exact retB1 hx hb hr hlocks dX3_mayGive_90 (by first | exact ⟨c_3.1, c_3.2.1, c_3.2.2, c_11, c_19, Or.inl c_30⟩ | exact ⟨c_3.1, c_3.2.1, c_3.2.2, c_11, c_19, Or.inr (Or.inl c_39)⟩ | exact ⟨c_3.1, c_3.2.1, c_3.2.2, c_11, c_19, Or.inr (Or.inr (Or.inl c_57))⟩ | exact ⟨c_3.1, c_3.2.1, c_3.2.2, c_11, c_19, Or.inr (Or.inr (Or.inr (Int32.not_lt.mp c_82)))⟩)
          · refine lv_if_ne (tgt := 60) hx hb dX3_mayGive_42 (by decide) (fun h9 => absurd (by decide) h9) (fun _ => ?_)
            refine lv_aload_n hx hb dX3_mayGive_45 rfl (lv_at hl 0 rfl) ?_
            refine xget (C := RX3) (T := TX3) (N := 11) (ci := 3) (w := .ref (ad 2)) hx hb hts hi_X3 hown hK hP 1 g0_1 rfl 0 (by decide) lk_9 rfl dX3_mayGive_46 ?_
            refine lv_iload_n hx hb dX3_mayGive_49 rfl (lv_at hl 1 rfl) ?_
            refine xald (x := qv (X 0) 0 h) hx hb hK hP 2 g0_2 (by assumption) rfl dX3_mayGive_50 ?_
            refine lv_aload_n hx hb dX3_mayGive_51 rfl (lv_at hl 0 rfl) ?_
            refine xget (C := RX3) (T := TX3) (N := 11) (ci := 3) (w := .ref (ad 2)) hx hb hts hi_X3 hown hK hP 1 g0_1 rfl 0 (by decide) lk_9 rfl dX3_mayGive_52 ?_
            refine lv_iload_n hx hb dX3_mayGive_55 rfl (lv_at hl 2 rfl) ?_
            refine xald (x := qv (X 0) 0 k) hx hb hK hP 2 g0_2 (by assumption) rfl dX3_mayGive_56 ?_
            refine lv_icmp_ne (tgt := 64) hx hb dX3_mayGive_57 (by decide) (fun c_57 => ?_) (fun c_57 => ?_)
            · refine lv_iconst (v := 0) hx hb dX3_mayGive_64 (by decide) ?_
              refine lv_istore_n (lv' := [(3, .int 0), (0, .ref (ad 1)), (1, .int h), (2, .int k)]) hx hb dX3_mayGive_65 rfl hl (by decide) rfl (fun ls hl => ?_)
              refine lv_iload_n hx hb dX3_mayGive_66 rfl (lv_at hl 0 rfl) ?_
              refine lv_if_ne (tgt := 85) hx hb dX3_mayGive_67 (by decide) (fun h9 => absurd (by decide) h9) (fun _ => ?_)
              refine lv_aload_n hx hb dX3_mayGive_70 rfl (lv_at hl 1 rfl) ?_
              refine xget (C := RX3) (T := TX3) (N := 11) (ci := 3) (w := .ref (ad 4)) hx hb hts hi_X3 hown hK hP 1 g0_1 rfl 2 (by decide) lk_18 rfl dX3_mayGive_71 ?_
              refine lv_iload_n hx hb dX3_mayGive_74 rfl (lv_at hl 2 rfl) ?_
              refine xald (x := qv (X 0) 1 h) hx hb hK hP 4 g0_4 (by assumption) rfl dX3_mayGive_75 ?_
              refine lv_aload_n hx hb dX3_mayGive_76 rfl (lv_at hl 1 rfl) ?_
              refine xget (C := RX3) (T := TX3) (N := 11) (ci := 3) (w := .ref (ad 4)) hx hb hts hi_X3 hown hK hP 1 g0_1 rfl 2 (by decide) lk_18 rfl dX3_mayGive_77 ?_
              refine lv_iload_n hx hb dX3_mayGive_80 rfl (lv_at hl 3 rfl) ?_
              refine xald (x := qv (X 0) 1 k) hx hb hK hP 4 g0_4 (by assumption) rfl dX3_mayGive_81 ?_
              refine lv_icmp_gt (tgt := 89) hx hb dX3_mayGive_82 (by decide) (fun c_82 => ?_) (fun c_82 => ?_)
              · refine lv_iconst (v := 0) hx hb dX3_mayGive_89 (by decide) ?_
                exact retB0 hx hb hr hlocks dX3_mayGive_90 (by first | exact fun q => c_3 ⟨q.1, q.2.1, q.2.2.1⟩ | exact fun q => q.2.2.2.1 c_11 | exact fun q => q.2.2.2.2.1 c_19 | exact fun q => q.2.2.2.2.2.elim c_30 (fun q => q.elim c_39 (fun q => q.elim c_57 (fun q => Int32.not_le.mpr c_82 q))))
              · refine lv_iconst (v := 1) hx hb dX3_mayGive_85 (by decide) ?_
                refine lv_goto (tgt := 90) hx hb dX3_mayGive_86 (by decide) ?_
                exact retB1 hx hb hr hlocks dX3_mayGive_90 (by first | exact ⟨c_3.1, c_3.2.1, c_3.2.2, c_11, c_19, Or.inl c_30⟩ | exact ⟨c_3.1, c_3.2.1, c_3.2.2, c_11, c_19, Or.inr (Or.inl c_39)⟩ | exact ⟨c_3.1, c_3.2.1, c_3.2.2, c_11, c_19, Or.inr (Or.inr (Or.inl c_57))⟩ | exact ⟨c_3.1, c_3.2.1, c_3.2.2, c_11, c_19, Or.inr (Or.inr (Or.inr (Int32.not_lt.mp c_82)))⟩)
            · refine lv_iconst (v := 1) hx hb dX3_mayGive_60 (by decide) ?_
              refine lv_goto (tgt := 65) hx hb dX3_mayGive_61 (by decide) ?_
              refine lv_istore_n (lv' := [(3, .int 1), (0, .ref (ad 1)), (1, .int h), (2, .int k)]) hx hb dX3_mayGive_65 rfl hl (by decide) rfl (fun ls hl => ?_)
              refine lv_iload_n hx hb dX3_mayGive_66 rfl (lv_at hl 0 rfl) ?_
              refine lv_if_ne (tgt := 85) hx hb dX3_mayGive_67 (by decide) (fun _ => ?_) (fun h9 => absurd h9 (by decide))
              refine lv_iconst (v := 1) hx hb dX3_mayGive_85 (by decide) ?_
              refine lv_goto (tgt := 90) hx hb dX3_mayGive_86 (by decide) ?_
              exact retB1 hx hb hr hlocks dX3_mayGive_90 (by first | exact ⟨c_3.1, c_3.2.1, c_3.2.2, c_11, c_19, Or.inl c_30⟩ | exact ⟨c_3.1, c_3.2.1, c_3.2.2, c_11, c_19, Or.inr (Or.inl c_39)⟩ | exact ⟨c_3.1, c_3.2.1, c_3.2.2, c_11, c_19, Or.inr (Or.inr (Or.inl c_57))⟩ | exact ⟨c_3.1, c_3.2.1, c_3.2.2, c_11, c_19, Or.inr (Or.inr (Or.inr (Int32.not_lt.mp c_82)))⟩)
  · refine lv_if_eq (tgt := 25) hx hb dX3_mayGive_6 (by decide) (fun _ => ?_) (fun h9 => absurd (by decide) h9)
    refine lv_iconst (v := 0) hx hb dX3_mayGive_25 (by decide) ?_
    exact retB0 hx hb hr hlocks dX3_mayGive_26 (by first | exact fun q => c_3 ⟨q.1, q.2.1, q.2.2.1⟩ | exact fun q => q.2.2.2.1 c_11 | exact fun q => q.2.2.2.2.1 c_19 | exact fun q => q.2.2.2.2.2.elim c_30 (fun q => q.elim c_39 (fun q => q.elim c_57 (fun q => Int32.not_le.mpr c_82 q))))
set_option maxHeartbeats 4000000 in
set_option maxRecDepth 100000 in
theorem c_X3_movable {l : Launch} {D : va_G} {cI cR : ClassId} {ad : Nat → Nat} (X : St) (h : Int32) (k : Int32) : RoE l D cI cR (wC cI cR ad X) yX3_movable wsX3_movable ({ frames := 3, cells := 0, slots := 0, locals := 68 } : Room) [.ref (ad 1), .int h, .int k] (p_mov (X 0) h k) := by
  refine OfW (cc := cX3_movable) (maxL := 5) (ret := (some .int)) (by decide +kernel) rfl (Nat.le_of_ble_eq_true rfl) (fun p e s m below meth c hx hb hr hts hown hlocks hml hnm hP hK hN ls hl => ?_)
  have hl : lv_has ls 5 [(0, .ref (ad 1)), (1, .int h), (2, .int k)] := hl
  have lk_33 := hts (.fieldLink RX3 33 "HeadBudgets$Heads" "allotted" "[I") (by decide +kernel)
  have lk_39 := hts (.fieldLink RX3 39 "HeadBudgets$Heads" "share" "[I") (by decide +kernel)
  have lk_36 := hts (.fieldLink RX3 36 "HeadBudgets$Heads" "left" "[I") (by decide +kernel)
  have hi_X3 : ∀ w ∈ wsX30, w ∈ wsX3_movable := by decide +kernel
  refine lv_aload_n hx hb dX3_movable_0 rfl (lv_at hl 0 rfl) ?_
  refine lv_iload_n hx hb dX3_movable_1 rfl (lv_at hl 1 rfl) ?_
  refine lv_iload_n hx hb dX3_movable_2 rfl (lv_at hl 2 rfl) ?_
  refine callB (As := [.int h, .int k]) (rest := []) ⟨hx, hb, hml, hown, hts⟩ (c_X3_hasBoth X h k) (cwV 2 hts gX3_movable_X3_hasBoth rfl rfl rfl (by decide +kernel) ⟨Nat.le_of_ble_eq_true rfl, Nat.le_of_ble_eq_true rfl⟩) hK hN hP 1 g0_1 rfl rfl hl.1 rfl (Nat.le_of_ble_eq_true rfl) dX3_movable_3 ⟨Nat.zero_le _, Nat.zero_le _⟩ (fun c_3 => ?_) (fun c_3 => ?_)
  · refine lv_if_eq (tgt := 18) hx hb dX3_movable_6 (by decide) (fun h9 => absurd h9 (by decide)) (fun _ => ?_)
    refine lv_aload_n hx hb dX3_movable_9 rfl (lv_at hl 0 rfl) ?_
    refine lv_iload_n hx hb dX3_movable_10 rfl (lv_at hl 1 rfl) ?_
    refine lv_iload_n hx hb dX3_movable_11 rfl (lv_at hl 2 rfl) ?_
    refine callB (As := [.int h, .int k]) (rest := []) ⟨hx, hb, hml, hown, hts⟩ (c_X3_mayGive X h k) (cwV 2 hts gX3_movable_X3_mayGive rfl rfl rfl (by decide +kernel) ⟨Nat.le_of_ble_eq_true rfl, Nat.le_of_ble_eq_true rfl⟩) hK hN hP 1 g0_1 rfl rfl hl.1 rfl (Nat.le_of_ble_eq_true rfl) dX3_movable_12 ⟨Nat.zero_le _, Nat.zero_le _⟩ (fun c_12 => ?_) (fun c_12 => ?_)
    · have q1 := in20h c_3.1
      refine lv_if_ne (tgt := 20) hx hb dX3_movable_15 (by decide) (fun _ => ?_) (fun h9 => absurd h9 (by decide))
      refine lv_aload_n hx hb dX3_movable_20 rfl (lv_at hl 0 rfl) ?_
      refine xget (C := RX3) (T := TX3) (N := 11) (ci := 3) (w := .ref (ad 9)) hx hb hts hi_X3 hown hK hP 1 g0_1 rfl 7 (by decide) lk_33 rfl dX3_movable_21 ?_
      refine lv_iload_n hx hb dX3_movable_24 rfl (lv_at hl 1 rfl) ?_
      refine xald (x := qv (X 0) 6 h) hx hb hK hP 9 g0_9 q1 rfl dX3_movable_25 ?_
      refine lv_aload_n hx hb dX3_movable_26 rfl (lv_at hl 0 rfl) ?_
      refine xget (C := RX3) (T := TX3) (N := 11) (ci := 3) (w := .ref (ad 11)) hx hb hts hi_X3 hown hK hP 1 g0_1 rfl 9 (by decide) lk_39 rfl dX3_movable_27 ?_
      refine lv_iload_n hx hb dX3_movable_30 rfl (lv_at hl 1 rfl) ?_
      refine xald (x := qv (X 0) 8 h) hx hb hK hP 11 g0_11 q1 rfl dX3_movable_31 ?_
      refine callNE (As := [.int (qv (X 0) 6 h), .int (qv (X 0) 8 h)]) (rest := []) ⟨hx, hb, hml, hown, hts⟩ (c_X5_partOf (qv (X 0) 6 h) (qv (X 0) 8 h)) ⟨va_cnB 2 hts gX3_movable_X5_partOf_n77 rfl rfl rfl hN.2.2.2.2.2 (hts (.initialized RX5) (by decide +kernel)) (by decide +kernel) ⟨Nat.le_of_ble_eq_true rfl, Nat.le_of_ble_eq_true rfl⟩, hts (.static yX5_partOf) (by decide +kernel), trivial⟩ hK hN rfl hl.1 rfl (Nat.le_of_ble_eq_true rfl) dX3_movable_32 ⟨Nat.zero_le _, Nat.zero_le _⟩ ?_
      refine lv_aload_n hx hb dX3_movable_35 rfl (lv_at hl 0 rfl) ?_
      refine xget (C := RX3) (T := TX3) (N := 11) (ci := 3) (w := .ref (ad 10)) hx hb hts hi_X3 hown hK hP 1 g0_1 rfl 8 (by decide) lk_36 rfl dX3_movable_36 ?_
      refine lv_iload_n hx hb dX3_movable_39 rfl (lv_at hl 1 rfl) ?_
      refine xald (x := qv (X 0) 7 h) hx hb hK hP 10 g0_10 q1 rfl dX3_movable_40 ?_
      refine lv_isub hx hb dX3_movable_41 ?_
      refine lv_istore_n (lv' := [(3, .int ((p_part (qv (X 0) 6 h) (qv (X 0) 8 h)) - (qv (X 0) 7 h))), (0, .ref (ad 1)), (1, .int h), (2, .int k)]) hx hb dX3_movable_42 rfl hl (by decide) rfl (fun ls hl => ?_)
      refine lv_ldc (v := 100000) hx hb hown (hts (.constant RX3 80 100000) (by decide +kernel)) dX3_movable_43 ?_
      refine lv_aload_n hx hb dX3_movable_45 rfl (lv_at hl 1 rfl) ?_
      refine lv_iload_n hx hb dX3_movable_46 rfl (lv_at hl 2 rfl) ?_
      refine callE (As := [.int h]) (rest := [.int 100000]) ⟨hx, hb, hml, hown, hts⟩ (c_X3_freeOf X h) (cwV 1 hts gX3_movable_X3_freeOf rfl rfl rfl (by decide +kernel) ⟨Nat.le_of_ble_eq_true rfl, Nat.le_of_ble_eq_true rfl⟩) hK hN hP 1 g0_1 rfl rfl hl.1 rfl (Nat.le_of_ble_eq_true rfl) dX3_movable_47 ⟨Nat.zero_le _, Nat.zero_le _⟩ ?_
      refine lv_iload_n hx hb dX3_movable_50 rfl (lv_at hl 0 rfl) ?_
      refine va_mmin hx hb (by rw [hml]; exact hl.1.symm) hown (hts (.methodLink RX3 81 Lib.Math.min.name) (by decide +kernel)) (hts (.static Lib.Math.min.name) (by decide +kernel)) (hts (.initialized "java/lang/Math") (by decide +kernel)) (hts (.code Lib.Math.min.name Lib.Math.min.code 2 (some .int)) (by decide +kernel)) (Nat.le_of_ble_eq_true rfl) (Nat.le_of_ble_eq_true rfl) (Nat.zero_le _) (Nat.zero_le _) dX3_movable_51 ?_
      refine va_mmin hx hb (by rw [hml]; exact hl.1.symm) hown (hts (.methodLink RX3 81 Lib.Math.min.name) (by decide +kernel)) (hts (.static Lib.Math.min.name) (by decide +kernel)) (hts (.initialized "java/lang/Math") (by decide +kernel)) (hts (.code Lib.Math.min.name Lib.Math.min.code 2 (some .int)) (by decide +kernel)) (Nat.le_of_ble_eq_true rfl) (Nat.le_of_ble_eq_true rfl) (Nat.zero_le _) (Nat.zero_le _) dX3_movable_54 ?_
      refine lv_istore (lv' := [(4, .int (if (if ((p_part (qv (X 0) 6 h) (qv (X 0) 8 h)) - (qv (X 0) 7 h)) < (p_free (X 0) h) then ((p_part (qv (X 0) 6 h) (qv (X 0) 8 h)) - (qv (X 0) 7 h)) else (p_free (X 0) h)) < 100000 then (if ((p_part (qv (X 0) 6 h) (qv (X 0) 8 h)) - (qv (X 0) 7 h)) < (p_free (X 0) h) then ((p_part (qv (X 0) 6 h) (qv (X 0) 8 h)) - (qv (X 0) 7 h)) else (p_free (X 0) h)) else 100000)), (3, .int ((p_part (qv (X 0) 6 h) (qv (X 0) 8 h)) - (qv (X 0) 7 h))), (0, .ref (ad 1)), (1, .int h), (2, .int k)]) hx hb dX3_movable_57 hl (by decide) rfl (fun ls hl => ?_)
      refine lv_iconst (v := 0) hx hb dX3_movable_59 (by decide) ?_
      refine lv_iload hx hb dX3_movable_60 (lv_at hl 0 rfl) ?_
      refine va_mmax hx hb (by rw [hml]; exact hl.1.symm) hown (hts (.methodLink RX3 86 Lib.Math.max.name) (by decide +kernel)) (hts (.static Lib.Math.max.name) (by decide +kernel)) (hts (.initialized "java/lang/Math") (by decide +kernel)) (hts (.code Lib.Math.max.name Lib.Math.max.code 2 (some .int)) (by decide +kernel)) (Nat.le_of_ble_eq_true rfl) (Nat.le_of_ble_eq_true rfl) (Nat.zero_le _) (Nat.zero_le _) dX3_movable_62 ?_
      exact retE hx hb hr hlocks dX3_movable_65 (ci_t c_12).symm
    · refine lv_if_ne (tgt := 20) hx hb dX3_movable_15 (by decide) (fun h9 => absurd (by decide) h9) (fun _ => ?_)
      refine lv_iconst (v := 0) hx hb dX3_movable_18 (by decide) ?_
      exact retE hx hb hr hlocks dX3_movable_19 (ci_f c_12).symm
  · refine lv_if_eq (tgt := 18) hx hb dX3_movable_6 (by decide) (fun _ => ?_) (fun h9 => absurd (by decide) h9)
    refine lv_iconst (v := 0) hx hb dX3_movable_18 (by decide) ?_
    exact retE hx hb hr hlocks dX3_movable_19 (ci_f (fun q => c_3 ⟨q.1, q.2.1, q.2.2.1⟩)).symm
set_option maxHeartbeats 4000000 in
set_option maxRecDepth 100000 in
theorem c_X3_isRicher {l : Launch} {D : va_G} {cI cR : ClassId} {ad : Nat → Nat} (X : St) (h : Int32) (k : Int32) : RoB l D cI cR (wC cI cR ad X) yX3_isRicher wsX3_isRicher ({ frames := 2, cells := 0, slots := 0, locals := 43 } : Room) [.ref (ad 1), .int h, .int k] (p_rich (X 0) h k) := by
  refine OfW (cc := cX3_isRicher) (maxL := 3) (ret := (some .boolean)) (by decide +kernel) rfl (Nat.le_of_ble_eq_true rfl) (fun p e s m below meth c hx hb hr hts hown hlocks hml hnm hP hK hN ls hl => ?_)
  have hl : lv_has ls 3 [(0, .ref (ad 1)), (1, .int h), (2, .int k)] := hl
  have lk_18 := hts (.fieldLink RX3 18 "HeadBudgets$Heads" "rank" "[I") (by decide +kernel)
  have hi_X3 : ∀ w ∈ wsX30, w ∈ wsX3_isRicher := by decide +kernel
  refine lv_aload_n hx hb dX3_isRicher_0 rfl (lv_at hl 0 rfl) ?_
  refine lv_iload_n hx hb dX3_isRicher_1 rfl (lv_at hl 1 rfl) ?_
  refine lv_iload_n hx hb dX3_isRicher_2 rfl (lv_at hl 2 rfl) ?_
  refine callB (As := [.int h, .int k]) (rest := []) ⟨hx, hb, hml, hown, hts⟩ (c_X3_hasBoth X h k) (cwV 2 hts gX3_isRicher_X3_hasBoth rfl rfl rfl (by decide +kernel) ⟨Nat.le_of_ble_eq_true rfl, Nat.le_of_ble_eq_true rfl⟩) hK hN hP 1 g0_1 rfl rfl hl.1 rfl (Nat.le_of_ble_eq_true rfl) dX3_isRicher_3 ⟨Nat.zero_le _, Nat.zero_le _⟩ (fun c_3 => ?_) (fun c_3 => ?_)
  · have q1 := in20h c_3.1
    have q2 := in20h c_3.2.1
    refine lv_if_ne (tgt := 11) hx hb dX3_isRicher_6 (by decide) (fun _ => ?_) (fun h9 => absurd h9 (by decide))
    refine lv_aload_n hx hb dX3_isRicher_11 rfl (lv_at hl 0 rfl) ?_
    refine lv_iload_n hx hb dX3_isRicher_12 rfl (lv_at hl 1 rfl) ?_
    refine callE (As := [.int h]) (rest := []) ⟨hx, hb, hml, hown, hts⟩ (c_X3_freeOf X h) (cwV 1 hts gX3_isRicher_X3_freeOf rfl rfl rfl (by decide +kernel) ⟨Nat.le_of_ble_eq_true rfl, Nat.le_of_ble_eq_true rfl⟩) hK hN hP 1 g0_1 rfl rfl hl.1 rfl (Nat.le_of_ble_eq_true rfl) dX3_isRicher_13 ⟨Nat.zero_le _, Nat.zero_le _⟩ ?_
    refine lv_aload_n hx hb dX3_isRicher_16 rfl (lv_at hl 0 rfl) ?_
    refine lv_iload_n hx hb dX3_isRicher_17 rfl (lv_at hl 2 rfl) ?_
    refine callE (As := [.int k]) (rest := [.int (p_free (X 0) h)]) ⟨hx, hb, hml, hown, hts⟩ (c_X3_freeOf X k) (cwV 1 hts gX3_isRicher_X3_freeOf rfl rfl rfl (by decide +kernel) ⟨Nat.le_of_ble_eq_true rfl, Nat.le_of_ble_eq_true rfl⟩) hK hN hP 1 g0_1 rfl rfl hl.1 rfl (Nat.le_of_ble_eq_true rfl) dX3_isRicher_18 ⟨Nat.zero_le _, Nat.zero_le _⟩ ?_
    refine lv_icmp_eq (tgt := 43) hx hb dX3_isRicher_21 (by decide) (fun c_21 => ?_) (fun c_21 => ?_)
    · refine lv_aload_n hx hb dX3_isRicher_43 rfl (lv_at hl 0 rfl) ?_
      refine xget (C := RX3) (T := TX3) (N := 11) (ci := 3) (w := .ref (ad 4)) hx hb hts hi_X3 hown hK hP 1 g0_1 rfl 2 (by decide) lk_18 rfl dX3_isRicher_44 ?_
      refine lv_iload_n hx hb dX3_isRicher_47 rfl (lv_at hl 1 rfl) ?_
      refine xald (x := qv (X 0) 1 h) hx hb hK hP 4 g0_4 (by assumption) rfl dX3_isRicher_48 ?_
      refine lv_aload_n hx hb dX3_isRicher_49 rfl (lv_at hl 0 rfl) ?_
      refine xget (C := RX3) (T := TX3) (N := 11) (ci := 3) (w := .ref (ad 4)) hx hb hts hi_X3 hown hK hP 1 g0_1 rfl 2 (by decide) lk_18 rfl dX3_isRicher_50 ?_
      refine lv_iload_n hx hb dX3_isRicher_53 rfl (lv_at hl 2 rfl) ?_
      refine xald (x := qv (X 0) 1 k) hx hb hK hP 4 g0_4 (by assumption) rfl dX3_isRicher_54 ?_
      refine lv_icmp_eq (tgt := 79) hx hb dX3_isRicher_55 (by decide) (fun c_55 => ?_) (fun c_55 => ?_)
      · refine lv_iload_n hx hb dX3_isRicher_79 rfl (lv_at hl 1 rfl) ?_
        refine lv_iload_n hx hb dX3_isRicher_80 rfl (lv_at hl 2 rfl) ?_
        refine lv_icmp_ge (tgt := 88) hx hb dX3_isRicher_81 (by decide) (fun c_81 => ?_) (fun c_81 => ?_)
        · refine lv_iconst (v := 0) hx hb dX3_isRicher_88 (by decide) ?_
          exact retB0 hx hb hr hlocks dX3_isRicher_89 (by first | exact fun q => c_3 ⟨q.1, q.2.1, q.2.2.1⟩ | exact fun q => q.2.2.2.elim (fun z => Int32.not_le.mpr z c_34) (fun z => c_21 z.1) | exact fun q => q.2.2.2.elim (fun z => Int32.lt_irrefl (by rw [c_21] at z; exact z)) (fun z => z.2.elim (fun z => Int32.not_le.mpr z c_70) (fun z => c_55 z.1)) | exact fun q => q.2.2.2.elim (fun z => Int32.lt_irrefl (by rw [c_21] at z; exact z)) (fun z => z.2.elim (fun z => Int32.lt_irrefl (by rw [c_55] at z; exact z)) (fun z => Int32.not_le.mpr z.2 c_81)))
        · refine lv_iconst (v := 1) hx hb dX3_isRicher_84 (by decide) ?_
          refine lv_goto (tgt := 89) hx hb dX3_isRicher_85 (by decide) ?_
          exact retB1 hx hb hr hlocks dX3_isRicher_89 (by first | exact ⟨c_3.1, c_3.2.1, c_3.2.2, Or.inl (Int32.not_le.mp c_34)⟩ | exact ⟨c_3.1, c_3.2.1, c_3.2.2, Or.inr ⟨c_21, Or.inl (Int32.not_le.mp c_70)⟩⟩ | exact ⟨c_3.1, c_3.2.1, c_3.2.2, Or.inr ⟨c_21, Or.inr ⟨c_55, Int32.not_le.mp c_81⟩⟩⟩)
      · refine lv_aload_n hx hb dX3_isRicher_58 rfl (lv_at hl 0 rfl) ?_
        refine xget (C := RX3) (T := TX3) (N := 11) (ci := 3) (w := .ref (ad 4)) hx hb hts hi_X3 hown hK hP 1 g0_1 rfl 2 (by decide) lk_18 rfl dX3_isRicher_59 ?_
        refine lv_iload_n hx hb dX3_isRicher_62 rfl (lv_at hl 1 rfl) ?_
        refine xald (x := qv (X 0) 1 h) hx hb hK hP 4 g0_4 (by assumption) rfl dX3_isRicher_63 ?_
        refine lv_aload_n hx hb dX3_isRicher_64 rfl (lv_at hl 0 rfl) ?_
        refine xget (C := RX3) (T := TX3) (N := 11) (ci := 3) (w := .ref (ad 4)) hx hb hts hi_X3 hown hK hP 1 g0_1 rfl 2 (by decide) lk_18 rfl dX3_isRicher_65 ?_
        refine lv_iload_n hx hb dX3_isRicher_68 rfl (lv_at hl 2 rfl) ?_
        refine xald (x := qv (X 0) 1 k) hx hb hK hP 4 g0_4 (by assumption) rfl dX3_isRicher_69 ?_
        refine lv_icmp_le (tgt := 77) hx hb dX3_isRicher_70 (by decide) (fun c_70 => ?_) (fun c_70 => ?_)
        · refine lv_iconst (v := 0) hx hb dX3_isRicher_77 (by decide) ?_
          exact retB0 hx hb hr hlocks dX3_isRicher_78 (by first | exact fun q => c_3 ⟨q.1, q.2.1, q.2.2.1⟩ | exact fun q => q.2.2.2.elim (fun z => Int32.not_le.mpr z c_34) (fun z => c_21 z.1) | exact fun q => q.2.2.2.elim (fun z => Int32.lt_irrefl (by rw [c_21] at z; exact z)) (fun z => z.2.elim (fun z => Int32.not_le.mpr z c_70) (fun z => c_55 z.1)) | exact fun q => q.2.2.2.elim (fun z => Int32.lt_irrefl (by rw [c_21] at z; exact z)) (fun z => z.2.elim (fun z => Int32.lt_irrefl (by rw [c_55] at z; exact z)) (fun z => Int32.not_le.mpr z.2 c_81)))
        · refine lv_iconst (v := 1) hx hb dX3_isRicher_73 (by decide) ?_
          refine lv_goto (tgt := 78) hx hb dX3_isRicher_74 (by decide) ?_
          exact retB1 hx hb hr hlocks dX3_isRicher_78 (by first | exact ⟨c_3.1, c_3.2.1, c_3.2.2, Or.inl (Int32.not_le.mp c_34)⟩ | exact ⟨c_3.1, c_3.2.1, c_3.2.2, Or.inr ⟨c_21, Or.inl (Int32.not_le.mp c_70)⟩⟩ | exact ⟨c_3.1, c_3.2.1, c_3.2.2, Or.inr ⟨c_21, Or.inr ⟨c_55, Int32.not_le.mp c_81⟩⟩⟩)
    · refine lv_aload_n hx hb dX3_isRicher_24 rfl (lv_at hl 0 rfl) ?_
      refine lv_iload_n hx hb dX3_isRicher_25 rfl (lv_at hl 1 rfl) ?_
      refine callE (As := [.int h]) (rest := []) ⟨hx, hb, hml, hown, hts⟩ (c_X3_freeOf X h) (cwV 1 hts gX3_isRicher_X3_freeOf rfl rfl rfl (by decide +kernel) ⟨Nat.le_of_ble_eq_true rfl, Nat.le_of_ble_eq_true rfl⟩) hK hN hP 1 g0_1 rfl rfl hl.1 rfl (Nat.le_of_ble_eq_true rfl) dX3_isRicher_26 ⟨Nat.zero_le _, Nat.zero_le _⟩ ?_
      refine lv_aload_n hx hb dX3_isRicher_29 rfl (lv_at hl 0 rfl) ?_
      refine lv_iload_n hx hb dX3_isRicher_30 rfl (lv_at hl 2 rfl) ?_
      refine callE (As := [.int k]) (rest := [.int (p_free (X 0) h)]) ⟨hx, hb, hml, hown, hts⟩ (c_X3_freeOf X k) (cwV 1 hts gX3_isRicher_X3_freeOf rfl rfl rfl (by decide +kernel) ⟨Nat.le_of_ble_eq_true rfl, Nat.le_of_ble_eq_true rfl⟩) hK hN hP 1 g0_1 rfl rfl hl.1 rfl (Nat.le_of_ble_eq_true rfl) dX3_isRicher_31 ⟨Nat.zero_le _, Nat.zero_le _⟩ ?_
      refine lv_icmp_le (tgt := 41) hx hb dX3_isRicher_34 (by decide) (fun c_34 => ?_) (fun c_34 => ?_)
      · refine lv_iconst (v := 0) hx hb dX3_isRicher_41 (by decide) ?_
        exact retB0 hx hb hr hlocks dX3_isRicher_42 (by first | exact fun q => c_3 ⟨q.1, q.2.1, q.2.2.1⟩ | exact fun q => q.2.2.2.elim (fun z => Int32.not_le.mpr z c_34) (fun z => c_21 z.1) | exact fun q => q.2.2.2.elim (fun z => Int32.lt_irrefl (by rw [c_21] at z; exact z)) (fun z => z.2.elim (fun z => Int32.not_le.mpr z c_70) (fun z => c_55 z.1)) | exact fun q => q.2.2.2.elim (fun z => Int32.lt_irrefl (by rw [c_21] at z; exact z)) (fun z => z.2.elim (fun z => Int32.lt_irrefl (by rw [c_55] at z; exact z)) (fun z => Int32.not_le.mpr z.2 c_81)))
      · refine lv_iconst (v := 1) hx hb dX3_isRicher_37 (by decide) ?_
        refine lv_goto (tgt := 42) hx hb dX3_isRicher_38 (by decide) ?_
        exact retB1 hx hb hr hlocks dX3_isRicher_42 (by first | exact ⟨c_3.1, c_3.2.1, c_3.2.2, Or.inl (Int32.not_le.mp c_34)⟩ | exact ⟨c_3.1, c_3.2.1, c_3.2.2, Or.inr ⟨c_21, Or.inl (Int32.not_le.mp c_70)⟩⟩ | exact ⟨c_3.1, c_3.2.1, c_3.2.2, Or.inr ⟨c_21, Or.inr ⟨c_55, Int32.not_le.mp c_81⟩⟩⟩)
  · refine lv_if_ne (tgt := 11) hx hb dX3_isRicher_6 (by decide) (fun h9 => absurd (by decide) h9) (fun _ => ?_)
    refine lv_iconst (v := 0) hx hb dX3_isRicher_9 (by decide) ?_
    exact retB0 hx hb hr hlocks dX3_isRicher_10 (by first | exact fun q => c_3 ⟨q.1, q.2.1, q.2.2.1⟩ | exact fun q => q.2.2.2.elim (fun z => Int32.not_le.mpr z c_34) (fun z => c_21 z.1) | exact fun q => q.2.2.2.elim (fun z => Int32.lt_irrefl (by rw [c_21] at z; exact z)) (fun z => z.2.elim (fun z => Int32.not_le.mpr z c_70) (fun z => c_55 z.1)) | exact fun q => q.2.2.2.elim (fun z => Int32.lt_irrefl (by rw [c_21] at z; exact z)) (fun z => z.2.elim (fun z => Int32.lt_irrefl (by rw [c_55] at z; exact z)) (fun z => Int32.not_le.mpr z.2 c_81)))
set_option maxHeartbeats 4000000 in
set_option maxRecDepth 100000 in
theorem c_X3_countAhead {l : Launch} {D : va_G} {cI cR : ClassId} {ad : Nat → Nat} (X : St) (h : Int32) (t : Int32) : RoE l D cI cR (wC cI cR ad X) yX3_countAhead wsX3_countAhead ({ frames := 3, cells := 0, slots := 0, locals := 65 } : Room) [.ref (ad 1), .int h, .int t] (p_ahead (X 0) h t 20) := by
  refine OfW (cc := cX3_countAhead) (maxL := 5) (ret := (some .int)) (by decide +kernel) rfl (Nat.le_of_ble_eq_true rfl) (fun p e s m below meth c hx hb hr hts hown hlocks hml hnm hP hK hN ls hl => ?_)
  have hl : lv_has ls 5 [(0, .ref (ad 1)), (1, .int h), (2, .int t)] := hl
  refine lv_iconst (v := 0) hx hb dX3_countAhead_0 (by decide) ?_
  refine lv_istore_n (lv' := [(3, .int 0), (0, .ref (ad 1)), (1, .int h), (2, .int t)]) hx hb dX3_countAhead_1 rfl hl (by decide) rfl (fun ls hl => ?_)
  refine lv_iconst (v := 0) hx hb dX3_countAhead_2 (by decide) ?_
  refine lv_istore (lv' := [(4, .int 0), (3, .int 0), (0, .ref (ad 1)), (1, .int h), (2, .int t)]) hx hb dX3_countAhead_3 hl (by decide) rfl (fun ls hl => ?_)
  have hloop_5 : ∀ (n_5 : Nat) (k : Nat) (xa xk : Int32), k ≤ 20 → 20 < k + n_5 → xk = nI k → xa = p_ahead (X 0) h t k → ∀ ls : Array Slot, lv_has ls 5 [(0, .ref (ad 1)), (1, .int h), (2, .int t), (3, .int xa), (4, .int xk)] → W p l e ({ frames := 3, cells := 0, slots := 0, locals := 65 } : Room) s m ([.ref (ad 1), .int h, .int t]).toArray below meth c s.heap [] 0 0 (MQ below (vp_Si (fun r => r = p_ahead (X 0) h t 20)) ([.ref (ad 1), .int h, .int t]).toArray s 0 0 (fun _ => False)) (F0 m 5 ls []) := by
    intro n_5
    induction n_5 with
    | zero =>
      intro k xa xk hk hn ek ea ls hl
      exfalso; omega
    | succ n_5 ih_5 =>
      intro k xa xk hk hn ek ea ls hl
      refine lv_iload hx hb dX3_countAhead_5 (lv_at hl 4 rfl) ?_
      refine lv_bipush (v := 20) hx hb dX3_countAhead_7 (by decide) ?_
      refine lv_icmp_ge (tgt := 47) hx hb dX3_countAhead_9 (by decide) (fun c_9 => ?_) (fun c_9 => ?_)
      · have hk2 : k = 20 := nI_ge20 hk (by rw [← ek]; exact c_9)
        subst hk2
        refine lv_iload_n hx hb dX3_countAhead_47 rfl (lv_at hl 3 rfl) ?_
        exact retE hx hb hr hlocks dX3_countAhead_48 ea
      · have hlt : k < 20 := nI_lt20 (by omega) (by rw [← ek]; exact c_9)
        refine lv_iload hx hb dX3_countAhead_12 (lv_at hl 4 rfl) ?_
        refine lv_iload_n hx hb dX3_countAhead_14 rfl (lv_at hl 2 rfl) ?_
        refine lv_icmp_eq (tgt := 41) hx hb dX3_countAhead_15 (by decide) (fun c_15 => ?_) (fun c_15 => ?_)
        · refine lv_iinc (v := xk + 1) (lv' := [(4, .int (xk + 1)), (0, .ref (ad 1)), (1, .int h), (2, .int t), (3, .int xa)]) hx hb dX3_countAhead_41 hl (k := 4) rfl rfl (by decide) rfl (fun ls hl => ?_)
          refine lv_goto (tgt := 5) hx hb dX3_countAhead_44 (by decide) ?_
          exact ih_5  (k + 1) _ _ (by omega) (by omega) (by rw [ek]; exact nI_1 k) (by rw [ea]; refine (sumI_c0 ?_ rfl).symm; rw [← ek]; first | exact fun q => q.1 c_15 | exact fun q => c_22 q.2.1 | exact fun q => c_32 q.2.2) _ (lv_sub hl [1, 2, 3, 4, 0] rfl)
        · refine lv_aload_n hx hb dX3_countAhead_18 rfl (lv_at hl 0 rfl) ?_
          refine lv_iload hx hb dX3_countAhead_19 (lv_at hl 4 rfl) ?_
          refine lv_iload_n hx hb dX3_countAhead_21 rfl (lv_at hl 2 rfl) ?_
          refine callB (As := [.int xk, .int t]) (rest := []) ⟨hx, hb, hml, hown, hts⟩ (c_X3_isWithin X xk t) (cwV 2 hts gX3_countAhead_X3_isWithin rfl rfl rfl (by decide +kernel) ⟨Nat.le_of_ble_eq_true rfl, Nat.le_of_ble_eq_true rfl⟩) hK hN hP 1 g0_1 rfl rfl hl.1 rfl (Nat.le_of_ble_eq_true rfl) dX3_countAhead_22 ⟨Nat.zero_le _, Nat.zero_le _⟩ (fun c_22 => ?_) (fun c_22 => ?_)
          · refine lv_if_eq (tgt := 41) hx hb dX3_countAhead_25 (by decide) (fun h9 => absurd h9 (by decide)) (fun _ => ?_)
            refine lv_aload_n hx hb dX3_countAhead_28 rfl (lv_at hl 0 rfl) ?_
            refine lv_iload hx hb dX3_countAhead_29 (lv_at hl 4 rfl) ?_
            refine lv_iload_n hx hb dX3_countAhead_31 rfl (lv_at hl 1 rfl) ?_
            refine callB (As := [.int xk, .int h]) (rest := []) ⟨hx, hb, hml, hown, hts⟩ (c_X3_isRicher X xk h) (cwV 2 hts gX3_countAhead_X3_isRicher rfl rfl rfl (by decide +kernel) ⟨Nat.le_of_ble_eq_true rfl, Nat.le_of_ble_eq_true rfl⟩) hK hN hP 1 g0_1 rfl rfl hl.1 rfl (Nat.le_of_ble_eq_true rfl) dX3_countAhead_32 ⟨Nat.zero_le _, Nat.zero_le _⟩ (fun c_32 => ?_) (fun c_32 => ?_)
            · refine lv_if_eq (tgt := 41) hx hb dX3_countAhead_35 (by decide) (fun h9 => absurd h9 (by decide)) (fun _ => ?_)
              refine lv_iinc (v := xa + 1) (lv' := [(3, .int (xa + 1)), (0, .ref (ad 1)), (1, .int h), (2, .int t), (4, .int xk)]) hx hb dX3_countAhead_38 hl (k := 3) rfl rfl (by decide) rfl (fun ls hl => ?_)
              refine lv_iinc (v := xk + 1) (lv' := [(4, .int (xk + 1)), (3, .int (xa + 1)), (0, .ref (ad 1)), (1, .int h), (2, .int t)]) hx hb dX3_countAhead_41 hl (k := 4) rfl rfl (by decide) rfl (fun ls hl => ?_)
              refine lv_goto (tgt := 5) hx hb dX3_countAhead_44 (by decide) ?_
              exact ih_5  (k + 1) _ _ (by omega) (by omega) (by rw [ek]; exact nI_1 k) (by rw [ea]; exact (sumI_ci (by rw [← ek]; exact ⟨c_15, c_22, c_32⟩) rfl).symm) _ (lv_sub hl [2, 3, 4, 1, 0] rfl)
            · refine lv_if_eq (tgt := 41) hx hb dX3_countAhead_35 (by decide) (fun _ => ?_) (fun h9 => absurd (by decide) h9)
              refine lv_iinc (v := xk + 1) (lv' := [(4, .int (xk + 1)), (0, .ref (ad 1)), (1, .int h), (2, .int t), (3, .int xa)]) hx hb dX3_countAhead_41 hl (k := 4) rfl rfl (by decide) rfl (fun ls hl => ?_)
              refine lv_goto (tgt := 5) hx hb dX3_countAhead_44 (by decide) ?_
              exact ih_5  (k + 1) _ _ (by omega) (by omega) (by rw [ek]; exact nI_1 k) (by rw [ea]; refine (sumI_c0 ?_ rfl).symm; rw [← ek]; first | exact fun q => q.1 c_15 | exact fun q => c_22 q.2.1 | exact fun q => c_32 q.2.2) _ (lv_sub hl [1, 2, 3, 4, 0] rfl)
          · refine lv_if_eq (tgt := 41) hx hb dX3_countAhead_25 (by decide) (fun _ => ?_) (fun h9 => absurd (by decide) h9)
            refine lv_iinc (v := xk + 1) (lv' := [(4, .int (xk + 1)), (0, .ref (ad 1)), (1, .int h), (2, .int t), (3, .int xa)]) hx hb dX3_countAhead_41 hl (k := 4) rfl rfl (by decide) rfl (fun ls hl => ?_)
            refine lv_goto (tgt := 5) hx hb dX3_countAhead_44 (by decide) ?_
            exact ih_5  (k + 1) _ _ (by omega) (by omega) (by rw [ek]; exact nI_1 k) (by rw [ea]; refine (sumI_c0 ?_ rfl).symm; rw [← ek]; first | exact fun q => q.1 c_15 | exact fun q => c_22 q.2.1 | exact fun q => c_32 q.2.2) _ (lv_sub hl [1, 2, 3, 4, 0] rfl)
  exact hloop_5  21 0 0 0 (by omega) (by omega) rfl rfl _ (lv_sub hl [2, 3, 4, 1, 0] rfl)
set_option maxHeartbeats 4000000 in
set_option maxRecDepth 100000 in
theorem c_X3_lapseWithin {l : Launch} {D : va_G} {cI cR : ClassId} {ad : Nat → Nat} (X : St) (t : Int32) (q : Int32) : RoE l D cI cR (wC cI cR ad X) yX3_lapseWithin wsX3_lapseWithin ({ frames := 2, cells := 0, slots := 0, locals := 45 } : Room) [.ref (ad 1), .int t, .int q] (p_lapse (X 0) t q 20) := by
  refine OfW (cc := cX3_lapseWithin) (maxL := 6) (ret := (some .int)) (by decide +kernel) rfl (Nat.le_of_ble_eq_true rfl) (fun p e s m below meth c hx hb hr hts hown hlocks hml hnm hP hK hN ls hl => ?_)
  have hl : lv_has ls 6 [(0, .ref (ad 1)), (1, .int t), (2, .int q)] := hl
  refine lv_iconst (v := 0) hx hb dX3_lapseWithin_0 (by decide) ?_
  refine lv_istore_n (lv' := [(3, .int 0), (0, .ref (ad 1)), (1, .int t), (2, .int q)]) hx hb dX3_lapseWithin_1 rfl hl (by decide) rfl (fun ls hl => ?_)
  refine lv_iconst (v := 0) hx hb dX3_lapseWithin_2 (by decide) ?_
  refine lv_istore (lv' := [(4, .int 0), (3, .int 0), (0, .ref (ad 1)), (1, .int t), (2, .int q)]) hx hb dX3_lapseWithin_3 hl (by decide) rfl (fun ls hl => ?_)
  have hloop_5 : ∀ (n_5 : Nat) (k : Nat) (xa xk : Int32), k ≤ 20 → 20 < k + n_5 → xk = nI k → xa = p_lapse (X 0) t q k → ∀ ls : Array Slot, lv_has ls 6 [(0, .ref (ad 1)), (1, .int t), (2, .int q), (3, .int xa), (4, .int xk)] → W p l e ({ frames := 2, cells := 0, slots := 0, locals := 45 } : Room) s m ([.ref (ad 1), .int t, .int q]).toArray below meth c s.heap [] 0 0 (MQ below (vp_Si (fun r => r = p_lapse (X 0) t q 20)) ([.ref (ad 1), .int t, .int q]).toArray s 0 0 (fun _ => False)) (F0 m 5 ls []) := by
    intro n_5
    induction n_5 with
    | zero =>
      intro k xa xk hk hn ek ea ls hl
      exfalso; omega
    | succ n_5 ih_5 =>
      intro k xa xk hk hn ek ea ls hl
      refine lv_iload hx hb dX3_lapseWithin_5 (lv_at hl 4 rfl) ?_
      refine lv_bipush (v := 20) hx hb dX3_lapseWithin_7 (by decide) ?_
      refine lv_icmp_ge (tgt := 48) hx hb dX3_lapseWithin_9 (by decide) (fun c_9 => ?_) (fun c_9 => ?_)
      · have hk2 : k = 20 := nI_ge20 hk (by rw [← ek]; exact c_9)
        subst hk2
        refine lv_iload_n hx hb dX3_lapseWithin_48 rfl (lv_at hl 3 rfl) ?_
        exact retE hx hb hr hlocks dX3_lapseWithin_49 ea
      · have hlt : k < 20 := nI_lt20 (by omega) (by rw [← ek]; exact c_9)
        refine lv_aload_n hx hb dX3_lapseWithin_12 rfl (lv_at hl 0 rfl) ?_
        refine lv_iload hx hb dX3_lapseWithin_13 (lv_at hl 4 rfl) ?_
        refine lv_iload_n hx hb dX3_lapseWithin_15 rfl (lv_at hl 1 rfl) ?_
        refine callB (As := [.int xk, .int t]) (rest := []) ⟨hx, hb, hml, hown, hts⟩ (c_X3_isWithin X xk t) (cwV 2 hts gX3_lapseWithin_X3_isWithin rfl rfl rfl (by decide +kernel) ⟨Nat.le_of_ble_eq_true rfl, Nat.le_of_ble_eq_true rfl⟩) hK hN hP 1 g0_1 rfl rfl hl.1 rfl (Nat.le_of_ble_eq_true rfl) dX3_lapseWithin_16 ⟨Nat.zero_le _, Nat.zero_le _⟩ (fun c_16 => ?_) (fun c_16 => ?_)
        · refine lv_if_eq (tgt := 42) hx hb dX3_lapseWithin_19 (by decide) (fun h9 => absurd h9 (by decide)) (fun _ => ?_)
          refine lv_aload_n hx hb dX3_lapseWithin_22 rfl (lv_at hl 0 rfl) ?_
          refine lv_iload hx hb dX3_lapseWithin_23 (lv_at hl 4 rfl) ?_
          refine callE (As := [.int xk]) (rest := []) ⟨hx, hb, hml, hown, hts⟩ (c_X3_freeOf X xk) (cwV 1 hts gX3_lapseWithin_X3_freeOf rfl rfl rfl (by decide +kernel) ⟨Nat.le_of_ble_eq_true rfl, Nat.le_of_ble_eq_true rfl⟩) hK hN hP 1 g0_1 rfl rfl hl.1 rfl (Nat.le_of_ble_eq_true rfl) dX3_lapseWithin_25 ⟨Nat.zero_le _, Nat.zero_le _⟩ ?_
          refine lv_istore (lv' := [(5, .int (p_free (X 0) xk)), (0, .ref (ad 1)), (1, .int t), (2, .int q), (3, .int xa), (4, .int xk)]) hx hb dX3_lapseWithin_28 hl (by decide) rfl (fun ls hl => ?_)
          refine lv_iload_n hx hb dX3_lapseWithin_30 rfl (lv_at hl 4 rfl) ?_
          refine lv_iload hx hb dX3_lapseWithin_31 (lv_at hl 0 rfl) ?_
          refine lv_iload hx hb dX3_lapseWithin_33 (lv_at hl 0 rfl) ?_
          refine lv_iload_n hx hb dX3_lapseWithin_35 rfl (lv_at hl 3 rfl) ?_
          refine callNE (As := [.int (p_free (X 0) xk), .int q]) (rest := [.int (p_free (X 0) xk), .int xa]) ⟨hx, hb, hml, hown, hts⟩ (c_X5_partOf (p_free (X 0) xk) q) ⟨va_cnB 2 hts gX3_lapseWithin_X5_partOf_n77 rfl rfl rfl hN.2.2.2.2.2 (hts (.initialized RX5) (by decide +kernel)) (by decide +kernel) ⟨Nat.le_of_ble_eq_true rfl, Nat.le_of_ble_eq_true rfl⟩, hts (.static yX5_partOf) (by decide +kernel), trivial⟩ hK hN rfl hl.1 rfl (Nat.le_of_ble_eq_true rfl) dX3_lapseWithin_36 ⟨Nat.zero_le _, Nat.zero_le _⟩ ?_
          refine lv_isub hx hb dX3_lapseWithin_39 ?_
          refine lv_iadd hx hb dX3_lapseWithin_40 ?_
          refine lv_istore_n (lv' := [(3, .int (xa + ((p_free (X 0) xk) - (p_part (p_free (X 0) xk) q)))), (5, .int (p_free (X 0) xk)), (0, .ref (ad 1)), (1, .int t), (2, .int q), (4, .int xk)]) hx hb dX3_lapseWithin_41 rfl hl (by decide) rfl (fun ls hl => ?_)
          refine lv_iinc (v := xk + 1) (lv' := [(4, .int (xk + 1)), (3, .int (xa + ((p_free (X 0) xk) - (p_part (p_free (X 0) xk) q)))), (5, .int (p_free (X 0) xk)), (0, .ref (ad 1)), (1, .int t), (2, .int q)]) hx hb dX3_lapseWithin_42 hl (k := 5) rfl rfl (by decide) rfl (fun ls hl => ?_)
          refine lv_goto (tgt := 5) hx hb dX3_lapseWithin_45 (by decide) ?_
          exact ih_5  (k + 1) _ _ (by omega) (by omega) (by rw [ek]; exact nI_1 k) (by rw [ea, ek]; exact (sumI_ci (by rw [← ek]; exact c_16) rfl).symm) _ (lv_sub hl [3, 4, 5, 1, 0] rfl)
        · refine lv_if_eq (tgt := 42) hx hb dX3_lapseWithin_19 (by decide) (fun _ => ?_) (fun h9 => absurd (by decide) h9)
          refine lv_iinc (v := xk + 1) (lv' := [(4, .int (xk + 1)), (0, .ref (ad 1)), (1, .int t), (2, .int q), (3, .int xa)]) hx hb dX3_lapseWithin_42 hl (k := 4) rfl rfl (by decide) rfl (fun ls hl => ?_)
          refine lv_goto (tgt := 5) hx hb dX3_lapseWithin_45 (by decide) ?_
          exact ih_5  (k + 1) _ _ (by omega) (by omega) (by rw [ek]; exact nI_1 k) (by rw [ea]; exact (sumI_c0 (by rw [← ek]; exact c_16) rfl).symm) _ (lv_sub hl [1, 2, 3, 4, 0] rfl)
  exact hloop_5  21 0 0 0 (by omega) (by omega) rfl rfl _ (lv_sub hl [2, 3, 4, 1, 0] rfl)
set_option maxHeartbeats 4000000 in
set_option maxRecDepth 100000 in
theorem c_X1_countOpen {l : Launch} {D : va_G} {cI cR : ClassId} {ad : Nat → Nat} (X : St) : RoE l D cI cR (wC cI cR ad X) yX1_countOpen wsX1_countOpen ({ frames := 0, cells := 0, slots := 0, locals := 0 } : Room) [.ref (ad 12)] (p_open (X 0) 40) := by
  refine OfW (cc := cX1_countOpen) (maxL := 3) (ret := (some .int)) (by decide +kernel) rfl (Nat.le_of_ble_eq_true rfl) (fun p e s m below meth c hx hb hr hts hown hlocks hml hnm hP hK hN ls hl => ?_)
  have hl : lv_has ls 3 [(0, .ref (ad 12))] := hl
  have lk_15 := hts (.fieldLink RX1 15 "HeadBudgets$Commitments" "open" "[I") (by decide +kernel)
  have hi_X1 : ∀ w ∈ wsX10, w ∈ wsX1_countOpen := by decide +kernel
  refine lv_iconst (v := 0) hx hb dX1_countOpen_0 (by decide) ?_
  refine lv_istore_n (lv' := [(1, .int 0), (0, .ref (ad 12))]) hx hb dX1_countOpen_1 rfl hl (by decide) rfl (fun ls hl => ?_)
  refine lv_iconst (v := 0) hx hb dX1_countOpen_2 (by decide) ?_
  refine lv_istore_n (lv' := [(2, .int 0), (1, .int 0), (0, .ref (ad 12))]) hx hb dX1_countOpen_3 rfl hl (by decide) rfl (fun ls hl => ?_)
  have hloop_4 : ∀ (n_4 : Nat) (k : Nat) (xa xk : Int32), k ≤ 40 → 40 < k + n_4 → xk = nI k → xa = p_open (X 0) k → ∀ ls : Array Slot, lv_has ls 3 [(0, .ref (ad 12)), (1, .int xa), (2, .int xk)] → W p l e ({ frames := 0, cells := 0, slots := 0, locals := 0 } : Room) s m ([.ref (ad 12)]).toArray below meth c s.heap [] 0 0 (MQ below (vp_Si (fun r => r = p_open (X 0) 40)) ([.ref (ad 12)]).toArray s 0 0 (fun _ => False)) (F0 m 4 ls []) := by
    intro n_4
    induction n_4 with
    | zero =>
      intro k xa xk hk hn ek ea ls hl
      exfalso; omega
    | succ n_4 ih_4 =>
      intro k xa xk hk hn ek ea ls hl
      refine lv_iload_n hx hb dX1_countOpen_4 rfl (lv_at hl 2 rfl) ?_
      refine lv_bipush (v := 40) hx hb dX1_countOpen_5 (by decide) ?_
      refine lv_icmp_ge (tgt := 28) hx hb dX1_countOpen_7 (by decide) (fun c_7 => ?_) (fun c_7 => ?_)
      · have hk2 : k = 40 := nI_ge40 hk (by rw [← ek]; exact c_7)
        subst hk2
        refine lv_iload_n hx hb dX1_countOpen_28 rfl (lv_at hl 1 rfl) ?_
        exact retE hx hb hr hlocks dX1_countOpen_29 ea
      · have hlt : k < 40 := nI_lt40 (by omega) (by rw [← ek]; exact c_7)
        refine lv_aload_n hx hb dX1_countOpen_10 rfl (lv_at hl 0 rfl) ?_
        refine xget (C := RX1) (T := TX1) (N := 5) (ci := 1) (w := .ref (ad 14)) hx hb hts hi_X1 hown hK hP 12 g0_12 rfl 1 (by decide) lk_15 rfl dX1_countOpen_11 ?_
        refine lv_iload_n hx hb dX1_countOpen_14 rfl (lv_at hl 2 rfl) ?_
        refine xald (x := qv (X 0) 11 xk) hx hb hK hP 14 g0_14 (by rw [ek]; exact in40 (nI_cin hlt)) rfl dX1_countOpen_15 ?_
        refine lv_if_le (tgt := 22) hx hb dX1_countOpen_16 (by decide) (fun c_16 => ?_) (fun c_16 => ?_)
        · refine lv_iinc (v := xk + 1) (lv' := [(2, .int (xk + 1)), (0, .ref (ad 12)), (1, .int xa)]) hx hb dX1_countOpen_22 hl (k := 2) rfl rfl (by decide) rfl (fun ls hl => ?_)
          refine lv_goto (tgt := 4) hx hb dX1_countOpen_25 (by decide) ?_
          exact ih_4  (k + 1) _ _ (by omega) (by omega) (by rw [ek]; exact nI_1 k) (by rw [ea]; exact (sumI_c0 (by rw [ek, qv, nI_c hk] at c_16; exact Int32.not_lt.mpr c_16) rfl).symm) _ (lv_sub hl [1, 2, 0] rfl)
        · refine lv_iinc (v := xa + 1) (lv' := [(1, .int (xa + 1)), (0, .ref (ad 12)), (2, .int xk)]) hx hb dX1_countOpen_19 hl (k := 1) rfl rfl (by decide) rfl (fun ls hl => ?_)
          refine lv_iinc (v := xk + 1) (lv' := [(2, .int (xk + 1)), (1, .int (xa + 1)), (0, .ref (ad 12))]) hx hb dX1_countOpen_22 hl (k := 2) rfl rfl (by decide) rfl (fun ls hl => ?_)
          refine lv_goto (tgt := 4) hx hb dX1_countOpen_25 (by decide) ?_
          exact ih_4  (k + 1) _ _ (by omega) (by omega) (by rw [ek]; exact nI_1 k) (by rw [ea]; exact (sumI_ci (by rw [ek, qv, nI_c hk] at c_16; exact Int32.not_le.mp c_16) rfl).symm) _ (lv_sub hl [2, 1, 0] rfl)
  exact hloop_4  41 0 0 0 (by omega) (by omega) rfl rfl _ (lv_sub hl [2, 1, 0] rfl)
set_option maxHeartbeats 4000000 in
set_option maxRecDepth 100000 in
theorem c_X3_atPlace {l : Launch} {D : va_G} {cI cR : ClassId} {ad : Nat → Nat} (X : St) (t : Int32) (wh : Int32) : RoE l D cI cR (wC cI cR ad X) yX3_atPlace wsX3_atPlace ({ frames := 4, cells := 0, slots := 0, locals := 89 } : Room) [.ref (ad 1), .int t, .int wh] (p_place (X 0) t wh 20) := by
  refine OfW (cc := cX3_atPlace) (maxL := 4) (ret := (some .int)) (by decide +kernel) rfl (Nat.le_of_ble_eq_true rfl) (fun p e s m below meth c hx hb hr hts hown hlocks hml hnm hP hK hN ls hl => ?_)
  have hl : lv_has ls 4 [(0, .ref (ad 1)), (1, .int t), (2, .int wh)] := hl
  refine lv_iconst (v := 0) hx hb dX3_atPlace_0 (by decide) ?_
  refine lv_istore_n (lv' := [(3, .int 0), (0, .ref (ad 1)), (1, .int t), (2, .int wh)]) hx hb dX3_atPlace_1 rfl hl (by decide) rfl (fun ls hl => ?_)
  have hloop_2 : ∀ (n_2 : Nat) (k : Nat) (xk : Int32), k ≤ 20 → 20 < k + n_2 → xk = nI k → p_place (X 0) t wh k = -9 → ∀ ls : Array Slot, lv_has ls 4 [(0, .ref (ad 1)), (1, .int t), (2, .int wh), (3, .int xk)] → W p l e ({ frames := 4, cells := 0, slots := 0, locals := 89 } : Room) s m ([.ref (ad 1), .int t, .int wh]).toArray below meth c s.heap [] 0 0 (MQ below (vp_Si (fun r => r = p_place (X 0) t wh 20)) ([.ref (ad 1), .int t, .int wh]).toArray s 0 0 (fun _ => False)) (F0 m 2 ls []) := by
    intro n_2
    induction n_2 with
    | zero =>
      intro k xk hk hn ek ea ls hl
      exfalso; omega
    | succ n_2 ih_2 =>
      intro k xk hk hn ek ea ls hl
      refine lv_iload_n hx hb dX3_atPlace_2 rfl (lv_at hl 3 rfl) ?_
      refine lv_bipush (v := 20) hx hb dX3_atPlace_3 (by decide) ?_
      refine lv_icmp_ge (tgt := 40) hx hb dX3_atPlace_5 (by decide) (fun c_5 => ?_) (fun c_5 => ?_)
      · have hk2 : k = 20 := nI_ge20 hk (by rw [← ek]; exact c_5)
        subst hk2
        refine lv_bipush (v := (-9)) hx hb dX3_atPlace_40 (by decide) ?_
        exact retE hx hb hr hlocks dX3_atPlace_42 ea.symm
      · have hlt : k < 20 := nI_lt20 (by omega) (by rw [← ek]; exact c_5)
        refine lv_iload_n hx hb dX3_atPlace_8 rfl (lv_at hl 3 rfl) ?_
        refine lv_iload_n hx hb dX3_atPlace_9 rfl (lv_at hl 1 rfl) ?_
        refine lv_icmp_eq (tgt := 34) hx hb dX3_atPlace_10 (by decide) (fun c_10 => ?_) (fun c_10 => ?_)
        · refine lv_iinc (v := xk + 1) (lv' := [(3, .int (xk + 1)), (0, .ref (ad 1)), (1, .int t), (2, .int wh)]) hx hb dX3_atPlace_34 hl (k := 3) rfl rfl (by decide) rfl (fun ls hl => ?_)
          refine lv_goto (tgt := 2) hx hb dX3_atPlace_37 (by decide) ?_
          exact ih_2  (k + 1) _ (by omega) (by omega) (by rw [ek]; exact nI_1 k) (place_no ea (by rw [← ek]; first | exact fun q => q.1 c_10 | exact fun q => c_16 q.2.1 | exact fun q => c_29 q.2.2)) _ (lv_sub hl [1, 2, 3, 0] rfl)
        · refine lv_aload_n hx hb dX3_atPlace_13 rfl (lv_at hl 0 rfl) ?_
          refine lv_iload_n hx hb dX3_atPlace_14 rfl (lv_at hl 3 rfl) ?_
          refine lv_iload_n hx hb dX3_atPlace_15 rfl (lv_at hl 1 rfl) ?_
          refine callB (As := [.int xk, .int t]) (rest := []) ⟨hx, hb, hml, hown, hts⟩ (c_X3_isWithin X xk t) (cwV 2 hts gX3_atPlace_X3_isWithin rfl rfl rfl (by decide +kernel) ⟨Nat.le_of_ble_eq_true rfl, Nat.le_of_ble_eq_true rfl⟩) hK hN hP 1 g0_1 rfl rfl hl.1 rfl (Nat.le_of_ble_eq_true rfl) dX3_atPlace_16 ⟨Nat.zero_le _, Nat.zero_le _⟩ (fun c_16 => ?_) (fun c_16 => ?_)
          · refine lv_if_eq (tgt := 34) hx hb dX3_atPlace_19 (by decide) (fun h9 => absurd h9 (by decide)) (fun _ => ?_)
            refine lv_aload_n hx hb dX3_atPlace_22 rfl (lv_at hl 0 rfl) ?_
            refine lv_iload_n hx hb dX3_atPlace_23 rfl (lv_at hl 3 rfl) ?_
            refine lv_iload_n hx hb dX3_atPlace_24 rfl (lv_at hl 1 rfl) ?_
            refine callE (As := [.int xk, .int t]) (rest := []) ⟨hx, hb, hml, hown, hts⟩ (c_X3_countAhead X xk t) (cwV 2 hts gX3_atPlace_X3_countAhead rfl rfl rfl (by decide +kernel) ⟨Nat.le_of_ble_eq_true rfl, Nat.le_of_ble_eq_true rfl⟩) hK hN hP 1 g0_1 rfl rfl hl.1 rfl (Nat.le_of_ble_eq_true rfl) dX3_atPlace_25 ⟨Nat.zero_le _, Nat.zero_le _⟩ ?_
            refine lv_iload_n hx hb dX3_atPlace_28 rfl (lv_at hl 2 rfl) ?_
            refine lv_icmp_ne (tgt := 34) hx hb dX3_atPlace_29 (by decide) (fun c_29 => ?_) (fun c_29 => ?_)
            · refine lv_iinc (v := xk + 1) (lv' := [(3, .int (xk + 1)), (0, .ref (ad 1)), (1, .int t), (2, .int wh)]) hx hb dX3_atPlace_34 hl (k := 3) rfl rfl (by decide) rfl (fun ls hl => ?_)
              refine lv_goto (tgt := 2) hx hb dX3_atPlace_37 (by decide) ?_
              exact ih_2  (k + 1) _ (by omega) (by omega) (by rw [ek]; exact nI_1 k) (place_no ea (by rw [← ek]; first | exact fun q => q.1 c_10 | exact fun q => c_16 q.2.1 | exact fun q => c_29 q.2.2)) _ (lv_sub hl [1, 2, 3, 0] rfl)
            · refine lv_iload_n hx hb dX3_atPlace_32 rfl (lv_at hl 3 rfl) ?_
              exact retE hx hb hr hlocks dX3_atPlace_33 (by rw [ek]; exact (place_yes ea (by rw [← ek]; exact ⟨c_10, c_16, c_29⟩) hlt).symm)
          · refine lv_if_eq (tgt := 34) hx hb dX3_atPlace_19 (by decide) (fun _ => ?_) (fun h9 => absurd (by decide) h9)
            refine lv_iinc (v := xk + 1) (lv' := [(3, .int (xk + 1)), (0, .ref (ad 1)), (1, .int t), (2, .int wh)]) hx hb dX3_atPlace_34 hl (k := 3) rfl rfl (by decide) rfl (fun ls hl => ?_)
            refine lv_goto (tgt := 2) hx hb dX3_atPlace_37 (by decide) ?_
            exact ih_2  (k + 1) _ (by omega) (by omega) (by rw [ek]; exact nI_1 k) (place_no ea (by rw [← ek]; first | exact fun q => q.1 c_10 | exact fun q => c_16 q.2.1 | exact fun q => c_29 q.2.2)) _ (lv_sub hl [1, 2, 3, 0] rfl)
  exact hloop_2  21 0 0 (by omega) (by omega) rfl rfl _ (lv_sub hl [1, 2, 3, 0] rfl)
set_option maxHeartbeats 4000000 in
set_option maxRecDepth 100000 in
theorem c_X3_giverOfMost {l : Launch} {D : va_G} {cI cR : ClassId} {ad : Nat → Nat} (X : St) (t : Int32) : RoE l D cI cR (wC cI cR ad X) yX3_giverOfMost wsX3_giverOfMost ({ frames := 4, cells := 0, slots := 0, locals := 92 } : Room) [.ref (ad 1), .int t] ((p_best (X 0) t 20).1) := by
  refine OfW (cc := cX3_giverOfMost) (maxL := 6) (ret := (some .int)) (by decide +kernel) rfl (Nat.le_of_ble_eq_true rfl) (fun p e s m below meth c hx hb hr hts hown hlocks hml hnm hP hK hN ls hl => ?_)
  have hl : lv_has ls 6 [(0, .ref (ad 1)), (1, .int t)] := hl
  have lk_18 := hts (.fieldLink RX3 18 "HeadBudgets$Heads" "rank" "[I") (by decide +kernel)
  have hi_X3 : ∀ w ∈ wsX30, w ∈ wsX3_giverOfMost := by decide +kernel
  refine lv_bipush (v := (-9)) hx hb dX3_giverOfMost_0 (by decide) ?_
  refine lv_istore_n (lv' := [(2, .int ((-9))), (0, .ref (ad 1)), (1, .int t)]) hx hb dX3_giverOfMost_2 rfl hl (by decide) rfl (fun ls hl => ?_)
  refine lv_iconst (v := 0) hx hb dX3_giverOfMost_3 (by decide) ?_
  refine lv_istore_n (lv' := [(3, .int 0), (2, .int ((-9))), (0, .ref (ad 1)), (1, .int t)]) hx hb dX3_giverOfMost_4 rfl hl (by decide) rfl (fun ls hl => ?_)
  refine lv_iconst (v := 0) hx hb dX3_giverOfMost_5 (by decide) ?_
  refine lv_istore (lv' := [(4, .int 0), (3, .int 0), (2, .int ((-9))), (0, .ref (ad 1)), (1, .int t)]) hx hb dX3_giverOfMost_6 hl (by decide) rfl (fun ls hl => ?_)
  have hloop_8 : ∀ (n_8 : Nat) (k : Nat) (xb xm xk : Int32), k ≤ 20 → 20 < k + n_8 → xk = nI k → p_best (X 0) t k = (xb, xm) → ∀ ls : Array Slot, lv_has ls 6 [(0, .ref (ad 1)), (1, .int t), (2, .int xb), (3, .int xm), (4, .int xk)] → W p l e ({ frames := 4, cells := 0, slots := 0, locals := 92 } : Room) s m ([.ref (ad 1), .int t]).toArray below meth c s.heap [] 0 0 (MQ below (vp_Si (fun r => r = (p_best (X 0) t 20).1)) ([.ref (ad 1), .int t]).toArray s 0 0 (fun _ => False)) (F0 m 8 ls []) := by
    intro n_8
    induction n_8 with
    | zero =>
      intro k xb xm xk hk hn ek ea ls hl
      exfalso; omega
    | succ n_8 ih_8 =>
      intro k xb xm xk hk hn ek ea ls hl
      refine lv_iload hx hb dX3_giverOfMost_8 (lv_at hl 4 rfl) ?_
      refine lv_bipush (v := 20) hx hb dX3_giverOfMost_10 (by decide) ?_
      refine lv_icmp_ge (tgt := 72) hx hb dX3_giverOfMost_12 (by decide) (fun c_12 => ?_) (fun c_12 => ?_)
      · have hk2 : k = 20 := nI_ge20 hk (by rw [← ek]; exact c_12)
        subst hk2
        refine lv_iload_n hx hb dX3_giverOfMost_72 rfl (lv_at hl 2 rfl) ?_
        exact retE hx hb hr hlocks dX3_giverOfMost_73 (by rw [ea])
      · have hlt : k < 20 := nI_lt20 (by omega) (by rw [← ek]; exact c_12)
        have q1 := in20 (nI_hin hlt)
        rw [← ek] at q1
        refine lv_aload_n hx hb dX3_giverOfMost_15 rfl (lv_at hl 0 rfl) ?_
        refine lv_iload hx hb dX3_giverOfMost_16 (lv_at hl 4 rfl) ?_
        refine lv_iload_n hx hb dX3_giverOfMost_18 rfl (lv_at hl 1 rfl) ?_
        refine callE (As := [.int xk, .int t]) (rest := []) ⟨hx, hb, hml, hown, hts⟩ (c_X3_movable X xk t) (cwV 2 hts gX3_giverOfMost_X3_movable rfl rfl rfl (by decide +kernel) ⟨Nat.le_of_ble_eq_true rfl, Nat.le_of_ble_eq_true rfl⟩) hK hN hP 1 g0_1 rfl rfl hl.1 rfl (Nat.le_of_ble_eq_true rfl) dX3_giverOfMost_19 ⟨Nat.zero_le _, Nat.zero_le _⟩ ?_
        refine lv_istore (lv' := [(5, .int (p_mov (X 0) xk t)), (0, .ref (ad 1)), (1, .int t), (2, .int xb), (3, .int xm), (4, .int xk)]) hx hb dX3_giverOfMost_22 hl (by decide) rfl (fun ls hl => ?_)
        refine lv_iload hx hb dX3_giverOfMost_24 (lv_at hl 0 rfl) ?_
        refine lv_iload_n hx hb dX3_giverOfMost_26 rfl (lv_at hl 4 rfl) ?_
        refine lv_icmp_gt (tgt := 60) hx hb dX3_giverOfMost_27 (by decide) (fun c_27 => ?_) (fun c_27 => ?_)
        · refine lv_iload hx hb dX3_giverOfMost_60 (lv_at hl 5 rfl) ?_
          refine lv_istore_n (lv' := [(2, .int xk), (5, .int (p_mov (X 0) xk t)), (0, .ref (ad 1)), (1, .int t), (3, .int xm), (4, .int xk)]) hx hb dX3_giverOfMost_62 rfl hl (by decide) rfl (fun ls hl => ?_)
          refine lv_iload hx hb dX3_giverOfMost_63 (lv_at hl 1 rfl) ?_
          refine lv_istore_n (lv' := [(3, .int (p_mov (X 0) xk t)), (2, .int xk), (5, .int (p_mov (X 0) xk t)), (0, .ref (ad 1)), (1, .int t), (4, .int xk)]) hx hb dX3_giverOfMost_65 rfl hl (by decide) rfl (fun ls hl => ?_)
          refine lv_iinc (v := xk + 1) (lv' := [(4, .int (xk + 1)), (3, .int (p_mov (X 0) xk t)), (2, .int xk), (5, .int (p_mov (X 0) xk t)), (0, .ref (ad 1)), (1, .int t)]) hx hb dX3_giverOfMost_66 hl (k := 5) rfl rfl (by decide) rfl (fun ls hl => ?_)
          refine lv_goto (tgt := 8) hx hb dX3_giverOfMost_69 (by decide) ?_
          exact ih_8  (k + 1) _ _ _ (by omega) (by omega) (by rw [ek]; exact nI_1 k) (best_yes ea ek (by first | exact Or.inl c_27 | exact Or.inr ⟨c_33, c_38, Int32.not_le.mp c_57⟩)) _ (lv_sub hl [4, 5, 2, 1, 0] rfl)
        · refine lv_iload hx hb dX3_giverOfMost_30 (lv_at hl 0 rfl) ?_
          refine lv_iload_n hx hb dX3_giverOfMost_32 rfl (lv_at hl 4 rfl) ?_
          refine lv_icmp_ne (tgt := 66) hx hb dX3_giverOfMost_33 (by decide) (fun c_33 => ?_) (fun c_33 => ?_)
          · refine lv_iinc (v := xk + 1) (lv' := [(4, .int (xk + 1)), (5, .int (p_mov (X 0) xk t)), (0, .ref (ad 1)), (1, .int t), (2, .int xb), (3, .int xm)]) hx hb dX3_giverOfMost_66 hl (k := 5) rfl rfl (by decide) rfl (fun ls hl => ?_)
            refine lv_goto (tgt := 8) hx hb dX3_giverOfMost_69 (by decide) ?_
            exact ih_8  (k + 1) _ _ _ (by omega) (by omega) (by rw [ek]; exact nI_1 k) (best_no ea ek (by first | exact fun q => q.elim c_27 (fun q => c_33 q.1) | exact fun q => q.elim c_27 (fun q => c_38 q.2.1) | exact fun q => q.elim c_27 (fun q => Int32.not_le.mpr q.2.2 c_57))) _ (lv_sub hl [2, 3, 4, 5, 0] rfl)
          · refine lv_aload_n hx hb dX3_giverOfMost_36 rfl (lv_at hl 1 rfl) ?_
            refine lv_iload_n hx hb dX3_giverOfMost_37 rfl (lv_at hl 3 rfl) ?_
            refine callB (As := [.int xb]) (rest := []) ⟨hx, hb, hml, hown, hts⟩ (c_X3_has X xb) (cwV 1 hts gX3_giverOfMost_X3_has rfl rfl rfl (by decide +kernel) ⟨Nat.le_of_ble_eq_true rfl, Nat.le_of_ble_eq_true rfl⟩) hK hN hP 1 g0_1 rfl rfl hl.1 rfl (Nat.le_of_ble_eq_true rfl) dX3_giverOfMost_38 ⟨Nat.zero_le _, Nat.zero_le _⟩ (fun c_38 => ?_) (fun c_38 => ?_)
            · have q2 := in20h c_38
              refine lv_if_eq (tgt := 66) hx hb dX3_giverOfMost_41 (by decide) (fun h9 => absurd h9 (by decide)) (fun _ => ?_)
              refine lv_aload_n hx hb dX3_giverOfMost_44 rfl (lv_at hl 1 rfl) ?_
              refine xget (C := RX3) (T := TX3) (N := 11) (ci := 3) (w := .ref (ad 4)) hx hb hts hi_X3 hown hK hP 1 g0_1 rfl 2 (by decide) lk_18 rfl dX3_giverOfMost_45 ?_
              refine lv_iload hx hb dX3_giverOfMost_48 (lv_at hl 5 rfl) ?_
              refine xald (x := qv (X 0) 1 xk) hx hb hK hP 4 g0_4 (by assumption) rfl dX3_giverOfMost_50 ?_
              refine lv_aload_n hx hb dX3_giverOfMost_51 rfl (lv_at hl 1 rfl) ?_
              refine xget (C := RX3) (T := TX3) (N := 11) (ci := 3) (w := .ref (ad 4)) hx hb hts hi_X3 hown hK hP 1 g0_1 rfl 2 (by decide) lk_18 rfl dX3_giverOfMost_52 ?_
              refine lv_iload_n hx hb dX3_giverOfMost_55 rfl (lv_at hl 3 rfl) ?_
              refine xald (x := qv (X 0) 1 xb) hx hb hK hP 4 g0_4 (by assumption) rfl dX3_giverOfMost_56 ?_
              refine lv_icmp_le (tgt := 66) hx hb dX3_giverOfMost_57 (by decide) (fun c_57 => ?_) (fun c_57 => ?_)
              · refine lv_iinc (v := xk + 1) (lv' := [(4, .int (xk + 1)), (5, .int (p_mov (X 0) xk t)), (0, .ref (ad 1)), (1, .int t), (2, .int xb), (3, .int xm)]) hx hb dX3_giverOfMost_66 hl (k := 5) rfl rfl (by decide) rfl (fun ls hl => ?_)
                refine lv_goto (tgt := 8) hx hb dX3_giverOfMost_69 (by decide) ?_
                exact ih_8  (k + 1) _ _ _ (by omega) (by omega) (by rw [ek]; exact nI_1 k) (best_no ea ek (by first | exact fun q => q.elim c_27 (fun q => c_33 q.1) | exact fun q => q.elim c_27 (fun q => c_38 q.2.1) | exact fun q => q.elim c_27 (fun q => Int32.not_le.mpr q.2.2 c_57))) _ (lv_sub hl [2, 3, 4, 5, 0] rfl)
              · refine lv_iload hx hb dX3_giverOfMost_60 (lv_at hl 5 rfl) ?_
                refine lv_istore_n (lv' := [(2, .int xk), (5, .int (p_mov (X 0) xk t)), (0, .ref (ad 1)), (1, .int t), (3, .int xm), (4, .int xk)]) hx hb dX3_giverOfMost_62 rfl hl (by decide) rfl (fun ls hl => ?_)
                refine lv_iload hx hb dX3_giverOfMost_63 (lv_at hl 1 rfl) ?_
                refine lv_istore_n (lv' := [(3, .int (p_mov (X 0) xk t)), (2, .int xk), (5, .int (p_mov (X 0) xk t)), (0, .ref (ad 1)), (1, .int t), (4, .int xk)]) hx hb dX3_giverOfMost_65 rfl hl (by decide) rfl (fun ls hl => ?_)
                refine lv_iinc (v := xk + 1) (lv' := [(4, .int (xk + 1)), (3, .int (p_mov (X 0) xk t)), (2, .int xk), (5, .int (p_mov (X 0) xk t)), (0, .ref (ad 1)), (1, .int t)]) hx hb dX3_giverOfMost_66 hl (k := 5) rfl rfl (by decide) rfl (fun ls hl => ?_)
                refine lv_goto (tgt := 8) hx hb dX3_giverOfMost_69 (by decide) ?_
                exact ih_8  (k + 1) _ _ _ (by omega) (by omega) (by rw [ek]; exact nI_1 k) (best_yes ea ek (by first | exact Or.inl c_27 | exact Or.inr ⟨c_33, c_38, Int32.not_le.mp c_57⟩)) _ (lv_sub hl [4, 5, 2, 1, 0] rfl)
            · refine lv_if_eq (tgt := 66) hx hb dX3_giverOfMost_41 (by decide) (fun _ => ?_) (fun h9 => absurd (by decide) h9)
              refine lv_iinc (v := xk + 1) (lv' := [(4, .int (xk + 1)), (5, .int (p_mov (X 0) xk t)), (0, .ref (ad 1)), (1, .int t), (2, .int xb), (3, .int xm)]) hx hb dX3_giverOfMost_66 hl (k := 5) rfl rfl (by decide) rfl (fun ls hl => ?_)
              refine lv_goto (tgt := 8) hx hb dX3_giverOfMost_69 (by decide) ?_
              exact ih_8  (k + 1) _ _ _ (by omega) (by omega) (by rw [ek]; exact nI_1 k) (best_no ea ek (by first | exact fun q => q.elim c_27 (fun q => c_33 q.1) | exact fun q => q.elim c_27 (fun q => c_38 q.2.1) | exact fun q => q.elim c_27 (fun q => Int32.not_le.mpr q.2.2 c_57))) _ (lv_sub hl [2, 3, 4, 5, 0] rfl)
  exact hloop_8  21 0 (-9) 0 0 (by omega) (by omega) rfl rfl _ (lv_sub hl [3, 4, 2, 1, 0] rfl)
end
section
/-! WHAT THE DEEDS DO: to a book (b_ .., n_ ..), to the class's state (N_ ..); guards g_ .. (0: it goes); answers a_ .., v_ .. -/
def uc (X : St) (g f : Nat) (col : Nat → Int32) : St := fun a => if a = g then (fun b => if b = f then col else X a b) else X a
theorem wC_uc {cI cR : ClassId} {ad : Nat → Nat} {X : St} {g j f n : Nat} {col : Nat → Int32} (hg : g < 13) (hj : j < 17) (he : ∀ r : Bk, bkE cI ad g r j = .inl (cI, n, .inl (r f))) (ho : ∀ b : Nat, b < 17 → b ≠ j → jc b ≠ f) : (wC cI cR ad X).set (17 * g + j) (ad (17 * g + j), .inl (cI, n, .inl col)) = wC cI cR ad (uc X g f col) := by
  refine wC_set (j := j) rfl hj (by omega) ?_ ?_
  · unfold cellC
    rw [if_pos hg, he]
    simp [uc]
  · intro a b hb hab hne
    unfold cellC
    by_cases ha : a = g
    · subst ha
      rw [if_pos hg, if_pos hg]
      exact bkE_same hb (by simp [uc, ho b hb (fun z => hne ⟨rfl, z⟩)])
    · by_cases ha2 : a < 13
      · rw [if_pos ha2, if_pos ha2]
        simp [uc, ha]
      · rw [if_neg ha2, if_neg ha2]
        simp [uc, show ¬ (14 : Nat) = g by omega, show ¬ (13 : Nat) = g by omega]
theorem sc_0 {cI cR : ClassId} {ad : Nat → Nat} {X : St} {g : Nat} {col : Nat → Int32} (hg : g < 13) : (wC cI cR ad X).set (17 * g + 2) (ad (17 * g + 2), .inl (cI, 20, .inl col)) = wC cI cR ad (uc X g 0 col) := wC_uc hg (by omega) (fun _ => rfl) (fun b hb hne => by
  rcases (show b = 0 ∨ b = 1 ∨ b = 2 ∨ b = 3 ∨ b = 4 ∨ b = 5 ∨ b = 6 ∨ b = 7 ∨ b = 8 ∨ b = 9 ∨ b = 10 ∨ b = 11 ∨ b = 12 ∨ b = 13 ∨ b = 14 ∨ b = 15 ∨ b = 16 by omega) with rfl | rfl | rfl | rfl | rfl | rfl | rfl | rfl | rfl | rfl | rfl | rfl | rfl | rfl | rfl | rfl | rfl <;> first | exact absurd rfl hne | decide)
theorem sc_1 {cI cR : ClassId} {ad : Nat → Nat} {X : St} {g : Nat} {col : Nat → Int32} (hg : g < 13) : (wC cI cR ad X).set (17 * g + 4) (ad (17 * g + 4), .inl (cI, 20, .inl col)) = wC cI cR ad (uc X g 1 col) := wC_uc hg (by omega) (fun _ => rfl) (fun b hb hne => by
  rcases (show b = 0 ∨ b = 1 ∨ b = 2 ∨ b = 3 ∨ b = 4 ∨ b = 5 ∨ b = 6 ∨ b = 7 ∨ b = 8 ∨ b = 9 ∨ b = 10 ∨ b = 11 ∨ b = 12 ∨ b = 13 ∨ b = 14 ∨ b = 15 ∨ b = 16 by omega) with rfl | rfl | rfl | rfl | rfl | rfl | rfl | rfl | rfl | rfl | rfl | rfl | rfl | rfl | rfl | rfl | rfl <;> first | exact absurd rfl hne | decide)
theorem sc_2 {cI cR : ClassId} {ad : Nat → Nat} {X : St} {g : Nat} {col : Nat → Int32} (hg : g < 13) : (wC cI cR ad X).set (17 * g + 5) (ad (17 * g + 5), .inl (cI, 20, .inl col)) = wC cI cR ad (uc X g 2 col) := wC_uc hg (by omega) (fun _ => rfl) (fun b hb hne => by
  rcases (show b = 0 ∨ b = 1 ∨ b = 2 ∨ b = 3 ∨ b = 4 ∨ b = 5 ∨ b = 6 ∨ b = 7 ∨ b = 8 ∨ b = 9 ∨ b = 10 ∨ b = 11 ∨ b = 12 ∨ b = 13 ∨ b = 14 ∨ b = 15 ∨ b = 16 by omega) with rfl | rfl | rfl | rfl | rfl | rfl | rfl | rfl | rfl | rfl | rfl | rfl | rfl | rfl | rfl | rfl | rfl <;> first | exact absurd rfl hne | decide)
theorem sc_3 {cI cR : ClassId} {ad : Nat → Nat} {X : St} {g : Nat} {col : Nat → Int32} (hg : g < 13) : (wC cI cR ad X).set (17 * g + 6) (ad (17 * g + 6), .inl (cI, 20, .inl col)) = wC cI cR ad (uc X g 3 col) := wC_uc hg (by omega) (fun _ => rfl) (fun b hb hne => by
  rcases (show b = 0 ∨ b = 1 ∨ b = 2 ∨ b = 3 ∨ b = 4 ∨ b = 5 ∨ b = 6 ∨ b = 7 ∨ b = 8 ∨ b = 9 ∨ b = 10 ∨ b = 11 ∨ b = 12 ∨ b = 13 ∨ b = 14 ∨ b = 15 ∨ b = 16 by omega) with rfl | rfl | rfl | rfl | rfl | rfl | rfl | rfl | rfl | rfl | rfl | rfl | rfl | rfl | rfl | rfl | rfl <;> first | exact absurd rfl hne | decide)
theorem sc_4 {cI cR : ClassId} {ad : Nat → Nat} {X : St} {g : Nat} {col : Nat → Int32} (hg : g < 13) : (wC cI cR ad X).set (17 * g + 7) (ad (17 * g + 7), .inl (cI, 20, .inl col)) = wC cI cR ad (uc X g 4 col) := wC_uc hg (by omega) (fun _ => rfl) (fun b hb hne => by
  rcases (show b = 0 ∨ b = 1 ∨ b = 2 ∨ b = 3 ∨ b = 4 ∨ b = 5 ∨ b = 6 ∨ b = 7 ∨ b = 8 ∨ b = 9 ∨ b = 10 ∨ b = 11 ∨ b = 12 ∨ b = 13 ∨ b = 14 ∨ b = 15 ∨ b = 16 by omega) with rfl | rfl | rfl | rfl | rfl | rfl | rfl | rfl | rfl | rfl | rfl | rfl | rfl | rfl | rfl | rfl | rfl <;> first | exact absurd rfl hne | decide)
theorem sc_5 {cI cR : ClassId} {ad : Nat → Nat} {X : St} {g : Nat} {col : Nat → Int32} (hg : g < 13) : (wC cI cR ad X).set (17 * g + 8) (ad (17 * g + 8), .inl (cI, 20, .inl col)) = wC cI cR ad (uc X g 5 col) := wC_uc hg (by omega) (fun _ => rfl) (fun b hb hne => by
  rcases (show b = 0 ∨ b = 1 ∨ b = 2 ∨ b = 3 ∨ b = 4 ∨ b = 5 ∨ b = 6 ∨ b = 7 ∨ b = 8 ∨ b = 9 ∨ b = 10 ∨ b = 11 ∨ b = 12 ∨ b = 13 ∨ b = 14 ∨ b = 15 ∨ b = 16 by omega) with rfl | rfl | rfl | rfl | rfl | rfl | rfl | rfl | rfl | rfl | rfl | rfl | rfl | rfl | rfl | rfl | rfl <;> first | exact absurd rfl hne | decide)
theorem sc_6 {cI cR : ClassId} {ad : Nat → Nat} {X : St} {g : Nat} {col : Nat → Int32} (hg : g < 13) : (wC cI cR ad X).set (17 * g + 9) (ad (17 * g + 9), .inl (cI, 20, .inl col)) = wC cI cR ad (uc X g 6 col) := wC_uc hg (by omega) (fun _ => rfl) (fun b hb hne => by
  rcases (show b = 0 ∨ b = 1 ∨ b = 2 ∨ b = 3 ∨ b = 4 ∨ b = 5 ∨ b = 6 ∨ b = 7 ∨ b = 8 ∨ b = 9 ∨ b = 10 ∨ b = 11 ∨ b = 12 ∨ b = 13 ∨ b = 14 ∨ b = 15 ∨ b = 16 by omega) with rfl | rfl | rfl | rfl | rfl | rfl | rfl | rfl | rfl | rfl | rfl | rfl | rfl | rfl | rfl | rfl | rfl <;> first | exact absurd rfl hne | decide)
theorem sc_7 {cI cR : ClassId} {ad : Nat → Nat} {X : St} {g : Nat} {col : Nat → Int32} (hg : g < 13) : (wC cI cR ad X).set (17 * g + 10) (ad (17 * g + 10), .inl (cI, 20, .inl col)) = wC cI cR ad (uc X g 7 col) := wC_uc hg (by omega) (fun _ => rfl) (fun b hb hne => by
  rcases (show b = 0 ∨ b = 1 ∨ b = 2 ∨ b = 3 ∨ b = 4 ∨ b = 5 ∨ b = 6 ∨ b = 7 ∨ b = 8 ∨ b = 9 ∨ b = 10 ∨ b = 11 ∨ b = 12 ∨ b = 13 ∨ b = 14 ∨ b = 15 ∨ b = 16 by omega) with rfl | rfl | rfl | rfl | rfl | rfl | rfl | rfl | rfl | rfl | rfl | rfl | rfl | rfl | rfl | rfl | rfl <;> first | exact absurd rfl hne | decide)
theorem sc_8 {cI cR : ClassId} {ad : Nat → Nat} {X : St} {g : Nat} {col : Nat → Int32} (hg : g < 13) : (wC cI cR ad X).set (17 * g + 11) (ad (17 * g + 11), .inl (cI, 20, .inl col)) = wC cI cR ad (uc X g 8 col) := wC_uc hg (by omega) (fun _ => rfl) (fun b hb hne => by
  rcases (show b = 0 ∨ b = 1 ∨ b = 2 ∨ b = 3 ∨ b = 4 ∨ b = 5 ∨ b = 6 ∨ b = 7 ∨ b = 8 ∨ b = 9 ∨ b = 10 ∨ b = 11 ∨ b = 12 ∨ b = 13 ∨ b = 14 ∨ b = 15 ∨ b = 16 by omega) with rfl | rfl | rfl | rfl | rfl | rfl | rfl | rfl | rfl | rfl | rfl | rfl | rfl | rfl | rfl | rfl | rfl <;> first | exact absurd rfl hne | decide)
theorem sc_9 {cI cR : ClassId} {ad : Nat → Nat} {X : St} {g : Nat} {col : Nat → Int32} (hg : g < 13) : (wC cI cR ad X).set (17 * g + 3) (ad (17 * g + 3), .inl (cI, 20, .inl col)) = wC cI cR ad (uc X g 9 col) := wC_uc hg (by omega) (fun _ => rfl) (fun b hb hne => by
  rcases (show b = 0 ∨ b = 1 ∨ b = 2 ∨ b = 3 ∨ b = 4 ∨ b = 5 ∨ b = 6 ∨ b = 7 ∨ b = 8 ∨ b = 9 ∨ b = 10 ∨ b = 11 ∨ b = 12 ∨ b = 13 ∨ b = 14 ∨ b = 15 ∨ b = 16 by omega) with rfl | rfl | rfl | rfl | rfl | rfl | rfl | rfl | rfl | rfl | rfl | rfl | rfl | rfl | rfl | rfl | rfl <;> first | exact absurd rfl hne | decide)
theorem sc_10 {cI cR : ClassId} {ad : Nat → Nat} {X : St} {g : Nat} {col : Nat → Int32} (hg : g < 13) : (wC cI cR ad X).set (17 * g + 13) (ad (17 * g + 13), .inl (cI, 40, .inl col)) = wC cI cR ad (uc X g 10 col) := wC_uc hg (by omega) (fun _ => rfl) (fun b hb hne => by
  rcases (show b = 0 ∨ b = 1 ∨ b = 2 ∨ b = 3 ∨ b = 4 ∨ b = 5 ∨ b = 6 ∨ b = 7 ∨ b = 8 ∨ b = 9 ∨ b = 10 ∨ b = 11 ∨ b = 12 ∨ b = 13 ∨ b = 14 ∨ b = 15 ∨ b = 16 by omega) with rfl | rfl | rfl | rfl | rfl | rfl | rfl | rfl | rfl | rfl | rfl | rfl | rfl | rfl | rfl | rfl | rfl <;> first | exact absurd rfl hne | decide)
theorem sc_11 {cI cR : ClassId} {ad : Nat → Nat} {X : St} {g : Nat} {col : Nat → Int32} (hg : g < 13) : (wC cI cR ad X).set (17 * g + 14) (ad (17 * g + 14), .inl (cI, 40, .inl col)) = wC cI cR ad (uc X g 11 col) := wC_uc hg (by omega) (fun _ => rfl) (fun b hb hne => by
  rcases (show b = 0 ∨ b = 1 ∨ b = 2 ∨ b = 3 ∨ b = 4 ∨ b = 5 ∨ b = 6 ∨ b = 7 ∨ b = 8 ∨ b = 9 ∨ b = 10 ∨ b = 11 ∨ b = 12 ∨ b = 13 ∨ b = 14 ∨ b = 15 ∨ b = 16 by omega) with rfl | rfl | rfl | rfl | rfl | rfl | rfl | rfl | rfl | rfl | rfl | rfl | rfl | rfl | rfl | rfl | rfl <;> first | exact absurd rfl hne | decide)
theorem sc_12 {cI cR : ClassId} {ad : Nat → Nat} {X : St} {g : Nat} {col : Nat → Int32} (hg : g < 13) : (wC cI cR ad X).set (17 * g + 15) (ad (17 * g + 15), .inl (cI, 40, .inl col)) = wC cI cR ad (uc X g 12 col) := wC_uc hg (by omega) (fun _ => rfl) (fun b hb hne => by
  rcases (show b = 0 ∨ b = 1 ∨ b = 2 ∨ b = 3 ∨ b = 4 ∨ b = 5 ∨ b = 6 ∨ b = 7 ∨ b = 8 ∨ b = 9 ∨ b = 10 ∨ b = 11 ∨ b = 12 ∨ b = 13 ∨ b = 14 ∨ b = 15 ∨ b = 16 by omega) with rfl | rfl | rfl | rfl | rfl | rfl | rfl | rfl | rfl | rfl | rfl | rfl | rfl | rfl | rfl | rfl | rfl <;> first | exact absurd rfl hne | decide)
theorem sc_13 {cI cR : ClassId} {ad : Nat → Nat} {X : St} {g : Nat} {col : Nat → Int32} (hg : g < 13) : (wC cI cR ad X).set (17 * g + 16) (ad (17 * g + 16), .inl (cI, 40, .inl col)) = wC cI cR ad (uc X g 13 col) := wC_uc hg (by omega) (fun _ => rfl) (fun b hb hne => by
  rcases (show b = 0 ∨ b = 1 ∨ b = 2 ∨ b = 3 ∨ b = 4 ∨ b = 5 ∨ b = 6 ∨ b = 7 ∨ b = 8 ∨ b = 9 ∨ b = 10 ∨ b = 11 ∨ b = 12 ∨ b = 13 ∨ b = 14 ∨ b = 15 ∨ b = 16 by omega) with rfl | rfl | rfl | rfl | rfl | rfl | rfl | rfl | rfl | rfl | rfl | rfl | rfl | rfl | rfl | rfl | rfl <;> first | exact absurd rfl hne | decide)
def cpH (X : St) (g g2 : Nat) : St := fun a => if a = g then (fun f i => if f < 10 ∨ (f = 14 ∧ i = 1) then X g2 f i else X g f i) else X a
def cpC (X : St) (g g2 : Nat) : St := fun a => if a = g then (fun f i => if (10 ≤ f ∧ f < 14) ∨ (f = 14 ∧ i = 2) then X g2 f i else X g f i) else X a
-- books
noncomputable def b_cc (r : Bk) (h a : Int32) : Bk := ci (p_has r h) (b2 r 4 h.toNatClampNeg (qv r 4 h + a)) r
noncomputable def b_sc (r : Bk) (h a : Int32) : Bk := ci (p_has r h) (b2 (b2 r 4 h.toNatClampNeg (qv r 4 h - a)) 5 h.toNatClampNeg (qv (b2 r 4 h.toNatClampNeg (qv r 4 h - a)) 5 h + a)) r
def n_mv (r : Bk) (g t a : Int32) : Bk :=
  let r1 := b2 r 3 g.toNatClampNeg (qv r 3 g - a)
  let r2 := b2 r1 7 g.toNatClampNeg (qv r1 7 g + a)
  b2 r2 3 t.toNatClampNeg (qv r2 3 t + a)
noncomputable def b_mv (r : Bk) (g t a : Int32) : Bk := ci (p_has r g ∧ p_has r t ∧ g ≠ t) (n_mv r g t a) r
noncomputable def n_add (r : Bk) (a k : Int32) : Bk :=
  let i := (r 14 1).toNatClampNeg
  let r1 := b2 r 0 i a
  let r2 := b2 r1 9 i (ci (p_has r1 a) (qv r1 9 a + 1) 0)
  let r3 := b2 r2 1 i k
  let r4 := b2 r3 8 i 50
  b2 r4 14 1 (r4 14 1 + 1)
noncomputable def b_add (r : Bk) (a k : Int32) : Bk := ci (r 14 1 < 0) r (ci (r 14 1 < 20) (n_add r a k) r)
noncomputable def a_add (r : Bk) : Int32 := ci (r 14 1 < 0) (-3) (ci (r 14 1 < 20) (r 14 1) (-3))
def n_addC (r : Bk) (h a y : Int32) : Bk :=
  let i := (r 14 2).toNatClampNeg
  let r1 := b2 r 10 i h
  let r2 := b2 r1 11 i a
  let r3 := b2 r2 13 i y
  b2 r3 14 2 (r3 14 2 + 1)
noncomputable def b_addC (r : Bk) (h a y : Int32) : Bk := ci (r 14 2 < 0) r (ci (r 14 2 < 40) (n_addC r h a y) r)
noncomputable def a_addC (r : Bk) : Int32 := ci (r 14 2 < 0) (-3) (ci (r 14 2 < 40) (r 14 2) (-3))
noncomputable def b_free0 (r : Bk) (c : Int32) : Bk := ci (p_hasC r c) (b_cc (b2 r 11 c.toNatClampNeg 0) (qv (b2 r 11 c.toNatClampNeg 0) 10 c) (-(qv r 11 c))) r
noncomputable def a_free0 (r : Bk) (c : Int32) : Int32 := ci (p_hasC r c) (qv r 11 c) 0
/-- the end of a year for one head -/
noncomputable def cf1 (r : Bk) (q h : Int32) : Bk :=
  let car := p_part (p_free r h) q
  let r1 := b2 r 3 h.toNatClampNeg (qv r 4 h + car)
  let r2 := b2 r1 6 h.toNatClampNeg car
  let r3 := b2 r2 5 h.toNatClampNeg 0
  b2 r3 7 h.toNatClampNeg 0
noncomputable def b_cf (r : Bk) (q : Int32) : Nat → Bk
  | 0 => r
  | n + 1 => cf1 (b_cf r q n) q (nI n)
noncomputable def n_make (r : Bk) (a k : Int32) : Bk := b_add r a k
def n_allot (r : Bk) (h a : Int32) : Bk :=
  let r1 := b2 r 3 h.toNatClampNeg (qv r 3 h + a)
  b2 r1 6 h.toNatClampNeg (qv r1 6 h + a)
def n_freeze (r : Bk) (h i : Int32) : Bk := b2 r 2 h.toNatClampNeg i
def n_setShare (r : Bk) (h x : Int32) : Bk := b2 r 8 h.toNatClampNeg x
def n_setCarried (r : Bk) (q : Int32) : Bk := b2 r 14 3 q
noncomputable def n_commit (r : Bk) (h a : Int32) : Bk := b_addC (b_cc r h a) h a (b_cc r h a 14 0)
noncomputable def n_pay (r : Bk) (c a : Int32) : Bk :=
  let r1 := b2 r 11 c.toNatClampNeg (qv r 11 c - a)
  let r2 := b2 r1 12 c.toNatClampNeg (qv r1 12 c + a)
  let r3 := b_sc r2 (qv r2 10 c) a
  b2 r3 14 5 (r3 14 5 + a)
noncomputable def n_endYear (r : Bk) : Bk :=
  let L := p_lapse r 0 (r 14 3) 20
  let r1 := b_cf r (r 14 3) 20
  let r2 := b2 r1 14 4 (r1 14 4 + L)
  b2 r2 14 0 (r2 14 0 + 1)
-- guards
noncomputable def g_make (r : Bk) (a k : Int32) : Int32 := ci (p_has r a) (ci (k < 0) (-1) (ci (k ≤ 9) (ci (qv r 9 a < 4) (ci (r 14 1 < 20) 0 (-3)) (-2)) (-1))) (-1)
noncomputable def g_allot (r : Bk) (h a : Int32) : Int32 := ci (p_has r h) (ci (p_amt a) (ci (qv r 3 h ≤ 1000000 - a) 0 (-3)) (-1)) (-1)
noncomputable def g_freeze (r : Bk) (h i : Int32) : Int32 := ci (p_has r h) (ci (i < 0) (-1) (ci (i ≤ 1) (ci (qv r 2 h = i) (-2) 0) (-1))) (-1)
noncomputable def g_setShare (r : Bk) (h x : Int32) : Int32 := ci (p_has r h) (ci (p_pct x) 0 (-1)) (-1)
noncomputable def g_setCarried (q : Int32) : Int32 := ci (p_pct q) 0 (-1)
noncomputable def g_commit (r : Bk) (h a : Int32) : Int32 := ci (p_has r h) (ci (p_amt a) (ci (p_bar r 5 h) (-2) (ci (a ≤ p_free r h) (ci (r 14 2 < 40) 0 (-3)) (-2))) (-1)) (-1)
noncomputable def g_pay (r : Bk) (c a : Int32) : Int32 := ci (p_hasC r c) (ci (p_amt a) (ci (a ≤ qv r 11 c) 0 (-2)) (-1)) (-1)
noncomputable def g_release (r : Bk) (c : Int32) : Int32 := ci (p_hasC r c) (ci (qv r 11 c = 0) (-2) 0) (-1)
noncomputable def g_vire (r : Bk) (f t a : Int32) : Int32 := ci (p_has r f ∧ p_has r t ∧ f ≠ t) (ci (p_amt a) (ci (a ≤ p_mov r f t) 0 (-2)) (-1)) (-1)
noncomputable def g_endYear (r : Bk) : Int32 := ci (r 14 0 < 99) 0 (-2)
noncomputable def g_rv (r : Bk) (t a : Int32) : Int32 := ci (a ≤ p_free r t) 0 (-2)
noncomputable def g_rc (r : Bk) (c : Int32) : Int32 := ci (p_hasC r c) (ci (qv r 11 c = 0) (-2) 0) (-2)
-- looks
noncomputable def v_count (r : Bk) (n w : Int32) : Int32 := ci (w = 0) (r 14 0) (ci (w = 1) (r 14 1) (ci (w = 2) (r 14 2) (ci (w = 3) (p_open r 40) (ci (w = 4) (p_cntb r 20) (ci (w = 5) (r 14 3) (ci (w = 6) (p_sum r 0 0 20) (ci (w = 7) (r 14 4) (ci (w = 8) (r 14 5) (ci (w = 9) n (-1))))))))))
noncomputable def v_head (r : Bk) (h w : Int32) : Int32 := ci (p_has r h) (ci (w = 0) (qv r 0 h) (ci (w = 1) (qv r 9 h) (ci (w = 2) (qv r 1 h) (ci (w = 3) (qv r 2 h) (ci (w = 4) (ci (p_bar r 5 h) 1 0) (ci (w = 5) (qv r 3 h) (ci (w = 6) (qv r 4 h) (ci (w = 7) (qv r 5 h) (ci (w = 8) (p_free r h) (ci (w = 9) (qv r 6 h) (ci (w = 10) (qv r 7 h) (ci (w = 11) (qv r 8 h) (-1))))))))))))) (-1)
noncomputable def v_total (r : Bk) (h w : Int32) : Int32 := ci (p_has r h) (ci (w < 0) (-1) (ci (w ≤ 4) (p_sum r h w 20) (-1))) (-1)
noncomputable def v_comm (r : Bk) (c w : Int32) : Int32 := ci (p_hasC r c) (ci (w = 0) (qv r 10 c) (ci (w = 1) (qv r 11 c) (ci (w = 2) (qv r 12 c) (ci (w = 3) (qv r 13 c) (-1))))) (-1)
noncomputable def v_most (r : Bk) (a b : Int32) : Int32 := ci (p_has r a ∧ p_has r b ∧ a ≠ b) (p_mov r a b) (-1)
noncomputable def v_giver (r : Bk) (b : Int32) : Int32 := ci (p_has r b) (p_best r b 20).1 (-1)
noncomputable def v_rich (r : Bk) (h i : Int32) : Int32 := ci (p_has r h) (ci (0 ≤ i) (p_place r h i 20) (-1)) (-1)
noncomputable def v_lapse (r : Bk) (h : Int32) : Int32 := ci (p_has r h) (p_lapse r h (r 14 3) 20) (-1)
-- the class's memory
noncomputable def p_slot (X : St) (i : Int32) : Int32 := p_fm (X 14 0 0 + X 14 0 1 - 1 - i) 12
def p_norec (X : St) (i : Int32) : Prop := i < 0 ∨ ¬ i < X 14 0 1
noncomputable def p_rec (ad : Nat → Nat) (X : St) (i : Int32) : Option Nat := ci (p_norec X i) none (some (ad (221 + (p_slot X i).toNatClampNeg)))
theorem p_rec_none {ad : Nat → Nat} {X : St} {i : Int32} (h : p_norec X i) : p_rec ad X i = none := ci_t h
theorem p_rec_some {ad : Nat → Nat} {X : St} {i : Int32} (h : ¬ p_norec X i) : p_rec ad X i = some (ad (221 + (p_slot X i).toNatClampNeg)) := ci_f h
theorem i3_tdiv (z : Int) : (0 ≤ z ∧ Int.tdiv z 12 = z / 12) ∨ (z < 0 ∧ Int.tdiv z 12 = -((-z) / 12)) := by
  by_cases h : 0 ≤ z
  · exact Or.inl ⟨h, Int.tdiv_eq_ediv_of_nonneg h⟩
  · refine Or.inr ⟨by omega, ?_⟩
    have e : Int.tdiv z 12 = -(Int.tdiv (-z) 12) := by rw [Int.neg_tdiv, Int.neg_neg]
    rw [e, Int.tdiv_eq_ediv_of_nonneg (by omega)]
theorem i3_12 (x : Int32) : (0 ≤ x.toInt ∧ 0 ≤ (x - x / 12 * 12).toInt ∧ (x - x / 12 * 12).toInt < 12) ∨ (x.toInt < 0 ∧ -12 < (x - x / 12 * 12).toInt ∧ (x - x / 12 * 12).toInt ≤ 0) := by
  have h1 := Int32.toInt_lt x
  have h2 := Int32.le_toInt x
  have h3 : (x / 12).toInt = x.toInt.tdiv 12 := by
    rw [Int32.toInt_div_of_ne_right _ _ (by decide), t_12]
  have h4 : (x / 12 * 12).toInt = x.toInt.tdiv 12 * 12 := by
    rw [Int32.toInt_mul, h3, t_12]
    rcases i3_tdiv x.toInt with ⟨a, b⟩ | ⟨a, b⟩ <;> rw [b] <;> exact Int.bmod_eq_of_le (by omega) (by omega)
  have h5 : (x - x / 12 * 12).toInt = x.toInt - x.toInt.tdiv 12 * 12 := by
    rw [Int32.toInt_sub, h4]
    rcases i3_tdiv x.toInt with ⟨a, b⟩ | ⟨a, b⟩ <;> rw [b] <;> exact Int.bmod_eq_of_le (by omega) (by omega)
  rw [h5]
  rcases i3_tdiv x.toInt with ⟨a, b⟩ | ⟨a, b⟩ <;> rw [b]
  · exact Or.inl ⟨a, by omega, by omega⟩
  · exact Or.inr ⟨a, by omega, by omega⟩
theorem i3_neg (x : Int32) : (x.toInt < 0) ↔ x.toBitVec.msb = true := by
  rw [BitVec.msb_eq_toInt]
  simp [Int32.toInt_toBitVec]
theorem i3_xor (x : Int32) : 0 ≤ x ^^^ 12 ↔ 0 ≤ x.toInt := by
  rw [i3_le, t_0]
  have h1 := i3_neg x
  have h2 := i3_neg (x ^^^ 12)
  rw [Int32.toBitVec_xor, BitVec.msb_xor, show (12 : Int32).toBitVec.msb = false from rfl, Bool.xor_false] at h2
  constructor <;> intro h
  · refine Int.not_lt.mp (fun q => ?_)
    exact absurd (h2.mpr (h1.mp q)) (by omega)
  · refine Int.not_lt.mp (fun q => ?_)
    exact absurd (h1.mpr (h2.mp q)) (by omega)
theorem fm12 (x : Int32) : 0 ≤ (p_fm x 12).toInt ∧ (p_fm x 12).toInt < 12 := by
  unfold p_fm
  by_cases h : 0 ≤ x ^^^ 12
  · rw [ci_t h]
    rcases i3_12 x with q | q
    · exact q.2
    · exact absurd ((i3_xor x).mp h) (by omega)
  · rw [ci_f h]
    have hx : x.toInt < 0 := Int.not_le.mp (fun q => h ((i3_xor x).mpr q))
    rcases i3_12 x with q | q
    · omega
    · by_cases e : x - x / 12 * 12 = 0
      · rw [ci_t e, e]
        decide
      · rw [ci_f e]
        have e2 : (x - x / 12 * 12).toInt ≠ 0 := fun z => e (i3_eq.mpr (by rw [z, t_0]))
        rw [Int32.toInt_add, t_12, Int.bmod_eq_of_le (by omega) (by omega)]
        omega
theorem fm12n {n : Nat} (h : n < 2 ^ 31) : p_fm (nI n) 12 = nI (n % 12) := by
  unfold p_fm
  rw [ci_t ((i3_xor _).mpr (by rw [nI_toInt h]; omega))]
  exact pk_rem h (by decide) (by decide)
theorem fm_in (x : Int32) : vp_in (p_fm x 12) 12 := vp_in_iff.mpr (fm12 x)
theorem fm_lt (x : Int32) : (p_fm x 12).toNatClampNeg < 12 := by
  have h := fm12 x
  show (p_fm x 12).toInt.toNat < 12
  omega
theorem slot_lt (X : St) (i : Int32) : (p_slot X i).toNatClampNeg < 12 := fm_lt _
noncomputable def m_held (X : St) : St := ci (12 ≤ X 14 0 1) (u3 X 14 0 0 (p_fm (X 14 0 0 + 1) 12)) (u3 X 14 0 1 (X 14 0 1 + 1))
noncomputable def m_num (X : St) : St := u3 (m_held X) 14 0 2 (m_held X 14 0 2 + 1)
/-- the place z takes a deed: the book as it is, and the deed's words -/
def m_put (X : St) (z : Nat) (k s t a : Int32) : St :=
  let X1 := sg X (z + 1) (X 0)
  let X2 := u3 X1 13 0 z (X1 14 0 2)
  let X3 := u3 X2 13 1 z k
  let X4 := u3 X3 13 2 z s
  let X5 := u3 X4 13 3 z t
  u3 X5 13 4 z a
noncomputable def N_rem (X : St) (k s t a : Int32) : St := ci (p_norec (m_num X) 0) (m_num X) (m_put (m_num X) (p_slot (m_num X) 0).toNatClampNeg k s t a)
theorem nI_lt12 {k : Nat} (h : k ≤ 40) (c : ¬ (12 : Int32) ≤ nI k) : k < 12 := by
  rw [i3_le, nI_t h, t_12] at c
  omega
theorem nI_ge12 {k : Nat} (h : k ≤ 12) (c : (12 : Int32) ≤ nI k) : k = 12 := by
  rw [i3_le, nI_t (by omega), t_12] at c
  omega
theorem m_nil (X : St) : sg X 0 (X 0) = X := sg_self X 0
def p_hit (X : St) (n : Int32) (i : Nat) : Prop := ¬ p_norec X (nI i) ∧ X 13 1 (p_slot X (nI i)).toNatClampNeg = 10 ∧ X 13 2 (p_slot X (nI i)).toNatClampNeg = n
def p_rev (X : St) (n : Int32) : Prop := ∃ i : Nat, i < 12 ∧ p_hit X n i
noncomputable def N_fl (X : St) : St := ci (X 14 0 1 ≤ 0) X (u3 X 14 0 1 (X 14 0 1 - 1))
noncomputable def a_fl (X : St) : Int32 := ci (X 14 0 1 ≤ 0) (X 14 0 1) (X 14 0 1 - 1)
theorem m_held_0 (X : St) {g : Nat} (h : g ≠ 14) : m_held X g = X g := by
  unfold m_held
  by_cases c : (12 : Int32) ≤ X 14 0 1
  · rw [ci_t c, u3_n _ _ _ _ _ h]
  · rw [ci_f c, u3_n _ _ _ _ _ h]
theorem m_num_0 (X : St) {g : Nat} (h : g ≠ 14) : m_num X g = X g := by
  unfold m_num
  rw [u3_n _ _ _ _ _ h, m_held_0 X h]
theorem N_rem_0 (X : St) (k s t a : Int32) : N_rem X k s t a 0 = X 0 := by
  unfold N_rem
  by_cases c : p_norec (m_num X) 0
  · rw [ci_t c, m_num_0 X (by omega)]
  · rw [ci_f c]
    unfold m_put
    rw [u3_n _ _ _ _ _ (by omega), u3_n _ _ _ _ _ (by omega), u3_n _ _ _ _ _ (by omega), u3_n _ _ _ _ _ (by omega), u3_n _ _ _ _ _ (by omega), sg_n _ _ _ (by omega), m_num_0 X (by omega)]
/-- a public deed of the class: its guard g, its kind and words, its book behind it -/
noncomputable def opX (X : St) (g k s t a : Int32) (r : Bk) : St := ci (g = 0) (sg (N_rem X k s t a) 0 r) X
noncomputable def opV (g v : Int32) : Int32 := ci (g = 0) v g
theorem opX_e {X : St} {g k s t a e : Int32} {r : Bk} (h : g = e) (he : e ≠ 0) : opX X g k s t a r = X := ci_f (by rw [h]; exact he)
theorem opX_0 {X : St} {g k s t a : Int32} {r : Bk} (h : g = 0) : opX X g k s t a r = sg (N_rem X k s t a) 0 r := ci_t h
theorem opV_e {g v e : Int32} (h : g = e) (he : e ≠ 0) : e = opV g v := by
  unfold opV
  rw [ci_f (by rw [h]; exact he), h]
theorem opV_0 {g v : Int32} (h : g = 0) : opV g v = v := ci_t h
theorem in_made {x : Int32} (h0 : ¬ x < 0) (h1 : x < 20) : vp_in x 20 := vp_in_iff.mpr (by rw [i3_lt, t_0] at h0; rw [i3_lt, t_20] at h1; exact ⟨by omega, by omega⟩)
theorem in_madeC {x : Int32} (h0 : ¬ x < 0) (h1 : x < 40) : vp_in x 40 := vp_in_iff.mpr (by rw [i3_lt, t_0] at h0; rw [i3_lt, t_40] at h1; exact ⟨by omega, by omega⟩)
/-- the class's other looks and deeds -/
noncomputable def V_deed (X : St) (i : Int32) : Int32 := ci (0 ≤ i) (ci (p_norec X i) (-9) (X 13 1 (p_slot X i).toNatClampNeg)) (-1)
noncomputable def N_undo (X : St) : St := ci (p_norec X 0) X (N_fl (sg X 0 (X ((p_slot X 0).toNatClampNeg + 1))))
noncomputable def R_undo (X : St) : Int32 := ci (p_norec X 0) (-2) (a_fl (sg X 0 (X ((p_slot X 0).toNatClampNeg + 1))))
noncomputable def N_rv (X : St) (n f t a : Int32) : St := opX X (g_rv (X 0) t a) 10 n (-9) 0 (b_mv (X 0) f t (-a))
noncomputable def R_rv (X : St) (t a : Int32) : Int32 := opV (g_rv (X 0) t a) a
noncomputable def N_rc (X : St) (n c : Int32) : St := opX X (g_rc (X 0) c) 10 n (-9) 0 (b_free0 (X 0) c)
noncomputable def R_rc (X : St) (c : Int32) : Int32 := opV (g_rc (X 0) c) (a_free0 (X 0) c)
noncomputable def N_rk (X : St) (z : Nat) : St := ci (X (z + 1) 14 0 = X 0 14 0) (ci (p_rev X (X 13 0 z)) X (ci (X 13 1 z = 8) (N_rv X (X 13 0 z) (X 13 2 z) (X 13 3 z) (X 13 4 z)) (ci (X 13 1 z = 5) (N_rc X (X 13 0 z) (X 13 2 z)) X))) X
noncomputable def R_rk (X : St) (z : Nat) : Int32 := ci (X (z + 1) 14 0 = X 0 14 0) (ci (p_rev X (X 13 0 z)) (-2) (ci (X 13 1 z = 8) (R_rv X (X 13 3 z) (X 13 4 z)) (ci (X 13 1 z = 5) (R_rc X (X 13 2 z)) (-2)))) (-2)
noncomputable def N_revoke (X : St) (i : Int32) : St := ci (0 ≤ i) (ci (p_norec X i) X (N_rk X (p_slot X i).toNatClampNeg)) X
noncomputable def R_revoke (X : St) (i : Int32) : Int32 := ci (0 ≤ i) (ci (p_norec X i) (-2) (R_rk X (p_slot X i).toNatClampNeg)) (-1)
end
section
set_option maxHeartbeats 4000000 in
set_option maxRecDepth 100000 in
theorem c_X3_changeCommitted {l : Launch} {D : va_G} {cI cR : ClassId} {ad : Nat → Nat} (hdj : Dj 236 ad) (X : St) (h : Int32) (a : Int32) : WoV l D cI cR (Aw 236 ad) (wC cI cR ad X) (wC cI cR ad (sg X 0 (b_cc (X 0) h a))) yX3_changeCommitted wsX3_changeCommitted ({ frames := 1, cells := 0, slots := 0, locals := 21 } : Room) [.ref (ad 1), .int h, .int a] := by
  refine OfW (cc := cX3_changeCommitted) (maxL := 3) (ret := none) (by decide +kernel) rfl (Nat.le_of_ble_eq_true rfl) (fun p e s m below meth c hx hb hr hts hown hlocks hml hnm hP hK hN ls hl => ?_)
  have hl : lv_has ls 3 [(0, .ref (ad 1)), (1, .int h), (2, .int a)] := hl
  have lk_27 := hts (.fieldLink RX3 27 "HeadBudgets$Heads" "committed" "[I") (by decide +kernel)
  have hi_X3 : ∀ w ∈ wsX30, w ∈ wsX3_changeCommitted := by decide +kernel
  have hS : va_S (Aw 236 ad) s.heap s.heap [] := va_S.rf
  have hP : va_P D vwCl (wC cI cR ad X) s.heap := hP
  refine lv_aload_n hx hb dX3_changeCommitted_0 rfl (lv_at hl 0 rfl) ?_
  refine lv_iload_n hx hb dX3_changeCommitted_1 rfl (lv_at hl 1 rfl) ?_
  refine callB (As := [.int h]) (rest := []) ⟨hx, hb, hml, hown, hts⟩ (c_X3_has X h) (cwV 1 hts gX3_changeCommitted_X3_has rfl rfl rfl (by decide +kernel) ⟨Nat.le_of_ble_eq_true rfl, Nat.le_of_ble_eq_true rfl⟩) hK hN hP 1 g0_1 rfl rfl hl.1 rfl (Nat.le_of_ble_eq_true rfl) dX3_changeCommitted_2 ⟨Nat.zero_le _, Nat.zero_le _⟩ (fun c_2 => ?_) (fun c_2 => ?_)
  · refine lv_if_eq (tgt := 18) hx hb dX3_changeCommitted_5 (by decide) (fun h9 => absurd h9 (by decide)) (fun _ => ?_)
    refine lv_aload_n hx hb dX3_changeCommitted_8 rfl (lv_at hl 0 rfl) ?_
    refine xget (C := RX3) (T := TX3) (N := 11) (ci := 3) (w := .ref (ad 7)) hx hb hts hi_X3 hown hK hP 1 g0_1 rfl 5 (by decide) lk_27 rfl dX3_changeCommitted_9 ?_
    refine lv_iload_n hx hb dX3_changeCommitted_12 rfl (lv_at hl 1 rfl) ?_
    refine lv_dup2_11 hx hb dX3_changeCommitted_13 rfl rfl ?_
    refine xald (x := qv (X 0) 4 h) hx hb hK hP 7 g0_7 (in20h c_2) rfl dX3_changeCommitted_14 ?_
    refine lv_iload_n hx hb dX3_changeCommitted_15 rfl (lv_at hl 2 rfl) ?_
    refine lv_iadd hx hb dX3_changeCommitted_16 ?_
    refine xast hx hb hK hP (wC_D hdj) hS 7 g0_7 (in20h c_2) s0_4 dX3_changeCommitted_17 (fun H locs hP hS => ?_)
    obtain ⟨X_1, eX_1⟩ : ∃ Z : St, Z = u3 X 0 4 h.toNatClampNeg ((qv (X 0) 4 h) + a) := ⟨_, rfl⟩
    rw [← eX_1] at hP
    have hZ : X_1 = sg X 0 (b_cc (X 0) h a) := by
      subst eX_1
      try simp only [u3_sg, sg_sg, sg_g]
      try unfold b_cc
      try dsimp only
      all_goals repeat (first | rw [ci_t c_2] | rw [ci_f c_2])
      all_goals (first | rfl | (rw [sg_self]) | (simp only [u3_sg, sg_sg, sg_g]; done) | (simp only [u3_sg, sg_sg, sg_g]; rfl))
    exact retWV hx hb hr hlocks (by rw [← hZ]; exact hP) hS dX3_changeCommitted_18
  · refine lv_if_eq (tgt := 18) hx hb dX3_changeCommitted_5 (by decide) (fun _ => ?_) (fun h9 => absurd (by decide) h9)
    have hZ : X = sg X 0 (b_cc (X 0) h a) := by
      try simp only [u3_sg, sg_sg, sg_g]
      try unfold b_cc
      try dsimp only
      all_goals repeat (first | rw [ci_t c_2] | rw [ci_f c_2])
      all_goals (first | rfl | (rw [sg_self]) | (simp only [u3_sg, sg_sg, sg_g]; done) | (simp only [u3_sg, sg_sg, sg_g]; rfl))
    exact retWV hx hb hr hlocks (by rw [← hZ]; exact hP) hS dX3_changeCommitted_18
set_option maxHeartbeats 4000000 in
set_option maxRecDepth 100000 in
theorem c_X3_spendCommitted {l : Launch} {D : va_G} {cI cR : ClassId} {ad : Nat → Nat} (hdj : Dj 236 ad) (X : St) (h : Int32) (a : Int32) : WoV l D cI cR (Aw 236 ad) (wC cI cR ad X) (wC cI cR ad (sg X 0 (b_sc (X 0) h a))) yX3_spendCommitted wsX3_spendCommitted ({ frames := 1, cells := 0, slots := 0, locals := 21 } : Room) [.ref (ad 1), .int h, .int a] := by
  refine OfW (cc := cX3_spendCommitted) (maxL := 3) (ret := none) (by decide +kernel) rfl (Nat.le_of_ble_eq_true rfl) (fun p e s m below meth c hx hb hr hts hown hlocks hml hnm hP hK hN ls hl => ?_)
  have hl : lv_has ls 3 [(0, .ref (ad 1)), (1, .int h), (2, .int a)] := hl
  have lk_27 := hts (.fieldLink RX3 27 "HeadBudgets$Heads" "committed" "[I") (by decide +kernel)
  have lk_30 := hts (.fieldLink RX3 30 "HeadBudgets$Heads" "spent" "[I") (by decide +kernel)
  have hi_X3 : ∀ w ∈ wsX30, w ∈ wsX3_spendCommitted := by decide +kernel
  have hS : va_S (Aw 236 ad) s.heap s.heap [] := va_S.rf
  have hP : va_P D vwCl (wC cI cR ad X) s.heap := hP
  refine lv_aload_n hx hb dX3_spendCommitted_0 rfl (lv_at hl 0 rfl) ?_
  refine lv_iload_n hx hb dX3_spendCommitted_1 rfl (lv_at hl 1 rfl) ?_
  refine callB (As := [.int h]) (rest := []) ⟨hx, hb, hml, hown, hts⟩ (c_X3_has X h) (cwV 1 hts gX3_spendCommitted_X3_has rfl rfl rfl (by decide +kernel) ⟨Nat.le_of_ble_eq_true rfl, Nat.le_of_ble_eq_true rfl⟩) hK hN hP 1 g0_1 rfl rfl hl.1 rfl (Nat.le_of_ble_eq_true rfl) dX3_spendCommitted_2 ⟨Nat.zero_le _, Nat.zero_le _⟩ (fun c_2 => ?_) (fun c_2 => ?_)
  · refine lv_if_eq (tgt := 28) hx hb dX3_spendCommitted_5 (by decide) (fun h9 => absurd h9 (by decide)) (fun _ => ?_)
    refine lv_aload_n hx hb dX3_spendCommitted_8 rfl (lv_at hl 0 rfl) ?_
    refine xget (C := RX3) (T := TX3) (N := 11) (ci := 3) (w := .ref (ad 7)) hx hb hts hi_X3 hown hK hP 1 g0_1 rfl 5 (by decide) lk_27 rfl dX3_spendCommitted_9 ?_
    refine lv_iload_n hx hb dX3_spendCommitted_12 rfl (lv_at hl 1 rfl) ?_
    refine lv_dup2_11 hx hb dX3_spendCommitted_13 rfl rfl ?_
    refine xald (x := qv (X 0) 4 h) hx hb hK hP 7 g0_7 (in20h c_2) rfl dX3_spendCommitted_14 ?_
    refine lv_iload_n hx hb dX3_spendCommitted_15 rfl (lv_at hl 2 rfl) ?_
    refine lv_isub hx hb dX3_spendCommitted_16 ?_
    refine xast hx hb hK hP (wC_D hdj) hS 7 g0_7 (in20h c_2) s0_4 dX3_spendCommitted_17 (fun H locs hP hS => ?_)
    obtain ⟨X_1, eX_1⟩ : ∃ Z : St, Z = u3 X 0 4 h.toNatClampNeg ((qv (X 0) 4 h) - a) := ⟨_, rfl⟩
    rw [← eX_1] at hP
    refine lv_aload_n hx hb dX3_spendCommitted_18 rfl (lv_at hl 0 rfl) ?_
    refine xget (C := RX3) (T := TX3) (N := 11) (ci := 3) (w := .ref (ad 8)) hx hb hts hi_X3 hown hK hP 1 g0_1 rfl 6 (by decide) lk_30 rfl dX3_spendCommitted_19 ?_
    refine lv_iload_n hx hb dX3_spendCommitted_22 rfl (lv_at hl 1 rfl) ?_
    refine lv_dup2_11 hx hb dX3_spendCommitted_23 rfl rfl ?_
    refine xald (x := qv (X_1 0) 5 h) hx hb hK hP 8 g0_8 (in20h c_2) rfl dX3_spendCommitted_24 ?_
    refine lv_iload_n hx hb dX3_spendCommitted_25 rfl (lv_at hl 2 rfl) ?_
    refine lv_iadd hx hb dX3_spendCommitted_26 ?_
    refine xast hx hb hK hP (wC_D hdj) hS 8 g0_8 (in20h c_2) s0_5 dX3_spendCommitted_27 (fun H locs hP hS => ?_)
    obtain ⟨X_2, eX_2⟩ : ∃ Z : St, Z = u3 X_1 0 5 h.toNatClampNeg ((qv (X_1 0) 5 h) + a) := ⟨_, rfl⟩
    rw [← eX_2] at hP
    have hZ : X_2 = sg X 0 (b_sc (X 0) h a) := by
      subst eX_2 eX_1
      try simp only [u3_sg, sg_sg, sg_g]
      try unfold b_sc
      try dsimp only
      all_goals repeat (first | rw [ci_t c_2] | rw [ci_f c_2])
      all_goals (first | rfl | (rw [sg_self]) | (simp only [u3_sg, sg_sg, sg_g]; done) | (simp only [u3_sg, sg_sg, sg_g]; rfl))
    exact retWV hx hb hr hlocks (by rw [← hZ]; exact hP) hS dX3_spendCommitted_28
  · refine lv_if_eq (tgt := 28) hx hb dX3_spendCommitted_5 (by decide) (fun _ => ?_) (fun h9 => absurd (by decide) h9)
    have hZ : X = sg X 0 (b_sc (X 0) h a) := by
      try simp only [u3_sg, sg_sg, sg_g]
      try unfold b_sc
      try dsimp only
      all_goals repeat (first | rw [ci_t c_2] | rw [ci_f c_2])
      all_goals (first | rfl | (rw [sg_self]) | (simp only [u3_sg, sg_sg, sg_g]; done) | (simp only [u3_sg, sg_sg, sg_g]; rfl))
    exact retWV hx hb hr hlocks (by rw [← hZ]; exact hP) hS dX3_spendCommitted_28
set_option maxHeartbeats 4000000 in
set_option maxRecDepth 100000 in
theorem c_X3_moveByVirement {l : Launch} {D : va_G} {cI cR : ClassId} {ad : Nat → Nat} (hdj : Dj 236 ad) (X : St) (f : Int32) (t : Int32) (a : Int32) : WoV l D cI cR (Aw 236 ad) (wC cI cR ad X) (wC cI cR ad (sg X 0 (b_mv (X 0) f t a))) yX3_moveByVirement wsX3_moveByVirement ({ frames := 2, cells := 0, slots := 0, locals := 43 } : Room) [.ref (ad 1), .int f, .int t, .int a] := by
  refine OfW (cc := cX3_moveByVirement) (maxL := 4) (ret := none) (by decide +kernel) rfl (Nat.le_of_ble_eq_true rfl) (fun p e s m below meth c hx hb hr hts hown hlocks hml hnm hP hK hN ls hl => ?_)
  have hl : lv_has ls 4 [(0, .ref (ad 1)), (1, .int f), (2, .int t), (3, .int a)] := hl
  have lk_24 := hts (.fieldLink RX3 24 "HeadBudgets$Heads" "allotment" "[I") (by decide +kernel)
  have lk_36 := hts (.fieldLink RX3 36 "HeadBudgets$Heads" "left" "[I") (by decide +kernel)
  have hi_X3 : ∀ w ∈ wsX30, w ∈ wsX3_moveByVirement := by decide +kernel
  have hS : va_S (Aw 236 ad) s.heap s.heap [] := va_S.rf
  have hP : va_P D vwCl (wC cI cR ad X) s.heap := hP
  refine lv_aload_n hx hb dX3_moveByVirement_0 rfl (lv_at hl 0 rfl) ?_
  refine lv_iload_n hx hb dX3_moveByVirement_1 rfl (lv_at hl 1 rfl) ?_
  refine lv_iload_n hx hb dX3_moveByVirement_2 rfl (lv_at hl 2 rfl) ?_
  refine callB (As := [.int f, .int t]) (rest := []) ⟨hx, hb, hml, hown, hts⟩ (c_X3_hasBoth X f t) (cwV 2 hts gX3_moveByVirement_X3_hasBoth rfl rfl rfl (by decide +kernel) ⟨Nat.le_of_ble_eq_true rfl, Nat.le_of_ble_eq_true rfl⟩) hK hN hP 1 g0_1 rfl rfl hl.1 rfl (Nat.le_of_ble_eq_true rfl) dX3_moveByVirement_3 ⟨Nat.zero_le _, Nat.zero_le _⟩ (fun c_3 => ?_) (fun c_3 => ?_)
  · have q1 := in20h c_3.1
    have q2 := in20h c_3.2.1
    refine lv_if_eq (tgt := 39) hx hb dX3_moveByVirement_6 (by decide) (fun h9 => absurd h9 (by decide)) (fun _ => ?_)
    refine lv_aload_n hx hb dX3_moveByVirement_9 rfl (lv_at hl 0 rfl) ?_
    refine xget (C := RX3) (T := TX3) (N := 11) (ci := 3) (w := .ref (ad 6)) hx hb hts hi_X3 hown hK hP 1 g0_1 rfl 4 (by decide) lk_24 rfl dX3_moveByVirement_10 ?_
    refine lv_iload_n hx hb dX3_moveByVirement_13 rfl (lv_at hl 1 rfl) ?_
    refine lv_dup2_11 hx hb dX3_moveByVirement_14 rfl rfl ?_
    refine xald (x := qv (X 0) 3 f) hx hb hK hP 6 g0_6 (by assumption) rfl dX3_moveByVirement_15 ?_
    refine lv_iload_n hx hb dX3_moveByVirement_16 rfl (lv_at hl 3 rfl) ?_
    refine lv_isub hx hb dX3_moveByVirement_17 ?_
    refine xast hx hb hK hP (wC_D hdj) hS 6 g0_6 (by assumption) s0_3 dX3_moveByVirement_18 (fun H locs hP hS => ?_)
    obtain ⟨X_1, eX_1⟩ : ∃ Z : St, Z = u3 X 0 3 f.toNatClampNeg ((qv (X 0) 3 f) - a) := ⟨_, rfl⟩
    rw [← eX_1] at hP
    refine lv_aload_n hx hb dX3_moveByVirement_19 rfl (lv_at hl 0 rfl) ?_
    refine xget (C := RX3) (T := TX3) (N := 11) (ci := 3) (w := .ref (ad 10)) hx hb hts hi_X3 hown hK hP 1 g0_1 rfl 8 (by decide) lk_36 rfl dX3_moveByVirement_20 ?_
    refine lv_iload_n hx hb dX3_moveByVirement_23 rfl (lv_at hl 1 rfl) ?_
    refine lv_dup2_11 hx hb dX3_moveByVirement_24 rfl rfl ?_
    refine xald (x := qv (X_1 0) 7 f) hx hb hK hP 10 g0_10 (by assumption) rfl dX3_moveByVirement_25 ?_
    refine lv_iload_n hx hb dX3_moveByVirement_26 rfl (lv_at hl 3 rfl) ?_
    refine lv_iadd hx hb dX3_moveByVirement_27 ?_
    refine xast hx hb hK hP (wC_D hdj) hS 10 g0_10 (by assumption) s0_7 dX3_moveByVirement_28 (fun H locs hP hS => ?_)
    obtain ⟨X_2, eX_2⟩ : ∃ Z : St, Z = u3 X_1 0 7 f.toNatClampNeg ((qv (X_1 0) 7 f) + a) := ⟨_, rfl⟩
    rw [← eX_2] at hP
    refine lv_aload_n hx hb dX3_moveByVirement_29 rfl (lv_at hl 0 rfl) ?_
    refine xget (C := RX3) (T := TX3) (N := 11) (ci := 3) (w := .ref (ad 6)) hx hb hts hi_X3 hown hK hP 1 g0_1 rfl 4 (by decide) lk_24 rfl dX3_moveByVirement_30 ?_
    refine lv_iload_n hx hb dX3_moveByVirement_33 rfl (lv_at hl 2 rfl) ?_
    refine lv_dup2_11 hx hb dX3_moveByVirement_34 rfl rfl ?_
    refine xald (x := qv (X_2 0) 3 t) hx hb hK hP 6 g0_6 (by assumption) rfl dX3_moveByVirement_35 ?_
    refine lv_iload_n hx hb dX3_moveByVirement_36 rfl (lv_at hl 3 rfl) ?_
    refine lv_iadd hx hb dX3_moveByVirement_37 ?_
    refine xast hx hb hK hP (wC_D hdj) hS 6 g0_6 (by assumption) s0_3 dX3_moveByVirement_38 (fun H locs hP hS => ?_)
    obtain ⟨X_3, eX_3⟩ : ∃ Z : St, Z = u3 X_2 0 3 t.toNatClampNeg ((qv (X_2 0) 3 t) + a) := ⟨_, rfl⟩
    rw [← eX_3] at hP
    have hZ : X_3 = sg X 0 (b_mv (X 0) f t a) := by
      subst eX_3 eX_2 eX_1
      try simp only [u3_sg, sg_sg, sg_g]
      try unfold b_mv n_mv
      try dsimp only
      all_goals repeat (first | rw [ci_t c_3] | rw [ci_f c_3])
      all_goals (first | rfl | (rw [sg_self]) | (simp only [u3_sg, sg_sg, sg_g]; done) | (simp only [u3_sg, sg_sg, sg_g]; rfl))
    exact retWV hx hb hr hlocks (by rw [← hZ]; exact hP) hS dX3_moveByVirement_39
  · refine lv_if_eq (tgt := 39) hx hb dX3_moveByVirement_6 (by decide) (fun _ => ?_) (fun h9 => absurd (by decide) h9)
    have hZ : X = sg X 0 (b_mv (X 0) f t a) := by
      try simp only [u3_sg, sg_sg, sg_g]
      try unfold b_mv n_mv
      try dsimp only
      all_goals repeat (first | rw [ci_t c_3] | rw [ci_f c_3])
      all_goals (first | rfl | (rw [sg_self]) | (simp only [u3_sg, sg_sg, sg_g]; done) | (simp only [u3_sg, sg_sg, sg_g]; rfl))
    exact retWV hx hb hr hlocks (by rw [← hZ]; exact hP) hS dX3_moveByVirement_39
set_option maxHeartbeats 4000000 in
set_option maxRecDepth 100000 in
theorem c_X3_add {l : Launch} {D : va_G} {cI cR : ClassId} {ad : Nat → Nat} (hdj : Dj 236 ad) (X : St) (a : Int32) (k : Int32) : WoE l D cI cR (Aw 236 ad) (wC cI cR ad X) (wC cI cR ad (sg X 0 (b_add (X 0) a k))) yX3_add wsX3_add ({ frames := 1, cells := 0, slots := 0, locals := 21 } : Room) [.ref (ad 1), .int a, .int k] (a_add (X 0)) := by
  refine OfW (cc := cX3_add) (maxL := 4) (ret := (some .int)) (by decide +kernel) rfl (Nat.le_of_ble_eq_true rfl) (fun p e s m below meth c hx hb hr hts hown hlocks hml hnm hP hK hN ls hl => ?_)
  have hl : lv_has ls 4 [(0, .ref (ad 1)), (1, .int a), (2, .int k)] := hl
  have lk_48 := hts (.fieldLink RX3 48 "HeadBudgets$Heads" "made" "I") (by decide +kernel)
  have lk_9 := hts (.fieldLink RX3 9 "HeadBudgets$Heads" "above" "[I") (by decide +kernel)
  have lk_15 := hts (.fieldLink RX3 15 "HeadBudgets$Heads" "depth" "[I") (by decide +kernel)
  have lk_18 := hts (.fieldLink RX3 18 "HeadBudgets$Heads" "rank" "[I") (by decide +kernel)
  have lk_39 := hts (.fieldLink RX3 39 "HeadBudgets$Heads" "share" "[I") (by decide +kernel)
  have hi_X3 : ∀ w ∈ wsX30, w ∈ wsX3_add := by decide +kernel
  have hS : va_S (Aw 236 ad) s.heap s.heap [] := va_S.rf
  have hP : va_P D vwCl (wC cI cR ad X) s.heap := hP
  refine lv_aload_n hx hb dX3_add_0 rfl (lv_at hl 0 rfl) ?_
  refine xget (C := RX3) (T := TX3) (N := 11) (ci := 3) (w := .int (X 0 14 1)) hx hb hts hi_X3 hown hK hP 1 g0_1 rfl 10 (by decide) lk_48 rfl dX3_add_1 ?_
  refine lv_istore_n (lv' := [(3, .int (X 0 14 1)), (0, .ref (ad 1)), (1, .int a), (2, .int k)]) hx hb dX3_add_4 rfl hl (by decide) rfl (fun ls hl => ?_)
  refine lv_iload_n hx hb dX3_add_5 rfl (lv_at hl 0 rfl) ?_
  refine lv_if_lt (tgt := 15) hx hb dX3_add_6 (by decide) (fun c_6 => ?_) (fun c_6 => ?_)
  · refine lv_bipush (v := (-3)) hx hb dX3_add_15 (by decide) ?_
    have hZ : X = sg X 0 (b_add (X 0) a k) := by
      try simp only [u3_sg, sg_sg, sg_g]
      try unfold b_add n_add
      try dsimp only
      all_goals repeat (first | rw [ci_t c_6] | rw [ci_f c_6])
      all_goals (first | rfl | (rw [sg_self]) | (simp only [u3_sg, sg_sg, sg_g]; done) | (simp only [u3_sg, sg_sg, sg_g]; rfl))
    have hV : (-3) = a_add (X 0) := by
      try simp only [u3_sg, sg_sg, sg_g]
      try unfold a_add
      try dsimp only
      all_goals repeat (first | rw [ci_t c_6] | rw [ci_f c_6])
      all_goals (first | rfl | (rw [sg_self]) | (simp only [u3_sg, sg_sg, sg_g]; done) | (simp only [u3_sg, sg_sg, sg_g]; rfl))
    exact retWE hx hb hr hlocks (by rw [← hZ]; exact hP) hS dX3_add_17 hV
  · refine lv_iload_n hx hb dX3_add_9 rfl (lv_at hl 0 rfl) ?_
    refine lv_bipush (v := 20) hx hb dX3_add_10 (by decide) ?_
    refine lv_icmp_lt (tgt := 18) hx hb dX3_add_12 (by decide) (fun c_12 => ?_) (fun c_12 => ?_)
    · refine lv_aload_n hx hb dX3_add_18 rfl (lv_at hl 1 rfl) ?_
      refine xget (C := RX3) (T := TX3) (N := 11) (ci := 3) (w := .ref (ad 2)) hx hb hts hi_X3 hown hK hP 1 g0_1 rfl 0 (by decide) lk_9 rfl dX3_add_19 ?_
      refine lv_iload_n hx hb dX3_add_22 rfl (lv_at hl 0 rfl) ?_
      refine lv_iload_n hx hb dX3_add_23 rfl (lv_at hl 2 rfl) ?_
      refine xast hx hb hK hP (wC_D hdj) hS 2 g0_2 (in_made c_6 c_12) s0_0 dX3_add_24 (fun H locs hP hS => ?_)
      obtain ⟨X_1, eX_1⟩ : ∃ Z : St, Z = u3 X 0 0 (X 0 14 1).toNatClampNeg a := ⟨_, rfl⟩
      rw [← eX_1] at hP
      refine lv_aload_n hx hb dX3_add_25 rfl (lv_at hl 1 rfl) ?_
      refine xget (C := RX3) (T := TX3) (N := 11) (ci := 3) (w := .ref (ad 3)) hx hb hts hi_X3 hown hK hP 1 g0_1 rfl 1 (by decide) lk_15 rfl dX3_add_26 ?_
      refine lv_iload_n hx hb dX3_add_29 rfl (lv_at hl 0 rfl) ?_
      refine lv_aload_n hx hb dX3_add_30 rfl (lv_at hl 1 rfl) ?_
      refine lv_iload_n hx hb dX3_add_31 rfl (lv_at hl 2 rfl) ?_
      refine callB (As := [.int a]) (rest := [.int (X 0 14 1), .ref (ad 3)]) ⟨hx, hb, hml, hown, hts⟩ (c_X3_has X_1 a) (cwV 1 hts gX3_add_X3_has rfl rfl rfl (by decide +kernel) ⟨Nat.le_of_ble_eq_true rfl, Nat.le_of_ble_eq_true rfl⟩) hK hN hP 1 g0_1 rfl rfl hl.1 rfl (Nat.le_of_ble_eq_true rfl) dX3_add_32 ⟨Nat.zero_le _, Nat.zero_le _⟩ (fun c_32 => ?_) (fun c_32 => ?_)
      · refine lv_if_eq (tgt := 49) hx hb dX3_add_35 (by decide) (fun h9 => absurd h9 (by decide)) (fun _ => ?_)
        refine lv_aload_n hx hb dX3_add_38 rfl (lv_at hl 1 rfl) ?_
        refine xget (C := RX3) (T := TX3) (N := 11) (ci := 3) (w := .ref (ad 3)) hx hb hts hi_X3 hown hK hP 1 g0_1 rfl 1 (by decide) lk_15 rfl dX3_add_39 ?_
        refine lv_iload_n hx hb dX3_add_42 rfl (lv_at hl 2 rfl) ?_
        refine xald (x := qv (X_1 0) 9 a) hx hb hK hP 3 g0_3 (in20h c_32) rfl dX3_add_43 ?_
        refine lv_iconst (v := 1) hx hb dX3_add_44 (by decide) ?_
        refine lv_iadd hx hb dX3_add_45 ?_
        refine lv_goto (tgt := 50) hx hb dX3_add_46 (by decide) ?_
        refine xast hx hb hK hP (wC_D hdj) hS 3 g0_3 (in_made c_6 c_12) s0_9 dX3_add_50 (fun H locs hP hS => ?_)
        obtain ⟨X_2, eX_2⟩ : ∃ Z : St, Z = u3 X_1 0 9 (X 0 14 1).toNatClampNeg ((qv (X_1 0) 9 a) + 1) := ⟨_, rfl⟩
        rw [← eX_2] at hP
        refine lv_aload_n hx hb dX3_add_51 rfl (lv_at hl 1 rfl) ?_
        refine xget (C := RX3) (T := TX3) (N := 11) (ci := 3) (w := .ref (ad 4)) hx hb hts hi_X3 hown hK hP 1 g0_1 rfl 2 (by decide) lk_18 rfl dX3_add_52 ?_
        refine lv_iload_n hx hb dX3_add_55 rfl (lv_at hl 0 rfl) ?_
        refine lv_iload_n hx hb dX3_add_56 rfl (lv_at hl 3 rfl) ?_
        refine xast hx hb hK hP (wC_D hdj) hS 4 g0_4 (in_made c_6 c_12) s0_1 dX3_add_57 (fun H locs hP hS => ?_)
        obtain ⟨X_3, eX_3⟩ : ∃ Z : St, Z = u3 X_2 0 1 (X 0 14 1).toNatClampNeg k := ⟨_, rfl⟩
        rw [← eX_3] at hP
        refine lv_aload_n hx hb dX3_add_58 rfl (lv_at hl 1 rfl) ?_
        refine xget (C := RX3) (T := TX3) (N := 11) (ci := 3) (w := .ref (ad 11)) hx hb hts hi_X3 hown hK hP 1 g0_1 rfl 9 (by decide) lk_39 rfl dX3_add_59 ?_
        refine lv_iload_n hx hb dX3_add_62 rfl (lv_at hl 0 rfl) ?_
        refine lv_bipush (v := 50) hx hb dX3_add_63 (by decide) ?_
        refine xast hx hb hK hP (wC_D hdj) hS 11 g0_11 (in_made c_6 c_12) s0_8 dX3_add_65 (fun H locs hP hS => ?_)
        obtain ⟨X_4, eX_4⟩ : ∃ Z : St, Z = u3 X_3 0 8 (X 0 14 1).toNatClampNeg 50 := ⟨_, rfl⟩
        rw [← eX_4] at hP
        refine lv_aload_n hx hb dX3_add_66 rfl (lv_at hl 1 rfl) ?_
        refine lv_dup hx hb dX3_add_67 rfl ?_
        refine xget (C := RX3) (T := TX3) (N := 11) (ci := 3) (w := .int (X_4 0 14 1)) hx hb hts hi_X3 hown hK hP 1 g0_1 rfl 10 (by decide) lk_48 rfl dX3_add_68 ?_
        refine lv_iconst (v := 1) hx hb dX3_add_71 (by decide) ?_
        refine lv_iadd hx hb dX3_add_72 ?_
        refine xput (C := RX3) (T := TX3) (N := 11) (ci := 3) hx hb hts hi_X3 tyX3 tyX3_ok nmX3 hown hK hP (wC_D hdj) hS 1 g0_1 rfl 10 (by decide) lk_48 rfl (by decide +kernel) (Nat.le_of_ble_eq_true rfl) s0_heads dX3_add_73 (fun H locs hP hS => ?_)
        obtain ⟨X_5, eX_5⟩ : ∃ Z : St, Z = u3 X_4 0 14 1 ((X_4 0 14 1) + 1) := ⟨_, rfl⟩
        rw [← eX_5] at hP
        refine lv_iload_n hx hb dX3_add_76 rfl (lv_at hl 0 rfl) ?_
        have hZ : X_5 = sg X 0 (b_add (X 0) a k) := by
          subst eX_5 eX_4 eX_3 eX_2 eX_1
          try simp only [u3_sg, sg_sg, sg_g] at c_32
          try simp only [u3_sg, sg_sg, sg_g]
          try unfold b_add n_add
          try dsimp only
          all_goals repeat (first | rw [ci_t c_6] | rw [ci_f c_6] | rw [ci_t c_12] | rw [ci_f c_12] | rw [ci_t c_32] | rw [ci_f c_32])
          all_goals (first | rfl | (rw [sg_self]) | (simp only [u3_sg, sg_sg, sg_g]; done) | (simp only [u3_sg, sg_sg, sg_g]; rfl))
        have hV : X 0 14 1 = a_add (X 0) := by
          subst eX_5 eX_4 eX_3 eX_2 eX_1
          try simp only [u3_sg, sg_sg, sg_g] at c_32
          try simp only [u3_sg, sg_sg, sg_g]
          try unfold a_add
          try dsimp only
          all_goals repeat (first | rw [ci_t c_6] | rw [ci_f c_6] | rw [ci_t c_12] | rw [ci_f c_12] | rw [ci_t c_32] | rw [ci_f c_32])
          all_goals (first | rfl | (rw [sg_self]) | (simp only [u3_sg, sg_sg, sg_g]; done) | (simp only [u3_sg, sg_sg, sg_g]; rfl))
        exact retWE hx hb hr hlocks (by rw [← hZ]; exact hP) hS dX3_add_77 hV
      · refine lv_if_eq (tgt := 49) hx hb dX3_add_35 (by decide) (fun _ => ?_) (fun h9 => absurd (by decide) h9)
        refine lv_iconst (v := 0) hx hb dX3_add_49 (by decide) ?_
        refine xast hx hb hK hP (wC_D hdj) hS 3 g0_3 (in_made c_6 c_12) s0_9 dX3_add_50 (fun H locs hP hS => ?_)
        obtain ⟨X_6, eX_6⟩ : ∃ Z : St, Z = u3 X_1 0 9 (X 0 14 1).toNatClampNeg 0 := ⟨_, rfl⟩
        rw [← eX_6] at hP
        refine lv_aload_n hx hb dX3_add_51 rfl (lv_at hl 1 rfl) ?_
        refine xget (C := RX3) (T := TX3) (N := 11) (ci := 3) (w := .ref (ad 4)) hx hb hts hi_X3 hown hK hP 1 g0_1 rfl 2 (by decide) lk_18 rfl dX3_add_52 ?_
        refine lv_iload_n hx hb dX3_add_55 rfl (lv_at hl 0 rfl) ?_
        refine lv_iload_n hx hb dX3_add_56 rfl (lv_at hl 3 rfl) ?_
        refine xast hx hb hK hP (wC_D hdj) hS 4 g0_4 (in_made c_6 c_12) s0_1 dX3_add_57 (fun H locs hP hS => ?_)
        obtain ⟨X_7, eX_7⟩ : ∃ Z : St, Z = u3 X_6 0 1 (X 0 14 1).toNatClampNeg k := ⟨_, rfl⟩
        rw [← eX_7] at hP
        refine lv_aload_n hx hb dX3_add_58 rfl (lv_at hl 1 rfl) ?_
        refine xget (C := RX3) (T := TX3) (N := 11) (ci := 3) (w := .ref (ad 11)) hx hb hts hi_X3 hown hK hP 1 g0_1 rfl 9 (by decide) lk_39 rfl dX3_add_59 ?_
        refine lv_iload_n hx hb dX3_add_62 rfl (lv_at hl 0 rfl) ?_
        refine lv_bipush (v := 50) hx hb dX3_add_63 (by decide) ?_
        refine xast hx hb hK hP (wC_D hdj) hS 11 g0_11 (in_made c_6 c_12) s0_8 dX3_add_65 (fun H locs hP hS => ?_)
        obtain ⟨X_8, eX_8⟩ : ∃ Z : St, Z = u3 X_7 0 8 (X 0 14 1).toNatClampNeg 50 := ⟨_, rfl⟩
        rw [← eX_8] at hP
        refine lv_aload_n hx hb dX3_add_66 rfl (lv_at hl 1 rfl) ?_
        refine lv_dup hx hb dX3_add_67 rfl ?_
        refine xget (C := RX3) (T := TX3) (N := 11) (ci := 3) (w := .int (X_8 0 14 1)) hx hb hts hi_X3 hown hK hP 1 g0_1 rfl 10 (by decide) lk_48 rfl dX3_add_68 ?_
        refine lv_iconst (v := 1) hx hb dX3_add_71 (by decide) ?_
        refine lv_iadd hx hb dX3_add_72 ?_
        refine xput (C := RX3) (T := TX3) (N := 11) (ci := 3) hx hb hts hi_X3 tyX3 tyX3_ok nmX3 hown hK hP (wC_D hdj) hS 1 g0_1 rfl 10 (by decide) lk_48 rfl (by decide +kernel) (Nat.le_of_ble_eq_true rfl) s0_heads dX3_add_73 (fun H locs hP hS => ?_)
        obtain ⟨X_9, eX_9⟩ : ∃ Z : St, Z = u3 X_8 0 14 1 ((X_8 0 14 1) + 1) := ⟨_, rfl⟩
        rw [← eX_9] at hP
        refine lv_iload_n hx hb dX3_add_76 rfl (lv_at hl 0 rfl) ?_
        have hZ : X_9 = sg X 0 (b_add (X 0) a k) := by
          subst eX_9 eX_8 eX_7 eX_6 eX_1
          try simp only [u3_sg, sg_sg, sg_g] at c_32
          try simp only [u3_sg, sg_sg, sg_g]
          try unfold b_add n_add
          try dsimp only
          all_goals repeat (first | rw [ci_t c_6] | rw [ci_f c_6] | rw [ci_t c_12] | rw [ci_f c_12] | rw [ci_t c_32] | rw [ci_f c_32])
          all_goals (first | rfl | (rw [sg_self]) | (simp only [u3_sg, sg_sg, sg_g]; done) | (simp only [u3_sg, sg_sg, sg_g]; rfl))
        have hV : X 0 14 1 = a_add (X 0) := by
          subst eX_9 eX_8 eX_7 eX_6 eX_1
          try simp only [u3_sg, sg_sg, sg_g] at c_32
          try simp only [u3_sg, sg_sg, sg_g]
          try unfold a_add
          try dsimp only
          all_goals repeat (first | rw [ci_t c_6] | rw [ci_f c_6] | rw [ci_t c_12] | rw [ci_f c_12] | rw [ci_t c_32] | rw [ci_f c_32])
          all_goals (first | rfl | (rw [sg_self]) | (simp only [u3_sg, sg_sg, sg_g]; done) | (simp only [u3_sg, sg_sg, sg_g]; rfl))
        exact retWE hx hb hr hlocks (by rw [← hZ]; exact hP) hS dX3_add_77 hV
    · refine lv_bipush (v := (-3)) hx hb dX3_add_15 (by decide) ?_
      have hZ : X = sg X 0 (b_add (X 0) a k) := by
        try simp only [u3_sg, sg_sg, sg_g]
        try unfold b_add n_add
        try dsimp only
        all_goals repeat (first | rw [ci_t c_6] | rw [ci_f c_6] | rw [ci_t c_12] | rw [ci_f c_12])
        all_goals (first | rfl | (rw [sg_self]) | (simp only [u3_sg, sg_sg, sg_g]; done) | (simp only [u3_sg, sg_sg, sg_g]; rfl))
      have hV : (-3) = a_add (X 0) := by
        try simp only [u3_sg, sg_sg, sg_g]
        try unfold a_add
        try dsimp only
        all_goals repeat (first | rw [ci_t c_6] | rw [ci_f c_6] | rw [ci_t c_12] | rw [ci_f c_12])
        all_goals (first | rfl | (rw [sg_self]) | (simp only [u3_sg, sg_sg, sg_g]; done) | (simp only [u3_sg, sg_sg, sg_g]; rfl))
      exact retWE hx hb hr hlocks (by rw [← hZ]; exact hP) hS dX3_add_17 hV
set_option maxHeartbeats 4000000 in
set_option maxRecDepth 100000 in
theorem c_X1_add {l : Launch} {D : va_G} {cI cR : ClassId} {ad : Nat → Nat} (hdj : Dj 236 ad) (X : St) (h : Int32) (a : Int32) (y : Int32) : WoE l D cI cR (Aw 236 ad) (wC cI cR ad X) (wC cI cR ad (sg X 0 (b_addC (X 0) h a y))) yX1_add wsX1_add ({ frames := 0, cells := 0, slots := 0, locals := 0 } : Room) [.ref (ad 12), .int h, .int a, .int y] (a_addC (X 0)) := by
  refine OfW (cc := cX1_add) (maxL := 5) (ret := (some .int)) (by decide +kernel) rfl (Nat.le_of_ble_eq_true rfl) (fun p e s m below meth c hx hb hr hts hown hlocks hml hnm hP hK hN ls hl => ?_)
  have hl : lv_has ls 5 [(0, .ref (ad 12)), (1, .int h), (2, .int a), (3, .int y)] := hl
  have lk_30 := hts (.fieldLink RX1 30 "HeadBudgets$Commitments" "made" "I") (by decide +kernel)
  have lk_9 := hts (.fieldLink RX1 9 "HeadBudgets$Commitments" "head" "[I") (by decide +kernel)
  have lk_15 := hts (.fieldLink RX1 15 "HeadBudgets$Commitments" "open" "[I") (by decide +kernel)
  have lk_21 := hts (.fieldLink RX1 21 "HeadBudgets$Commitments" "year" "[I") (by decide +kernel)
  have hi_X1 : ∀ w ∈ wsX10, w ∈ wsX1_add := by decide +kernel
  have hS : va_S (Aw 236 ad) s.heap s.heap [] := va_S.rf
  have hP : va_P D vwCl (wC cI cR ad X) s.heap := hP
  refine lv_aload_n hx hb dX1_add_0 rfl (lv_at hl 0 rfl) ?_
  refine xget (C := RX1) (T := TX1) (N := 5) (ci := 1) (w := .int (X 0 14 2)) hx hb hts hi_X1 hown hK hP 12 g0_12 rfl 4 (by decide) lk_30 rfl dX1_add_1 ?_
  refine lv_istore (lv' := [(4, .int (X 0 14 2)), (0, .ref (ad 12)), (1, .int h), (2, .int a), (3, .int y)]) hx hb dX1_add_4 hl (by decide) rfl (fun ls hl => ?_)
  refine lv_iload hx hb dX1_add_6 (lv_at hl 0 rfl) ?_
  refine lv_if_lt (tgt := 18) hx hb dX1_add_8 (by decide) (fun c_8 => ?_) (fun c_8 => ?_)
  · refine lv_bipush (v := (-3)) hx hb dX1_add_18 (by decide) ?_
    have hZ : X = sg X 0 (b_addC (X 0) h a y) := by
      try simp only [u3_sg, sg_sg, sg_g]
      try unfold b_addC n_addC
      try dsimp only
      all_goals repeat (first | rw [ci_t c_8] | rw [ci_f c_8])
      all_goals (first | rfl | (rw [sg_self]) | (simp only [u3_sg, sg_sg, sg_g]; done) | (simp only [u3_sg, sg_sg, sg_g]; rfl))
    have hV : (-3) = a_addC (X 0) := by
      try simp only [u3_sg, sg_sg, sg_g]
      try unfold a_addC
      try dsimp only
      all_goals repeat (first | rw [ci_t c_8] | rw [ci_f c_8])
      all_goals (first | rfl | (rw [sg_self]) | (simp only [u3_sg, sg_sg, sg_g]; done) | (simp only [u3_sg, sg_sg, sg_g]; rfl))
    exact retWE hx hb hr hlocks (by rw [← hZ]; exact hP) hS dX1_add_20 hV
  · refine lv_iload hx hb dX1_add_11 (lv_at hl 0 rfl) ?_
    refine lv_bipush (v := 40) hx hb dX1_add_13 (by decide) ?_
    refine lv_icmp_lt (tgt := 21) hx hb dX1_add_15 (by decide) (fun c_15 => ?_) (fun c_15 => ?_)
    · refine lv_aload_n hx hb dX1_add_21 rfl (lv_at hl 1 rfl) ?_
      refine xget (C := RX1) (T := TX1) (N := 5) (ci := 1) (w := .ref (ad 13)) hx hb hts hi_X1 hown hK hP 12 g0_12 rfl 0 (by decide) lk_9 rfl dX1_add_22 ?_
      refine lv_iload hx hb dX1_add_25 (lv_at hl 0 rfl) ?_
      refine lv_iload_n hx hb dX1_add_27 rfl (lv_at hl 2 rfl) ?_
      refine xast hx hb hK hP (wC_D hdj) hS 13 g0_13 (in_madeC c_8 c_15) s0_10 dX1_add_28 (fun H locs hP hS => ?_)
      obtain ⟨X_1, eX_1⟩ : ∃ Z : St, Z = u3 X 0 10 (X 0 14 2).toNatClampNeg h := ⟨_, rfl⟩
      rw [← eX_1] at hP
      refine lv_aload_n hx hb dX1_add_29 rfl (lv_at hl 1 rfl) ?_
      refine xget (C := RX1) (T := TX1) (N := 5) (ci := 1) (w := .ref (ad 14)) hx hb hts hi_X1 hown hK hP 12 g0_12 rfl 1 (by decide) lk_15 rfl dX1_add_30 ?_
      refine lv_iload hx hb dX1_add_33 (lv_at hl 0 rfl) ?_
      refine lv_iload_n hx hb dX1_add_35 rfl (lv_at hl 3 rfl) ?_
      refine xast hx hb hK hP (wC_D hdj) hS 14 g0_14 (in_madeC c_8 c_15) s0_11 dX1_add_36 (fun H locs hP hS => ?_)
      obtain ⟨X_2, eX_2⟩ : ∃ Z : St, Z = u3 X_1 0 11 (X 0 14 2).toNatClampNeg a := ⟨_, rfl⟩
      rw [← eX_2] at hP
      refine lv_aload_n hx hb dX1_add_37 rfl (lv_at hl 1 rfl) ?_
      refine xget (C := RX1) (T := TX1) (N := 5) (ci := 1) (w := .ref (ad 16)) hx hb hts hi_X1 hown hK hP 12 g0_12 rfl 3 (by decide) lk_21 rfl dX1_add_38 ?_
      refine lv_iload hx hb dX1_add_41 (lv_at hl 0 rfl) ?_
      refine lv_iload_n hx hb dX1_add_43 rfl (lv_at hl 4 rfl) ?_
      refine xast hx hb hK hP (wC_D hdj) hS 16 g0_16 (in_madeC c_8 c_15) s0_13 dX1_add_44 (fun H locs hP hS => ?_)
      obtain ⟨X_3, eX_3⟩ : ∃ Z : St, Z = u3 X_2 0 13 (X 0 14 2).toNatClampNeg y := ⟨_, rfl⟩
      rw [← eX_3] at hP
      refine lv_aload_n hx hb dX1_add_45 rfl (lv_at hl 1 rfl) ?_
      refine lv_dup hx hb dX1_add_46 rfl ?_
      refine xget (C := RX1) (T := TX1) (N := 5) (ci := 1) (w := .int (X_3 0 14 2)) hx hb hts hi_X1 hown hK hP 12 g0_12 rfl 4 (by decide) lk_30 rfl dX1_add_47 ?_
      refine lv_iconst (v := 1) hx hb dX1_add_50 (by decide) ?_
      refine lv_iadd hx hb dX1_add_51 ?_
      refine xput (C := RX1) (T := TX1) (N := 5) (ci := 1) hx hb hts hi_X1 tyX1 tyX1_ok nmX1 hown hK hP (wC_D hdj) hS 12 g0_12 rfl 4 (by decide) lk_30 rfl (by decide +kernel) (Nat.le_of_ble_eq_true rfl) s0_comms dX1_add_52 (fun H locs hP hS => ?_)
      obtain ⟨X_4, eX_4⟩ : ∃ Z : St, Z = u3 X_3 0 14 2 ((X_3 0 14 2) + 1) := ⟨_, rfl⟩
      rw [← eX_4] at hP
      refine lv_iload hx hb dX1_add_55 (lv_at hl 0 rfl) ?_
      have hZ : X_4 = sg X 0 (b_addC (X 0) h a y) := by
        subst eX_4 eX_3 eX_2 eX_1
        try simp only [u3_sg, sg_sg, sg_g]
        try unfold b_addC n_addC
        try dsimp only
        all_goals repeat (first | rw [ci_t c_8] | rw [ci_f c_8] | rw [ci_t c_15] | rw [ci_f c_15])
        all_goals (first | rfl | (rw [sg_self]) | (simp only [u3_sg, sg_sg, sg_g]; done) | (simp only [u3_sg, sg_sg, sg_g]; rfl))
      have hV : X 0 14 2 = a_addC (X 0) := by
        subst eX_4 eX_3 eX_2 eX_1
        try simp only [u3_sg, sg_sg, sg_g]
        try unfold a_addC
        try dsimp only
        all_goals repeat (first | rw [ci_t c_8] | rw [ci_f c_8] | rw [ci_t c_15] | rw [ci_f c_15])
        all_goals (first | rfl | (rw [sg_self]) | (simp only [u3_sg, sg_sg, sg_g]; done) | (simp only [u3_sg, sg_sg, sg_g]; rfl))
      exact retWE hx hb hr hlocks (by rw [← hZ]; exact hP) hS dX1_add_57 hV
    · refine lv_bipush (v := (-3)) hx hb dX1_add_18 (by decide) ?_
      have hZ : X = sg X 0 (b_addC (X 0) h a y) := by
        try simp only [u3_sg, sg_sg, sg_g]
        try unfold b_addC n_addC
        try dsimp only
        all_goals repeat (first | rw [ci_t c_8] | rw [ci_f c_8] | rw [ci_t c_15] | rw [ci_f c_15])
        all_goals (first | rfl | (rw [sg_self]) | (simp only [u3_sg, sg_sg, sg_g]; done) | (simp only [u3_sg, sg_sg, sg_g]; rfl))
      have hV : (-3) = a_addC (X 0) := by
        try simp only [u3_sg, sg_sg, sg_g]
        try unfold a_addC
        try dsimp only
        all_goals repeat (first | rw [ci_t c_8] | rw [ci_f c_8] | rw [ci_t c_15] | rw [ci_f c_15])
        all_goals (first | rfl | (rw [sg_self]) | (simp only [u3_sg, sg_sg, sg_g]; done) | (simp only [u3_sg, sg_sg, sg_g]; rfl))
      exact retWE hx hb hr hlocks (by rw [← hZ]; exact hP) hS dX1_add_20 hV
set_option maxHeartbeats 4000000 in
set_option maxRecDepth 100000 in
theorem c_X0_freeOpenOf {l : Launch} {D : va_G} {cI cR : ClassId} {ad : Nat → Nat} (hdj : Dj 236 ad) (X : St) (q : Int32) : WoE l D cI cR (Aw 236 ad) (wC cI cR ad X) (wC cI cR ad (sg X 0 (b_free0 (X 0) q))) yX0_freeOpenOf wsX0_freeOpenOf ({ frames := 2, cells := 0, slots := 0, locals := 43 } : Room) [.ref (ad 0), .int q] (a_free0 (X 0) q) := by
  refine OfW (cc := cX0_freeOpenOf) (maxL := 3) (ret := (some .int)) (by decide +kernel) rfl (Nat.le_of_ble_eq_true rfl) (fun p e s m below meth c hx hb hr hts hown hlocks hml hnm hP hK hN ls hl => ?_)
  have hl : lv_has ls 3 [(0, .ref (ad 0)), (1, .int q)] := hl
  have lk_21 := hts (.fieldLink RX0 21 "HeadBudgets$Books" "commitments" "LHeadBudgets$Commitments;") (by decide +kernel)
  have lk_49 := hts (.fieldLink RX0 49 "HeadBudgets$Commitments" "open" "[I") (by decide +kernel)
  have lk_12 := hts (.fieldLink RX0 12 "HeadBudgets$Books" "heads" "LHeadBudgets$Heads;") (by decide +kernel)
  have lk_53 := hts (.fieldLink RX0 53 "HeadBudgets$Commitments" "head" "[I") (by decide +kernel)
  have hi_X0 : ∀ w ∈ wsX00, w ∈ wsX0_freeOpenOf := by decide +kernel
  have hi_X1 : ∀ w ∈ wsX10, w ∈ wsX0_freeOpenOf := by decide +kernel
  have hS : va_S (Aw 236 ad) s.heap s.heap [] := va_S.rf
  have hP : va_P D vwCl (wC cI cR ad X) s.heap := hP
  refine lv_aload_n hx hb dX0_freeOpenOf_0 rfl (lv_at hl 0 rfl) ?_
  refine xget (C := RX0) (T := TX0) (N := 6) (ci := 0) (w := .ref (ad 12)) hx hb hts hi_X0 hown hK hP 0 g0_0 rfl 1 (by decide) lk_21 rfl dX0_freeOpenOf_1 ?_
  refine lv_iload_n hx hb dX0_freeOpenOf_4 rfl (lv_at hl 1 rfl) ?_
  refine callB (As := [.int q]) (rest := []) ⟨hx, hb, hml, hown, hts⟩ (c_X1_has X q) (cwV 1 hts gX0_freeOpenOf_X1_has rfl rfl rfl (by decide +kernel) ⟨Nat.le_of_ble_eq_true rfl, Nat.le_of_ble_eq_true rfl⟩) hK hN hP 12 g0_12 rfl rfl hl.1 rfl (Nat.le_of_ble_eq_true rfl) dX0_freeOpenOf_5 ⟨Nat.zero_le _, Nat.zero_le _⟩ (fun c_5 => ?_) (fun c_5 => ?_)
  · refine lv_if_ne (tgt := 13) hx hb dX0_freeOpenOf_8 (by decide) (fun _ => ?_) (fun h9 => absurd h9 (by decide))
    refine lv_aload_n hx hb dX0_freeOpenOf_13 rfl (lv_at hl 0 rfl) ?_
    refine xget (C := RX0) (T := TX0) (N := 6) (ci := 0) (w := .ref (ad 12)) hx hb hts hi_X0 hown hK hP 0 g0_0 rfl 1 (by decide) lk_21 rfl dX0_freeOpenOf_14 ?_
    refine xget (C := RX1) (T := TX1) (N := 5) (ci := 1) (w := .ref (ad 14)) hx hb hts hi_X1 hown hK hP 12 g0_12 rfl 1 (by decide) lk_49 rfl dX0_freeOpenOf_17 ?_
    refine lv_iload_n hx hb dX0_freeOpenOf_20 rfl (lv_at hl 1 rfl) ?_
    refine xald (x := qv (X 0) 11 q) hx hb hK hP 14 g0_14 (in40h c_5) rfl dX0_freeOpenOf_21 ?_
    refine lv_istore_n (lv' := [(2, .int (qv (X 0) 11 q)), (0, .ref (ad 0)), (1, .int q)]) hx hb dX0_freeOpenOf_22 rfl hl (by decide) rfl (fun ls hl => ?_)
    refine lv_aload_n hx hb dX0_freeOpenOf_23 rfl (lv_at hl 1 rfl) ?_
    refine xget (C := RX0) (T := TX0) (N := 6) (ci := 0) (w := .ref (ad 12)) hx hb hts hi_X0 hown hK hP 0 g0_0 rfl 1 (by decide) lk_21 rfl dX0_freeOpenOf_24 ?_
    refine xget (C := RX1) (T := TX1) (N := 5) (ci := 1) (w := .ref (ad 14)) hx hb hts hi_X1 hown hK hP 12 g0_12 rfl 1 (by decide) lk_49 rfl dX0_freeOpenOf_27 ?_
    refine lv_iload_n hx hb dX0_freeOpenOf_30 rfl (lv_at hl 2 rfl) ?_
    refine lv_iconst (v := 0) hx hb dX0_freeOpenOf_31 (by decide) ?_
    refine xast hx hb hK hP (wC_D hdj) hS 14 g0_14 (in40h c_5) s0_11 dX0_freeOpenOf_32 (fun H locs hP hS => ?_)
    obtain ⟨X_1, eX_1⟩ : ∃ Z : St, Z = u3 X 0 11 q.toNatClampNeg 0 := ⟨_, rfl⟩
    rw [← eX_1] at hP
    refine lv_aload_n hx hb dX0_freeOpenOf_33 rfl (lv_at hl 1 rfl) ?_
    refine xget (C := RX0) (T := TX0) (N := 6) (ci := 0) (w := .ref (ad 1)) hx hb hts hi_X0 hown hK hP 0 g0_0 rfl 0 (by decide) lk_12 rfl dX0_freeOpenOf_34 ?_
    refine lv_aload_n hx hb dX0_freeOpenOf_37 rfl (lv_at hl 1 rfl) ?_
    refine xget (C := RX0) (T := TX0) (N := 6) (ci := 0) (w := .ref (ad 12)) hx hb hts hi_X0 hown hK hP 0 g0_0 rfl 1 (by decide) lk_21 rfl dX0_freeOpenOf_38 ?_
    refine xget (C := RX1) (T := TX1) (N := 5) (ci := 1) (w := .ref (ad 13)) hx hb hts hi_X1 hown hK hP 12 g0_12 rfl 0 (by decide) lk_53 rfl dX0_freeOpenOf_41 ?_
    refine lv_iload_n hx hb dX0_freeOpenOf_44 rfl (lv_at hl 2 rfl) ?_
    refine xald (x := qv (X_1 0) 10 q) hx hb hK hP 13 g0_13 (in40h c_5) rfl dX0_freeOpenOf_45 ?_
    refine lv_iload_n hx hb dX0_freeOpenOf_46 rfl (lv_at hl 0 rfl) ?_
    refine lv_ineg hx hb dX0_freeOpenOf_47 ?_
    refine callWV (As := [.int (qv (X_1 0) 10 q), .int (-(qv (X 0) 11 q))]) (rest := []) ⟨hx, hb, hml, hown, hts⟩ (c_X3_changeCommitted hdj X_1 (qv (X_1 0) 10 q) (-(qv (X 0) 11 q))) (cwV 2 hts gX0_freeOpenOf_X3_changeCommitted rfl rfl rfl (by decide +kernel) ⟨Nat.le_of_ble_eq_true rfl, Nat.le_of_ble_eq_true rfl⟩) hK hN hP 1 g0_1 rfl rfl hl.1 rfl (Nat.le_of_ble_eq_true rfl) dX0_freeOpenOf_48 ⟨Nat.zero_le _, Nat.zero_le _⟩ hS (fun _ h9 => h9) (fun H locs hP hS => ?_)
    obtain ⟨X_2, eX_2⟩ : ∃ Z : St, Z = sg X_1 0 (b_cc (X_1 0) (qv (X_1 0) 10 q) (-(qv (X 0) 11 q))) := ⟨_, rfl⟩
    rw [← eX_2] at hP
    refine lv_iload_n hx hb dX0_freeOpenOf_51 rfl (lv_at hl 0 rfl) ?_
    have hZ : X_2 = sg X 0 (b_free0 (X 0) q) := by
      subst eX_2 eX_1
      try simp only [u3_sg, sg_sg, sg_g]
      try unfold b_free0
      try dsimp only
      all_goals repeat (first | rw [ci_t c_5] | rw [ci_f c_5])
      all_goals (first | rfl | (rw [sg_self]) | (simp only [u3_sg, sg_sg, sg_g]; done) | (simp only [u3_sg, sg_sg, sg_g]; rfl))
    have hV : qv (X 0) 11 q = a_free0 (X 0) q := by
      subst eX_2 eX_1
      try simp only [u3_sg, sg_sg, sg_g]
      try unfold a_free0
      try dsimp only
      all_goals repeat (first | rw [ci_t c_5] | rw [ci_f c_5])
      all_goals (first | rfl | (rw [sg_self]) | (simp only [u3_sg, sg_sg, sg_g]; done) | (simp only [u3_sg, sg_sg, sg_g]; rfl))
    exact retWE hx hb hr hlocks (by rw [← hZ]; exact hP) hS dX0_freeOpenOf_52 hV
  · refine lv_if_ne (tgt := 13) hx hb dX0_freeOpenOf_8 (by decide) (fun h9 => absurd (by decide) h9) (fun _ => ?_)
    refine lv_iconst (v := 0) hx hb dX0_freeOpenOf_11 (by decide) ?_
    have hZ : X = sg X 0 (b_free0 (X 0) q) := by
      try simp only [u3_sg, sg_sg, sg_g]
      try unfold b_free0
      try dsimp only
      all_goals repeat (first | rw [ci_t c_5] | rw [ci_f c_5])
      all_goals (first | rfl | (rw [sg_self]) | (simp only [u3_sg, sg_sg, sg_g]; done) | (simp only [u3_sg, sg_sg, sg_g]; rfl))
    have hV : 0 = a_free0 (X 0) q := by
      try simp only [u3_sg, sg_sg, sg_g]
      try unfold a_free0
      try dsimp only
      all_goals repeat (first | rw [ci_t c_5] | rw [ci_f c_5])
      all_goals (first | rfl | (rw [sg_self]) | (simp only [u3_sg, sg_sg, sg_g]; done) | (simp only [u3_sg, sg_sg, sg_g]; rfl))
    exact retWE hx hb hr hlocks (by rw [← hZ]; exact hP) hS dX0_freeOpenOf_12 hV
set_option maxHeartbeats 4000000 in
set_option maxRecDepth 100000 in
theorem c_X3_carryForward {l : Launch} {D : va_G} {cI cR : ClassId} {ad : Nat → Nat} (hdj : Dj 236 ad) (X : St) (q : Int32) : WoV l D cI cR (Aw 236 ad) (wC cI cR ad X) (wC cI cR ad (sg X 0 (b_cf (X 0) q 20))) yX3_carryForward wsX3_carryForward ({ frames := 2, cells := 0, slots := 0, locals := 42 } : Room) [.ref (ad 1), .int q] := by
  refine OfW (cc := cX3_carryForward) (maxL := 4) (ret := none) (by decide +kernel) rfl (Nat.le_of_ble_eq_true rfl) (fun p e s m below meth c hx hb hr hts hown hlocks hml hnm hP hK hN ls hl => ?_)
  have hl : lv_has ls 4 [(0, .ref (ad 1)), (1, .int q)] := hl
  have lk_24 := hts (.fieldLink RX3 24 "HeadBudgets$Heads" "allotment" "[I") (by decide +kernel)
  have lk_27 := hts (.fieldLink RX3 27 "HeadBudgets$Heads" "committed" "[I") (by decide +kernel)
  have lk_33 := hts (.fieldLink RX3 33 "HeadBudgets$Heads" "allotted" "[I") (by decide +kernel)
  have lk_30 := hts (.fieldLink RX3 30 "HeadBudgets$Heads" "spent" "[I") (by decide +kernel)
  have lk_36 := hts (.fieldLink RX3 36 "HeadBudgets$Heads" "left" "[I") (by decide +kernel)
  have hi_X3 : ∀ w ∈ wsX30, w ∈ wsX3_carryForward := by decide +kernel
  have hS : va_S (Aw 236 ad) s.heap s.heap [] := va_S.rf
  have hP : va_P D vwCl (wC cI cR ad X) s.heap := hP
  refine lv_iconst (v := 0) hx hb dX3_carryForward_0 (by decide) ?_
  refine lv_istore_n (lv' := [(2, .int 0), (0, .ref (ad 1)), (1, .int q)]) hx hb dX3_carryForward_1 rfl hl (by decide) rfl (fun ls hl => ?_)
  have hloop_2 : ∀ (n_2 : Nat) (k : Nat) (xk : Int32) (XL_2 : St) (H : Heap) (locs : List Loc), va_P D vwCl (wC cI cR ad XL_2) H → va_S (Aw 236 ad) s.heap H locs → k ≤ 20 → 20 < k + n_2 → xk = nI k → XL_2 = sg X 0 (b_cf (X 0) q k) → ∀ ls : Array Slot, lv_has ls 4 [(0, .ref (ad 1)), (1, .int q), (2, .int xk)] → W p l e ({ frames := 2, cells := 0, slots := 0, locals := 42 } : Room) s m ([.ref (ad 1), .int q]).toArray below meth c H locs 0 0 (MQ below (va_Qv (S := Unit) (fun _ => True) (fun _ t => va_P D vwCl (wC cI cR ad (sg X 0 (b_cf (X 0) q 20))) t.heap) (Aw 236 ad)) ([.ref (ad 1), .int q]).toArray s 0 0 (Aw 236 ad)) (F0 m 2 ls []) := by
    intro n_2
    induction n_2 with
    | zero =>
      intro k xk XL_2 H locs hP hS hk hn ek ea ls hl
      exfalso; omega
    | succ n_2 ih_2 =>
      intro k xk XL_2 H locs hP hS hk hn ek ea ls hl
      refine lv_iload_n hx hb dX3_carryForward_2 rfl (lv_at hl 2 rfl) ?_
      refine lv_bipush (v := 20) hx hb dX3_carryForward_3 (by decide) ?_
      refine lv_icmp_ge (tgt := 59) hx hb dX3_carryForward_5 (by decide) (fun c_5 => ?_) (fun c_5 => ?_)
      · have hk2 : k = 20 := nI_ge20 hk (by rw [← ek]; exact c_5)
        subst hk2
        rw [ea] at hP
        exact retWV hx hb hr hlocks hP hS dX3_carryForward_59
      · have hlt : k < 20 := nI_lt20 (by omega) (by rw [← ek]; exact c_5)
        have q1 := in20 (nI_hin hlt)
        rw [← ek] at q1
        refine lv_aload_n hx hb dX3_carryForward_8 rfl (lv_at hl 0 rfl) ?_
        refine lv_iload_n hx hb dX3_carryForward_9 rfl (lv_at hl 2 rfl) ?_
        refine callE (As := [.int xk]) (rest := []) ⟨hx, hb, hml, hown, hts⟩ (c_X3_freeOf XL_2 xk) (cwV 1 hts gX3_carryForward_X3_freeOf rfl rfl rfl (by decide +kernel) ⟨Nat.le_of_ble_eq_true rfl, Nat.le_of_ble_eq_true rfl⟩) hK hN hP 1 g0_1 rfl rfl hl.1 rfl (Nat.le_of_ble_eq_true rfl) dX3_carryForward_10 ⟨Nat.zero_le _, Nat.zero_le _⟩ ?_
        refine lv_iload_n hx hb dX3_carryForward_13 rfl (lv_at hl 1 rfl) ?_
        refine callNE (As := [.int (p_free (XL_2 0) xk), .int q]) (rest := []) ⟨hx, hb, hml, hown, hts⟩ (c_X5_partOf (p_free (XL_2 0) xk) q) ⟨va_cnB 2 hts gX3_carryForward_X5_partOf_n77 rfl rfl rfl hN.2.2.2.2.2 (hts (.initialized RX5) (by decide +kernel)) (by decide +kernel) ⟨Nat.le_of_ble_eq_true rfl, Nat.le_of_ble_eq_true rfl⟩, hts (.static yX5_partOf) (by decide +kernel), trivial⟩ hK hN rfl hl.1 rfl (Nat.le_of_ble_eq_true rfl) dX3_carryForward_14 ⟨Nat.zero_le _, Nat.zero_le _⟩ ?_
        refine lv_istore_n (lv' := [(3, .int (p_part (p_free (XL_2 0) xk) q)), (0, .ref (ad 1)), (1, .int q), (2, .int xk)]) hx hb dX3_carryForward_17 rfl hl (by decide) rfl (fun ls hl => ?_)
        refine lv_aload_n hx hb dX3_carryForward_18 rfl (lv_at hl 1 rfl) ?_
        refine xget (C := RX3) (T := TX3) (N := 11) (ci := 3) (w := .ref (ad 6)) hx hb hts hi_X3 hown hK hP 1 g0_1 rfl 4 (by decide) lk_24 rfl dX3_carryForward_19 ?_
        refine lv_iload_n hx hb dX3_carryForward_22 rfl (lv_at hl 3 rfl) ?_
        refine lv_aload_n hx hb dX3_carryForward_23 rfl (lv_at hl 1 rfl) ?_
        refine xget (C := RX3) (T := TX3) (N := 11) (ci := 3) (w := .ref (ad 7)) hx hb hts hi_X3 hown hK hP 1 g0_1 rfl 5 (by decide) lk_27 rfl dX3_carryForward_24 ?_
        refine lv_iload_n hx hb dX3_carryForward_27 rfl (lv_at hl 3 rfl) ?_
        refine xald (x := qv (XL_2 0) 4 xk) hx hb hK hP 7 g0_7 q1 rfl dX3_carryForward_28 ?_
        refine lv_iload_n hx hb dX3_carryForward_29 rfl (lv_at hl 0 rfl) ?_
        refine lv_iadd hx hb dX3_carryForward_30 ?_
        refine xast hx hb hK hP (wC_D hdj) hS 6 g0_6 q1 s0_3 dX3_carryForward_31 (fun H locs hP hS => ?_)
        obtain ⟨X_1, eX_1⟩ : ∃ Z : St, Z = u3 XL_2 0 3 xk.toNatClampNeg ((qv (XL_2 0) 4 xk) + (p_part (p_free (XL_2 0) xk) q)) := ⟨_, rfl⟩
        rw [← eX_1] at hP
        refine lv_aload_n hx hb dX3_carryForward_32 rfl (lv_at hl 1 rfl) ?_
        refine xget (C := RX3) (T := TX3) (N := 11) (ci := 3) (w := .ref (ad 9)) hx hb hts hi_X3 hown hK hP 1 g0_1 rfl 7 (by decide) lk_33 rfl dX3_carryForward_33 ?_
        refine lv_iload_n hx hb dX3_carryForward_36 rfl (lv_at hl 3 rfl) ?_
        refine lv_iload_n hx hb dX3_carryForward_37 rfl (lv_at hl 0 rfl) ?_
        refine xast hx hb hK hP (wC_D hdj) hS 9 g0_9 q1 s0_6 dX3_carryForward_38 (fun H locs hP hS => ?_)
        obtain ⟨X_2, eX_2⟩ : ∃ Z : St, Z = u3 X_1 0 6 xk.toNatClampNeg (p_part (p_free (XL_2 0) xk) q) := ⟨_, rfl⟩
        rw [← eX_2] at hP
        refine lv_aload_n hx hb dX3_carryForward_39 rfl (lv_at hl 1 rfl) ?_
        refine xget (C := RX3) (T := TX3) (N := 11) (ci := 3) (w := .ref (ad 8)) hx hb hts hi_X3 hown hK hP 1 g0_1 rfl 6 (by decide) lk_30 rfl dX3_carryForward_40 ?_
        refine lv_iload_n hx hb dX3_carryForward_43 rfl (lv_at hl 3 rfl) ?_
        refine lv_iconst (v := 0) hx hb dX3_carryForward_44 (by decide) ?_
        refine xast hx hb hK hP (wC_D hdj) hS 8 g0_8 q1 s0_5 dX3_carryForward_45 (fun H locs hP hS => ?_)
        obtain ⟨X_3, eX_3⟩ : ∃ Z : St, Z = u3 X_2 0 5 xk.toNatClampNeg 0 := ⟨_, rfl⟩
        rw [← eX_3] at hP
        refine lv_aload_n hx hb dX3_carryForward_46 rfl (lv_at hl 1 rfl) ?_
        refine xget (C := RX3) (T := TX3) (N := 11) (ci := 3) (w := .ref (ad 10)) hx hb hts hi_X3 hown hK hP 1 g0_1 rfl 8 (by decide) lk_36 rfl dX3_carryForward_47 ?_
        refine lv_iload_n hx hb dX3_carryForward_50 rfl (lv_at hl 3 rfl) ?_
        refine lv_iconst (v := 0) hx hb dX3_carryForward_51 (by decide) ?_
        refine xast hx hb hK hP (wC_D hdj) hS 10 g0_10 q1 s0_7 dX3_carryForward_52 (fun H locs hP hS => ?_)
        obtain ⟨X_4, eX_4⟩ : ∃ Z : St, Z = u3 X_3 0 7 xk.toNatClampNeg 0 := ⟨_, rfl⟩
        rw [← eX_4] at hP
        refine lv_iinc (v := xk + 1) (lv' := [(2, .int (xk + 1)), (3, .int (p_part (p_free (XL_2 0) xk) q)), (0, .ref (ad 1)), (1, .int q)]) hx hb dX3_carryForward_53 hl (k := 3) rfl rfl (by decide) rfl (fun ls hl => ?_)
        refine lv_goto (tgt := 2) hx hb dX3_carryForward_56 (by decide) ?_
        have hz : X_4 = sg X 0 (b_cf (X 0) q (k + 1)) := by
          subst eX_4 eX_3 eX_2 eX_1
          subst ea
          simp only [u3_sg, sg_sg, sg_g]
          rw [ek]
          rfl
        exact ih_2  (k + 1) _ X_4 _ _ hP hS (by omega) (by omega) (by rw [ek]; exact nI_1 k) hz _ (lv_sub hl [2, 3, 0] rfl)
  exact hloop_2  21 0 0 X _ _ hP hS (by omega) (by omega) rfl (by exact (sg_self X 0).symm) _ (lv_sub hl [1, 2, 0] rfl)
set_option maxHeartbeats 4000000 in
set_option maxRecDepth 100000 in
theorem c_X3_copyFrom {l : Launch} {D : va_G} {cI cR : ClassId} {ad : Nat → Nat} (hdj : Dj 236 ad) (X : St) (g g2 : Nat) (hg : g < 13) (hg2 : g2 < 13) (hne : ¬ g2 = g) : WoV l D cI cR (Aw 236 ad) (wC cI cR ad X) (wC cI cR ad (cpH X g g2)) yX3_copyFrom wsX3_copyFrom ({ frames := 1, cells := 0, slots := 0, locals := 60 } : Room) [.ref (ad (17 * g + 1)), .ref (ad (17 * g2 + 1))] := by
  refine OfW (cc := cX3_copyFrom) (maxL := 2) (ret := none) (by decide +kernel) rfl (Nat.le_of_ble_eq_true rfl) (fun p e s m below meth c hx hb hr hts hown hlocks hml hnm hP hK hN ls hl => ?_)
  have hl : lv_has ls 2 [(0, .ref (ad (17 * g + 1))), (1, .ref (ad (17 * g2 + 1)))] := hl
  have lk_9 := hts (.fieldLink RX3 9 "HeadBudgets$Heads" "above" "[I") (by decide +kernel)
  have lk_15 := hts (.fieldLink RX3 15 "HeadBudgets$Heads" "depth" "[I") (by decide +kernel)
  have lk_18 := hts (.fieldLink RX3 18 "HeadBudgets$Heads" "rank" "[I") (by decide +kernel)
  have lk_21 := hts (.fieldLink RX3 21 "HeadBudgets$Heads" "frozen" "[I") (by decide +kernel)
  have lk_24 := hts (.fieldLink RX3 24 "HeadBudgets$Heads" "allotment" "[I") (by decide +kernel)
  have lk_27 := hts (.fieldLink RX3 27 "HeadBudgets$Heads" "committed" "[I") (by decide +kernel)
  have lk_30 := hts (.fieldLink RX3 30 "HeadBudgets$Heads" "spent" "[I") (by decide +kernel)
  have lk_33 := hts (.fieldLink RX3 33 "HeadBudgets$Heads" "allotted" "[I") (by decide +kernel)
  have lk_36 := hts (.fieldLink RX3 36 "HeadBudgets$Heads" "left" "[I") (by decide +kernel)
  have lk_39 := hts (.fieldLink RX3 39 "HeadBudgets$Heads" "share" "[I") (by decide +kernel)
  have lk_48 := hts (.fieldLink RX3 48 "HeadBudgets$Heads" "made" "I") (by decide +kernel)
  have hi_X3 : ∀ w ∈ wsX30, w ∈ wsX3_copyFrom := by decide +kernel
  have hS : va_S (Aw 236 ad) s.heap s.heap [] := va_S.rf
  have hP : va_P D vwCl (wC cI cR ad X) s.heap := hP
  refine lv_aload_n hx hb dX3_copyFrom_0 rfl (lv_at hl 1 rfl) ?_
  refine xget (C := RX3) (T := TX3) (N := 11) (ci := 3) (w := .ref (ad (17 * g2 + 2))) hx hb hts hi_X3 hown hK hP (17 * g2 + 1) (gg_1 hg2) rfl 0 (by decide) lk_9 rfl dX3_copyFrom_1 ?_
  refine lv_iconst (v := 0) hx hb dX3_copyFrom_4 (by decide) ?_
  refine lv_aload_n hx hb dX3_copyFrom_5 rfl (lv_at hl 0 rfl) ?_
  refine xget (C := RX3) (T := TX3) (N := 11) (ci := 3) (w := .ref (ad (17 * g + 2))) hx hb hts hi_X3 hown hK hP (17 * g + 1) (gg_1 hg) rfl 0 (by decide) lk_9 rfl dX3_copyFrom_6 ?_
  refine lv_iconst (v := 0) hx hb dX3_copyFrom_9 (by decide) ?_
  refine lv_bipush (v := 20) hx hb dX3_copyFrom_10 (by decide) ?_
  refine va_copyi hx hb (by rw [hml]; exact hl.1.symm) hown (hts (.methodLink RX3 42 arraycopyName) (by decide +kernel)) (hts (.native arraycopyName) (by decide +kernel)) (hts (.static arraycopyName) (by decide +kernel)) (hts (.initialized "java/lang/System") (by decide +kernel)) hK hP (wC_D hdj) hS (17 * g2 + 2) (17 * g + 2) 0 0 (gg_2 hg2) (gg_2 hg) rfl rfl rfl (by decide) (by decide) (by decide) (by decide) (by decide) (fun _ _ => rfl) (Nat.le_of_ble_eq_true rfl) (Nat.le_of_ble_eq_true rfl) dX3_copyFrom_12 (fun H locs hP _ hS => ?_)
  obtain ⟨X_1, eX_1⟩ : ∃ Z : St, Z = uc X g 0 (va_cpy (X g2 0) (X g 0) 0 0 20) := ⟨_, rfl⟩
  have hP : va_P D vwCl (wC cI cR ad X_1) H := by
    rw [eX_1, ← sc_0 hg]; exact hP
  refine lv_aload_n hx hb dX3_copyFrom_15 rfl (lv_at hl 1 rfl) ?_
  refine xget (C := RX3) (T := TX3) (N := 11) (ci := 3) (w := .ref (ad (17 * g2 + 3))) hx hb hts hi_X3 hown hK hP (17 * g2 + 1) (gg_1 hg2) rfl 1 (by decide) lk_15 rfl dX3_copyFrom_16 ?_
  refine lv_iconst (v := 0) hx hb dX3_copyFrom_19 (by decide) ?_
  refine lv_aload_n hx hb dX3_copyFrom_20 rfl (lv_at hl 0 rfl) ?_
  refine xget (C := RX3) (T := TX3) (N := 11) (ci := 3) (w := .ref (ad (17 * g + 3))) hx hb hts hi_X3 hown hK hP (17 * g + 1) (gg_1 hg) rfl 1 (by decide) lk_15 rfl dX3_copyFrom_21 ?_
  refine lv_iconst (v := 0) hx hb dX3_copyFrom_24 (by decide) ?_
  refine lv_bipush (v := 20) hx hb dX3_copyFrom_25 (by decide) ?_
  refine va_copyi hx hb (by rw [hml]; exact hl.1.symm) hown (hts (.methodLink RX3 42 arraycopyName) (by decide +kernel)) (hts (.native arraycopyName) (by decide +kernel)) (hts (.static arraycopyName) (by decide +kernel)) (hts (.initialized "java/lang/System") (by decide +kernel)) hK hP (wC_D hdj) hS (17 * g2 + 3) (17 * g + 3) 0 0 (gg_3 hg2) (gg_3 hg) rfl rfl rfl (by decide) (by decide) (by decide) (by decide) (by decide) (fun _ _ => rfl) (Nat.le_of_ble_eq_true rfl) (Nat.le_of_ble_eq_true rfl) dX3_copyFrom_27 (fun H locs hP _ hS => ?_)
  obtain ⟨X_2, eX_2⟩ : ∃ Z : St, Z = uc X_1 g 9 (va_cpy (X_1 g2 9) (X_1 g 9) 0 0 20) := ⟨_, rfl⟩
  have hP : va_P D vwCl (wC cI cR ad X_2) H := by
    rw [eX_2, ← sc_9 hg]; exact hP
  refine lv_aload_n hx hb dX3_copyFrom_30 rfl (lv_at hl 1 rfl) ?_
  refine xget (C := RX3) (T := TX3) (N := 11) (ci := 3) (w := .ref (ad (17 * g2 + 4))) hx hb hts hi_X3 hown hK hP (17 * g2 + 1) (gg_1 hg2) rfl 2 (by decide) lk_18 rfl dX3_copyFrom_31 ?_
  refine lv_iconst (v := 0) hx hb dX3_copyFrom_34 (by decide) ?_
  refine lv_aload_n hx hb dX3_copyFrom_35 rfl (lv_at hl 0 rfl) ?_
  refine xget (C := RX3) (T := TX3) (N := 11) (ci := 3) (w := .ref (ad (17 * g + 4))) hx hb hts hi_X3 hown hK hP (17 * g + 1) (gg_1 hg) rfl 2 (by decide) lk_18 rfl dX3_copyFrom_36 ?_
  refine lv_iconst (v := 0) hx hb dX3_copyFrom_39 (by decide) ?_
  refine lv_bipush (v := 20) hx hb dX3_copyFrom_40 (by decide) ?_
  refine va_copyi hx hb (by rw [hml]; exact hl.1.symm) hown (hts (.methodLink RX3 42 arraycopyName) (by decide +kernel)) (hts (.native arraycopyName) (by decide +kernel)) (hts (.static arraycopyName) (by decide +kernel)) (hts (.initialized "java/lang/System") (by decide +kernel)) hK hP (wC_D hdj) hS (17 * g2 + 4) (17 * g + 4) 0 0 (gg_4 hg2) (gg_4 hg) rfl rfl rfl (by decide) (by decide) (by decide) (by decide) (by decide) (fun _ _ => rfl) (Nat.le_of_ble_eq_true rfl) (Nat.le_of_ble_eq_true rfl) dX3_copyFrom_42 (fun H locs hP _ hS => ?_)
  obtain ⟨X_3, eX_3⟩ : ∃ Z : St, Z = uc X_2 g 1 (va_cpy (X_2 g2 1) (X_2 g 1) 0 0 20) := ⟨_, rfl⟩
  have hP : va_P D vwCl (wC cI cR ad X_3) H := by
    rw [eX_3, ← sc_1 hg]; exact hP
  refine lv_aload_n hx hb dX3_copyFrom_45 rfl (lv_at hl 1 rfl) ?_
  refine xget (C := RX3) (T := TX3) (N := 11) (ci := 3) (w := .ref (ad (17 * g2 + 5))) hx hb hts hi_X3 hown hK hP (17 * g2 + 1) (gg_1 hg2) rfl 3 (by decide) lk_21 rfl dX3_copyFrom_46 ?_
  refine lv_iconst (v := 0) hx hb dX3_copyFrom_49 (by decide) ?_
  refine lv_aload_n hx hb dX3_copyFrom_50 rfl (lv_at hl 0 rfl) ?_
  refine xget (C := RX3) (T := TX3) (N := 11) (ci := 3) (w := .ref (ad (17 * g + 5))) hx hb hts hi_X3 hown hK hP (17 * g + 1) (gg_1 hg) rfl 3 (by decide) lk_21 rfl dX3_copyFrom_51 ?_
  refine lv_iconst (v := 0) hx hb dX3_copyFrom_54 (by decide) ?_
  refine lv_bipush (v := 20) hx hb dX3_copyFrom_55 (by decide) ?_
  refine va_copyi hx hb (by rw [hml]; exact hl.1.symm) hown (hts (.methodLink RX3 42 arraycopyName) (by decide +kernel)) (hts (.native arraycopyName) (by decide +kernel)) (hts (.static arraycopyName) (by decide +kernel)) (hts (.initialized "java/lang/System") (by decide +kernel)) hK hP (wC_D hdj) hS (17 * g2 + 5) (17 * g + 5) 0 0 (gg_5 hg2) (gg_5 hg) rfl rfl rfl (by decide) (by decide) (by decide) (by decide) (by decide) (fun _ _ => rfl) (Nat.le_of_ble_eq_true rfl) (Nat.le_of_ble_eq_true rfl) dX3_copyFrom_57 (fun H locs hP _ hS => ?_)
  obtain ⟨X_4, eX_4⟩ : ∃ Z : St, Z = uc X_3 g 2 (va_cpy (X_3 g2 2) (X_3 g 2) 0 0 20) := ⟨_, rfl⟩
  have hP : va_P D vwCl (wC cI cR ad X_4) H := by
    rw [eX_4, ← sc_2 hg]; exact hP
  refine lv_aload_n hx hb dX3_copyFrom_60 rfl (lv_at hl 1 rfl) ?_
  refine xget (C := RX3) (T := TX3) (N := 11) (ci := 3) (w := .ref (ad (17 * g2 + 6))) hx hb hts hi_X3 hown hK hP (17 * g2 + 1) (gg_1 hg2) rfl 4 (by decide) lk_24 rfl dX3_copyFrom_61 ?_
  refine lv_iconst (v := 0) hx hb dX3_copyFrom_64 (by decide) ?_
  refine lv_aload_n hx hb dX3_copyFrom_65 rfl (lv_at hl 0 rfl) ?_
  refine xget (C := RX3) (T := TX3) (N := 11) (ci := 3) (w := .ref (ad (17 * g + 6))) hx hb hts hi_X3 hown hK hP (17 * g + 1) (gg_1 hg) rfl 4 (by decide) lk_24 rfl dX3_copyFrom_66 ?_
  refine lv_iconst (v := 0) hx hb dX3_copyFrom_69 (by decide) ?_
  refine lv_bipush (v := 20) hx hb dX3_copyFrom_70 (by decide) ?_
  refine va_copyi hx hb (by rw [hml]; exact hl.1.symm) hown (hts (.methodLink RX3 42 arraycopyName) (by decide +kernel)) (hts (.native arraycopyName) (by decide +kernel)) (hts (.static arraycopyName) (by decide +kernel)) (hts (.initialized "java/lang/System") (by decide +kernel)) hK hP (wC_D hdj) hS (17 * g2 + 6) (17 * g + 6) 0 0 (gg_6 hg2) (gg_6 hg) rfl rfl rfl (by decide) (by decide) (by decide) (by decide) (by decide) (fun _ _ => rfl) (Nat.le_of_ble_eq_true rfl) (Nat.le_of_ble_eq_true rfl) dX3_copyFrom_72 (fun H locs hP _ hS => ?_)
  obtain ⟨X_5, eX_5⟩ : ∃ Z : St, Z = uc X_4 g 3 (va_cpy (X_4 g2 3) (X_4 g 3) 0 0 20) := ⟨_, rfl⟩
  have hP : va_P D vwCl (wC cI cR ad X_5) H := by
    rw [eX_5, ← sc_3 hg]; exact hP
  refine lv_aload_n hx hb dX3_copyFrom_75 rfl (lv_at hl 1 rfl) ?_
  refine xget (C := RX3) (T := TX3) (N := 11) (ci := 3) (w := .ref (ad (17 * g2 + 7))) hx hb hts hi_X3 hown hK hP (17 * g2 + 1) (gg_1 hg2) rfl 5 (by decide) lk_27 rfl dX3_copyFrom_76 ?_
  refine lv_iconst (v := 0) hx hb dX3_copyFrom_79 (by decide) ?_
  refine lv_aload_n hx hb dX3_copyFrom_80 rfl (lv_at hl 0 rfl) ?_
  refine xget (C := RX3) (T := TX3) (N := 11) (ci := 3) (w := .ref (ad (17 * g + 7))) hx hb hts hi_X3 hown hK hP (17 * g + 1) (gg_1 hg) rfl 5 (by decide) lk_27 rfl dX3_copyFrom_81 ?_
  refine lv_iconst (v := 0) hx hb dX3_copyFrom_84 (by decide) ?_
  refine lv_bipush (v := 20) hx hb dX3_copyFrom_85 (by decide) ?_
  refine va_copyi hx hb (by rw [hml]; exact hl.1.symm) hown (hts (.methodLink RX3 42 arraycopyName) (by decide +kernel)) (hts (.native arraycopyName) (by decide +kernel)) (hts (.static arraycopyName) (by decide +kernel)) (hts (.initialized "java/lang/System") (by decide +kernel)) hK hP (wC_D hdj) hS (17 * g2 + 7) (17 * g + 7) 0 0 (gg_7 hg2) (gg_7 hg) rfl rfl rfl (by decide) (by decide) (by decide) (by decide) (by decide) (fun _ _ => rfl) (Nat.le_of_ble_eq_true rfl) (Nat.le_of_ble_eq_true rfl) dX3_copyFrom_87 (fun H locs hP _ hS => ?_)
  obtain ⟨X_6, eX_6⟩ : ∃ Z : St, Z = uc X_5 g 4 (va_cpy (X_5 g2 4) (X_5 g 4) 0 0 20) := ⟨_, rfl⟩
  have hP : va_P D vwCl (wC cI cR ad X_6) H := by
    rw [eX_6, ← sc_4 hg]; exact hP
  refine lv_aload_n hx hb dX3_copyFrom_90 rfl (lv_at hl 1 rfl) ?_
  refine xget (C := RX3) (T := TX3) (N := 11) (ci := 3) (w := .ref (ad (17 * g2 + 8))) hx hb hts hi_X3 hown hK hP (17 * g2 + 1) (gg_1 hg2) rfl 6 (by decide) lk_30 rfl dX3_copyFrom_91 ?_
  refine lv_iconst (v := 0) hx hb dX3_copyFrom_94 (by decide) ?_
  refine lv_aload_n hx hb dX3_copyFrom_95 rfl (lv_at hl 0 rfl) ?_
  refine xget (C := RX3) (T := TX3) (N := 11) (ci := 3) (w := .ref (ad (17 * g + 8))) hx hb hts hi_X3 hown hK hP (17 * g + 1) (gg_1 hg) rfl 6 (by decide) lk_30 rfl dX3_copyFrom_96 ?_
  refine lv_iconst (v := 0) hx hb dX3_copyFrom_99 (by decide) ?_
  refine lv_bipush (v := 20) hx hb dX3_copyFrom_100 (by decide) ?_
  refine va_copyi hx hb (by rw [hml]; exact hl.1.symm) hown (hts (.methodLink RX3 42 arraycopyName) (by decide +kernel)) (hts (.native arraycopyName) (by decide +kernel)) (hts (.static arraycopyName) (by decide +kernel)) (hts (.initialized "java/lang/System") (by decide +kernel)) hK hP (wC_D hdj) hS (17 * g2 + 8) (17 * g + 8) 0 0 (gg_8 hg2) (gg_8 hg) rfl rfl rfl (by decide) (by decide) (by decide) (by decide) (by decide) (fun _ _ => rfl) (Nat.le_of_ble_eq_true rfl) (Nat.le_of_ble_eq_true rfl) dX3_copyFrom_102 (fun H locs hP _ hS => ?_)
  obtain ⟨X_7, eX_7⟩ : ∃ Z : St, Z = uc X_6 g 5 (va_cpy (X_6 g2 5) (X_6 g 5) 0 0 20) := ⟨_, rfl⟩
  have hP : va_P D vwCl (wC cI cR ad X_7) H := by
    rw [eX_7, ← sc_5 hg]; exact hP
  refine lv_aload_n hx hb dX3_copyFrom_105 rfl (lv_at hl 1 rfl) ?_
  refine xget (C := RX3) (T := TX3) (N := 11) (ci := 3) (w := .ref (ad (17 * g2 + 9))) hx hb hts hi_X3 hown hK hP (17 * g2 + 1) (gg_1 hg2) rfl 7 (by decide) lk_33 rfl dX3_copyFrom_106 ?_
  refine lv_iconst (v := 0) hx hb dX3_copyFrom_109 (by decide) ?_
  refine lv_aload_n hx hb dX3_copyFrom_110 rfl (lv_at hl 0 rfl) ?_
  refine xget (C := RX3) (T := TX3) (N := 11) (ci := 3) (w := .ref (ad (17 * g + 9))) hx hb hts hi_X3 hown hK hP (17 * g + 1) (gg_1 hg) rfl 7 (by decide) lk_33 rfl dX3_copyFrom_111 ?_
  refine lv_iconst (v := 0) hx hb dX3_copyFrom_114 (by decide) ?_
  refine lv_bipush (v := 20) hx hb dX3_copyFrom_115 (by decide) ?_
  refine va_copyi hx hb (by rw [hml]; exact hl.1.symm) hown (hts (.methodLink RX3 42 arraycopyName) (by decide +kernel)) (hts (.native arraycopyName) (by decide +kernel)) (hts (.static arraycopyName) (by decide +kernel)) (hts (.initialized "java/lang/System") (by decide +kernel)) hK hP (wC_D hdj) hS (17 * g2 + 9) (17 * g + 9) 0 0 (gg_9 hg2) (gg_9 hg) rfl rfl rfl (by decide) (by decide) (by decide) (by decide) (by decide) (fun _ _ => rfl) (Nat.le_of_ble_eq_true rfl) (Nat.le_of_ble_eq_true rfl) dX3_copyFrom_117 (fun H locs hP _ hS => ?_)
  obtain ⟨X_8, eX_8⟩ : ∃ Z : St, Z = uc X_7 g 6 (va_cpy (X_7 g2 6) (X_7 g 6) 0 0 20) := ⟨_, rfl⟩
  have hP : va_P D vwCl (wC cI cR ad X_8) H := by
    rw [eX_8, ← sc_6 hg]; exact hP
  refine lv_aload_n hx hb dX3_copyFrom_120 rfl (lv_at hl 1 rfl) ?_
  refine xget (C := RX3) (T := TX3) (N := 11) (ci := 3) (w := .ref (ad (17 * g2 + 10))) hx hb hts hi_X3 hown hK hP (17 * g2 + 1) (gg_1 hg2) rfl 8 (by decide) lk_36 rfl dX3_copyFrom_121 ?_
  refine lv_iconst (v := 0) hx hb dX3_copyFrom_124 (by decide) ?_
  refine lv_aload_n hx hb dX3_copyFrom_125 rfl (lv_at hl 0 rfl) ?_
  refine xget (C := RX3) (T := TX3) (N := 11) (ci := 3) (w := .ref (ad (17 * g + 10))) hx hb hts hi_X3 hown hK hP (17 * g + 1) (gg_1 hg) rfl 8 (by decide) lk_36 rfl dX3_copyFrom_126 ?_
  refine lv_iconst (v := 0) hx hb dX3_copyFrom_129 (by decide) ?_
  refine lv_bipush (v := 20) hx hb dX3_copyFrom_130 (by decide) ?_
  refine va_copyi hx hb (by rw [hml]; exact hl.1.symm) hown (hts (.methodLink RX3 42 arraycopyName) (by decide +kernel)) (hts (.native arraycopyName) (by decide +kernel)) (hts (.static arraycopyName) (by decide +kernel)) (hts (.initialized "java/lang/System") (by decide +kernel)) hK hP (wC_D hdj) hS (17 * g2 + 10) (17 * g + 10) 0 0 (gg_10 hg2) (gg_10 hg) rfl rfl rfl (by decide) (by decide) (by decide) (by decide) (by decide) (fun _ _ => rfl) (Nat.le_of_ble_eq_true rfl) (Nat.le_of_ble_eq_true rfl) dX3_copyFrom_132 (fun H locs hP _ hS => ?_)
  obtain ⟨X_9, eX_9⟩ : ∃ Z : St, Z = uc X_8 g 7 (va_cpy (X_8 g2 7) (X_8 g 7) 0 0 20) := ⟨_, rfl⟩
  have hP : va_P D vwCl (wC cI cR ad X_9) H := by
    rw [eX_9, ← sc_7 hg]; exact hP
  refine lv_aload_n hx hb dX3_copyFrom_135 rfl (lv_at hl 1 rfl) ?_
  refine xget (C := RX3) (T := TX3) (N := 11) (ci := 3) (w := .ref (ad (17 * g2 + 11))) hx hb hts hi_X3 hown hK hP (17 * g2 + 1) (gg_1 hg2) rfl 9 (by decide) lk_39 rfl dX3_copyFrom_136 ?_
  refine lv_iconst (v := 0) hx hb dX3_copyFrom_139 (by decide) ?_
  refine lv_aload_n hx hb dX3_copyFrom_140 rfl (lv_at hl 0 rfl) ?_
  refine xget (C := RX3) (T := TX3) (N := 11) (ci := 3) (w := .ref (ad (17 * g + 11))) hx hb hts hi_X3 hown hK hP (17 * g + 1) (gg_1 hg) rfl 9 (by decide) lk_39 rfl dX3_copyFrom_141 ?_
  refine lv_iconst (v := 0) hx hb dX3_copyFrom_144 (by decide) ?_
  refine lv_bipush (v := 20) hx hb dX3_copyFrom_145 (by decide) ?_
  refine va_copyi hx hb (by rw [hml]; exact hl.1.symm) hown (hts (.methodLink RX3 42 arraycopyName) (by decide +kernel)) (hts (.native arraycopyName) (by decide +kernel)) (hts (.static arraycopyName) (by decide +kernel)) (hts (.initialized "java/lang/System") (by decide +kernel)) hK hP (wC_D hdj) hS (17 * g2 + 11) (17 * g + 11) 0 0 (gg_11 hg2) (gg_11 hg) rfl rfl rfl (by decide) (by decide) (by decide) (by decide) (by decide) (fun _ _ => rfl) (Nat.le_of_ble_eq_true rfl) (Nat.le_of_ble_eq_true rfl) dX3_copyFrom_147 (fun H locs hP _ hS => ?_)
  obtain ⟨X_10, eX_10⟩ : ∃ Z : St, Z = uc X_9 g 8 (va_cpy (X_9 g2 8) (X_9 g 8) 0 0 20) := ⟨_, rfl⟩
  have hP : va_P D vwCl (wC cI cR ad X_10) H := by
    rw [eX_10, ← sc_8 hg]; exact hP
  refine lv_aload_n hx hb dX3_copyFrom_150 rfl (lv_at hl 0 rfl) ?_
  refine lv_aload_n hx hb dX3_copyFrom_151 rfl (lv_at hl 1 rfl) ?_
  refine xget (C := RX3) (T := TX3) (N := 11) (ci := 3) (w := .int (X_10 g2 14 1)) hx hb hts hi_X3 hown hK hP (17 * g2 + 1) (gg_1 hg2) rfl 10 (by decide) lk_48 rfl dX3_copyFrom_152 ?_
  refine xput (C := RX3) (T := TX3) (N := 11) (ci := 3) hx hb hts hi_X3 tyX3 tyX3_ok nmX3 hown hK hP (wC_D hdj) hS (17 * g + 1) (gg_1 hg) rfl 10 (by decide) lk_48 rfl (by decide +kernel) (Nat.le_of_ble_eq_true rfl) (sn_heads hg) dX3_copyFrom_155 (fun H locs hP hS => ?_)
  obtain ⟨X_11, eX_11⟩ : ∃ Z : St, Z = u3 X_10 g 14 1 (X_10 g2 14 1) := ⟨_, rfl⟩
  rw [← eX_11] at hP
  have hP : va_P D vwCl (wC cI cR ad (cpH X g g2)) H := by
    refine wC_ext hP ?_ ?_ ?_ ?_ ?_
    · intro a f i ha hf hi
      by_cases e : a = g
      · subst e
        rcases (show f = 0 ∨ f = 1 ∨ f = 2 ∨ f = 3 ∨ f = 4 ∨ f = 5 ∨ f = 6 ∨ f = 7 ∨ f = 8 ∨ f = 9 by omega) with rfl | rfl | rfl | rfl | rfl | rfl | rfl | rfl | rfl | rfl <;> simp [eX_1, eX_2, eX_3, eX_4, eX_5, eX_6, eX_7, eX_8, eX_9, eX_10, eX_11, cpH, cpC, sg, uc, u3, b2, va_cpy, hne, hi]
      · simp [eX_1, eX_2, eX_3, eX_4, eX_5, eX_6, eX_7, eX_8, eX_9, eX_10, eX_11, cpH, cpC, sg, uc, u3, e]
    · intro a f i ha hf0 hf hi
      by_cases e : a = g
      · subst e
        rcases (show f = 10 ∨ f = 11 ∨ f = 12 ∨ f = 13 by omega) with rfl | rfl | rfl | rfl <;> simp [eX_1, eX_2, eX_3, eX_4, eX_5, eX_6, eX_7, eX_8, eX_9, eX_10, eX_11, cpH, cpC, sg, uc, u3, b2, va_cpy, hne, hi]
      · simp [eX_1, eX_2, eX_3, eX_4, eX_5, eX_6, eX_7, eX_8, eX_9, eX_10, eX_11, cpH, cpC, sg, uc, u3, e]
    · intro a i ha hi
      by_cases e : a = g
      · subst e
        rcases (show i = 0 ∨ i = 1 ∨ i = 2 ∨ i = 3 ∨ i = 4 ∨ i = 5 by omega) with rfl | rfl | rfl | rfl | rfl | rfl <;> simp [eX_1, eX_2, eX_3, eX_4, eX_5, eX_6, eX_7, eX_8, eX_9, eX_10, eX_11, cpH, cpC, sg, uc, u3, b2, hne]
      · simp [eX_1, eX_2, eX_3, eX_4, eX_5, eX_6, eX_7, eX_8, eX_9, eX_10, eX_11, cpH, cpC, sg, uc, u3, e]
    · intro f i hf hi
      simp [eX_1, eX_2, eX_3, eX_4, eX_5, eX_6, eX_7, eX_8, eX_9, eX_10, eX_11, cpH, cpC, sg, uc, u3, show ¬ (13 : Nat) = g by omega]
    · intro i hi
      simp [eX_1, eX_2, eX_3, eX_4, eX_5, eX_6, eX_7, eX_8, eX_9, eX_10, eX_11, cpH, cpC, sg, uc, u3, show ¬ (14 : Nat) = g by omega]
  exact retWV hx hb hr hlocks hP hS dX3_copyFrom_158
set_option maxHeartbeats 4000000 in
set_option maxRecDepth 100000 in
theorem c_X1_copyFrom {l : Launch} {D : va_G} {cI cR : ClassId} {ad : Nat → Nat} (hdj : Dj 236 ad) (X : St) (g g2 : Nat) (hg : g < 13) (hg2 : g2 < 13) (hne : ¬ g2 = g) : WoV l D cI cR (Aw 236 ad) (wC cI cR ad X) (wC cI cR ad (cpC X g g2)) yX1_copyFrom wsX1_copyFrom ({ frames := 1, cells := 0, slots := 0, locals := 60 } : Room) [.ref (ad (17 * g + 12)), .ref (ad (17 * g2 + 12))] := by
  refine OfW (cc := cX1_copyFrom) (maxL := 2) (ret := none) (by decide +kernel) rfl (Nat.le_of_ble_eq_true rfl) (fun p e s m below meth c hx hb hr hts hown hlocks hml hnm hP hK hN ls hl => ?_)
  have hl : lv_has ls 2 [(0, .ref (ad (17 * g + 12))), (1, .ref (ad (17 * g2 + 12)))] := hl
  have lk_9 := hts (.fieldLink RX1 9 "HeadBudgets$Commitments" "head" "[I") (by decide +kernel)
  have lk_15 := hts (.fieldLink RX1 15 "HeadBudgets$Commitments" "open" "[I") (by decide +kernel)
  have lk_18 := hts (.fieldLink RX1 18 "HeadBudgets$Commitments" "paid" "[I") (by decide +kernel)
  have lk_21 := hts (.fieldLink RX1 21 "HeadBudgets$Commitments" "year" "[I") (by decide +kernel)
  have lk_30 := hts (.fieldLink RX1 30 "HeadBudgets$Commitments" "made" "I") (by decide +kernel)
  have hi_X1 : ∀ w ∈ wsX10, w ∈ wsX1_copyFrom := by decide +kernel
  have hS : va_S (Aw 236 ad) s.heap s.heap [] := va_S.rf
  have hP : va_P D vwCl (wC cI cR ad X) s.heap := hP
  refine lv_aload_n hx hb dX1_copyFrom_0 rfl (lv_at hl 1 rfl) ?_
  refine xget (C := RX1) (T := TX1) (N := 5) (ci := 1) (w := .ref (ad (17 * g2 + 13))) hx hb hts hi_X1 hown hK hP (17 * g2 + 12) (gg_12 hg2) rfl 0 (by decide) lk_9 rfl dX1_copyFrom_1 ?_
  refine lv_iconst (v := 0) hx hb dX1_copyFrom_4 (by decide) ?_
  refine lv_aload_n hx hb dX1_copyFrom_5 rfl (lv_at hl 0 rfl) ?_
  refine xget (C := RX1) (T := TX1) (N := 5) (ci := 1) (w := .ref (ad (17 * g + 13))) hx hb hts hi_X1 hown hK hP (17 * g + 12) (gg_12 hg) rfl 0 (by decide) lk_9 rfl dX1_copyFrom_6 ?_
  refine lv_iconst (v := 0) hx hb dX1_copyFrom_9 (by decide) ?_
  refine lv_bipush (v := 40) hx hb dX1_copyFrom_10 (by decide) ?_
  refine va_copyi hx hb (by rw [hml]; exact hl.1.symm) hown (hts (.methodLink RX1 24 arraycopyName) (by decide +kernel)) (hts (.native arraycopyName) (by decide +kernel)) (hts (.static arraycopyName) (by decide +kernel)) (hts (.initialized "java/lang/System") (by decide +kernel)) hK hP (wC_D hdj) hS (17 * g2 + 13) (17 * g + 13) 0 0 (gg_13 hg2) (gg_13 hg) rfl rfl rfl (by decide) (by decide) (by decide) (by decide) (by decide) (fun _ _ => rfl) (Nat.le_of_ble_eq_true rfl) (Nat.le_of_ble_eq_true rfl) dX1_copyFrom_12 (fun H locs hP _ hS => ?_)
  obtain ⟨X_1, eX_1⟩ : ∃ Z : St, Z = uc X g 10 (va_cpy (X g2 10) (X g 10) 0 0 40) := ⟨_, rfl⟩
  have hP : va_P D vwCl (wC cI cR ad X_1) H := by
    rw [eX_1, ← sc_10 hg]; exact hP
  refine lv_aload_n hx hb dX1_copyFrom_15 rfl (lv_at hl 1 rfl) ?_
  refine xget (C := RX1) (T := TX1) (N := 5) (ci := 1) (w := .ref (ad (17 * g2 + 14))) hx hb hts hi_X1 hown hK hP (17 * g2 + 12) (gg_12 hg2) rfl 1 (by decide) lk_15 rfl dX1_copyFrom_16 ?_
  refine lv_iconst (v := 0) hx hb dX1_copyFrom_19 (by decide) ?_
  refine lv_aload_n hx hb dX1_copyFrom_20 rfl (lv_at hl 0 rfl) ?_
  refine xget (C := RX1) (T := TX1) (N := 5) (ci := 1) (w := .ref (ad (17 * g + 14))) hx hb hts hi_X1 hown hK hP (17 * g + 12) (gg_12 hg) rfl 1 (by decide) lk_15 rfl dX1_copyFrom_21 ?_
  refine lv_iconst (v := 0) hx hb dX1_copyFrom_24 (by decide) ?_
  refine lv_bipush (v := 40) hx hb dX1_copyFrom_25 (by decide) ?_
  refine va_copyi hx hb (by rw [hml]; exact hl.1.symm) hown (hts (.methodLink RX1 24 arraycopyName) (by decide +kernel)) (hts (.native arraycopyName) (by decide +kernel)) (hts (.static arraycopyName) (by decide +kernel)) (hts (.initialized "java/lang/System") (by decide +kernel)) hK hP (wC_D hdj) hS (17 * g2 + 14) (17 * g + 14) 0 0 (gg_14 hg2) (gg_14 hg) rfl rfl rfl (by decide) (by decide) (by decide) (by decide) (by decide) (fun _ _ => rfl) (Nat.le_of_ble_eq_true rfl) (Nat.le_of_ble_eq_true rfl) dX1_copyFrom_27 (fun H locs hP _ hS => ?_)
  obtain ⟨X_2, eX_2⟩ : ∃ Z : St, Z = uc X_1 g 11 (va_cpy (X_1 g2 11) (X_1 g 11) 0 0 40) := ⟨_, rfl⟩
  have hP : va_P D vwCl (wC cI cR ad X_2) H := by
    rw [eX_2, ← sc_11 hg]; exact hP
  refine lv_aload_n hx hb dX1_copyFrom_30 rfl (lv_at hl 1 rfl) ?_
  refine xget (C := RX1) (T := TX1) (N := 5) (ci := 1) (w := .ref (ad (17 * g2 + 15))) hx hb hts hi_X1 hown hK hP (17 * g2 + 12) (gg_12 hg2) rfl 2 (by decide) lk_18 rfl dX1_copyFrom_31 ?_
  refine lv_iconst (v := 0) hx hb dX1_copyFrom_34 (by decide) ?_
  refine lv_aload_n hx hb dX1_copyFrom_35 rfl (lv_at hl 0 rfl) ?_
  refine xget (C := RX1) (T := TX1) (N := 5) (ci := 1) (w := .ref (ad (17 * g + 15))) hx hb hts hi_X1 hown hK hP (17 * g + 12) (gg_12 hg) rfl 2 (by decide) lk_18 rfl dX1_copyFrom_36 ?_
  refine lv_iconst (v := 0) hx hb dX1_copyFrom_39 (by decide) ?_
  refine lv_bipush (v := 40) hx hb dX1_copyFrom_40 (by decide) ?_
  refine va_copyi hx hb (by rw [hml]; exact hl.1.symm) hown (hts (.methodLink RX1 24 arraycopyName) (by decide +kernel)) (hts (.native arraycopyName) (by decide +kernel)) (hts (.static arraycopyName) (by decide +kernel)) (hts (.initialized "java/lang/System") (by decide +kernel)) hK hP (wC_D hdj) hS (17 * g2 + 15) (17 * g + 15) 0 0 (gg_15 hg2) (gg_15 hg) rfl rfl rfl (by decide) (by decide) (by decide) (by decide) (by decide) (fun _ _ => rfl) (Nat.le_of_ble_eq_true rfl) (Nat.le_of_ble_eq_true rfl) dX1_copyFrom_42 (fun H locs hP _ hS => ?_)
  obtain ⟨X_3, eX_3⟩ : ∃ Z : St, Z = uc X_2 g 12 (va_cpy (X_2 g2 12) (X_2 g 12) 0 0 40) := ⟨_, rfl⟩
  have hP : va_P D vwCl (wC cI cR ad X_3) H := by
    rw [eX_3, ← sc_12 hg]; exact hP
  refine lv_aload_n hx hb dX1_copyFrom_45 rfl (lv_at hl 1 rfl) ?_
  refine xget (C := RX1) (T := TX1) (N := 5) (ci := 1) (w := .ref (ad (17 * g2 + 16))) hx hb hts hi_X1 hown hK hP (17 * g2 + 12) (gg_12 hg2) rfl 3 (by decide) lk_21 rfl dX1_copyFrom_46 ?_
  refine lv_iconst (v := 0) hx hb dX1_copyFrom_49 (by decide) ?_
  refine lv_aload_n hx hb dX1_copyFrom_50 rfl (lv_at hl 0 rfl) ?_
  refine xget (C := RX1) (T := TX1) (N := 5) (ci := 1) (w := .ref (ad (17 * g + 16))) hx hb hts hi_X1 hown hK hP (17 * g + 12) (gg_12 hg) rfl 3 (by decide) lk_21 rfl dX1_copyFrom_51 ?_
  refine lv_iconst (v := 0) hx hb dX1_copyFrom_54 (by decide) ?_
  refine lv_bipush (v := 40) hx hb dX1_copyFrom_55 (by decide) ?_
  refine va_copyi hx hb (by rw [hml]; exact hl.1.symm) hown (hts (.methodLink RX1 24 arraycopyName) (by decide +kernel)) (hts (.native arraycopyName) (by decide +kernel)) (hts (.static arraycopyName) (by decide +kernel)) (hts (.initialized "java/lang/System") (by decide +kernel)) hK hP (wC_D hdj) hS (17 * g2 + 16) (17 * g + 16) 0 0 (gg_16 hg2) (gg_16 hg) rfl rfl rfl (by decide) (by decide) (by decide) (by decide) (by decide) (fun _ _ => rfl) (Nat.le_of_ble_eq_true rfl) (Nat.le_of_ble_eq_true rfl) dX1_copyFrom_57 (fun H locs hP _ hS => ?_)
  obtain ⟨X_4, eX_4⟩ : ∃ Z : St, Z = uc X_3 g 13 (va_cpy (X_3 g2 13) (X_3 g 13) 0 0 40) := ⟨_, rfl⟩
  have hP : va_P D vwCl (wC cI cR ad X_4) H := by
    rw [eX_4, ← sc_13 hg]; exact hP
  refine lv_aload_n hx hb dX1_copyFrom_60 rfl (lv_at hl 0 rfl) ?_
  refine lv_aload_n hx hb dX1_copyFrom_61 rfl (lv_at hl 1 rfl) ?_
  refine xget (C := RX1) (T := TX1) (N := 5) (ci := 1) (w := .int (X_4 g2 14 2)) hx hb hts hi_X1 hown hK hP (17 * g2 + 12) (gg_12 hg2) rfl 4 (by decide) lk_30 rfl dX1_copyFrom_62 ?_
  refine xput (C := RX1) (T := TX1) (N := 5) (ci := 1) hx hb hts hi_X1 tyX1 tyX1_ok nmX1 hown hK hP (wC_D hdj) hS (17 * g + 12) (gg_12 hg) rfl 4 (by decide) lk_30 rfl (by decide +kernel) (Nat.le_of_ble_eq_true rfl) (sn_comms hg) dX1_copyFrom_65 (fun H locs hP hS => ?_)
  obtain ⟨X_5, eX_5⟩ : ∃ Z : St, Z = u3 X_4 g 14 2 (X_4 g2 14 2) := ⟨_, rfl⟩
  rw [← eX_5] at hP
  have hP : va_P D vwCl (wC cI cR ad (cpC X g g2)) H := by
    refine wC_ext hP ?_ ?_ ?_ ?_ ?_
    · intro a f i ha hf hi
      by_cases e : a = g
      · subst e
        rcases (show f = 0 ∨ f = 1 ∨ f = 2 ∨ f = 3 ∨ f = 4 ∨ f = 5 ∨ f = 6 ∨ f = 7 ∨ f = 8 ∨ f = 9 by omega) with rfl | rfl | rfl | rfl | rfl | rfl | rfl | rfl | rfl | rfl <;> simp [eX_1, eX_2, eX_3, eX_4, eX_5, cpH, cpC, sg, uc, u3, b2, va_cpy, hne, hi]
      · simp [eX_1, eX_2, eX_3, eX_4, eX_5, cpH, cpC, sg, uc, u3, e]
    · intro a f i ha hf0 hf hi
      by_cases e : a = g
      · subst e
        rcases (show f = 10 ∨ f = 11 ∨ f = 12 ∨ f = 13 by omega) with rfl | rfl | rfl | rfl <;> simp [eX_1, eX_2, eX_3, eX_4, eX_5, cpH, cpC, sg, uc, u3, b2, va_cpy, hne, hi]
      · simp [eX_1, eX_2, eX_3, eX_4, eX_5, cpH, cpC, sg, uc, u3, e]
    · intro a i ha hi
      by_cases e : a = g
      · subst e
        rcases (show i = 0 ∨ i = 1 ∨ i = 2 ∨ i = 3 ∨ i = 4 ∨ i = 5 by omega) with rfl | rfl | rfl | rfl | rfl | rfl <;> simp [eX_1, eX_2, eX_3, eX_4, eX_5, cpH, cpC, sg, uc, u3, b2, hne]
      · simp [eX_1, eX_2, eX_3, eX_4, eX_5, cpH, cpC, sg, uc, u3, e]
    · intro f i hf hi
      simp [eX_1, eX_2, eX_3, eX_4, eX_5, cpH, cpC, sg, uc, u3, show ¬ (13 : Nat) = g by omega]
    · intro i hi
      simp [eX_1, eX_2, eX_3, eX_4, eX_5, cpH, cpC, sg, uc, u3, show ¬ (14 : Nat) = g by omega]
  exact retWV hx hb hr hlocks hP hS dX1_copyFrom_68
set_option maxHeartbeats 4000000 in
set_option maxRecDepth 100000 in
theorem c_X0_copyFrom {l : Launch} {D : va_G} {cI cR : ClassId} {ad : Nat → Nat} (hdj : Dj 236 ad) (X : St) (g g2 : Nat) (hg : g < 13) (hg2 : g2 < 13) (hne : ¬ g2 = g) : WoV l D cI cR (Aw 236 ad) (wC cI cR ad X) (wC cI cR ad (sg X g (X g2))) yX0_copyFrom wsX0_copyFrom ({ frames := 2, cells := 0, slots := 0, locals := 81 } : Room) [.ref (ad (17 * g + 0)), .ref (ad (17 * g2 + 0))] := by
  refine OfW (cc := cX0_copyFrom) (maxL := 2) (ret := none) (by decide +kernel) rfl (Nat.le_of_ble_eq_true rfl) (fun p e s m below meth c hx hb hr hts hown hlocks hml hnm hP hK hN ls hl => ?_)
  have hl : lv_has ls 2 [(0, .ref (ad (17 * g + 0))), (1, .ref (ad (17 * g2 + 0)))] := hl
  have lk_12 := hts (.fieldLink RX0 12 "HeadBudgets$Books" "heads" "LHeadBudgets$Heads;") (by decide +kernel)
  have lk_21 := hts (.fieldLink RX0 21 "HeadBudgets$Books" "commitments" "LHeadBudgets$Commitments;") (by decide +kernel)
  have lk_36 := hts (.fieldLink RX0 36 "HeadBudgets$Books" "year" "I") (by decide +kernel)
  have lk_25 := hts (.fieldLink RX0 25 "HeadBudgets$Books" "carriedPart" "I") (by decide +kernel)
  have lk_39 := hts (.fieldLink RX0 39 "HeadBudgets$Books" "lapsed" "I") (by decide +kernel)
  have lk_42 := hts (.fieldLink RX0 42 "HeadBudgets$Books" "spent" "I") (by decide +kernel)
  have hi_X0 : ∀ w ∈ wsX00, w ∈ wsX0_copyFrom := by decide +kernel
  have hS : va_S (Aw 236 ad) s.heap s.heap [] := va_S.rf
  have hP : va_P D vwCl (wC cI cR ad X) s.heap := hP
  refine lv_aload_n hx hb dX0_copyFrom_0 rfl (lv_at hl 0 rfl) ?_
  refine xget (C := RX0) (T := TX0) (N := 6) (ci := 0) (w := .ref (ad (17 * g + 1))) hx hb hts hi_X0 hown hK hP (17 * g + 0) (gg_0 hg) rfl 0 (by decide) lk_12 rfl dX0_copyFrom_1 ?_
  refine lv_aload_n hx hb dX0_copyFrom_4 rfl (lv_at hl 1 rfl) ?_
  refine xget (C := RX0) (T := TX0) (N := 6) (ci := 0) (w := .ref (ad (17 * g2 + 1))) hx hb hts hi_X0 hown hK hP (17 * g2 + 0) (gg_0 hg2) rfl 0 (by decide) lk_12 rfl dX0_copyFrom_5 ?_
  refine callWV (As := [.ref (ad (17 * g2 + 1))]) (rest := []) ⟨hx, hb, hml, hown, hts⟩ (c_X3_copyFrom hdj X g g2 hg hg2 hne) (cwV 1 hts gX0_copyFrom_X3_copyFrom rfl rfl rfl (by decide +kernel) ⟨Nat.le_of_ble_eq_true rfl, Nat.le_of_ble_eq_true rfl⟩) hK hN hP (17 * g + 1) (gg_1 hg) rfl rfl hl.1 rfl (Nat.le_of_ble_eq_true rfl) dX0_copyFrom_8 ⟨Nat.zero_le _, Nat.zero_le _⟩ hS (fun _ h9 => h9) (fun H locs hP hS => ?_)
  obtain ⟨X_1, eX_1⟩ : ∃ Z : St, Z = cpH X g g2 := ⟨_, rfl⟩
  rw [← eX_1] at hP
  refine lv_aload_n hx hb dX0_copyFrom_11 rfl (lv_at hl 0 rfl) ?_
  refine xget (C := RX0) (T := TX0) (N := 6) (ci := 0) (w := .ref (ad (17 * g + 12))) hx hb hts hi_X0 hown hK hP (17 * g + 0) (gg_0 hg) rfl 1 (by decide) lk_21 rfl dX0_copyFrom_12 ?_
  refine lv_aload_n hx hb dX0_copyFrom_15 rfl (lv_at hl 1 rfl) ?_
  refine xget (C := RX0) (T := TX0) (N := 6) (ci := 0) (w := .ref (ad (17 * g2 + 12))) hx hb hts hi_X0 hown hK hP (17 * g2 + 0) (gg_0 hg2) rfl 1 (by decide) lk_21 rfl dX0_copyFrom_16 ?_
  refine callWV (As := [.ref (ad (17 * g2 + 12))]) (rest := []) ⟨hx, hb, hml, hown, hts⟩ (c_X1_copyFrom hdj X_1 g g2 hg hg2 hne) (cwV 1 hts gX0_copyFrom_X1_copyFrom rfl rfl rfl (by decide +kernel) ⟨Nat.le_of_ble_eq_true rfl, Nat.le_of_ble_eq_true rfl⟩) hK hN hP (17 * g + 12) (gg_12 hg) rfl rfl hl.1 rfl (Nat.le_of_ble_eq_true rfl) dX0_copyFrom_19 ⟨Nat.zero_le _, Nat.zero_le _⟩ hS (fun _ h9 => h9) (fun H locs hP hS => ?_)
  obtain ⟨X_2, eX_2⟩ : ∃ Z : St, Z = cpC X_1 g g2 := ⟨_, rfl⟩
  rw [← eX_2] at hP
  refine lv_aload_n hx hb dX0_copyFrom_22 rfl (lv_at hl 0 rfl) ?_
  refine lv_aload_n hx hb dX0_copyFrom_23 rfl (lv_at hl 1 rfl) ?_
  refine xget (C := RX0) (T := TX0) (N := 6) (ci := 0) (w := .int (X_2 g2 14 0)) hx hb hts hi_X0 hown hK hP (17 * g2 + 0) (gg_0 hg2) rfl 2 (by decide) lk_36 rfl dX0_copyFrom_24 ?_
  refine xput (C := RX0) (T := TX0) (N := 6) (ci := 0) hx hb hts hi_X0 tyX0 tyX0_ok nmX0 hown hK hP (wC_D hdj) hS (17 * g + 0) (gg_0 hg) rfl 2 (by decide) lk_36 rfl (by decide +kernel) (Nat.le_of_ble_eq_true rfl) (sn_year hg) dX0_copyFrom_27 (fun H locs hP hS => ?_)
  obtain ⟨X_3, eX_3⟩ : ∃ Z : St, Z = u3 X_2 g 14 0 (X_2 g2 14 0) := ⟨_, rfl⟩
  rw [← eX_3] at hP
  refine lv_aload_n hx hb dX0_copyFrom_30 rfl (lv_at hl 0 rfl) ?_
  refine lv_aload_n hx hb dX0_copyFrom_31 rfl (lv_at hl 1 rfl) ?_
  refine xget (C := RX0) (T := TX0) (N := 6) (ci := 0) (w := .int (X_3 g2 14 3)) hx hb hts hi_X0 hown hK hP (17 * g2 + 0) (gg_0 hg2) rfl 3 (by decide) lk_25 rfl dX0_copyFrom_32 ?_
  refine xput (C := RX0) (T := TX0) (N := 6) (ci := 0) hx hb hts hi_X0 tyX0 tyX0_ok nmX0 hown hK hP (wC_D hdj) hS (17 * g + 0) (gg_0 hg) rfl 3 (by decide) lk_25 rfl (by decide +kernel) (Nat.le_of_ble_eq_true rfl) (sn_carried hg) dX0_copyFrom_35 (fun H locs hP hS => ?_)
  obtain ⟨X_4, eX_4⟩ : ∃ Z : St, Z = u3 X_3 g 14 3 (X_3 g2 14 3) := ⟨_, rfl⟩
  rw [← eX_4] at hP
  refine lv_aload_n hx hb dX0_copyFrom_38 rfl (lv_at hl 0 rfl) ?_
  refine lv_aload_n hx hb dX0_copyFrom_39 rfl (lv_at hl 1 rfl) ?_
  refine xget (C := RX0) (T := TX0) (N := 6) (ci := 0) (w := .int (X_4 g2 14 4)) hx hb hts hi_X0 hown hK hP (17 * g2 + 0) (gg_0 hg2) rfl 4 (by decide) lk_39 rfl dX0_copyFrom_40 ?_
  refine xput (C := RX0) (T := TX0) (N := 6) (ci := 0) hx hb hts hi_X0 tyX0 tyX0_ok nmX0 hown hK hP (wC_D hdj) hS (17 * g + 0) (gg_0 hg) rfl 4 (by decide) lk_39 rfl (by decide +kernel) (Nat.le_of_ble_eq_true rfl) (sn_lapsed hg) dX0_copyFrom_43 (fun H locs hP hS => ?_)
  obtain ⟨X_5, eX_5⟩ : ∃ Z : St, Z = u3 X_4 g 14 4 (X_4 g2 14 4) := ⟨_, rfl⟩
  rw [← eX_5] at hP
  refine lv_aload_n hx hb dX0_copyFrom_46 rfl (lv_at hl 0 rfl) ?_
  refine lv_aload_n hx hb dX0_copyFrom_47 rfl (lv_at hl 1 rfl) ?_
  refine xget (C := RX0) (T := TX0) (N := 6) (ci := 0) (w := .int (X_5 g2 14 5)) hx hb hts hi_X0 hown hK hP (17 * g2 + 0) (gg_0 hg2) rfl 5 (by decide) lk_42 rfl dX0_copyFrom_48 ?_
  refine xput (C := RX0) (T := TX0) (N := 6) (ci := 0) hx hb hts hi_X0 tyX0 tyX0_ok nmX0 hown hK hP (wC_D hdj) hS (17 * g + 0) (gg_0 hg) rfl 5 (by decide) lk_42 rfl (by decide +kernel) (Nat.le_of_ble_eq_true rfl) (sn_spent hg) dX0_copyFrom_51 (fun H locs hP hS => ?_)
  obtain ⟨X_6, eX_6⟩ : ∃ Z : St, Z = u3 X_5 g 14 5 (X_5 g2 14 5) := ⟨_, rfl⟩
  rw [← eX_6] at hP
  have hP : va_P D vwCl (wC cI cR ad (sg X g (X g2))) H := by
    refine wC_ext hP ?_ ?_ ?_ ?_ ?_
    · intro a f i ha hf hi
      by_cases e : a = g
      · subst e
        rcases (show f = 0 ∨ f = 1 ∨ f = 2 ∨ f = 3 ∨ f = 4 ∨ f = 5 ∨ f = 6 ∨ f = 7 ∨ f = 8 ∨ f = 9 by omega) with rfl | rfl | rfl | rfl | rfl | rfl | rfl | rfl | rfl | rfl <;> simp [eX_1, eX_2, eX_3, eX_4, eX_5, eX_6, cpH, cpC, sg, uc, u3, b2, va_cpy, hne, hi]
      · simp [eX_1, eX_2, eX_3, eX_4, eX_5, eX_6, cpH, cpC, sg, uc, u3, e]
    · intro a f i ha hf0 hf hi
      by_cases e : a = g
      · subst e
        rcases (show f = 10 ∨ f = 11 ∨ f = 12 ∨ f = 13 by omega) with rfl | rfl | rfl | rfl <;> simp [eX_1, eX_2, eX_3, eX_4, eX_5, eX_6, cpH, cpC, sg, uc, u3, b2, va_cpy, hne, hi]
      · simp [eX_1, eX_2, eX_3, eX_4, eX_5, eX_6, cpH, cpC, sg, uc, u3, e]
    · intro a i ha hi
      by_cases e : a = g
      · subst e
        rcases (show i = 0 ∨ i = 1 ∨ i = 2 ∨ i = 3 ∨ i = 4 ∨ i = 5 by omega) with rfl | rfl | rfl | rfl | rfl | rfl <;> simp [eX_1, eX_2, eX_3, eX_4, eX_5, eX_6, cpH, cpC, sg, uc, u3, b2, hne]
      · simp [eX_1, eX_2, eX_3, eX_4, eX_5, eX_6, cpH, cpC, sg, uc, u3, e]
    · intro f i hf hi
      simp [eX_1, eX_2, eX_3, eX_4, eX_5, eX_6, cpH, cpC, sg, uc, u3, show ¬ (13 : Nat) = g by omega]
    · intro i hi
      simp [eX_1, eX_2, eX_3, eX_4, eX_5, eX_6, cpH, cpC, sg, uc, u3, show ¬ (14 : Nat) = g by omega]
  exact retWV hx hb hr hlocks hP hS dX0_copyFrom_54
set_option maxHeartbeats 4000000 in
set_option maxRecDepth 100000 in
theorem c_X4_recall {l : Launch} {D : va_G} {cI cR : ClassId} {ad : Nat → Nat} (X : St) (i : Int32) : RoQ l D cI cR (wC cI cR ad X) yX4_recall wsX4_recall ({ frames := 1, cells := 0, slots := 0, locals := 22 } : Room) [.ref (ad 234), .int i] (p_rec ad X i) := by
  refine OfW (cc := cX4_recall) (maxL := 2) (ret := (some (.object "HeadBudgets$Deed"))) (by decide +kernel) rfl (Nat.le_of_ble_eq_true rfl) (fun p e s m below meth c hx hb hr hts hown hlocks hml hnm hP hK hN ls hl => ?_)
  have hl : lv_has ls 2 [(0, .ref (ad 234)), (1, .int i)] := hl
  have lk_18 := hts (.fieldLink RX4 18 "HeadBudgets$Memory" "held" "I") (by decide +kernel)
  have lk_11 := hts (.fieldLink RX4 11 "HeadBudgets$Memory" "places" "[LHeadBudgets$Deed;") (by decide +kernel)
  have lk_22 := hts (.fieldLink RX4 22 "HeadBudgets$Memory" "oldest" "I") (by decide +kernel)
  have hi_X4 : ∀ w ∈ wsX40, w ∈ wsX4_recall := by decide +kernel
  refine lv_iload_n hx hb dX4_recall_0 rfl (lv_at hl 1 rfl) ?_
  refine lv_if_lt (tgt := 12) hx hb dX4_recall_1 (by decide) (fun c_1 => ?_) (fun c_1 => ?_)
  · refine lv_null hx hb dX4_recall_12 ?_
    exact retQ (q := none) hx hb hr hlocks dX4_recall_13 rfl (p_rec_none (by first | exact Or.inl c_1 | exact Or.inr c_9)).symm
  · refine lv_iload_n hx hb dX4_recall_4 rfl (lv_at hl 1 rfl) ?_
    refine lv_aload_n hx hb dX4_recall_5 rfl (lv_at hl 0 rfl) ?_
    refine xget (C := RX4) (T := TX4) (N := 4) (ci := 4) (w := .int (X 14 0 1)) hx hb hts hi_X4 hown hK hP 234 g0_234 rfl 2 (by decide) lk_18 rfl dX4_recall_6 ?_
    refine lv_icmp_lt (tgt := 14) hx hb dX4_recall_9 (by decide) (fun c_9 => ?_) (fun c_9 => ?_)
    · refine lv_aload_n hx hb dX4_recall_14 rfl (lv_at hl 0 rfl) ?_
      refine xget (C := RX4) (T := TX4) (N := 4) (ci := 4) (w := .ref (ad 235)) hx hb hts hi_X4 hown hK hP 234 g0_234 rfl 0 (by decide) lk_11 rfl dX4_recall_15 ?_
      refine lv_aload_n hx hb dX4_recall_18 rfl (lv_at hl 0 rfl) ?_
      refine xget (C := RX4) (T := TX4) (N := 4) (ci := 4) (w := .int (X 14 0 0)) hx hb hts hi_X4 hown hK hP 234 g0_234 rfl 1 (by decide) lk_22 rfl dX4_recall_19 ?_
      refine lv_aload_n hx hb dX4_recall_22 rfl (lv_at hl 0 rfl) ?_
      refine xget (C := RX4) (T := TX4) (N := 4) (ci := 4) (w := .int (X 14 0 1)) hx hb hts hi_X4 hown hK hP 234 g0_234 rfl 2 (by decide) lk_18 rfl dX4_recall_23 ?_
      refine lv_iadd hx hb dX4_recall_26 ?_
      refine lv_iconst (v := 1) hx hb dX4_recall_27 (by decide) ?_
      refine lv_isub hx hb dX4_recall_28 ?_
      refine lv_iload_n hx hb dX4_recall_29 rfl (lv_at hl 1 rfl) ?_
      refine lv_isub hx hb dX4_recall_30 ?_
      refine lv_bipush (v := 12) hx hb dX4_recall_31 (by decide) ?_
      refine callSE (As := [.int ((((X 14 0 0) + (X 14 0 1)) - 1) - i), .int 12]) (rest := [.ref (ad 235)]) ⟨hx, hb, hml, hown, hts⟩ (c_J9_floorMod_7cf53 ((((X 14 0 0) + (X 14 0 1)) - 1) - i) 12 (by decide)) (va_cwS 2 hts gX4_recall_J9_floorMod_7cf53 rfl rfl rfl (by decide +kernel) ⟨Nat.le_of_ble_eq_true rfl, Nat.le_of_ble_eq_true rfl⟩) hK hN rfl hl.1 rfl (Nat.le_of_ble_eq_true rfl) dX4_recall_33 ⟨Nat.zero_le _, Nat.zero_le _⟩ ?_
      refine va_aldq (C := "HeadBudgets$Deed") hx hb hK hP 235 1 g0_235 rfl (fm_in _) dX4_recall_36 ?_
      exact retQ (q := some (ad (221 + (p_fm ((((X 14 0 0) + (X 14 0 1)) - 1) - i) 12).toNatClampNeg))) hx hb hr hlocks dX4_recall_37 rfl (p_rec_some (fun q => q.elim c_1 (fun z => z c_9))).symm
    · refine lv_null hx hb dX4_recall_12 ?_
      exact retQ (q := none) hx hb hr hlocks dX4_recall_13 rfl (p_rec_none (by first | exact Or.inl c_1 | exact Or.inr c_9)).symm
set_option maxHeartbeats 4000000 in
set_option maxRecDepth 100000 in
theorem c_X4_rememberWith {l : Launch} {D : va_G} {cI cR : ClassId} {ad : Nat → Nat} (hdj : Dj 236 ad) (X : St) (k : Int32) (s1 : Int32) (t : Int32) (a : Int32) : WoV l D cI cR (Aw 236 ad) (wC cI cR ad X) (wC cI cR ad (N_rem X k s1 t a)) yX4_rememberWith wsX4_rememberWith ({ frames := 3, cells := 0, slots := 0, locals := 102 } : Room) [.ref (ad 234), .int k, .ref (ad 0), .int s1, .int t, .int a] := by
  refine OfW (cc := cX4_rememberWith) (maxL := 7) (ret := none) (by decide +kernel) rfl (Nat.le_of_ble_eq_true rfl) (fun p e s m below meth c hx hb hr hts hown hlocks hml hnm hP hK hN ls hl => ?_)
  have hl : lv_has ls 7 [(0, .ref (ad 234)), (1, .int k), (2, .ref (ad 0)), (3, .int s1), (4, .int t), (5, .int a)] := hl
  have lk_18 := hts (.fieldLink RX4 18 "HeadBudgets$Memory" "held" "I") (by decide +kernel)
  have lk_22 := hts (.fieldLink RX4 22 "HeadBudgets$Memory" "oldest" "I") (by decide +kernel)
  have lk_35 := hts (.fieldLink RX4 35 "HeadBudgets$Memory" "latestNumber" "I") (by decide +kernel)
  have lk_42 := hts (.fieldLink RX4 42 "HeadBudgets$Deed" "before" "LHeadBudgets$Books;") (by decide +kernel)
  have lk_52 := hts (.fieldLink RX4 52 "HeadBudgets$Deed" "number" "I") (by decide +kernel)
  have lk_55 := hts (.fieldLink RX4 55 "HeadBudgets$Deed" "kind" "I") (by decide +kernel)
  have lk_58 := hts (.fieldLink RX4 58 "HeadBudgets$Deed" "subject" "I") (by decide +kernel)
  have lk_61 := hts (.fieldLink RX4 61 "HeadBudgets$Deed" "taker" "I") (by decide +kernel)
  have lk_64 := hts (.fieldLink RX4 64 "HeadBudgets$Deed" "amount" "I") (by decide +kernel)
  have hi_X2 : ∀ w ∈ wsX20, w ∈ wsX4_rememberWith := by decide +kernel
  have hi_X4 : ∀ w ∈ wsX40, w ∈ wsX4_rememberWith := by decide +kernel
  have hS : va_S (Aw 236 ad) s.heap s.heap [] := va_S.rf
  have hP : va_P D vwCl (wC cI cR ad X) s.heap := hP
  refine lv_aload_n hx hb dX4_rememberWith_0 rfl (lv_at hl 0 rfl) ?_
  refine xget (C := RX4) (T := TX4) (N := 4) (ci := 4) (w := .int (X 14 0 1)) hx hb hts hi_X4 hown hK hP 234 g0_234 rfl 2 (by decide) lk_18 rfl dX4_rememberWith_1 ?_
  refine lv_bipush (v := 12) hx hb dX4_rememberWith_4 (by decide) ?_
  refine lv_icmp_ge (tgt := 22) hx hb dX4_rememberWith_6 (by decide) (fun c_6 => ?_) (fun c_6 => ?_)
  · refine lv_aload_n hx hb dX4_rememberWith_22 rfl (lv_at hl 0 rfl) ?_
    refine lv_aload_n hx hb dX4_rememberWith_23 rfl (lv_at hl 0 rfl) ?_
    refine xget (C := RX4) (T := TX4) (N := 4) (ci := 4) (w := .int (X 14 0 0)) hx hb hts hi_X4 hown hK hP 234 g0_234 rfl 1 (by decide) lk_22 rfl dX4_rememberWith_24 ?_
    refine lv_iconst (v := 1) hx hb dX4_rememberWith_27 (by decide) ?_
    refine lv_iadd hx hb dX4_rememberWith_28 ?_
    refine lv_bipush (v := 12) hx hb dX4_rememberWith_29 (by decide) ?_
    refine callSE (As := [.int ((X 14 0 0) + 1), .int 12]) (rest := [.ref (ad 234)]) ⟨hx, hb, hml, hown, hts⟩ (c_J9_floorMod_7cf53 ((X 14 0 0) + 1) 12 (by decide)) (va_cwS 2 hts gX4_rememberWith_J9_floorMod_7cf53 rfl rfl rfl (by decide +kernel) ⟨Nat.le_of_ble_eq_true rfl, Nat.le_of_ble_eq_true rfl⟩) hK hN rfl hl.1 rfl (Nat.le_of_ble_eq_true rfl) dX4_rememberWith_31 ⟨Nat.zero_le _, Nat.zero_le _⟩ ?_
    refine xput (C := RX4) (T := TX4) (N := 4) (ci := 4) hx hb hts hi_X4 tyX4 tyX4_ok nmX4 hown hK hP (wC_D hdj) hS 234 g0_234 rfl 1 (by decide) lk_22 rfl (by decide +kernel) (Nat.le_of_ble_eq_true rfl) s0_m0 dX4_rememberWith_34 (fun H locs hP hS => ?_)
    obtain ⟨X_1, eX_1⟩ : ∃ Z : St, Z = u3 X 14 0 0 (p_fm ((X 14 0 0) + 1) 12) := ⟨_, rfl⟩
    rw [← eX_1] at hP
    refine lv_aload_n hx hb dX4_rememberWith_37 rfl (lv_at hl 0 rfl) ?_
    refine lv_dup hx hb dX4_rememberWith_38 rfl ?_
    refine xget (C := RX4) (T := TX4) (N := 4) (ci := 4) (w := .int (X_1 14 0 2)) hx hb hts hi_X4 hown hK hP 234 g0_234 rfl 3 (by decide) lk_35 rfl dX4_rememberWith_39 ?_
    refine lv_iconst (v := 1) hx hb dX4_rememberWith_42 (by decide) ?_
    refine lv_iadd hx hb dX4_rememberWith_43 ?_
    refine xput (C := RX4) (T := TX4) (N := 4) (ci := 4) hx hb hts hi_X4 tyX4 tyX4_ok nmX4 hown hK hP (wC_D hdj) hS 234 g0_234 rfl 3 (by decide) lk_35 rfl (by decide +kernel) (Nat.le_of_ble_eq_true rfl) s0_m2 dX4_rememberWith_44 (fun H locs hP hS => ?_)
    obtain ⟨X_2, eX_2⟩ : ∃ Z : St, Z = u3 X_1 14 0 2 ((X_1 14 0 2) + 1) := ⟨_, rfl⟩
    rw [← eX_2] at hP
    refine lv_aload_n hx hb dX4_rememberWith_47 rfl (lv_at hl 0 rfl) ?_
    refine lv_iconst (v := 0) hx hb dX4_rememberWith_48 (by decide) ?_
    refine callQ (As := [.int 0]) (rest := []) ⟨hx, hb, hml, hown, hts⟩ (c_X4_recall X_2 0) (cwV 1 hts gX4_rememberWith_X4_recall rfl rfl rfl (by decide +kernel) ⟨Nat.le_of_ble_eq_true rfl, Nat.le_of_ble_eq_true rfl⟩) hK hN hP 234 g0_234 rfl rfl hl.1 rfl (Nat.le_of_ble_eq_true rfl) dX4_rememberWith_49 ⟨Nat.zero_le _, Nat.zero_le _⟩ ?_
    by_cases c_49 : p_norec X_2 0
    · rw [p_rec_none c_49]
      refine W.eq (g2 := F0 m 52 ls [.null]) rfl ?_
      refine lv_astoreN (lv' := [(6, .null), (0, .ref (ad 234)), (1, .int k), (2, .ref (ad 0)), (3, .int s1), (4, .int t), (5, .int a)]) hx hb dX4_rememberWith_52 hl (by decide) rfl (fun ls hl => ?_)
      refine lv_aloadN hx hb dX4_rememberWith_54 (lv_at hl 0 rfl) ?_
      refine lv_ifnullN (tgt := 103) hx hb dX4_rememberWith_56 (by decide) ?_
      have hZ : X_2 = N_rem X k s1 t a := by
        have e2 : X_2 = m_num X := by
          rw [eX_2, eX_1]
          unfold m_num m_held
          first | rw [ci_t c_6] | rw [ci_f c_6]
        unfold N_rem
        rw [← e2, ci_t c_49]
      exact retWV hx hb hr hlocks (by rw [← hZ]; exact hP) hS dX4_rememberWith_103
    · rw [p_rec_some c_49]
      obtain ⟨z_49, ez_49, hz_49⟩ : ∃ z : Nat, z = (p_slot X_2 0).toNatClampNeg ∧ z < 12 := ⟨_, rfl, slot_lt _ _⟩
      rw [← ez_49]
      refine W.eq (g2 := F0 m 52 ls [.ref (ad (221 + z_49))]) rfl ?_
      refine lv_astore (lv' := [(6, .ref (ad (221 + z_49))), (0, .ref (ad 234)), (1, .int k), (2, .ref (ad 0)), (3, .int s1), (4, .int t), (5, .int a)]) hx hb dX4_rememberWith_52 hl (by decide) rfl (fun ls hl => ?_)
      refine lv_aload hx hb dX4_rememberWith_54 (lv_at hl 0 rfl) ?_
      refine lv_ifnull hx hb dX4_rememberWith_56 ?_
      refine lv_aload hx hb dX4_rememberWith_59 (lv_at hl 0 rfl) ?_
      refine xget (C := RX2) (T := TX2) (N := 6) (ci := 2) (w := .ref (ad (17 * (z_49 + 1)))) hx hb hts hi_X2 hown hK hP ((221 + z_49)) (gd hz_49) rfl 0 (by decide) lk_42 rfl dX4_rememberWith_61 ?_
      refine lv_aload_n hx hb dX4_rememberWith_64 rfl (lv_at hl 3 rfl) ?_
      refine callWV (As := [.ref (ad 0)]) (rest := []) ⟨hx, hb, hml, hown, hts⟩ (c_X0_copyFrom hdj X_2 ((z_49 + 1)) 0 (by omega) (by decide) (by omega)) (cwV 1 hts gX4_rememberWith_X0_copyFrom rfl rfl rfl (by decide +kernel) ⟨Nat.le_of_ble_eq_true rfl, Nat.le_of_ble_eq_true rfl⟩) hK hN hP (17 * (z_49 + 1) + 0) (gg_0 (show (z_49 + 1) < 13 by omega)) rfl rfl hl.1 rfl (Nat.le_of_ble_eq_true rfl) dX4_rememberWith_65 ⟨Nat.zero_le _, Nat.zero_le _⟩ hS (fun _ h9 => h9) (fun H locs hP hS => ?_)
      obtain ⟨X_3, eX_3⟩ : ∃ Z : St, Z = sg X_2 ((z_49 + 1)) (X_2 0) := ⟨_, rfl⟩
      rw [← eX_3] at hP
      refine lv_aload hx hb dX4_rememberWith_68 (lv_at hl 0 rfl) ?_
      refine lv_aload_n hx hb dX4_rememberWith_70 rfl (lv_at hl 1 rfl) ?_
      refine xget (C := RX4) (T := TX4) (N := 4) (ci := 4) (w := .int (X_3 14 0 2)) hx hb hts hi_X4 hown hK hP 234 g0_234 rfl 3 (by decide) lk_35 rfl dX4_rememberWith_71 ?_
      refine xput (C := RX2) (T := TX2) (N := 6) (ci := 2) hx hb hts hi_X2 tyX2 tyX2_ok nmX2 hown hK hP (wC_D hdj) hS ((221 + z_49)) (gd hz_49) rfl 1 (by decide) lk_52 rfl (by decide +kernel) (Nat.le_of_ble_eq_true rfl) (sd_0 hz_49) dX4_rememberWith_74 (fun H locs hP hS => ?_)
      obtain ⟨X_4, eX_4⟩ : ∃ Z : St, Z = u3 X_3 13 0 z_49 (X_3 14 0 2) := ⟨_, rfl⟩
      rw [← eX_4] at hP
      refine lv_aload hx hb dX4_rememberWith_77 (lv_at hl 0 rfl) ?_
      refine lv_iload_n hx hb dX4_rememberWith_79 rfl (lv_at hl 2 rfl) ?_
      refine xput (C := RX2) (T := TX2) (N := 6) (ci := 2) hx hb hts hi_X2 tyX2 tyX2_ok nmX2 hown hK hP (wC_D hdj) hS ((221 + z_49)) (gd hz_49) rfl 2 (by decide) lk_55 rfl (by decide +kernel) (Nat.le_of_ble_eq_true rfl) (sd_1 hz_49) dX4_rememberWith_80 (fun H locs hP hS => ?_)
      obtain ⟨X_5, eX_5⟩ : ∃ Z : St, Z = u3 X_4 13 1 z_49 k := ⟨_, rfl⟩
      rw [← eX_5] at hP
      refine lv_aload hx hb dX4_rememberWith_83 (lv_at hl 0 rfl) ?_
      refine lv_iload_n hx hb dX4_rememberWith_85 rfl (lv_at hl 4 rfl) ?_
      refine xput (C := RX2) (T := TX2) (N := 6) (ci := 2) hx hb hts hi_X2 tyX2 tyX2_ok nmX2 hown hK hP (wC_D hdj) hS ((221 + z_49)) (gd hz_49) rfl 3 (by decide) lk_58 rfl (by decide +kernel) (Nat.le_of_ble_eq_true rfl) (sd_2 hz_49) dX4_rememberWith_86 (fun H locs hP hS => ?_)
      obtain ⟨X_6, eX_6⟩ : ∃ Z : St, Z = u3 X_5 13 2 z_49 s1 := ⟨_, rfl⟩
      rw [← eX_6] at hP
      refine lv_aload hx hb dX4_rememberWith_89 (lv_at hl 0 rfl) ?_
      refine lv_iload hx hb dX4_rememberWith_91 (lv_at hl 5 rfl) ?_
      refine xput (C := RX2) (T := TX2) (N := 6) (ci := 2) hx hb hts hi_X2 tyX2 tyX2_ok nmX2 hown hK hP (wC_D hdj) hS ((221 + z_49)) (gd hz_49) rfl 4 (by decide) lk_61 rfl (by decide +kernel) (Nat.le_of_ble_eq_true rfl) (sd_3 hz_49) dX4_rememberWith_93 (fun H locs hP hS => ?_)
      obtain ⟨X_7, eX_7⟩ : ∃ Z : St, Z = u3 X_6 13 3 z_49 t := ⟨_, rfl⟩
      rw [← eX_7] at hP
      refine lv_aload hx hb dX4_rememberWith_96 (lv_at hl 0 rfl) ?_
      refine lv_iload hx hb dX4_rememberWith_98 (lv_at hl 6 rfl) ?_
      refine xput (C := RX2) (T := TX2) (N := 6) (ci := 2) hx hb hts hi_X2 tyX2 tyX2_ok nmX2 hown hK hP (wC_D hdj) hS ((221 + z_49)) (gd hz_49) rfl 5 (by decide) lk_64 rfl (by decide +kernel) (Nat.le_of_ble_eq_true rfl) (sd_4 hz_49) dX4_rememberWith_100 (fun H locs hP hS => ?_)
      obtain ⟨X_8, eX_8⟩ : ∃ Z : St, Z = u3 X_7 13 4 z_49 a := ⟨_, rfl⟩
      rw [← eX_8] at hP
      have hZ : X_8 = N_rem X k s1 t a := by
        have e2 : X_2 = m_num X := by
          rw [eX_2, eX_1]
          unfold m_num m_held
          first | rw [ci_t c_6] | rw [ci_f c_6]
        unfold N_rem
        rw [← e2, ci_f c_49, ← ez_49]
        subst eX_8 eX_7 eX_6 eX_5 eX_4 eX_3
        rfl
      exact retWV hx hb hr hlocks (by rw [← hZ]; exact hP) hS dX4_rememberWith_103
  · refine lv_aload_n hx hb dX4_rememberWith_9 rfl (lv_at hl 0 rfl) ?_
    refine lv_dup hx hb dX4_rememberWith_10 rfl ?_
    refine xget (C := RX4) (T := TX4) (N := 4) (ci := 4) (w := .int (X 14 0 1)) hx hb hts hi_X4 hown hK hP 234 g0_234 rfl 2 (by decide) lk_18 rfl dX4_rememberWith_11 ?_
    refine lv_iconst (v := 1) hx hb dX4_rememberWith_14 (by decide) ?_
    refine lv_iadd hx hb dX4_rememberWith_15 ?_
    refine xput (C := RX4) (T := TX4) (N := 4) (ci := 4) hx hb hts hi_X4 tyX4 tyX4_ok nmX4 hown hK hP (wC_D hdj) hS 234 g0_234 rfl 2 (by decide) lk_18 rfl (by decide +kernel) (Nat.le_of_ble_eq_true rfl) s0_m1 dX4_rememberWith_16 (fun H locs hP hS => ?_)
    obtain ⟨X_9, eX_9⟩ : ∃ Z : St, Z = u3 X 14 0 1 ((X 14 0 1) + 1) := ⟨_, rfl⟩
    rw [← eX_9] at hP
    refine lv_goto (tgt := 37) hx hb dX4_rememberWith_19 (by decide) ?_
    refine lv_aload_n hx hb dX4_rememberWith_37 rfl (lv_at hl 0 rfl) ?_
    refine lv_dup hx hb dX4_rememberWith_38 rfl ?_
    refine xget (C := RX4) (T := TX4) (N := 4) (ci := 4) (w := .int (X_9 14 0 2)) hx hb hts hi_X4 hown hK hP 234 g0_234 rfl 3 (by decide) lk_35 rfl dX4_rememberWith_39 ?_
    refine lv_iconst (v := 1) hx hb dX4_rememberWith_42 (by decide) ?_
    refine lv_iadd hx hb dX4_rememberWith_43 ?_
    refine xput (C := RX4) (T := TX4) (N := 4) (ci := 4) hx hb hts hi_X4 tyX4 tyX4_ok nmX4 hown hK hP (wC_D hdj) hS 234 g0_234 rfl 3 (by decide) lk_35 rfl (by decide +kernel) (Nat.le_of_ble_eq_true rfl) s0_m2 dX4_rememberWith_44 (fun H locs hP hS => ?_)
    obtain ⟨X_10, eX_10⟩ : ∃ Z : St, Z = u3 X_9 14 0 2 ((X_9 14 0 2) + 1) := ⟨_, rfl⟩
    rw [← eX_10] at hP
    refine lv_aload_n hx hb dX4_rememberWith_47 rfl (lv_at hl 0 rfl) ?_
    refine lv_iconst (v := 0) hx hb dX4_rememberWith_48 (by decide) ?_
    refine callQ (As := [.int 0]) (rest := []) ⟨hx, hb, hml, hown, hts⟩ (c_X4_recall X_10 0) (cwV 1 hts gX4_rememberWith_X4_recall rfl rfl rfl (by decide +kernel) ⟨Nat.le_of_ble_eq_true rfl, Nat.le_of_ble_eq_true rfl⟩) hK hN hP 234 g0_234 rfl rfl hl.1 rfl (Nat.le_of_ble_eq_true rfl) dX4_rememberWith_49 ⟨Nat.zero_le _, Nat.zero_le _⟩ ?_
    by_cases c_49 : p_norec X_10 0
    · rw [p_rec_none c_49]
      refine W.eq (g2 := F0 m 52 ls [.null]) rfl ?_
      refine lv_astoreN (lv' := [(6, .null), (0, .ref (ad 234)), (1, .int k), (2, .ref (ad 0)), (3, .int s1), (4, .int t), (5, .int a)]) hx hb dX4_rememberWith_52 hl (by decide) rfl (fun ls hl => ?_)
      refine lv_aloadN hx hb dX4_rememberWith_54 (lv_at hl 0 rfl) ?_
      refine lv_ifnullN (tgt := 103) hx hb dX4_rememberWith_56 (by decide) ?_
      have hZ : X_10 = N_rem X k s1 t a := by
        have e2 : X_10 = m_num X := by
          rw [eX_10, eX_9]
          unfold m_num m_held
          first | rw [ci_t c_6] | rw [ci_f c_6]
        unfold N_rem
        rw [← e2, ci_t c_49]
      exact retWV hx hb hr hlocks (by rw [← hZ]; exact hP) hS dX4_rememberWith_103
    · rw [p_rec_some c_49]
      obtain ⟨z_49, ez_49, hz_49⟩ : ∃ z : Nat, z = (p_slot X_10 0).toNatClampNeg ∧ z < 12 := ⟨_, rfl, slot_lt _ _⟩
      rw [← ez_49]
      refine W.eq (g2 := F0 m 52 ls [.ref (ad (221 + z_49))]) rfl ?_
      refine lv_astore (lv' := [(6, .ref (ad (221 + z_49))), (0, .ref (ad 234)), (1, .int k), (2, .ref (ad 0)), (3, .int s1), (4, .int t), (5, .int a)]) hx hb dX4_rememberWith_52 hl (by decide) rfl (fun ls hl => ?_)
      refine lv_aload hx hb dX4_rememberWith_54 (lv_at hl 0 rfl) ?_
      refine lv_ifnull hx hb dX4_rememberWith_56 ?_
      refine lv_aload hx hb dX4_rememberWith_59 (lv_at hl 0 rfl) ?_
      refine xget (C := RX2) (T := TX2) (N := 6) (ci := 2) (w := .ref (ad (17 * (z_49 + 1)))) hx hb hts hi_X2 hown hK hP ((221 + z_49)) (gd hz_49) rfl 0 (by decide) lk_42 rfl dX4_rememberWith_61 ?_
      refine lv_aload_n hx hb dX4_rememberWith_64 rfl (lv_at hl 3 rfl) ?_
      refine callWV (As := [.ref (ad 0)]) (rest := []) ⟨hx, hb, hml, hown, hts⟩ (c_X0_copyFrom hdj X_10 ((z_49 + 1)) 0 (by omega) (by decide) (by omega)) (cwV 1 hts gX4_rememberWith_X0_copyFrom rfl rfl rfl (by decide +kernel) ⟨Nat.le_of_ble_eq_true rfl, Nat.le_of_ble_eq_true rfl⟩) hK hN hP (17 * (z_49 + 1) + 0) (gg_0 (show (z_49 + 1) < 13 by omega)) rfl rfl hl.1 rfl (Nat.le_of_ble_eq_true rfl) dX4_rememberWith_65 ⟨Nat.zero_le _, Nat.zero_le _⟩ hS (fun _ h9 => h9) (fun H locs hP hS => ?_)
      obtain ⟨X_11, eX_11⟩ : ∃ Z : St, Z = sg X_10 ((z_49 + 1)) (X_10 0) := ⟨_, rfl⟩
      rw [← eX_11] at hP
      refine lv_aload hx hb dX4_rememberWith_68 (lv_at hl 0 rfl) ?_
      refine lv_aload_n hx hb dX4_rememberWith_70 rfl (lv_at hl 1 rfl) ?_
      refine xget (C := RX4) (T := TX4) (N := 4) (ci := 4) (w := .int (X_11 14 0 2)) hx hb hts hi_X4 hown hK hP 234 g0_234 rfl 3 (by decide) lk_35 rfl dX4_rememberWith_71 ?_
      refine xput (C := RX2) (T := TX2) (N := 6) (ci := 2) hx hb hts hi_X2 tyX2 tyX2_ok nmX2 hown hK hP (wC_D hdj) hS ((221 + z_49)) (gd hz_49) rfl 1 (by decide) lk_52 rfl (by decide +kernel) (Nat.le_of_ble_eq_true rfl) (sd_0 hz_49) dX4_rememberWith_74 (fun H locs hP hS => ?_)
      obtain ⟨X_12, eX_12⟩ : ∃ Z : St, Z = u3 X_11 13 0 z_49 (X_11 14 0 2) := ⟨_, rfl⟩
      rw [← eX_12] at hP
      refine lv_aload hx hb dX4_rememberWith_77 (lv_at hl 0 rfl) ?_
      refine lv_iload_n hx hb dX4_rememberWith_79 rfl (lv_at hl 2 rfl) ?_
      refine xput (C := RX2) (T := TX2) (N := 6) (ci := 2) hx hb hts hi_X2 tyX2 tyX2_ok nmX2 hown hK hP (wC_D hdj) hS ((221 + z_49)) (gd hz_49) rfl 2 (by decide) lk_55 rfl (by decide +kernel) (Nat.le_of_ble_eq_true rfl) (sd_1 hz_49) dX4_rememberWith_80 (fun H locs hP hS => ?_)
      obtain ⟨X_13, eX_13⟩ : ∃ Z : St, Z = u3 X_12 13 1 z_49 k := ⟨_, rfl⟩
      rw [← eX_13] at hP
      refine lv_aload hx hb dX4_rememberWith_83 (lv_at hl 0 rfl) ?_
      refine lv_iload_n hx hb dX4_rememberWith_85 rfl (lv_at hl 4 rfl) ?_
      refine xput (C := RX2) (T := TX2) (N := 6) (ci := 2) hx hb hts hi_X2 tyX2 tyX2_ok nmX2 hown hK hP (wC_D hdj) hS ((221 + z_49)) (gd hz_49) rfl 3 (by decide) lk_58 rfl (by decide +kernel) (Nat.le_of_ble_eq_true rfl) (sd_2 hz_49) dX4_rememberWith_86 (fun H locs hP hS => ?_)
      obtain ⟨X_14, eX_14⟩ : ∃ Z : St, Z = u3 X_13 13 2 z_49 s1 := ⟨_, rfl⟩
      rw [← eX_14] at hP
      refine lv_aload hx hb dX4_rememberWith_89 (lv_at hl 0 rfl) ?_
      refine lv_iload hx hb dX4_rememberWith_91 (lv_at hl 5 rfl) ?_
      refine xput (C := RX2) (T := TX2) (N := 6) (ci := 2) hx hb hts hi_X2 tyX2 tyX2_ok nmX2 hown hK hP (wC_D hdj) hS ((221 + z_49)) (gd hz_49) rfl 4 (by decide) lk_61 rfl (by decide +kernel) (Nat.le_of_ble_eq_true rfl) (sd_3 hz_49) dX4_rememberWith_93 (fun H locs hP hS => ?_)
      obtain ⟨X_15, eX_15⟩ : ∃ Z : St, Z = u3 X_14 13 3 z_49 t := ⟨_, rfl⟩
      rw [← eX_15] at hP
      refine lv_aload hx hb dX4_rememberWith_96 (lv_at hl 0 rfl) ?_
      refine lv_iload hx hb dX4_rememberWith_98 (lv_at hl 6 rfl) ?_
      refine xput (C := RX2) (T := TX2) (N := 6) (ci := 2) hx hb hts hi_X2 tyX2 tyX2_ok nmX2 hown hK hP (wC_D hdj) hS ((221 + z_49)) (gd hz_49) rfl 5 (by decide) lk_64 rfl (by decide +kernel) (Nat.le_of_ble_eq_true rfl) (sd_4 hz_49) dX4_rememberWith_100 (fun H locs hP hS => ?_)
      obtain ⟨X_16, eX_16⟩ : ∃ Z : St, Z = u3 X_15 13 4 z_49 a := ⟨_, rfl⟩
      rw [← eX_16] at hP
      have hZ : X_16 = N_rem X k s1 t a := by
        have e2 : X_10 = m_num X := by
          rw [eX_10, eX_9]
          unfold m_num m_held
          first | rw [ci_t c_6] | rw [ci_f c_6]
        unfold N_rem
        rw [← e2, ci_f c_49, ← ez_49]
        subst eX_16 eX_15 eX_14 eX_13 eX_12 eX_11
        rfl
      exact retWV hx hb hr hlocks (by rw [← hZ]; exact hP) hS dX4_rememberWith_103
set_option maxHeartbeats 4000000 in
set_option maxRecDepth 100000 in
theorem c_X4_remember {l : Launch} {D : va_G} {cI cR : ClassId} {ad : Nat → Nat} (hdj : Dj 236 ad) (X : St) (k : Int32) : WoV l D cI cR (Aw 236 ad) (wC cI cR ad X) (wC cI cR ad (N_rem X k (-9) (-9) 0)) yX4_remember wsX4_remember ({ frames := 4, cells := 0, slots := 0, locals := 128 } : Room) [.ref (ad 234), .int k, .ref (ad 0)] := by
  refine OfW (cc := cX4_remember) (maxL := 3) (ret := none) (by decide +kernel) rfl (Nat.le_of_ble_eq_true rfl) (fun p e s m below meth c hx hb hr hts hown hlocks hml hnm hP hK hN ls hl => ?_)
  have hl : lv_has ls 3 [(0, .ref (ad 234)), (1, .int k), (2, .ref (ad 0))] := hl
  have hS : va_S (Aw 236 ad) s.heap s.heap [] := va_S.rf
  have hP : va_P D vwCl (wC cI cR ad X) s.heap := hP
  refine lv_aload_n hx hb dX4_remember_0 rfl (lv_at hl 0 rfl) ?_
  refine lv_iload_n hx hb dX4_remember_1 rfl (lv_at hl 1 rfl) ?_
  refine lv_aload_n hx hb dX4_remember_2 rfl (lv_at hl 2 rfl) ?_
  refine lv_bipush (v := (-9)) hx hb dX4_remember_3 (by decide) ?_
  refine lv_bipush (v := (-9)) hx hb dX4_remember_5 (by decide) ?_
  refine lv_iconst (v := 0) hx hb dX4_remember_7 (by decide) ?_
  refine callWV (As := [.int k, .ref (ad 0), .int ((-9)), .int ((-9)), .int 0]) (rest := []) ⟨hx, hb, hml, hown, hts⟩ (c_X4_rememberWith hdj X k ((-9)) ((-9)) 0) (cwV 5 hts gX4_remember_X4_rememberWith rfl rfl rfl (by decide +kernel) ⟨Nat.le_of_ble_eq_true rfl, Nat.le_of_ble_eq_true rfl⟩) hK hN hP 234 g0_234 rfl rfl hl.1 rfl (Nat.le_of_ble_eq_true rfl) dX4_remember_8 ⟨Nat.zero_le _, Nat.zero_le _⟩ hS (fun _ h9 => h9) (fun H locs hP hS => ?_)
  obtain ⟨X_1, eX_1⟩ : ∃ Z : St, Z = N_rem X k ((-9)) ((-9)) 0 := ⟨_, rfl⟩
  rw [← eX_1] at hP
  have hZ : X_1 = N_rem X k (-9) (-9) 0 := by
    subst eX_1
    try simp only [u3_sg, sg_sg, sg_g]
    try dsimp only
    all_goals (first | rfl | (rw [sg_self]) | (simp only [u3_sg, sg_sg, sg_g]; done) | (simp only [u3_sg, sg_sg, sg_g]; rfl))
  exact retWV hx hb hr hlocks (by rw [← hZ]; exact hP) hS dX4_remember_11
set_option maxHeartbeats 4000000 in
set_option maxRecDepth 100000 in
theorem c_X4_rememberCommitment {l : Launch} {D : va_G} {cI cR : ClassId} {ad : Nat → Nat} (hdj : Dj 236 ad) (X : St) (q : Int32) : WoV l D cI cR (Aw 236 ad) (wC cI cR ad X) (wC cI cR ad (N_rem X 5 q (-9) 0)) yX4_rememberCommitment wsX4_rememberCommitment ({ frames := 4, cells := 0, slots := 0, locals := 128 } : Room) [.ref (ad 234), .ref (ad 0), .int q] := by
  refine OfW (cc := cX4_rememberCommitment) (maxL := 3) (ret := none) (by decide +kernel) rfl (Nat.le_of_ble_eq_true rfl) (fun p e s m below meth c hx hb hr hts hown hlocks hml hnm hP hK hN ls hl => ?_)
  have hl : lv_has ls 3 [(0, .ref (ad 234)), (1, .ref (ad 0)), (2, .int q)] := hl
  have hS : va_S (Aw 236 ad) s.heap s.heap [] := va_S.rf
  have hP : va_P D vwCl (wC cI cR ad X) s.heap := hP
  refine lv_aload_n hx hb dX4_rememberCommitment_0 rfl (lv_at hl 0 rfl) ?_
  refine lv_iconst (v := 5) hx hb dX4_rememberCommitment_1 (by decide) ?_
  refine lv_aload_n hx hb dX4_rememberCommitment_2 rfl (lv_at hl 1 rfl) ?_
  refine lv_iload_n hx hb dX4_rememberCommitment_3 rfl (lv_at hl 2 rfl) ?_
  refine lv_bipush (v := (-9)) hx hb dX4_rememberCommitment_4 (by decide) ?_
  refine lv_iconst (v := 0) hx hb dX4_rememberCommitment_6 (by decide) ?_
  refine callWV (As := [.int 5, .ref (ad 0), .int q, .int ((-9)), .int 0]) (rest := []) ⟨hx, hb, hml, hown, hts⟩ (c_X4_rememberWith hdj X 5 q ((-9)) 0) (cwV 5 hts gX4_rememberCommitment_X4_rememberWith rfl rfl rfl (by decide +kernel) ⟨Nat.le_of_ble_eq_true rfl, Nat.le_of_ble_eq_true rfl⟩) hK hN hP 234 g0_234 rfl rfl hl.1 rfl (Nat.le_of_ble_eq_true rfl) dX4_rememberCommitment_7 ⟨Nat.zero_le _, Nat.zero_le _⟩ hS (fun _ h9 => h9) (fun H locs hP hS => ?_)
  obtain ⟨X_1, eX_1⟩ : ∃ Z : St, Z = N_rem X 5 q ((-9)) 0 := ⟨_, rfl⟩
  rw [← eX_1] at hP
  have hZ : X_1 = N_rem X 5 q (-9) 0 := by
    subst eX_1
    try simp only [u3_sg, sg_sg, sg_g]
    try dsimp only
    all_goals (first | rfl | (rw [sg_self]) | (simp only [u3_sg, sg_sg, sg_g]; done) | (simp only [u3_sg, sg_sg, sg_g]; rfl))
  exact retWV hx hb hr hlocks (by rw [← hZ]; exact hP) hS dX4_rememberCommitment_10
set_option maxHeartbeats 4000000 in
set_option maxRecDepth 100000 in
theorem c_X4_rememberVirement {l : Launch} {D : va_G} {cI cR : ClassId} {ad : Nat → Nat} (hdj : Dj 236 ad) (X : St) (f : Int32) (t : Int32) (a : Int32) : WoV l D cI cR (Aw 236 ad) (wC cI cR ad X) (wC cI cR ad (N_rem X 8 f t a)) yX4_rememberVirement wsX4_rememberVirement ({ frames := 4, cells := 0, slots := 0, locals := 128 } : Room) [.ref (ad 234), .ref (ad 0), .int f, .int t, .int a] := by
  refine OfW (cc := cX4_rememberVirement) (maxL := 5) (ret := none) (by decide +kernel) rfl (Nat.le_of_ble_eq_true rfl) (fun p e s m below meth c hx hb hr hts hown hlocks hml hnm hP hK hN ls hl => ?_)
  have hl : lv_has ls 5 [(0, .ref (ad 234)), (1, .ref (ad 0)), (2, .int f), (3, .int t), (4, .int a)] := hl
  have hS : va_S (Aw 236 ad) s.heap s.heap [] := va_S.rf
  have hP : va_P D vwCl (wC cI cR ad X) s.heap := hP
  refine lv_aload_n hx hb dX4_rememberVirement_0 rfl (lv_at hl 0 rfl) ?_
  refine lv_bipush (v := 8) hx hb dX4_rememberVirement_1 (by decide) ?_
  refine lv_aload_n hx hb dX4_rememberVirement_3 rfl (lv_at hl 1 rfl) ?_
  refine lv_iload_n hx hb dX4_rememberVirement_4 rfl (lv_at hl 2 rfl) ?_
  refine lv_iload_n hx hb dX4_rememberVirement_5 rfl (lv_at hl 3 rfl) ?_
  refine lv_iload hx hb dX4_rememberVirement_6 (lv_at hl 4 rfl) ?_
  refine callWV (As := [.int 8, .ref (ad 0), .int f, .int t, .int a]) (rest := []) ⟨hx, hb, hml, hown, hts⟩ (c_X4_rememberWith hdj X 8 f t a) (cwV 5 hts gX4_rememberVirement_X4_rememberWith rfl rfl rfl (by decide +kernel) ⟨Nat.le_of_ble_eq_true rfl, Nat.le_of_ble_eq_true rfl⟩) hK hN hP 234 g0_234 rfl rfl hl.1 rfl (Nat.le_of_ble_eq_true rfl) dX4_rememberVirement_8 ⟨Nat.zero_le _, Nat.zero_le _⟩ hS (fun _ h9 => h9) (fun H locs hP hS => ?_)
  obtain ⟨X_1, eX_1⟩ : ∃ Z : St, Z = N_rem X 8 f t a := ⟨_, rfl⟩
  rw [← eX_1] at hP
  have hZ : X_1 = N_rem X 8 f t a := by
    subst eX_1
    try simp only [u3_sg, sg_sg, sg_g]
    try dsimp only
    all_goals (first | rfl | (rw [sg_self]) | (simp only [u3_sg, sg_sg, sg_g]; done) | (simp only [u3_sg, sg_sg, sg_g]; rfl))
  exact retWV hx hb hr hlocks (by rw [← hZ]; exact hP) hS dX4_rememberVirement_11
set_option maxHeartbeats 4000000 in
set_option maxRecDepth 100000 in
theorem c_X4_rememberRevoking {l : Launch} {D : va_G} {cI cR : ClassId} {ad : Nat → Nat} (hdj : Dj 236 ad) (X : St) (q : Int32) : WoV l D cI cR (Aw 236 ad) (wC cI cR ad X) (wC cI cR ad (N_rem X 10 q (-9) 0)) yX4_rememberRevoking wsX4_rememberRevoking ({ frames := 4, cells := 0, slots := 0, locals := 128 } : Room) [.ref (ad 234), .ref (ad 0), .int q] := by
  refine OfW (cc := cX4_rememberRevoking) (maxL := 3) (ret := none) (by decide +kernel) rfl (Nat.le_of_ble_eq_true rfl) (fun p e s m below meth c hx hb hr hts hown hlocks hml hnm hP hK hN ls hl => ?_)
  have hl : lv_has ls 3 [(0, .ref (ad 234)), (1, .ref (ad 0)), (2, .int q)] := hl
  have hS : va_S (Aw 236 ad) s.heap s.heap [] := va_S.rf
  have hP : va_P D vwCl (wC cI cR ad X) s.heap := hP
  refine lv_aload_n hx hb dX4_rememberRevoking_0 rfl (lv_at hl 0 rfl) ?_
  refine lv_bipush (v := 10) hx hb dX4_rememberRevoking_1 (by decide) ?_
  refine lv_aload_n hx hb dX4_rememberRevoking_3 rfl (lv_at hl 1 rfl) ?_
  refine lv_iload_n hx hb dX4_rememberRevoking_4 rfl (lv_at hl 2 rfl) ?_
  refine lv_bipush (v := (-9)) hx hb dX4_rememberRevoking_5 (by decide) ?_
  refine lv_iconst (v := 0) hx hb dX4_rememberRevoking_7 (by decide) ?_
  refine callWV (As := [.int 10, .ref (ad 0), .int q, .int ((-9)), .int 0]) (rest := []) ⟨hx, hb, hml, hown, hts⟩ (c_X4_rememberWith hdj X 10 q ((-9)) 0) (cwV 5 hts gX4_rememberRevoking_X4_rememberWith rfl rfl rfl (by decide +kernel) ⟨Nat.le_of_ble_eq_true rfl, Nat.le_of_ble_eq_true rfl⟩) hK hN hP 234 g0_234 rfl rfl hl.1 rfl (Nat.le_of_ble_eq_true rfl) dX4_rememberRevoking_8 ⟨Nat.zero_le _, Nat.zero_le _⟩ hS (fun _ h9 => h9) (fun H locs hP hS => ?_)
  obtain ⟨X_1, eX_1⟩ : ∃ Z : St, Z = N_rem X 10 q ((-9)) 0 := ⟨_, rfl⟩
  rw [← eX_1] at hP
  have hZ : X_1 = N_rem X 10 q (-9) 0 := by
    subst eX_1
    try simp only [u3_sg, sg_sg, sg_g]
    try dsimp only
    all_goals (first | rfl | (rw [sg_self]) | (simp only [u3_sg, sg_sg, sg_g]; done) | (simp only [u3_sg, sg_sg, sg_g]; rfl))
  exact retWV hx hb hr hlocks (by rw [← hZ]; exact hP) hS dX4_rememberRevoking_11
set_option maxHeartbeats 4000000 in
set_option maxRecDepth 100000 in
theorem c_X4_forgetLatest {l : Launch} {D : va_G} {cI cR : ClassId} {ad : Nat → Nat} (hdj : Dj 236 ad) (X : St) : WoE l D cI cR (Aw 236 ad) (wC cI cR ad X) (wC cI cR ad (N_fl X)) yX4_forgetLatest wsX4_forgetLatest ({ frames := 0, cells := 0, slots := 0, locals := 0 } : Room) [.ref (ad 234)] (a_fl X) := by
  refine OfW (cc := cX4_forgetLatest) (maxL := 1) (ret := (some .int)) (by decide +kernel) rfl (Nat.le_of_ble_eq_true rfl) (fun p e s m below meth c hx hb hr hts hown hlocks hml hnm hP hK hN ls hl => ?_)
  have hl : lv_has ls 1 [(0, .ref (ad 234))] := hl
  have lk_18 := hts (.fieldLink RX4 18 "HeadBudgets$Memory" "held" "I") (by decide +kernel)
  have hi_X4 : ∀ w ∈ wsX40, w ∈ wsX4_forgetLatest := by decide +kernel
  have hS : va_S (Aw 236 ad) s.heap s.heap [] := va_S.rf
  have hP : va_P D vwCl (wC cI cR ad X) s.heap := hP
  refine lv_aload_n hx hb dX4_forgetLatest_0 rfl (lv_at hl 0 rfl) ?_
  refine xget (C := RX4) (T := TX4) (N := 4) (ci := 4) (w := .int (X 14 0 1)) hx hb hts hi_X4 hown hK hP 234 g0_234 rfl 2 (by decide) lk_18 rfl dX4_forgetLatest_1 ?_
  refine lv_if_le (tgt := 17) hx hb dX4_forgetLatest_4 (by decide) (fun c_4 => ?_) (fun c_4 => ?_)
  · refine lv_aload_n hx hb dX4_forgetLatest_17 rfl (lv_at hl 0 rfl) ?_
    refine xget (C := RX4) (T := TX4) (N := 4) (ci := 4) (w := .int (X 14 0 1)) hx hb hts hi_X4 hown hK hP 234 g0_234 rfl 2 (by decide) lk_18 rfl dX4_forgetLatest_18 ?_
    have hZ : X = N_fl X := by
      try simp only [u3_sg, sg_sg]
      try unfold N_fl
      try dsimp only
      all_goals repeat (first | rw [ci_t c_4] | rw [ci_f c_4])
      all_goals (first | rfl | (rw [sg_self]) | (simp only [u3_sg, sg_sg, sg_g, b2_s]; done) | (simp only [u3_sg, sg_sg, sg_g, b2_s]; rfl))
    have hV : X 14 0 1 = a_fl X := by
      try simp only [u3_sg, sg_sg]
      try unfold a_fl
      try dsimp only
      all_goals repeat (first | rw [ci_t c_4] | rw [ci_f c_4])
      all_goals (first | rfl | (rw [sg_self]) | (simp only [u3_sg, sg_sg, sg_g, b2_s]; done) | (simp only [u3_sg, sg_sg, sg_g, b2_s]; rfl))
    exact retWE hx hb hr hlocks (by rw [← hZ]; exact hP) hS dX4_forgetLatest_21 hV
  · refine lv_aload_n hx hb dX4_forgetLatest_7 rfl (lv_at hl 0 rfl) ?_
    refine lv_dup hx hb dX4_forgetLatest_8 rfl ?_
    refine xget (C := RX4) (T := TX4) (N := 4) (ci := 4) (w := .int (X 14 0 1)) hx hb hts hi_X4 hown hK hP 234 g0_234 rfl 2 (by decide) lk_18 rfl dX4_forgetLatest_9 ?_
    refine lv_iconst (v := 1) hx hb dX4_forgetLatest_12 (by decide) ?_
    refine lv_isub hx hb dX4_forgetLatest_13 ?_
    refine xput (C := RX4) (T := TX4) (N := 4) (ci := 4) hx hb hts hi_X4 tyX4 tyX4_ok nmX4 hown hK hP (wC_D hdj) hS 234 g0_234 rfl 2 (by decide) lk_18 rfl (by decide +kernel) (Nat.le_of_ble_eq_true rfl) s0_m1 dX4_forgetLatest_14 (fun H locs hP hS => ?_)
    obtain ⟨X_1, eX_1⟩ : ∃ Z : St, Z = u3 X 14 0 1 ((X 14 0 1) - 1) := ⟨_, rfl⟩
    rw [← eX_1] at hP
    refine lv_aload_n hx hb dX4_forgetLatest_17 rfl (lv_at hl 0 rfl) ?_
    refine xget (C := RX4) (T := TX4) (N := 4) (ci := 4) (w := .int (X_1 14 0 1)) hx hb hts hi_X4 hown hK hP 234 g0_234 rfl 2 (by decide) lk_18 rfl dX4_forgetLatest_18 ?_
    have hZ : X_1 = N_fl X := by
      subst eX_1
      try simp only [u3_sg, sg_sg]
      try unfold N_fl
      try dsimp only
      all_goals repeat (first | rw [ci_t c_4] | rw [ci_f c_4])
      all_goals (first | rfl | (rw [sg_self]) | (simp only [u3_sg, sg_sg, sg_g, b2_s]; done) | (simp only [u3_sg, sg_sg, sg_g, b2_s]; rfl))
    have hV : X_1 14 0 1 = a_fl X := by
      subst eX_1
      try simp only [u3_sg, sg_sg]
      try unfold a_fl
      try dsimp only
      all_goals repeat (first | rw [ci_t c_4] | rw [ci_f c_4])
      all_goals (first | rfl | (rw [sg_self]) | (simp only [u3_sg, sg_sg, sg_g, b2_s]; done) | (simp only [u3_sg, sg_sg, sg_g, b2_s]; rfl))
    exact retWE hx hb hr hlocks (by rw [← hZ]; exact hP) hS dX4_forgetLatest_21 hV
set_option maxHeartbeats 4000000 in
set_option maxRecDepth 100000 in
theorem c_X4_wasRevoked {l : Launch} {D : va_G} {cI cR : ClassId} {ad : Nat → Nat} (X : St) (q : Int32) : RoB l D cI cR (wC cI cR ad X) yX4_wasRevoked wsX4_wasRevoked ({ frames := 2, cells := 0, slots := 0, locals := 43 } : Room) [.ref (ad 234), .int q] (p_rev X q) := by
  refine OfW (cc := cX4_wasRevoked) (maxL := 4) (ret := (some .boolean)) (by decide +kernel) rfl (Nat.le_of_ble_eq_true rfl) (fun p e s m below meth c hx hb hr hts hown hlocks hml hnm hP hK hN ls hl => ?_)
  have hl : lv_has ls 4 [(0, .ref (ad 234)), (1, .int q)] := hl
  have lk_55 := hts (.fieldLink RX4 55 "HeadBudgets$Deed" "kind" "I") (by decide +kernel)
  have lk_58 := hts (.fieldLink RX4 58 "HeadBudgets$Deed" "subject" "I") (by decide +kernel)
  have hi_X2 : ∀ w ∈ wsX20, w ∈ wsX4_wasRevoked := by decide +kernel
  refine lv_iconst (v := 0) hx hb dX4_wasRevoked_0 (by decide) ?_
  refine lv_istore_n (lv' := [(2, .int 0), (0, .ref (ad 234)), (1, .int q)]) hx hb dX4_wasRevoked_1 rfl hl (by decide) rfl (fun ls hl => ?_)
  have hloop_2 : ∀ (n_2 : Nat) (k : Nat) (xk : Int32), k ≤ 12 → 12 < k + n_2 → xk = nI k → (∀ j : Nat, j < k → ¬ p_hit X q j) → ∀ ls : Array Slot, lv_has ls 4 [(0, .ref (ad 234)), (1, .int q), (2, .int xk)] → W p l e ({ frames := 2, cells := 0, slots := 0, locals := 43 } : Room) s m ([.ref (ad 234), .int q]).toArray below meth c s.heap [] 0 0 (MQ below (vp_Si (fun r => (r = 1 ∧ (p_rev X q)) ∨ (r = 0 ∧ ¬ (p_rev X q)))) ([.ref (ad 234), .int q]).toArray s 0 0 (fun _ => False)) (F0 m 2 ls []) := by
    intro n_2
    induction n_2 with
    | zero =>
      intro k xk hk hn ek ea ls hl
      exfalso; omega
    | succ n_2 ih_2 =>
      intro k xk hk hn ek ea ls hl
      refine lv_iload_n hx hb dX4_wasRevoked_2 rfl (lv_at hl 2 rfl) ?_
      refine lv_bipush (v := 12) hx hb dX4_wasRevoked_3 (by decide) ?_
      refine lv_icmp_ge (tgt := 43) hx hb dX4_wasRevoked_5 (by decide) (fun c_5 => ?_) (fun c_5 => ?_)
      · have hk2 : k = 12 := nI_ge12 hk (by rw [← ek]; exact c_5)
        subst hk2
        refine lv_iconst (v := 0) hx hb dX4_wasRevoked_43 (by decide) ?_
        exact retB0 hx hb hr hlocks dX4_wasRevoked_44 (fun z => z.elim (fun i z => ea i z.1 z.2))
      · have hlt : k < 12 := nI_lt12 (by omega) (by rw [← ek]; exact c_5)
        refine lv_aload_n hx hb dX4_wasRevoked_8 rfl (lv_at hl 0 rfl) ?_
        refine lv_iload_n hx hb dX4_wasRevoked_9 rfl (lv_at hl 2 rfl) ?_
        refine callQ (As := [.int xk]) (rest := []) ⟨hx, hb, hml, hown, hts⟩ (c_X4_recall X xk) (cwV 1 hts gX4_wasRevoked_X4_recall rfl rfl rfl (by decide +kernel) ⟨Nat.le_of_ble_eq_true rfl, Nat.le_of_ble_eq_true rfl⟩) hK hN hP 234 g0_234 rfl rfl hl.1 rfl (Nat.le_of_ble_eq_true rfl) dX4_wasRevoked_10 ⟨Nat.zero_le _, Nat.zero_le _⟩ ?_
        by_cases c_10 : p_norec X xk
        · rw [p_rec_none c_10]
          refine W.eq (g2 := F0 m 13 ls [.null]) rfl ?_
          refine lv_astore_nN (lv' := [(3, .null), (0, .ref (ad 234)), (1, .int q), (2, .int xk)]) hx hb dX4_wasRevoked_13 rfl hl (by decide) rfl (fun ls hl => ?_)
          refine lv_aload_nN hx hb dX4_wasRevoked_14 rfl (lv_at hl 0 rfl) ?_
          refine lv_ifnullN (tgt := 37) hx hb dX4_wasRevoked_15 (by decide) ?_
          refine lv_iinc (v := xk + 1) (lv' := [(2, .int (xk + 1)), (3, .null), (0, .ref (ad 234)), (1, .int q)]) hx hb dX4_wasRevoked_37 hl (k := 3) rfl rfl (by decide) rfl (fun ls hl => ?_)
          refine lv_goto (tgt := 2) hx hb dX4_wasRevoked_40 (by decide) ?_
          exact ih_2  (k + 1) _ (by omega) (by omega) (by rw [ek]; exact nI_1 k) (lt_s (p := fun j => ¬ p_hit X q j) ea (by unfold p_hit; rw [← ek]; first | exact fun z => z.1 c_10 | (rw [← ez_10]; first | exact fun z => c_24 z.2.1 | exact fun z => c_32 z.2.2))) _ (lv_sub hl [2, 3, 0] rfl)
        · rw [p_rec_some c_10]
          obtain ⟨z_10, ez_10, hz_10⟩ : ∃ z : Nat, z = (p_slot X xk).toNatClampNeg ∧ z < 12 := ⟨_, rfl, slot_lt _ _⟩
          rw [← ez_10]
          refine W.eq (g2 := F0 m 13 ls [.ref (ad (221 + z_10))]) rfl ?_
          refine lv_astore_n (lv' := [(3, .ref (ad (221 + z_10))), (0, .ref (ad 234)), (1, .int q), (2, .int xk)]) hx hb dX4_wasRevoked_13 rfl hl (by decide) rfl (fun ls hl => ?_)
          refine lv_aload_n hx hb dX4_wasRevoked_14 rfl (lv_at hl 0 rfl) ?_
          refine lv_ifnull hx hb dX4_wasRevoked_15 ?_
          refine lv_aload_n hx hb dX4_wasRevoked_18 rfl (lv_at hl 0 rfl) ?_
          refine xget (C := RX2) (T := TX2) (N := 6) (ci := 2) (w := .int (X 13 1 z_10)) hx hb hts hi_X2 hown hK hP ((221 + z_10)) (gd hz_10) rfl 2 (by decide) lk_55 rfl dX4_wasRevoked_19 ?_
          refine lv_bipush (v := 10) hx hb dX4_wasRevoked_22 (by decide) ?_
          refine lv_icmp_ne (tgt := 37) hx hb dX4_wasRevoked_24 (by decide) (fun c_24 => ?_) (fun c_24 => ?_)
          · refine lv_iinc (v := xk + 1) (lv' := [(2, .int (xk + 1)), (3, .ref (ad (221 + z_10))), (0, .ref (ad 234)), (1, .int q)]) hx hb dX4_wasRevoked_37 hl (k := 3) rfl rfl (by decide) rfl (fun ls hl => ?_)
            refine lv_goto (tgt := 2) hx hb dX4_wasRevoked_40 (by decide) ?_
            exact ih_2  (k + 1) _ (by omega) (by omega) (by rw [ek]; exact nI_1 k) (lt_s (p := fun j => ¬ p_hit X q j) ea (by unfold p_hit; rw [← ek]; first | exact fun z => z.1 c_10 | (rw [← ez_10]; first | exact fun z => c_24 z.2.1 | exact fun z => c_32 z.2.2))) _ (lv_sub hl [2, 3, 0] rfl)
          · refine lv_aload_n hx hb dX4_wasRevoked_27 rfl (lv_at hl 0 rfl) ?_
            refine xget (C := RX2) (T := TX2) (N := 6) (ci := 2) (w := .int (X 13 2 z_10)) hx hb hts hi_X2 hown hK hP ((221 + z_10)) (gd hz_10) rfl 3 (by decide) lk_58 rfl dX4_wasRevoked_28 ?_
            refine lv_iload_n hx hb dX4_wasRevoked_31 rfl (lv_at hl 2 rfl) ?_
            refine lv_icmp_ne (tgt := 37) hx hb dX4_wasRevoked_32 (by decide) (fun c_32 => ?_) (fun c_32 => ?_)
            · refine lv_iinc (v := xk + 1) (lv' := [(2, .int (xk + 1)), (3, .ref (ad (221 + z_10))), (0, .ref (ad 234)), (1, .int q)]) hx hb dX4_wasRevoked_37 hl (k := 3) rfl rfl (by decide) rfl (fun ls hl => ?_)
              refine lv_goto (tgt := 2) hx hb dX4_wasRevoked_40 (by decide) ?_
              exact ih_2  (k + 1) _ (by omega) (by omega) (by rw [ek]; exact nI_1 k) (lt_s (p := fun j => ¬ p_hit X q j) ea (by unfold p_hit; rw [← ek]; first | exact fun z => z.1 c_10 | (rw [← ez_10]; first | exact fun z => c_24 z.2.1 | exact fun z => c_32 z.2.2))) _ (lv_sub hl [2, 3, 0] rfl)
            · refine lv_iconst (v := 1) hx hb dX4_wasRevoked_35 (by decide) ?_
              exact retB1 hx hb hr hlocks dX4_wasRevoked_36 ⟨k, hlt, by unfold p_hit; rw [← ek, ← ez_10]; exact ⟨c_10, c_24, c_32⟩⟩
  exact hloop_2  13 0 0 (by omega) (by omega) rfl (fun j hj => absurd hj (Nat.not_lt_zero j)) _ (lv_sub hl [1, 2, 0] rfl)
end
