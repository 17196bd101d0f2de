section
-- ===== PART A: goes FIRST, ahead of the names: the tables' words, and 'selects' of the private methods out of them =====
/-- a private method of a class that the tables say can be made, by its rows of tables_1 -/
def lw_okq (q : MethodName × Nat) : Prop := (q.1.cls ≠ "java/lang/invoke/MethodHandle" ∧ q.1.cls ≠ "java/lang/invoke/VarHandle") ∧ Cond.instantiable q.1.cls q.2 ∈ tables_1 ∧ Cond.privateMethod q.1 ∈ tables_1 ∧ Cond.instanceMethod q.1 ∈ tables_1
theorem lw_p0 : lw_okq (⟨"HeadBudgets$Memory", "rememberWith", "(ILHeadBudgets$Books;III)V"⟩, 4) := ⟨⟨by decide +kernel, by decide +kernel⟩, List.mem_of_getElem? (i := 130) (by decide +kernel), List.mem_of_getElem? (i := 209) (by decide +kernel), List.mem_of_getElem? (i := 210) (by decide +kernel)⟩
theorem lw_p1 : lw_okq (⟨"HeadBudgets", "revokeVirement", "(IIII)I"⟩, 2) := ⟨⟨by decide +kernel, by decide +kernel⟩, List.mem_of_getElem? (i := 10) (by decide +kernel), List.mem_of_getElem? (i := 263) (by decide +kernel), List.mem_of_getElem? (i := 264) (by decide +kernel)⟩
theorem lw_p2 : lw_okq (⟨"HeadBudgets", "revokeCommitment", "(II)I"⟩, 2) := ⟨⟨by decide +kernel, by decide +kernel⟩, List.mem_of_getElem? (i := 10) (by decide +kernel), List.mem_of_getElem? (i := 283) (by decide +kernel), List.mem_of_getElem? (i := 284) (by decide +kernel)⟩
theorem lw_p3 : lw_okq (⟨"HeadBudgets$Heads", "summand", "(II)I"⟩, 11) := ⟨⟨by decide +kernel, by decide +kernel⟩, List.mem_of_getElem? (i := 24) (by decide +kernel), List.mem_of_getElem? (i := 324) (by decide +kernel), List.mem_of_getElem? (i := 325) (by decide +kernel)⟩
theorem lw_p4 : lw_okq (⟨"HeadBudgets$Heads", "mayGive", "(II)Z"⟩, 11) := ⟨⟨by decide +kernel, by decide +kernel⟩, List.mem_of_getElem? (i := 24) (by decide +kernel), List.mem_of_getElem? (i := 385) (by decide +kernel), List.mem_of_getElem? (i := 386) (by decide +kernel)⟩
def lw_privs_1 : List (MethodName × Nat) := [(⟨"HeadBudgets$Memory", "rememberWith", "(ILHeadBudgets$Books;III)V"⟩, 4), (⟨"HeadBudgets", "revokeVirement", "(IIII)I"⟩, 2), (⟨"HeadBudgets", "revokeCommitment", "(II)I"⟩, 2), (⟨"HeadBudgets$Heads", "summand", "(II)I"⟩, 11), (⟨"HeadBudgets$Heads", "mayGive", "(II)Z"⟩, 11)]
theorem lw_r1 : ∀ q ∈ lw_privs_1, lw_okq q := List.forall_mem_cons.mpr ⟨lw_p0, List.forall_mem_cons.mpr ⟨lw_p1, List.forall_mem_cons.mpr ⟨lw_p2, List.forall_mem_cons.mpr ⟨lw_p3, List.forall_mem_cons.mpr ⟨lw_p4, fun _ h => absurd h List.not_mem_nil⟩⟩⟩⟩⟩
def lw_privs : List (MethodName × Nat) := lw_privs_1
def lw_tbl : List Cond := k2_sels lw_privs ++ tables_1
theorem lw_privs_ok : ∀ q ∈ lw_privs, lw_okq q := lw_r1
-- ===== end of PART A; then your names; then what follows =====
end
section
/-! ===== BEGIN words of one list among another's, by their places ===== -/
theorem goodIn_r {big : List Cond} (ws : List Cond) (ps : List Nat) (hp : ws = ps.filterMap (fun i => big[i]?)) (h : ws.all goodWord = true) : GoodIn big ws := by
  intro w hw
  have h1 := List.all_eq_true.mp h w hw
  rw [hp] at hw
  obtain ⟨i, -, hi⟩ := List.mem_filterMap.mp hw
  have hm : w ∈ big := by first | exact List.mem_of_getElem? hi | exact List.getElem?_mem hi
  exact ⟨hm, good_of_word h1⟩
theorem goodIn_app {big a b : List Cond} (ha : GoodIn big a) (hb : GoodIn big b) : GoodIn big (a ++ b) := fun w h => (List.mem_append.mp h).elim (ha w) (hb w)
theorem goodIn_ca {big a b : List Cond} {c : Cond} (ha : GoodIn big (c :: a)) (hb : GoodIn big b) : GoodIn big (c :: (a ++ b)) := fun w h => (List.mem_cons.mp h).elim (fun e => ha w (List.mem_cons.mpr (Or.inl e))) (fun h => (List.mem_append.mp h).elim (fun h => ha w (List.mem_cons.mpr (Or.inr h))) (hb w))
theorem goodIn_sub {big ws : List Cond} (hm : ∀ w ∈ ws, w ∈ big) (h : ws.all goodWord = true) : GoodIn big ws := fun w hw => ⟨hm w hw, good_of_word (List.all_eq_true.mp h w hw)⟩
/-! ===== END ===== -/

/-! ===== BEGIN printed: names, fields, word lists, decode rows ===== -/
def RX0 : String := "HeadBudgets$Books"
def TX0 : u_T := fun k => match k with
  | 0 => ("HeadBudgets$Books", "heads", "LHeadBudgets$Heads;", true)
  | 1 => ("HeadBudgets$Books", "commitments", "LHeadBudgets$Commitments;", true)
  | 2 => ("HeadBudgets$Books", "year", "I", false)
  | 3 => ("HeadBudgets$Books", "carriedPart", "I", false)
  | 4 => ("HeadBudgets$Books", "lapsed", "I", false)
  | _ => ("HeadBudgets$Books", "spent", "I", false)
def tyX0 : Nat → FieldType := fun k => match k with
  | 0 => .object "HeadBudgets$Heads"
  | 1 => .object "HeadBudgets$Commitments"
  | 2 => .int
  | 3 => .int
  | 4 => .int
  | _ => .int
abbrev wsX00 : List Cond := u_ws RX0 TX0 6
theorem nmX0 : ∀ a, a < 6 → ∀ b, b < 6 → a ≠ b → (TX0 a).2.1 ≠ (TX0 b).2.1 := by decide +kernel
theorem tyX0_ok : ∀ k, k < 6 → parseFieldDescriptor (TX0 k).2.2.1 = some (tyX0 k) := by decide +kernel
abbrev cX0_init : ByteArray := prog_2_method_1_code
def yX0_init : MethodName := ⟨RX0, "<init>", "()V"⟩
abbrev cX0_copyFrom : ByteArray := prog_2_method_2_code
def yX0_copyFrom : MethodName := ⟨RX0, "copyFrom", "(LHeadBudgets$Books;)V"⟩
abbrev cX0_freeOpenOf : ByteArray := prog_2_method_3_code
def yX0_freeOpenOf : MethodName := ⟨RX0, "freeOpenOf", "(I)I"⟩
def RX1 : String := "HeadBudgets$Commitments"
def TX1 : u_T := fun k => match k with
  | 0 => ("HeadBudgets$Commitments", "head", "[I", true)
  | 1 => ("HeadBudgets$Commitments", "open", "[I", true)
  | 2 => ("HeadBudgets$Commitments", "paid", "[I", true)
  | 3 => ("HeadBudgets$Commitments", "year", "[I", true)
  | _ => ("HeadBudgets$Commitments", "made", "I", false)
def tyX1 : Nat → FieldType := fun k => match k with
  | 0 => .array .int
  | 1 => .array .int
  | 2 => .array .int
  | 3 => .array .int
  | _ => .int
abbrev wsX10 : List Cond := u_ws RX1 TX1 5
theorem nmX1 : ∀ a, a < 5 → ∀ b, b < 5 → a ≠ b → (TX1 a).2.1 ≠ (TX1 b).2.1 := by decide +kernel
theorem tyX1_ok : ∀ k, k < 5 → parseFieldDescriptor (TX1 k).2.2.1 = some (tyX1 k) := by decide +kernel
abbrev cX1_init : ByteArray := prog_3_method_1_code
def yX1_init : MethodName := ⟨RX1, "<init>", "()V"⟩
abbrev cX1_copyFrom : ByteArray := prog_3_method_2_code
def yX1_copyFrom : MethodName := ⟨RX1, "copyFrom", "(LHeadBudgets$Commitments;)V"⟩
abbrev cX1_has : ByteArray := prog_3_method_3_code
def yX1_has : MethodName := ⟨RX1, "has", "(I)Z"⟩
abbrev cX1_add : ByteArray := prog_3_method_4_code
def yX1_add : MethodName := ⟨RX1, "add", "(III)I"⟩
abbrev cX1_countOpen : ByteArray := prog_3_method_5_code
def yX1_countOpen : MethodName := ⟨RX1, "countOpen", "()I"⟩
def RX2 : String := "HeadBudgets$Deed"
def TX2 : u_T := fun k => match k with
  | 0 => ("HeadBudgets$Deed", "before", "LHeadBudgets$Books;", true)
  | 1 => ("HeadBudgets$Deed", "number", "I", false)
  | 2 => ("HeadBudgets$Deed", "kind", "I", false)
  | 3 => ("HeadBudgets$Deed", "subject", "I", false)
  | 4 => ("HeadBudgets$Deed", "taker", "I", false)
  | _ => ("HeadBudgets$Deed", "amount", "I", false)
def tyX2 : Nat → FieldType := fun k => match k with
  | 0 => .object "HeadBudgets$Books"
  | 1 => .int
  | 2 => .int
  | 3 => .int
  | 4 => .int
  | _ => .int
abbrev wsX20 : List Cond := u_ws RX2 TX2 6
theorem nmX2 : ∀ a, a < 6 → ∀ b, b < 6 → a ≠ b → (TX2 a).2.1 ≠ (TX2 b).2.1 := by decide +kernel
theorem tyX2_ok : ∀ k, k < 6 → parseFieldDescriptor (TX2 k).2.2.1 = some (tyX2 k) := by decide +kernel
abbrev cX2_init : ByteArray := prog_4_method_1_code
def yX2_init : MethodName := ⟨RX2, "<init>", "()V"⟩
def RX3 : String := "HeadBudgets$Heads"
def TX3 : u_T := fun k => match k with
  | 0 => ("HeadBudgets$Heads", "above", "[I", true)
  | 1 => ("HeadBudgets$Heads", "depth", "[I", true)
  | 2 => ("HeadBudgets$Heads", "rank", "[I", true)
  | 3 => ("HeadBudgets$Heads", "frozen", "[I", true)
  | 4 => ("HeadBudgets$Heads", "allotment", "[I", true)
  | 5 => ("HeadBudgets$Heads", "committed", "[I", true)
  | 6 => ("HeadBudgets$Heads", "spent", "[I", true)
  | 7 => ("HeadBudgets$Heads", "allotted", "[I", true)
  | 8 => ("HeadBudgets$Heads", "left", "[I", true)
  | 9 => ("HeadBudgets$Heads", "share", "[I", true)
  | _ => ("HeadBudgets$Heads", "made", "I", false)
def tyX3 : Nat → FieldType := fun k => match k with
  | 0 => .array .int
  | 1 => .array .int
  | 2 => .array .int
  | 3 => .array .int
  | 4 => .array .int
  | 5 => .array .int
  | 6 => .array .int
  | 7 => .array .int
  | 8 => .array .int
  | 9 => .array .int
  | _ => .int
abbrev wsX30 : List Cond := u_ws RX3 TX3 11
theorem nmX3 : ∀ a, a < 11 → ∀ b, b < 11 → a ≠ b → (TX3 a).2.1 ≠ (TX3 b).2.1 := by decide +kernel
theorem tyX3_ok : ∀ k, k < 11 → parseFieldDescriptor (TX3 k).2.2.1 = some (tyX3 k) := by decide +kernel
abbrev cX3_init : ByteArray := prog_5_method_1_code
def yX3_init : MethodName := ⟨RX3, "<init>", "()V"⟩
abbrev cX3_copyFrom : ByteArray := prog_5_method_2_code
def yX3_copyFrom : MethodName := ⟨RX3, "copyFrom", "(LHeadBudgets$Heads;)V"⟩
abbrev cX3_has : ByteArray := prog_5_method_3_code
def yX3_has : MethodName := ⟨RX3, "has", "(I)Z"⟩
abbrev cX3_hasBoth : ByteArray := prog_5_method_4_code
def yX3_hasBoth : MethodName := ⟨RX3, "hasBoth", "(II)Z"⟩
abbrev cX3_add : ByteArray := prog_5_method_5_code
def yX3_add : MethodName := ⟨RX3, "add", "(II)I"⟩
abbrev cX3_freeOf : ByteArray := prog_5_method_6_code
def yX3_freeOf : MethodName := ⟨RX3, "freeOf", "(I)I"⟩
abbrev cX3_isBarred : ByteArray := prog_5_method_7_code
def yX3_isBarred : MethodName := ⟨RX3, "isBarred", "(I)Z"⟩
abbrev cX3_countBarred : ByteArray := prog_5_method_8_code
def yX3_countBarred : MethodName := ⟨RX3, "countBarred", "()I"⟩
abbrev cX3_isWithin : ByteArray := prog_5_method_9_code
def yX3_isWithin : MethodName := ⟨RX3, "isWithin", "(II)Z"⟩
abbrev cX3_sumWithin : ByteArray := prog_5_method_10_code
def yX3_sumWithin : MethodName := ⟨RX3, "sumWithin", "(II)I"⟩
abbrev cX3_summand : ByteArray := prog_5_method_11_code
def yX3_summand : MethodName := ⟨RX3, "summand", "(II)I"⟩
abbrev cX3_changeCommitted : ByteArray := prog_5_method_12_code
def yX3_changeCommitted : MethodName := ⟨RX3, "changeCommitted", "(II)V"⟩
abbrev cX3_spendCommitted : ByteArray := prog_5_method_13_code
def yX3_spendCommitted : MethodName := ⟨RX3, "spendCommitted", "(II)V"⟩
abbrev cX3_movable : ByteArray := prog_5_method_14_code
def yX3_movable : MethodName := ⟨RX3, "movable", "(II)I"⟩
abbrev cX3_mayGive : ByteArray := prog_5_method_15_code
def yX3_mayGive : MethodName := ⟨RX3, "mayGive", "(II)Z"⟩
abbrev cX3_moveByVirement : ByteArray := prog_5_method_16_code
def yX3_moveByVirement : MethodName := ⟨RX3, "moveByVirement", "(III)V"⟩
abbrev cX3_giverOfMost : ByteArray := prog_5_method_17_code
def yX3_giverOfMost : MethodName := ⟨RX3, "giverOfMost", "(I)I"⟩
abbrev cX3_lapseWithin : ByteArray := prog_5_method_21_code
def yX3_lapseWithin : MethodName := ⟨RX3, "lapseWithin", "(II)I"⟩
abbrev cX3_carryForward : ByteArray := prog_5_method_22_code
def yX3_carryForward : MethodName := ⟨RX3, "carryForward", "(I)V"⟩
def RX4 : String := "HeadBudgets$Memory"
def TX4 : u_T := fun k => match k with
  | 0 => ("HeadBudgets$Memory", "places", "[LHeadBudgets$Deed;", true)
  | 1 => ("HeadBudgets$Memory", "oldest", "I", false)
  | 2 => ("HeadBudgets$Memory", "held", "I", false)
  | _ => ("HeadBudgets$Memory", "latestNumber", "I", false)
def tyX4 : Nat → FieldType := fun k => match k with
  | 0 => .array (.object "HeadBudgets$Deed")
  | 1 => .int
  | 2 => .int
  | _ => .int
abbrev wsX40 : List Cond := u_ws RX4 TX4 4
theorem nmX4 : ∀ a, a < 4 → ∀ b, b < 4 → a ≠ b → (TX4 a).2.1 ≠ (TX4 b).2.1 := by decide +kernel
theorem tyX4_ok : ∀ k, k < 4 → parseFieldDescriptor (TX4 k).2.2.1 = some (tyX4 k) := by decide +kernel
abbrev cX4_init : ByteArray := prog_6_method_1_code
def yX4_init : MethodName := ⟨RX4, "<init>", "()V"⟩
abbrev cX4_recall : ByteArray := prog_6_method_2_code
def yX4_recall : MethodName := ⟨RX4, "recall", "(I)LHeadBudgets$Deed;"⟩
abbrev cX4_remember : ByteArray := prog_6_method_3_code
def yX4_remember : MethodName := ⟨RX4, "remember", "(ILHeadBudgets$Books;)V"⟩
abbrev cX4_rememberCommitment : ByteArray := prog_6_method_4_code
def yX4_rememberCommitment : MethodName := ⟨RX4, "rememberCommitment", "(LHeadBudgets$Books;I)V"⟩
abbrev cX4_rememberVirement : ByteArray := prog_6_method_5_code
def yX4_rememberVirement : MethodName := ⟨RX4, "rememberVirement", "(LHeadBudgets$Books;III)V"⟩
abbrev cX4_rememberRevoking : ByteArray := prog_6_method_6_code
def yX4_rememberRevoking : MethodName := ⟨RX4, "rememberRevoking", "(LHeadBudgets$Books;I)V"⟩
abbrev cX4_rememberWith : ByteArray := prog_6_method_7_code
def yX4_rememberWith : MethodName := ⟨RX4, "rememberWith", "(ILHeadBudgets$Books;III)V"⟩
abbrev cX4_wasRevoked : ByteArray := prog_6_method_8_code
def yX4_wasRevoked : MethodName := ⟨RX4, "wasRevoked", "(I)Z"⟩
abbrev cX4_forgetLatest : ByteArray := prog_6_method_9_code
def yX4_forgetLatest : MethodName := ⟨RX4, "forgetLatest", "()I"⟩
def RX5 : String := "HeadBudgets"
def TX5 : u_T := fun k => match k with
  | 0 => ("HeadBudgets", "now", "LHeadBudgets$Books;", true)
  | _ => ("HeadBudgets", "memory", "LHeadBudgets$Memory;", true)
def tyX5 : Nat → FieldType := fun k => match k with
  | 0 => .object "HeadBudgets$Books"
  | _ => .object "HeadBudgets$Memory"
abbrev wsX50 : List Cond := u_ws RX5 TX5 2
theorem nmX5 : ∀ a, a < 2 → ∀ b, b < 2 → a ≠ b → (TX5 a).2.1 ≠ (TX5 b).2.1 := by decide +kernel
theorem tyX5_ok : ∀ k, k < 2 → parseFieldDescriptor (TX5 k).2.2.1 = some (tyX5 k) := by decide +kernel
abbrev cX5_init : ByteArray := prog_1_method_1_code
def yX5_init : MethodName := ⟨RX5, "<init>", "()V"⟩
abbrev cX5_make : ByteArray := prog_1_method_2_code
def yX5_make : MethodName := ⟨RX5, "make", "(II)I"⟩
abbrev cX5_allot : ByteArray := prog_1_method_3_code
def yX5_allot : MethodName := ⟨RX5, "allot", "(II)I"⟩
abbrev cX5_freeze : ByteArray := prog_1_method_4_code
def yX5_freeze : MethodName := ⟨RX5, "freeze", "(II)I"⟩
abbrev cX5_setShare : ByteArray := prog_1_method_5_code
def yX5_setShare : MethodName := ⟨RX5, "setShare", "(II)I"⟩
abbrev cX5_setCarried : ByteArray := prog_1_method_6_code
def yX5_setCarried : MethodName := ⟨RX5, "setCarried", "(I)I"⟩
abbrev cX5_commit : ByteArray := prog_1_method_7_code
def yX5_commit : MethodName := ⟨RX5, "commit", "(II)I"⟩
abbrev cX5_pay : ByteArray := prog_1_method_8_code
def yX5_pay : MethodName := ⟨RX5, "pay", "(II)I"⟩
abbrev cX5_release : ByteArray := prog_1_method_9_code
def yX5_release : MethodName := ⟨RX5, "release", "(I)I"⟩
abbrev cX5_vire : ByteArray := prog_1_method_10_code
def yX5_vire : MethodName := ⟨RX5, "vire", "(III)I"⟩
abbrev cX5_endYear : ByteArray := prog_1_method_11_code
def yX5_endYear : MethodName := ⟨RX5, "endYear", "()I"⟩
abbrev cX5_undo : ByteArray := prog_1_method_12_code
def yX5_undo : MethodName := ⟨RX5, "undo", "()I"⟩
abbrev cX5_revoke : ByteArray := prog_1_method_13_code
def yX5_revoke : MethodName := ⟨RX5, "revoke", "(I)I"⟩
abbrev cX5_revokeVirement : ByteArray := prog_1_method_14_code
def yX5_revokeVirement : MethodName := ⟨RX5, "revokeVirement", "(IIII)I"⟩
abbrev cX5_revokeCommitment : ByteArray := prog_1_method_15_code
def yX5_revokeCommitment : MethodName := ⟨RX5, "revokeCommitment", "(II)I"⟩
abbrev cX5_count : ByteArray := prog_1_method_16_code
def yX5_count : MethodName := ⟨RX5, "count", "(I)I"⟩
abbrev cX5_head : ByteArray := prog_1_method_17_code
def yX5_head : MethodName := ⟨RX5, "head", "(II)I"⟩
abbrev cX5_total : ByteArray := prog_1_method_18_code
def yX5_total : MethodName := ⟨RX5, "total", "(II)I"⟩
abbrev cX5_commitment : ByteArray := prog_1_method_19_code
def yX5_commitment : MethodName := ⟨RX5, "commitment", "(II)I"⟩
abbrev cX5_deed : ByteArray := prog_1_method_20_code
def yX5_deed : MethodName := ⟨RX5, "deed", "(I)I"⟩
abbrev cX5_mostFrom : ByteArray := prog_1_method_21_code
def yX5_mostFrom : MethodName := ⟨RX5, "mostFrom", "(II)I"⟩
abbrev cX5_bestGiver : ByteArray := prog_1_method_22_code
def yX5_bestGiver : MethodName := ⟨RX5, "bestGiver", "(I)I"⟩
abbrev cX5_wouldLapse : ByteArray := prog_1_method_24_code
def yX5_wouldLapse : MethodName := ⟨RX5, "wouldLapse", "(I)I"⟩
abbrev cX5_isAmount : ByteArray := prog_1_method_25_code
def yX5_isAmount : MethodName := ⟨RX5, "isAmount", "(I)Z"⟩
abbrev cX5_isPercentage : ByteArray := prog_1_method_26_code
def yX5_isPercentage : MethodName := ⟨RX5, "isPercentage", "(I)Z"⟩
abbrev cX5_partOf : ByteArray := prog_1_method_27_code
def yX5_partOf : MethodName := ⟨RX5, "partOf", "(II)I"⟩
def RX6 : String := "HeadBudgetsModel"
def TX6 : u_T := fun k => match k with
  | _ => ("", "", "", false)
def tyX6 : Nat → FieldType := fun k => match k with
  | _ => .int
abbrev wsX60 : List Cond := u_ws RX6 TX6 0
theorem nmX6 : ∀ a, a < 0 → ∀ b, b < 0 → a ≠ b → (TX6 a).2.1 ≠ (TX6 b).2.1 := by decide +kernel
theorem tyX6_ok : ∀ k, k < 0 → parseFieldDescriptor (TX6 k).2.2.1 = some (tyX6 k) := by decide +kernel
def RJ9 : String := "java/lang/Math"
def TJ9 : u_T := fun k => match k with
  | _ => ("", "", "", false)
def tyJ9 : Nat → FieldType := fun k => match k with
  | _ => .int
abbrev wsJ90 : List Cond := u_ws RJ9 TJ9 0
theorem nmJ9 : ∀ a, a < 0 → ∀ b, b < 0 → a ≠ b → (TJ9 a).2.1 ≠ (TJ9 b).2.1 := by decide +kernel
theorem tyJ9_ok : ∀ k, k < 0 → parseFieldDescriptor (TJ9 k).2.2.1 = some (tyJ9 k) := by decide +kernel
abbrev cJ9_floorMod_7cf53 : ByteArray := prog_9_method_50_code
def yJ9_floorMod_7cf53 : MethodName := ⟨RJ9, "floorMod", "(II)I"⟩
abbrev cJ9_max_7cf53 : ByteArray := prog_9_method_65_code
def yJ9_max_7cf53 : MethodName := ⟨RJ9, "max", "(II)I"⟩
abbrev cJ9_min_7cf53 : ByteArray := prog_9_method_69_code
def yJ9_min_7cf53 : MethodName := ⟨RJ9, "min", "(II)I"⟩
def RJ10 : String := "java/lang/System"
def TJ10 : u_T := fun k => match k with
  | _ => ("", "", "", false)
def tyJ10 : Nat → FieldType := fun k => match k with
  | _ => .int
abbrev wsJ100 : List Cond := u_ws RJ10 TJ10 0
theorem nmJ10 : ∀ a, a < 0 → ∀ b, b < 0 → a ≠ b → (TJ10 a).2.1 ≠ (TJ10 b).2.1 := by decide +kernel
theorem tyJ10_ok : ∀ k, k < 0 → parseFieldDescriptor (TJ10 k).2.2.1 = some (tyJ10 k) := by decide +kernel
def RL : String := "HeadBudgetsLaw"
abbrev cL_cell : ByteArray := method_2_code
def yL_cell : MethodName := ⟨RL, "cell", "([II)I"⟩
abbrev cL_low : ByteArray := method_3_code
def yL_low : MethodName := ⟨RL, "low", "(II)I"⟩
abbrev cL_all : ByteArray := method_4_code
def yL_all : MethodName := ⟨RL, "all", "(LHeadBudgets;)J"⟩
abbrev cL_isSound : ByteArray := method_5_code
def yL_isSound : MethodName := ⟨RL, "isSound", "(LHeadBudgets;)Z"⟩
abbrev cL_isMost : ByteArray := method_6_code
def yL_isMost : MethodName := ⟨RL, "isMost", "(LHeadBudgets;I)Z"⟩
abbrev cL_isEnded : ByteArray := method_7_code
def yL_isEnded : MethodName := ⟨RL, "isEnded", "(LHeadBudgets;)Z"⟩
abbrev cL_acts : ByteArray := method_8_code
def yL_acts : MethodName := ⟨RL, "acts", "(LHeadBudgets;I)I"⟩
abbrev cL_law : ByteArray := code
def yL_law : MethodName := ⟨RL, "law", "([I)Z"⟩
def wsX3_init : List Cond := .code yX3_init cX3_init 1 none :: ([.methodLink RX3 3 objectInit, .instanceMethod objectInit, .code objectInit ⟨#[0xb1]⟩ 1 none, .arrayClass .int, .fieldLink RX3 9 "HeadBudgets$Heads" "above" "[I", .fieldLink RX3 15 "HeadBudgets$Heads" "depth" "[I", .fieldLink RX3 18 "HeadBudgets$Heads" "rank" "[I", .fieldLink RX3 21 "HeadBudgets$Heads" "frozen" "[I", .fieldLink RX3 24 "HeadBudgets$Heads" "allotment" "[I", .fieldLink RX3 27 "HeadBudgets$Heads" "committed" "[I", .fieldLink RX3 30 "HeadBudgets$Heads" "spent" "[I", .fieldLink RX3 33 "HeadBudgets$Heads" "allotted" "[I", .fieldLink RX3 36 "HeadBudgets$Heads" "left" "[I", .fieldLink RX3 39 "HeadBudgets$Heads" "share" "[I"] ++ wsX30)
def wsX1_init : List Cond := .code yX1_init cX1_init 1 none :: ([.methodLink RX1 3 objectInit, .instanceMethod objectInit, .code objectInit ⟨#[0xb1]⟩ 1 none, .arrayClass .int, .fieldLink RX1 9 "HeadBudgets$Commitments" "head" "[I", .fieldLink RX1 15 "HeadBudgets$Commitments" "open" "[I", .fieldLink RX1 18 "HeadBudgets$Commitments" "paid" "[I", .fieldLink RX1 21 "HeadBudgets$Commitments" "year" "[I"] ++ wsX10)
def wsX0_init_r1 : List Cond := [Cond.methodLink RX0 3 objectInit, Cond.instanceMethod objectInit, Cond.code objectInit ⟨#[0xb1]⟩ 1 none, Cond.classLink RX0 9 RX3, Cond.instantiable RX3 11, Cond.initialized RX3, Cond.fieldLink RX0 12 "HeadBudgets$Books" "heads" "LHeadBudgets$Heads;", Cond.classLink RX0 18 RX1, Cond.instantiable RX1 5, Cond.initialized RX1, Cond.fieldLink RX0 21 "HeadBudgets$Books" "commitments" "LHeadBudgets$Commitments;", Cond.fieldLink RX0 25 "HeadBudgets$Books" "carriedPart" "I", Cond.instanceMethod yX3_init, Cond.code yX3_init cX3_init 1 none, Cond.methodLink RX3 3 objectInit, Cond.arrayClass .int, Cond.fieldLink RX3 9 "HeadBudgets$Heads" "above" "[I", Cond.fieldLink RX3 15 "HeadBudgets$Heads" "depth" "[I", Cond.fieldLink RX3 18 "HeadBudgets$Heads" "rank" "[I", Cond.fieldLink RX3 21 "HeadBudgets$Heads" "frozen" "[I", Cond.fieldLink RX3 24 "HeadBudgets$Heads" "allotment" "[I", Cond.fieldLink RX3 27 "HeadBudgets$Heads" "committed" "[I", Cond.fieldLink RX3 30 "HeadBudgets$Heads" "spent" "[I", Cond.fieldLink RX3 33 "HeadBudgets$Heads" "allotted" "[I"]
def wsX0_init_r2 : List Cond := [Cond.fieldLink RX3 36 "HeadBudgets$Heads" "left" "[I", Cond.fieldLink RX3 39 "HeadBudgets$Heads" "share" "[I", Cond.instanceMethod yX1_init, Cond.code yX1_init cX1_init 1 none, Cond.methodLink RX1 3 objectInit, Cond.fieldLink RX1 9 "HeadBudgets$Commitments" "head" "[I", Cond.fieldLink RX1 15 "HeadBudgets$Commitments" "open" "[I", Cond.fieldLink RX1 18 "HeadBudgets$Commitments" "paid" "[I", Cond.fieldLink RX1 21 "HeadBudgets$Commitments" "year" "[I"]
def wsX0_init : List Cond := .code yX0_init cX0_init 1 none :: ((wsX0_init_r1 ++ wsX0_init_r2) ++ wsX30 ++ wsX00 ++ wsX10)
def wsX3_copyFrom : List Cond := .code yX3_copyFrom cX3_copyFrom 2 none :: ([.fieldLink RX3 9 "HeadBudgets$Heads" "above" "[I", .methodLink RX3 42 arraycopyName, .native arraycopyName, .static arraycopyName, .initialized "java/lang/System", .fieldLink RX3 15 "HeadBudgets$Heads" "depth" "[I", .fieldLink RX3 18 "HeadBudgets$Heads" "rank" "[I", .fieldLink RX3 21 "HeadBudgets$Heads" "frozen" "[I", .fieldLink RX3 24 "HeadBudgets$Heads" "allotment" "[I", .fieldLink RX3 27 "HeadBudgets$Heads" "committed" "[I", .fieldLink RX3 30 "HeadBudgets$Heads" "spent" "[I", .fieldLink RX3 33 "HeadBudgets$Heads" "allotted" "[I", .fieldLink RX3 36 "HeadBudgets$Heads" "left" "[I", .fieldLink RX3 39 "HeadBudgets$Heads" "share" "[I", .fieldLink RX3 48 "HeadBudgets$Heads" "made" "I"] ++ wsX30)
def wsX1_copyFrom : List Cond := .code yX1_copyFrom cX1_copyFrom 2 none :: ([.fieldLink RX1 9 "HeadBudgets$Commitments" "head" "[I", .methodLink RX1 24 arraycopyName, .native arraycopyName, .static arraycopyName, .initialized "java/lang/System", .fieldLink RX1 15 "HeadBudgets$Commitments" "open" "[I", .fieldLink RX1 18 "HeadBudgets$Commitments" "paid" "[I", .fieldLink RX1 21 "HeadBudgets$Commitments" "year" "[I", .fieldLink RX1 30 "HeadBudgets$Commitments" "made" "I"] ++ wsX10)
def wsX0_copyFrom_r1 : List Cond := [Cond.fieldLink RX0 12 "HeadBudgets$Books" "heads" "LHeadBudgets$Heads;", Cond.fieldLink RX0 21 "HeadBudgets$Books" "commitments" "LHeadBudgets$Commitments;", Cond.fieldLink RX0 36 "HeadBudgets$Books" "year" "I", Cond.fieldLink RX0 25 "HeadBudgets$Books" "carriedPart" "I", Cond.fieldLink RX0 39 "HeadBudgets$Books" "lapsed" "I", Cond.fieldLink RX0 42 "HeadBudgets$Books" "spent" "I", Cond.methodLink RX0 29 yX3_copyFrom, Cond.instanceMethod yX3_copyFrom, Cond.selects RX3 yX3_copyFrom yX3_copyFrom, Cond.initialized RX3, Cond.code yX3_copyFrom cX3_copyFrom 2 none, Cond.fieldLink RX3 9 "HeadBudgets$Heads" "above" "[I", Cond.methodLink RX3 42 arraycopyName, Cond.native arraycopyName, Cond.static arraycopyName, Cond.initialized "java/lang/System", Cond.fieldLink RX3 15 "HeadBudgets$Heads" "depth" "[I", Cond.fieldLink RX3 18 "HeadBudgets$Heads" "rank" "[I", Cond.fieldLink RX3 21 "HeadBudgets$Heads" "frozen" "[I", Cond.fieldLink RX3 24 "HeadBudgets$Heads" "allotment" "[I", Cond.fieldLink RX3 27 "HeadBudgets$Heads" "committed" "[I", Cond.fieldLink RX3 30 "HeadBudgets$Heads" "spent" "[I", Cond.fieldLink RX3 33 "HeadBudgets$Heads" "allotted" "[I", Cond.fieldLink RX3 36 "HeadBudgets$Heads" "left" "[I"]
def wsX0_copyFrom_r2 : List Cond := [Cond.fieldLink RX3 39 "HeadBudgets$Heads" "share" "[I", Cond.fieldLink RX3 48 "HeadBudgets$Heads" "made" "I", Cond.methodLink RX0 33 yX1_copyFrom, Cond.instanceMethod yX1_copyFrom, Cond.selects RX1 yX1_copyFrom yX1_copyFrom, Cond.initialized RX1, Cond.code yX1_copyFrom cX1_copyFrom 2 none, Cond.fieldLink RX1 9 "HeadBudgets$Commitments" "head" "[I", Cond.methodLink RX1 24 arraycopyName, Cond.fieldLink RX1 15 "HeadBudgets$Commitments" "open" "[I", Cond.fieldLink RX1 18 "HeadBudgets$Commitments" "paid" "[I", Cond.fieldLink RX1 21 "HeadBudgets$Commitments" "year" "[I", Cond.fieldLink RX1 30 "HeadBudgets$Commitments" "made" "I"]
def wsX0_copyFrom : List Cond := .code yX0_copyFrom cX0_copyFrom 2 none :: ((wsX0_copyFrom_r1 ++ wsX0_copyFrom_r2) ++ wsX00 ++ wsX30 ++ wsX10)
def wsX1_has : List Cond := .code yX1_has cX1_has 2 (some .boolean) :: ([.fieldLink RX1 30 "HeadBudgets$Commitments" "made" "I"] ++ wsX10)
def wsX3_has : List Cond := .code yX3_has cX3_has 2 (some .boolean) :: ([.fieldLink RX3 48 "HeadBudgets$Heads" "made" "I"] ++ wsX30)
def wsX3_changeCommitted : List Cond := .code yX3_changeCommitted cX3_changeCommitted 3 none :: ([.fieldLink RX3 27 "HeadBudgets$Heads" "committed" "[I", .methodLink RX3 52 yX3_has, .instanceMethod yX3_has, .selects RX3 yX3_has yX3_has, .initialized RX3, .code yX3_has cX3_has 2 (some .boolean), .fieldLink RX3 48 "HeadBudgets$Heads" "made" "I"] ++ wsX30)
def wsX0_freeOpenOf : List Cond := .code yX0_freeOpenOf cX0_freeOpenOf 3 (some .int) :: ([.fieldLink RX0 21 "HeadBudgets$Books" "commitments" "LHeadBudgets$Commitments;", .fieldLink RX0 49 "HeadBudgets$Commitments" "open" "[I", .fieldLink RX0 12 "HeadBudgets$Books" "heads" "LHeadBudgets$Heads;", .fieldLink RX0 53 "HeadBudgets$Commitments" "head" "[I", .methodLink RX0 45 yX1_has, .instanceMethod yX1_has, .selects RX1 yX1_has yX1_has, .initialized RX1, .code yX1_has cX1_has 2 (some .boolean), .fieldLink RX1 30 "HeadBudgets$Commitments" "made" "I", .methodLink RX0 56 yX3_changeCommitted, .instanceMethod yX3_changeCommitted, .selects RX3 yX3_changeCommitted yX3_changeCommitted, .initialized RX3, .code yX3_changeCommitted cX3_changeCommitted 3 none, .fieldLink RX3 27 "HeadBudgets$Heads" "committed" "[I", .methodLink RX3 52 yX3_has, .instanceMethod yX3_has, .selects RX3 yX3_has yX3_has, .code yX3_has cX3_has 2 (some .boolean), .fieldLink RX3 48 "HeadBudgets$Heads" "made" "I"] ++ wsX00 ++ wsX10 ++ wsX30)
def wsX1_add : List Cond := .code yX1_add cX1_add 5 (some .int) :: ([.fieldLink RX1 30 "HeadBudgets$Commitments" "made" "I", .fieldLink RX1 9 "HeadBudgets$Commitments" "head" "[I", .fieldLink RX1 15 "HeadBudgets$Commitments" "open" "[I", .fieldLink RX1 21 "HeadBudgets$Commitments" "year" "[I"] ++ wsX10)
def wsX1_countOpen : List Cond := .code yX1_countOpen cX1_countOpen 3 (some .int) :: ([.fieldLink RX1 15 "HeadBudgets$Commitments" "open" "[I"] ++ wsX10)
def wsX2_init_r1 : List Cond := [Cond.methodLink RX2 1 objectInit, Cond.instanceMethod objectInit, Cond.code objectInit ⟨#[0xb1]⟩ 1 none, Cond.classLink RX2 7 RX0, Cond.instantiable RX0 6, Cond.initialized RX0, Cond.fieldLink RX2 10 "HeadBudgets$Deed" "before" "LHeadBudgets$Books;", Cond.instanceMethod yX0_init, Cond.code yX0_init cX0_init 1 none, Cond.methodLink RX0 3 objectInit, Cond.classLink RX0 9 RX3, Cond.instantiable RX3 11, Cond.initialized RX3, Cond.fieldLink RX0 12 "HeadBudgets$Books" "heads" "LHeadBudgets$Heads;", Cond.classLink RX0 18 RX1, Cond.instantiable RX1 5, Cond.initialized RX1, Cond.fieldLink RX0 21 "HeadBudgets$Books" "commitments" "LHeadBudgets$Commitments;", Cond.fieldLink RX0 25 "HeadBudgets$Books" "carriedPart" "I", Cond.instanceMethod yX3_init, Cond.code yX3_init cX3_init 1 none, Cond.methodLink RX3 3 objectInit, Cond.arrayClass .int, Cond.fieldLink RX3 9 "HeadBudgets$Heads" "above" "[I"]
def wsX2_init_r2 : List Cond := [Cond.fieldLink RX3 15 "HeadBudgets$Heads" "depth" "[I", Cond.fieldLink RX3 18 "HeadBudgets$Heads" "rank" "[I", Cond.fieldLink RX3 21 "HeadBudgets$Heads" "frozen" "[I", Cond.fieldLink RX3 24 "HeadBudgets$Heads" "allotment" "[I", Cond.fieldLink RX3 27 "HeadBudgets$Heads" "committed" "[I", Cond.fieldLink RX3 30 "HeadBudgets$Heads" "spent" "[I", Cond.fieldLink RX3 33 "HeadBudgets$Heads" "allotted" "[I", Cond.fieldLink RX3 36 "HeadBudgets$Heads" "left" "[I", Cond.fieldLink RX3 39 "HeadBudgets$Heads" "share" "[I", Cond.instanceMethod yX1_init, Cond.code yX1_init cX1_init 1 none, Cond.methodLink RX1 3 objectInit, Cond.fieldLink RX1 9 "HeadBudgets$Commitments" "head" "[I", Cond.fieldLink RX1 15 "HeadBudgets$Commitments" "open" "[I", Cond.fieldLink RX1 18 "HeadBudgets$Commitments" "paid" "[I", Cond.fieldLink RX1 21 "HeadBudgets$Commitments" "year" "[I"]
def wsX2_init : List Cond := .code yX2_init cX2_init 1 none :: ((wsX2_init_r1 ++ wsX2_init_r2) ++ wsX00 ++ wsX20 ++ wsX30 ++ wsX10)
def wsX3_hasBoth : List Cond := .code yX3_hasBoth cX3_hasBoth 3 (some .boolean) :: ([.methodLink RX3 52 yX3_has, .instanceMethod yX3_has, .selects RX3 yX3_has yX3_has, .initialized RX3, .code yX3_has cX3_has 2 (some .boolean), .fieldLink RX3 48 "HeadBudgets$Heads" "made" "I"] ++ wsX30)
def wsX3_add : List Cond := .code yX3_add cX3_add 4 (some .int) :: ([.fieldLink RX3 48 "HeadBudgets$Heads" "made" "I", .fieldLink RX3 9 "HeadBudgets$Heads" "above" "[I", .fieldLink RX3 15 "HeadBudgets$Heads" "depth" "[I", .fieldLink RX3 18 "HeadBudgets$Heads" "rank" "[I", .fieldLink RX3 39 "HeadBudgets$Heads" "share" "[I", .methodLink RX3 52 yX3_has, .instanceMethod yX3_has, .selects RX3 yX3_has yX3_has, .initialized RX3, .code yX3_has cX3_has 2 (some .boolean)] ++ wsX30)
def wsX3_freeOf : List Cond := .code yX3_freeOf cX3_freeOf 2 (some .int) :: ([.fieldLink RX3 24 "HeadBudgets$Heads" "allotment" "[I", .fieldLink RX3 27 "HeadBudgets$Heads" "committed" "[I", .fieldLink RX3 30 "HeadBudgets$Heads" "spent" "[I", .methodLink RX3 52 yX3_has, .instanceMethod yX3_has, .selects RX3 yX3_has yX3_has, .initialized RX3, .code yX3_has cX3_has 2 (some .boolean), .fieldLink RX3 48 "HeadBudgets$Heads" "made" "I"] ++ wsX30)
def wsX3_isBarred : List Cond := .code yX3_isBarred cX3_isBarred 4 (some .boolean) :: ([.fieldLink RX3 21 "HeadBudgets$Heads" "frozen" "[I", .fieldLink RX3 9 "HeadBudgets$Heads" "above" "[I", .methodLink RX3 52 yX3_has, .instanceMethod yX3_has, .selects RX3 yX3_has yX3_has, .initialized RX3, .code yX3_has cX3_has 2 (some .boolean), .fieldLink RX3 48 "HeadBudgets$Heads" "made" "I"] ++ wsX30)
def wsX3_countBarred : List Cond := .code yX3_countBarred cX3_countBarred 3 (some .int) :: ([.methodLink RX3 56 yX3_isBarred, .instanceMethod yX3_isBarred, .selects RX3 yX3_isBarred yX3_isBarred, .initialized RX3, .code yX3_isBarred cX3_isBarred 4 (some .boolean), .fieldLink RX3 21 "HeadBudgets$Heads" "frozen" "[I", .fieldLink RX3 9 "HeadBudgets$Heads" "above" "[I", .methodLink RX3 52 yX3_has, .instanceMethod yX3_has, .selects RX3 yX3_has yX3_has, .code yX3_has cX3_has 2 (some .boolean), .fieldLink RX3 48 "HeadBudgets$Heads" "made" "I"] ++ wsX30)
def wsX3_isWithin : List Cond := .code yX3_isWithin cX3_isWithin 5 (some .boolean) :: ([.fieldLink RX3 9 "HeadBudgets$Heads" "above" "[I", .methodLink RX3 52 yX3_has, .instanceMethod yX3_has, .selects RX3 yX3_has yX3_has, .initialized RX3, .code yX3_has cX3_has 2 (some .boolean), .fieldLink RX3 48 "HeadBudgets$Heads" "made" "I"] ++ wsX30)
def wsX3_summand : List Cond := .code yX3_summand cX3_summand 3 (some .int) :: ([.fieldLink RX3 24 "HeadBudgets$Heads" "allotment" "[I", .fieldLink RX3 27 "HeadBudgets$Heads" "committed" "[I", .fieldLink RX3 30 "HeadBudgets$Heads" "spent" "[I", .methodLink RX3 52 yX3_has, .instanceMethod yX3_has, .selects RX3 yX3_has yX3_has, .initialized RX3, .code yX3_has cX3_has 2 (some .boolean), .fieldLink RX3 48 "HeadBudgets$Heads" "made" "I", .methodLink RX3 67 yX3_freeOf, .instanceMethod yX3_freeOf, .selects RX3 yX3_freeOf yX3_freeOf, .code yX3_freeOf cX3_freeOf 2 (some .int)] ++ wsX30)
def wsX3_sumWithin : List Cond := .code yX3_sumWithin cX3_sumWithin 5 (some .int) :: ([.methodLink RX3 59 yX3_isWithin, .instanceMethod yX3_isWithin, .selects RX3 yX3_isWithin yX3_isWithin, .initialized RX3, .code yX3_isWithin cX3_isWithin 5 (some .boolean), .fieldLink RX3 9 "HeadBudgets$Heads" "above" "[I", .methodLink RX3 52 yX3_has, .instanceMethod yX3_has, .selects RX3 yX3_has yX3_has, .code yX3_has cX3_has 2 (some .boolean), .fieldLink RX3 48 "HeadBudgets$Heads" "made" "I", .methodLink RX3 63 yX3_summand, .instanceMethod yX3_summand, .selects RX3 yX3_summand yX3_summand, .code yX3_summand cX3_summand 3 (some .int), .fieldLink RX3 24 "HeadBudgets$Heads" "allotment" "[I", .fieldLink RX3 27 "HeadBudgets$Heads" "committed" "[I", .fieldLink RX3 30 "HeadBudgets$Heads" "spent" "[I", .methodLink RX3 67 yX3_freeOf, .instanceMethod yX3_freeOf, .selects RX3 yX3_freeOf yX3_freeOf, .code yX3_freeOf cX3_freeOf 2 (some .int)] ++ wsX30)
def wsX3_spendCommitted : List Cond := .code yX3_spendCommitted cX3_spendCommitted 3 none :: ([.fieldLink RX3 27 "HeadBudgets$Heads" "committed" "[I", .fieldLink RX3 30 "HeadBudgets$Heads" "spent" "[I", .methodLink RX3 52 yX3_has, .instanceMethod yX3_has, .selects RX3 yX3_has yX3_has, .initialized RX3, .code yX3_has cX3_has 2 (some .boolean), .fieldLink RX3 48 "HeadBudgets$Heads" "made" "I"] ++ wsX30)
def wsX3_mayGive : List Cond := .code yX3_mayGive cX3_mayGive 4 (some .boolean) :: ([.fieldLink RX3 9 "HeadBudgets$Heads" "above" "[I", .fieldLink RX3 18 "HeadBudgets$Heads" "rank" "[I", .methodLink RX3 71 yX3_hasBoth, .instanceMethod yX3_hasBoth, .selects RX3 yX3_hasBoth yX3_hasBoth, .initialized RX3, .code yX3_hasBoth cX3_hasBoth 3 (some .boolean), .methodLink RX3 52 yX3_has, .instanceMethod yX3_has, .selects RX3 yX3_has yX3_has, .code yX3_has cX3_has 2 (some .boolean), .fieldLink RX3 48 "HeadBudgets$Heads" "made" "I", .methodLink RX3 56 yX3_isBarred, .instanceMethod yX3_isBarred, .selects RX3 yX3_isBarred yX3_isBarred, .code yX3_isBarred cX3_isBarred 4 (some .boolean), .fieldLink RX3 21 "HeadBudgets$Heads" "frozen" "[I", .methodLink RX3 59 yX3_isWithin, .instanceMethod yX3_isWithin, .selects RX3 yX3_isWithin yX3_isWithin, .code yX3_isWithin cX3_isWithin 5 (some .boolean)] ++ wsX30)
def wsX5_partOf : List Cond := .code yX5_partOf cX5_partOf 2 (some .int) :: ([.constantLong RX5 223 (100)])
def wsX3_movable_r1 : List Cond := [Cond.fieldLink RX3 33 "HeadBudgets$Heads" "allotted" "[I", Cond.fieldLink RX3 39 "HeadBudgets$Heads" "share" "[I", Cond.fieldLink RX3 36 "HeadBudgets$Heads" "left" "[I", Cond.constant RX3 80 (100000), Cond.methodLink RX3 81 Lib.Math.min.name, Cond.static Lib.Math.min.name, Cond.initialized "java/lang/Math", Cond.code Lib.Math.min.name Lib.Math.min.code 2 (some .int), Cond.methodLink RX3 86 Lib.Math.max.name, Cond.static Lib.Math.max.name, Cond.code Lib.Math.max.name Lib.Math.max.code 2 (some .int), Cond.methodLink RX3 71 yX3_hasBoth, Cond.instanceMethod yX3_hasBoth, Cond.selects RX3 yX3_hasBoth yX3_hasBoth, Cond.initialized RX3, Cond.code yX3_hasBoth cX3_hasBoth 3 (some .boolean), Cond.methodLink RX3 52 yX3_has, Cond.instanceMethod yX3_has, Cond.selects RX3 yX3_has yX3_has, Cond.code yX3_has cX3_has 2 (some .boolean), Cond.fieldLink RX3 48 "HeadBudgets$Heads" "made" "I", Cond.methodLink RX3 74 yX3_mayGive, Cond.instanceMethod yX3_mayGive, Cond.selects RX3 yX3_mayGive yX3_mayGive]
def wsX3_movable_r2 : List Cond := [Cond.code yX3_mayGive cX3_mayGive 4 (some .boolean), Cond.fieldLink RX3 9 "HeadBudgets$Heads" "above" "[I", Cond.fieldLink RX3 18 "HeadBudgets$Heads" "rank" "[I", Cond.methodLink RX3 56 yX3_isBarred, Cond.instanceMethod yX3_isBarred, Cond.selects RX3 yX3_isBarred yX3_isBarred, Cond.code yX3_isBarred cX3_isBarred 4 (some .boolean), Cond.fieldLink RX3 21 "HeadBudgets$Heads" "frozen" "[I", Cond.methodLink RX3 59 yX3_isWithin, Cond.instanceMethod yX3_isWithin, Cond.selects RX3 yX3_isWithin yX3_isWithin, Cond.code yX3_isWithin cX3_isWithin 5 (some .boolean), Cond.static yX5_partOf, Cond.initialized RX5, Cond.code yX5_partOf cX5_partOf 2 (some .int), Cond.constantLong RX5 223 (100), Cond.methodLink RX3 67 yX3_freeOf, Cond.instanceMethod yX3_freeOf, Cond.selects RX3 yX3_freeOf yX3_freeOf, Cond.code yX3_freeOf cX3_freeOf 2 (some .int), Cond.fieldLink RX3 24 "HeadBudgets$Heads" "allotment" "[I", Cond.fieldLink RX3 27 "HeadBudgets$Heads" "committed" "[I", Cond.fieldLink RX3 30 "HeadBudgets$Heads" "spent" "[I"]
def wsX3_movable : List Cond := .code yX3_movable cX3_movable 5 (some .int) :: ((wsX3_movable_r1 ++ wsX3_movable_r2) ++ wsX30)
def wsX3_moveByVirement : List Cond := .code yX3_moveByVirement cX3_moveByVirement 4 none :: ([.fieldLink RX3 24 "HeadBudgets$Heads" "allotment" "[I", .fieldLink RX3 36 "HeadBudgets$Heads" "left" "[I", .methodLink RX3 71 yX3_hasBoth, .instanceMethod yX3_hasBoth, .selects RX3 yX3_hasBoth yX3_hasBoth, .initialized RX3, .code yX3_hasBoth cX3_hasBoth 3 (some .boolean), .methodLink RX3 52 yX3_has, .instanceMethod yX3_has, .selects RX3 yX3_has yX3_has, .code yX3_has cX3_has 2 (some .boolean), .fieldLink RX3 48 "HeadBudgets$Heads" "made" "I"] ++ wsX30)
def wsX3_giverOfMost_r1 : List Cond := [Cond.fieldLink RX3 18 "HeadBudgets$Heads" "rank" "[I", Cond.methodLink RX3 89 yX3_movable, Cond.instanceMethod yX3_movable, Cond.selects RX3 yX3_movable yX3_movable, Cond.initialized RX3, Cond.code yX3_movable cX3_movable 5 (some .int), Cond.fieldLink RX3 33 "HeadBudgets$Heads" "allotted" "[I", Cond.fieldLink RX3 39 "HeadBudgets$Heads" "share" "[I", Cond.fieldLink RX3 36 "HeadBudgets$Heads" "left" "[I", Cond.constant RX3 80 (100000), Cond.methodLink RX3 81 Lib.Math.min.name, Cond.static Lib.Math.min.name, Cond.initialized "java/lang/Math", Cond.code Lib.Math.min.name Lib.Math.min.code 2 (some .int), Cond.methodLink RX3 86 Lib.Math.max.name, Cond.static Lib.Math.max.name, Cond.code Lib.Math.max.name Lib.Math.max.code 2 (some .int), Cond.methodLink RX3 71 yX3_hasBoth, Cond.instanceMethod yX3_hasBoth, Cond.selects RX3 yX3_hasBoth yX3_hasBoth, Cond.code yX3_hasBoth cX3_hasBoth 3 (some .boolean), Cond.methodLink RX3 52 yX3_has, Cond.instanceMethod yX3_has, Cond.selects RX3 yX3_has yX3_has]
def wsX3_giverOfMost_r2 : List Cond := [Cond.code yX3_has cX3_has 2 (some .boolean), Cond.fieldLink RX3 48 "HeadBudgets$Heads" "made" "I", Cond.methodLink RX3 74 yX3_mayGive, Cond.instanceMethod yX3_mayGive, Cond.selects RX3 yX3_mayGive yX3_mayGive, Cond.code yX3_mayGive cX3_mayGive 4 (some .boolean), Cond.fieldLink RX3 9 "HeadBudgets$Heads" "above" "[I", Cond.methodLink RX3 56 yX3_isBarred, Cond.instanceMethod yX3_isBarred, Cond.selects RX3 yX3_isBarred yX3_isBarred, Cond.code yX3_isBarred cX3_isBarred 4 (some .boolean), Cond.fieldLink RX3 21 "HeadBudgets$Heads" "frozen" "[I", Cond.methodLink RX3 59 yX3_isWithin, Cond.instanceMethod yX3_isWithin, Cond.selects RX3 yX3_isWithin yX3_isWithin, Cond.code yX3_isWithin cX3_isWithin 5 (some .boolean), Cond.static yX5_partOf, Cond.initialized RX5, Cond.code yX5_partOf cX5_partOf 2 (some .int), Cond.constantLong RX5 223 (100), Cond.methodLink RX3 67 yX3_freeOf, Cond.instanceMethod yX3_freeOf, Cond.selects RX3 yX3_freeOf yX3_freeOf, Cond.code yX3_freeOf cX3_freeOf 2 (some .int)]
def wsX3_giverOfMost_r3 : List Cond := [Cond.fieldLink RX3 24 "HeadBudgets$Heads" "allotment" "[I", Cond.fieldLink RX3 27 "HeadBudgets$Heads" "committed" "[I", Cond.fieldLink RX3 30 "HeadBudgets$Heads" "spent" "[I"]
def wsX3_giverOfMost : List Cond := .code yX3_giverOfMost cX3_giverOfMost 6 (some .int) :: ((wsX3_giverOfMost_r1 ++ (wsX3_giverOfMost_r2 ++ wsX3_giverOfMost_r3)) ++ wsX30)
def wsX3_lapseWithin : List Cond := .code yX3_lapseWithin cX3_lapseWithin 6 (some .int) :: ([.methodLink RX3 59 yX3_isWithin, .instanceMethod yX3_isWithin, .selects RX3 yX3_isWithin yX3_isWithin, .initialized RX3, .code yX3_isWithin cX3_isWithin 5 (some .boolean), .fieldLink RX3 9 "HeadBudgets$Heads" "above" "[I", .methodLink RX3 52 yX3_has, .instanceMethod yX3_has, .selects RX3 yX3_has yX3_has, .code yX3_has cX3_has 2 (some .boolean), .fieldLink RX3 48 "HeadBudgets$Heads" "made" "I", .methodLink RX3 67 yX3_freeOf, .instanceMethod yX3_freeOf, .selects RX3 yX3_freeOf yX3_freeOf, .code yX3_freeOf cX3_freeOf 2 (some .int), .fieldLink RX3 24 "HeadBudgets$Heads" "allotment" "[I", .fieldLink RX3 27 "HeadBudgets$Heads" "committed" "[I", .fieldLink RX3 30 "HeadBudgets$Heads" "spent" "[I", .static yX5_partOf, .initialized RX5, .code yX5_partOf cX5_partOf 2 (some .int), .constantLong RX5 223 (100)] ++ wsX30)
def wsX3_carryForward : List Cond := .code yX3_carryForward cX3_carryForward 4 none :: ([.fieldLink RX3 24 "HeadBudgets$Heads" "allotment" "[I", .fieldLink RX3 27 "HeadBudgets$Heads" "committed" "[I", .fieldLink RX3 33 "HeadBudgets$Heads" "allotted" "[I", .fieldLink RX3 30 "HeadBudgets$Heads" "spent" "[I", .fieldLink RX3 36 "HeadBudgets$Heads" "left" "[I", .methodLink RX3 67 yX3_freeOf, .instanceMethod yX3_freeOf, .selects RX3 yX3_freeOf yX3_freeOf, .initialized RX3, .code yX3_freeOf cX3_freeOf 2 (some .int), .methodLink RX3 52 yX3_has, .instanceMethod yX3_has, .selects RX3 yX3_has yX3_has, .code yX3_has cX3_has 2 (some .boolean), .fieldLink RX3 48 "HeadBudgets$Heads" "made" "I", .static yX5_partOf, .initialized RX5, .code yX5_partOf cX5_partOf 2 (some .int), .constantLong RX5 223 (100)] ++ wsX30)
def wsX4_init_r1 : List Cond := [Cond.methodLink RX4 3 objectInit, Cond.instanceMethod objectInit, Cond.code objectInit ⟨#[0xb1]⟩ 1 none, Cond.classLink RX4 9 RX2, Cond.fieldLink RX4 11 "HeadBudgets$Memory" "places" "[LHeadBudgets$Deed;", Cond.instantiable RX2 6, Cond.initialized RX2, Cond.instanceMethod yX2_init, Cond.code yX2_init cX2_init 1 none, Cond.methodLink RX2 1 objectInit, Cond.classLink RX2 7 RX0, Cond.instantiable RX0 6, Cond.initialized RX0, Cond.fieldLink RX2 10 "HeadBudgets$Deed" "before" "LHeadBudgets$Books;", Cond.instanceMethod yX0_init, Cond.code yX0_init cX0_init 1 none, Cond.methodLink RX0 3 objectInit, Cond.classLink RX0 9 RX3, Cond.instantiable RX3 11, Cond.initialized RX3, Cond.fieldLink RX0 12 "HeadBudgets$Books" "heads" "LHeadBudgets$Heads;", Cond.classLink RX0 18 RX1, Cond.instantiable RX1 5, Cond.initialized RX1]
def wsX4_init_r2 : List Cond := [Cond.fieldLink RX0 21 "HeadBudgets$Books" "commitments" "LHeadBudgets$Commitments;", Cond.fieldLink RX0 25 "HeadBudgets$Books" "carriedPart" "I", Cond.instanceMethod yX3_init, Cond.code yX3_init cX3_init 1 none, Cond.methodLink RX3 3 objectInit, Cond.arrayClass .int, Cond.fieldLink RX3 9 "HeadBudgets$Heads" "above" "[I", Cond.fieldLink RX3 15 "HeadBudgets$Heads" "depth" "[I", Cond.fieldLink RX3 18 "HeadBudgets$Heads" "rank" "[I", Cond.fieldLink RX3 21 "HeadBudgets$Heads" "frozen" "[I", Cond.fieldLink RX3 24 "HeadBudgets$Heads" "allotment" "[I", Cond.fieldLink RX3 27 "HeadBudgets$Heads" "committed" "[I", Cond.fieldLink RX3 30 "HeadBudgets$Heads" "spent" "[I", Cond.fieldLink RX3 33 "HeadBudgets$Heads" "allotted" "[I", Cond.fieldLink RX3 36 "HeadBudgets$Heads" "left" "[I", Cond.fieldLink RX3 39 "HeadBudgets$Heads" "share" "[I", Cond.instanceMethod yX1_init, Cond.code yX1_init cX1_init 1 none, Cond.methodLink RX1 3 objectInit, Cond.fieldLink RX1 9 "HeadBudgets$Commitments" "head" "[I", Cond.fieldLink RX1 15 "HeadBudgets$Commitments" "open" "[I", Cond.fieldLink RX1 18 "HeadBudgets$Commitments" "paid" "[I", Cond.fieldLink RX1 21 "HeadBudgets$Commitments" "year" "[I"]
def wsX4_init : List Cond := .code yX4_init cX4_init 2 none :: ((wsX4_init_r1 ++ wsX4_init_r2) ++ wsX40 ++ wsX20 ++ wsX00 ++ wsX30 ++ wsX10)
def wsJ9_floorMod_7cf53 : List Cond := .code yJ9_floorMod_7cf53 cJ9_floorMod_7cf53 3 (some .int) :: ([])
def wsX4_recall : List Cond := .code yX4_recall cX4_recall 2 (some (.object "HeadBudgets$Deed")) :: ([.fieldLink RX4 18 "HeadBudgets$Memory" "held" "I", .fieldLink RX4 11 "HeadBudgets$Memory" "places" "[LHeadBudgets$Deed;", .fieldLink RX4 22 "HeadBudgets$Memory" "oldest" "I", .methodLink RX4 25 yJ9_floorMod_7cf53, .static yJ9_floorMod_7cf53, .initialized RJ9, .code yJ9_floorMod_7cf53 cJ9_floorMod_7cf53 3 (some .int)] ++ wsX40)
def wsX4_rememberWith_r1 : List Cond := [Cond.fieldLink RX4 18 "HeadBudgets$Memory" "held" "I", Cond.fieldLink RX4 22 "HeadBudgets$Memory" "oldest" "I", Cond.fieldLink RX4 35 "HeadBudgets$Memory" "latestNumber" "I", Cond.fieldLink RX4 42 "HeadBudgets$Deed" "before" "LHeadBudgets$Books;", Cond.fieldLink RX4 52 "HeadBudgets$Deed" "number" "I", Cond.fieldLink RX4 55 "HeadBudgets$Deed" "kind" "I", Cond.fieldLink RX4 58 "HeadBudgets$Deed" "subject" "I", Cond.fieldLink RX4 61 "HeadBudgets$Deed" "taker" "I", Cond.fieldLink RX4 64 "HeadBudgets$Deed" "amount" "I", Cond.methodLink RX4 25 yJ9_floorMod_7cf53, Cond.static yJ9_floorMod_7cf53, Cond.initialized RJ9, Cond.code yJ9_floorMod_7cf53 cJ9_floorMod_7cf53 3 (some .int), Cond.methodLink RX4 38 yX4_recall, Cond.instanceMethod yX4_recall, Cond.selects RX4 yX4_recall yX4_recall, Cond.initialized RX4, Cond.code yX4_recall cX4_recall 2 (some (.object "HeadBudgets$Deed")), Cond.fieldLink RX4 11 "HeadBudgets$Memory" "places" "[LHeadBudgets$Deed;", Cond.methodLink RX4 46 yX0_copyFrom, Cond.instanceMethod yX0_copyFrom, Cond.selects RX0 yX0_copyFrom yX0_copyFrom, Cond.initialized RX0, Cond.code yX0_copyFrom cX0_copyFrom 2 none]
def wsX4_rememberWith_r2 : List Cond := [Cond.fieldLink RX0 12 "HeadBudgets$Books" "heads" "LHeadBudgets$Heads;", Cond.fieldLink RX0 21 "HeadBudgets$Books" "commitments" "LHeadBudgets$Commitments;", Cond.fieldLink RX0 36 "HeadBudgets$Books" "year" "I", Cond.fieldLink RX0 25 "HeadBudgets$Books" "carriedPart" "I", Cond.fieldLink RX0 39 "HeadBudgets$Books" "lapsed" "I", Cond.fieldLink RX0 42 "HeadBudgets$Books" "spent" "I", Cond.methodLink RX0 29 yX3_copyFrom, Cond.instanceMethod yX3_copyFrom, Cond.selects RX3 yX3_copyFrom yX3_copyFrom, Cond.initialized RX3, Cond.code yX3_copyFrom cX3_copyFrom 2 none, Cond.fieldLink RX3 9 "HeadBudgets$Heads" "above" "[I", Cond.methodLink RX3 42 arraycopyName, Cond.native arraycopyName, Cond.static arraycopyName, Cond.initialized "java/lang/System", Cond.fieldLink RX3 15 "HeadBudgets$Heads" "depth" "[I", Cond.fieldLink RX3 18 "HeadBudgets$Heads" "rank" "[I", Cond.fieldLink RX3 21 "HeadBudgets$Heads" "frozen" "[I", Cond.fieldLink RX3 24 "HeadBudgets$Heads" "allotment" "[I", Cond.fieldLink RX3 27 "HeadBudgets$Heads" "committed" "[I", Cond.fieldLink RX3 30 "HeadBudgets$Heads" "spent" "[I", Cond.fieldLink RX3 33 "HeadBudgets$Heads" "allotted" "[I", Cond.fieldLink RX3 36 "HeadBudgets$Heads" "left" "[I"]
def wsX4_rememberWith_r3 : List Cond := [Cond.fieldLink RX3 39 "HeadBudgets$Heads" "share" "[I", Cond.fieldLink RX3 48 "HeadBudgets$Heads" "made" "I", Cond.methodLink RX0 33 yX1_copyFrom, Cond.instanceMethod yX1_copyFrom, Cond.selects RX1 yX1_copyFrom yX1_copyFrom, Cond.initialized RX1, Cond.code yX1_copyFrom cX1_copyFrom 2 none, Cond.fieldLink RX1 9 "HeadBudgets$Commitments" "head" "[I", Cond.methodLink RX1 24 arraycopyName, Cond.fieldLink RX1 15 "HeadBudgets$Commitments" "open" "[I", Cond.fieldLink RX1 18 "HeadBudgets$Commitments" "paid" "[I", Cond.fieldLink RX1 21 "HeadBudgets$Commitments" "year" "[I", Cond.fieldLink RX1 30 "HeadBudgets$Commitments" "made" "I"]
def wsX4_rememberWith : List Cond := .code yX4_rememberWith cX4_rememberWith 7 none :: ((wsX4_rememberWith_r1 ++ (wsX4_rememberWith_r2 ++ wsX4_rememberWith_r3)) ++ wsX40 ++ wsX20 ++ wsX00 ++ wsX30 ++ wsX10)
def wsX4_remember_r1 : List Cond := [Cond.methodLink RX4 31 yX4_rememberWith, Cond.instanceMethod yX4_rememberWith, Cond.selects RX4 yX4_rememberWith yX4_rememberWith, Cond.initialized RX4, Cond.code yX4_rememberWith cX4_rememberWith 7 none, Cond.fieldLink RX4 18 "HeadBudgets$Memory" "held" "I", Cond.fieldLink RX4 22 "HeadBudgets$Memory" "oldest" "I", Cond.fieldLink RX4 35 "HeadBudgets$Memory" "latestNumber" "I", Cond.fieldLink RX4 42 "HeadBudgets$Deed" "before" "LHeadBudgets$Books;", Cond.fieldLink RX4 52 "HeadBudgets$Deed" "number" "I", Cond.fieldLink RX4 55 "HeadBudgets$Deed" "kind" "I", Cond.fieldLink RX4 58 "HeadBudgets$Deed" "subject" "I", Cond.fieldLink RX4 61 "HeadBudgets$Deed" "taker" "I", Cond.fieldLink RX4 64 "HeadBudgets$Deed" "amount" "I", Cond.methodLink RX4 25 yJ9_floorMod_7cf53, Cond.static yJ9_floorMod_7cf53, Cond.initialized RJ9, Cond.code yJ9_floorMod_7cf53 cJ9_floorMod_7cf53 3 (some .int), Cond.methodLink RX4 38 yX4_recall, Cond.instanceMethod yX4_recall, Cond.selects RX4 yX4_recall yX4_recall, Cond.code yX4_recall cX4_recall 2 (some (.object "HeadBudgets$Deed")), Cond.fieldLink RX4 11 "HeadBudgets$Memory" "places" "[LHeadBudgets$Deed;", Cond.methodLink RX4 46 yX0_copyFrom]
def wsX4_remember_r2 : List Cond := [Cond.instanceMethod yX0_copyFrom, Cond.selects RX0 yX0_copyFrom yX0_copyFrom, Cond.initialized RX0, Cond.code yX0_copyFrom cX0_copyFrom 2 none, Cond.fieldLink RX0 12 "HeadBudgets$Books" "heads" "LHeadBudgets$Heads;", Cond.fieldLink RX0 21 "HeadBudgets$Books" "commitments" "LHeadBudgets$Commitments;", Cond.fieldLink RX0 36 "HeadBudgets$Books" "year" "I", Cond.fieldLink RX0 25 "HeadBudgets$Books" "carriedPart" "I", Cond.fieldLink RX0 39 "HeadBudgets$Books" "lapsed" "I", Cond.fieldLink RX0 42 "HeadBudgets$Books" "spent" "I", Cond.methodLink RX0 29 yX3_copyFrom, Cond.instanceMethod yX3_copyFrom, Cond.selects RX3 yX3_copyFrom yX3_copyFrom, Cond.initialized RX3, Cond.code yX3_copyFrom cX3_copyFrom 2 none, Cond.fieldLink RX3 9 "HeadBudgets$Heads" "above" "[I", Cond.methodLink RX3 42 arraycopyName, Cond.native arraycopyName, Cond.static arraycopyName, Cond.initialized "java/lang/System", Cond.fieldLink RX3 15 "HeadBudgets$Heads" "depth" "[I", Cond.fieldLink RX3 18 "HeadBudgets$Heads" "rank" "[I", Cond.fieldLink RX3 21 "HeadBudgets$Heads" "frozen" "[I", Cond.fieldLink RX3 24 "HeadBudgets$Heads" "allotment" "[I"]
def wsX4_remember_r3 : List Cond := [Cond.fieldLink RX3 27 "HeadBudgets$Heads" "committed" "[I", Cond.fieldLink RX3 30 "HeadBudgets$Heads" "spent" "[I", Cond.fieldLink RX3 33 "HeadBudgets$Heads" "allotted" "[I", Cond.fieldLink RX3 36 "HeadBudgets$Heads" "left" "[I", Cond.fieldLink RX3 39 "HeadBudgets$Heads" "share" "[I", Cond.fieldLink RX3 48 "HeadBudgets$Heads" "made" "I", Cond.methodLink RX0 33 yX1_copyFrom, Cond.instanceMethod yX1_copyFrom, Cond.selects RX1 yX1_copyFrom yX1_copyFrom, Cond.initialized RX1, Cond.code yX1_copyFrom cX1_copyFrom 2 none, Cond.fieldLink RX1 9 "HeadBudgets$Commitments" "head" "[I", Cond.methodLink RX1 24 arraycopyName, Cond.fieldLink RX1 15 "HeadBudgets$Commitments" "open" "[I", Cond.fieldLink RX1 18 "HeadBudgets$Commitments" "paid" "[I", Cond.fieldLink RX1 21 "HeadBudgets$Commitments" "year" "[I", Cond.fieldLink RX1 30 "HeadBudgets$Commitments" "made" "I"]
def wsX4_remember : List Cond := .code yX4_remember cX4_remember 3 none :: ((wsX4_remember_r1 ++ (wsX4_remember_r2 ++ wsX4_remember_r3)) ++ wsX40 ++ wsX20 ++ wsX00 ++ wsX30 ++ wsX10)
def wsX4_rememberCommitment_r1 : List Cond := [Cond.methodLink RX4 31 yX4_rememberWith, Cond.instanceMethod yX4_rememberWith, Cond.selects RX4 yX4_rememberWith yX4_rememberWith, Cond.initialized RX4, Cond.code yX4_rememberWith cX4_rememberWith 7 none, Cond.fieldLink RX4 18 "HeadBudgets$Memory" "held" "I", Cond.fieldLink RX4 22 "HeadBudgets$Memory" "oldest" "I", Cond.fieldLink RX4 35 "HeadBudgets$Memory" "latestNumber" "I", Cond.fieldLink RX4 42 "HeadBudgets$Deed" "before" "LHeadBudgets$Books;", Cond.fieldLink RX4 52 "HeadBudgets$Deed" "number" "I", Cond.fieldLink RX4 55 "HeadBudgets$Deed" "kind" "I", Cond.fieldLink RX4 58 "HeadBudgets$Deed" "subject" "I", Cond.fieldLink RX4 61 "HeadBudgets$Deed" "taker" "I", Cond.fieldLink RX4 64 "HeadBudgets$Deed" "amount" "I", Cond.methodLink RX4 25 yJ9_floorMod_7cf53, Cond.static yJ9_floorMod_7cf53, Cond.initialized RJ9, Cond.code yJ9_floorMod_7cf53 cJ9_floorMod_7cf53 3 (some .int), Cond.methodLink RX4 38 yX4_recall, Cond.instanceMethod yX4_recall, Cond.selects RX4 yX4_recall yX4_recall, Cond.code yX4_recall cX4_recall 2 (some (.object "HeadBudgets$Deed")), Cond.fieldLink RX4 11 "HeadBudgets$Memory" "places" "[LHeadBudgets$Deed;", Cond.methodLink RX4 46 yX0_copyFrom]
def wsX4_rememberCommitment_r2 : List Cond := [Cond.instanceMethod yX0_copyFrom, Cond.selects RX0 yX0_copyFrom yX0_copyFrom, Cond.initialized RX0, Cond.code yX0_copyFrom cX0_copyFrom 2 none, Cond.fieldLink RX0 12 "HeadBudgets$Books" "heads" "LHeadBudgets$Heads;", Cond.fieldLink RX0 21 "HeadBudgets$Books" "commitments" "LHeadBudgets$Commitments;", Cond.fieldLink RX0 36 "HeadBudgets$Books" "year" "I", Cond.fieldLink RX0 25 "HeadBudgets$Books" "carriedPart" "I", Cond.fieldLink RX0 39 "HeadBudgets$Books" "lapsed" "I", Cond.fieldLink RX0 42 "HeadBudgets$Books" "spent" "I", Cond.methodLink RX0 29 yX3_copyFrom, Cond.instanceMethod yX3_copyFrom, Cond.selects RX3 yX3_copyFrom yX3_copyFrom, Cond.initialized RX3, Cond.code yX3_copyFrom cX3_copyFrom 2 none, Cond.fieldLink RX3 9 "HeadBudgets$Heads" "above" "[I", Cond.methodLink RX3 42 arraycopyName, Cond.native arraycopyName, Cond.static arraycopyName, Cond.initialized "java/lang/System", Cond.fieldLink RX3 15 "HeadBudgets$Heads" "depth" "[I", Cond.fieldLink RX3 18 "HeadBudgets$Heads" "rank" "[I", Cond.fieldLink RX3 21 "HeadBudgets$Heads" "frozen" "[I", Cond.fieldLink RX3 24 "HeadBudgets$Heads" "allotment" "[I"]
def wsX4_rememberCommitment_r3 : List Cond := [Cond.fieldLink RX3 27 "HeadBudgets$Heads" "committed" "[I", Cond.fieldLink RX3 30 "HeadBudgets$Heads" "spent" "[I", Cond.fieldLink RX3 33 "HeadBudgets$Heads" "allotted" "[I", Cond.fieldLink RX3 36 "HeadBudgets$Heads" "left" "[I", Cond.fieldLink RX3 39 "HeadBudgets$Heads" "share" "[I", Cond.fieldLink RX3 48 "HeadBudgets$Heads" "made" "I", Cond.methodLink RX0 33 yX1_copyFrom, Cond.instanceMethod yX1_copyFrom, Cond.selects RX1 yX1_copyFrom yX1_copyFrom, Cond.initialized RX1, Cond.code yX1_copyFrom cX1_copyFrom 2 none, Cond.fieldLink RX1 9 "HeadBudgets$Commitments" "head" "[I", Cond.methodLink RX1 24 arraycopyName, Cond.fieldLink RX1 15 "HeadBudgets$Commitments" "open" "[I", Cond.fieldLink RX1 18 "HeadBudgets$Commitments" "paid" "[I", Cond.fieldLink RX1 21 "HeadBudgets$Commitments" "year" "[I", Cond.fieldLink RX1 30 "HeadBudgets$Commitments" "made" "I"]
def wsX4_rememberCommitment : List Cond := .code yX4_rememberCommitment cX4_rememberCommitment 3 none :: ((wsX4_rememberCommitment_r1 ++ (wsX4_rememberCommitment_r2 ++ wsX4_rememberCommitment_r3)) ++ wsX40 ++ wsX20 ++ wsX00 ++ wsX30 ++ wsX10)
def wsX4_rememberVirement_r1 : List Cond := [Cond.methodLink RX4 31 yX4_rememberWith, Cond.instanceMethod yX4_rememberWith, Cond.selects RX4 yX4_rememberWith yX4_rememberWith, Cond.initialized RX4, Cond.code yX4_rememberWith cX4_rememberWith 7 none, Cond.fieldLink RX4 18 "HeadBudgets$Memory" "held" "I", Cond.fieldLink RX4 22 "HeadBudgets$Memory" "oldest" "I", Cond.fieldLink RX4 35 "HeadBudgets$Memory" "latestNumber" "I", Cond.fieldLink RX4 42 "HeadBudgets$Deed" "before" "LHeadBudgets$Books;", Cond.fieldLink RX4 52 "HeadBudgets$Deed" "number" "I", Cond.fieldLink RX4 55 "HeadBudgets$Deed" "kind" "I", Cond.fieldLink RX4 58 "HeadBudgets$Deed" "subject" "I", Cond.fieldLink RX4 61 "HeadBudgets$Deed" "taker" "I", Cond.fieldLink RX4 64 "HeadBudgets$Deed" "amount" "I", Cond.methodLink RX4 25 yJ9_floorMod_7cf53, Cond.static yJ9_floorMod_7cf53, Cond.initialized RJ9, Cond.code yJ9_floorMod_7cf53 cJ9_floorMod_7cf53 3 (some .int), Cond.methodLink RX4 38 yX4_recall, Cond.instanceMethod yX4_recall, Cond.selects RX4 yX4_recall yX4_recall, Cond.code yX4_recall cX4_recall 2 (some (.object "HeadBudgets$Deed")), Cond.fieldLink RX4 11 "HeadBudgets$Memory" "places" "[LHeadBudgets$Deed;", Cond.methodLink RX4 46 yX0_copyFrom]
def wsX4_rememberVirement_r2 : List Cond := [Cond.instanceMethod yX0_copyFrom, Cond.selects RX0 yX0_copyFrom yX0_copyFrom, Cond.initialized RX0, Cond.code yX0_copyFrom cX0_copyFrom 2 none, Cond.fieldLink RX0 12 "HeadBudgets$Books" "heads" "LHeadBudgets$Heads;", Cond.fieldLink RX0 21 "HeadBudgets$Books" "commitments" "LHeadBudgets$Commitments;", Cond.fieldLink RX0 36 "HeadBudgets$Books" "year" "I", Cond.fieldLink RX0 25 "HeadBudgets$Books" "carriedPart" "I", Cond.fieldLink RX0 39 "HeadBudgets$Books" "lapsed" "I", Cond.fieldLink RX0 42 "HeadBudgets$Books" "spent" "I", Cond.methodLink RX0 29 yX3_copyFrom, Cond.instanceMethod yX3_copyFrom, Cond.selects RX3 yX3_copyFrom yX3_copyFrom, Cond.initialized RX3, Cond.code yX3_copyFrom cX3_copyFrom 2 none, Cond.fieldLink RX3 9 "HeadBudgets$Heads" "above" "[I", Cond.methodLink RX3 42 arraycopyName, Cond.native arraycopyName, Cond.static arraycopyName, Cond.initialized "java/lang/System", Cond.fieldLink RX3 15 "HeadBudgets$Heads" "depth" "[I", Cond.fieldLink RX3 18 "HeadBudgets$Heads" "rank" "[I", Cond.fieldLink RX3 21 "HeadBudgets$Heads" "frozen" "[I", Cond.fieldLink RX3 24 "HeadBudgets$Heads" "allotment" "[I"]
def wsX4_rememberVirement_r3 : List Cond := [Cond.fieldLink RX3 27 "HeadBudgets$Heads" "committed" "[I", Cond.fieldLink RX3 30 "HeadBudgets$Heads" "spent" "[I", Cond.fieldLink RX3 33 "HeadBudgets$Heads" "allotted" "[I", Cond.fieldLink RX3 36 "HeadBudgets$Heads" "left" "[I", Cond.fieldLink RX3 39 "HeadBudgets$Heads" "share" "[I", Cond.fieldLink RX3 48 "HeadBudgets$Heads" "made" "I", Cond.methodLink RX0 33 yX1_copyFrom, Cond.instanceMethod yX1_copyFrom, Cond.selects RX1 yX1_copyFrom yX1_copyFrom, Cond.initialized RX1, Cond.code yX1_copyFrom cX1_copyFrom 2 none, Cond.fieldLink RX1 9 "HeadBudgets$Commitments" "head" "[I", Cond.methodLink RX1 24 arraycopyName, Cond.fieldLink RX1 15 "HeadBudgets$Commitments" "open" "[I", Cond.fieldLink RX1 18 "HeadBudgets$Commitments" "paid" "[I", Cond.fieldLink RX1 21 "HeadBudgets$Commitments" "year" "[I", Cond.fieldLink RX1 30 "HeadBudgets$Commitments" "made" "I"]
def wsX4_rememberVirement : List Cond := .code yX4_rememberVirement cX4_rememberVirement 5 none :: ((wsX4_rememberVirement_r1 ++ (wsX4_rememberVirement_r2 ++ wsX4_rememberVirement_r3)) ++ wsX40 ++ wsX20 ++ wsX00 ++ wsX30 ++ wsX10)
def wsX4_rememberRevoking_r1 : List Cond := [Cond.methodLink RX4 31 yX4_rememberWith, Cond.instanceMethod yX4_rememberWith, Cond.selects RX4 yX4_rememberWith yX4_rememberWith, Cond.initialized RX4, Cond.code yX4_rememberWith cX4_rememberWith 7 none, Cond.fieldLink RX4 18 "HeadBudgets$Memory" "held" "I", Cond.fieldLink RX4 22 "HeadBudgets$Memory" "oldest" "I", Cond.fieldLink RX4 35 "HeadBudgets$Memory" "latestNumber" "I", Cond.fieldLink RX4 42 "HeadBudgets$Deed" "before" "LHeadBudgets$Books;", Cond.fieldLink RX4 52 "HeadBudgets$Deed" "number" "I", Cond.fieldLink RX4 55 "HeadBudgets$Deed" "kind" "I", Cond.fieldLink RX4 58 "HeadBudgets$Deed" "subject" "I", Cond.fieldLink RX4 61 "HeadBudgets$Deed" "taker" "I", Cond.fieldLink RX4 64 "HeadBudgets$Deed" "amount" "I", Cond.methodLink RX4 25 yJ9_floorMod_7cf53, Cond.static yJ9_floorMod_7cf53, Cond.initialized RJ9, Cond.code yJ9_floorMod_7cf53 cJ9_floorMod_7cf53 3 (some .int), Cond.methodLink RX4 38 yX4_recall, Cond.instanceMethod yX4_recall, Cond.selects RX4 yX4_recall yX4_recall, Cond.code yX4_recall cX4_recall 2 (some (.object "HeadBudgets$Deed")), Cond.fieldLink RX4 11 "HeadBudgets$Memory" "places" "[LHeadBudgets$Deed;", Cond.methodLink RX4 46 yX0_copyFrom]
def wsX4_rememberRevoking_r2 : List Cond := [Cond.instanceMethod yX0_copyFrom, Cond.selects RX0 yX0_copyFrom yX0_copyFrom, Cond.initialized RX0, Cond.code yX0_copyFrom cX0_copyFrom 2 none, Cond.fieldLink RX0 12 "HeadBudgets$Books" "heads" "LHeadBudgets$Heads;", Cond.fieldLink RX0 21 "HeadBudgets$Books" "commitments" "LHeadBudgets$Commitments;", Cond.fieldLink RX0 36 "HeadBudgets$Books" "year" "I", Cond.fieldLink RX0 25 "HeadBudgets$Books" "carriedPart" "I", Cond.fieldLink RX0 39 "HeadBudgets$Books" "lapsed" "I", Cond.fieldLink RX0 42 "HeadBudgets$Books" "spent" "I", Cond.methodLink RX0 29 yX3_copyFrom, Cond.instanceMethod yX3_copyFrom, Cond.selects RX3 yX3_copyFrom yX3_copyFrom, Cond.initialized RX3, Cond.code yX3_copyFrom cX3_copyFrom 2 none, Cond.fieldLink RX3 9 "HeadBudgets$Heads" "above" "[I", Cond.methodLink RX3 42 arraycopyName, Cond.native arraycopyName, Cond.static arraycopyName, Cond.initialized "java/lang/System", Cond.fieldLink RX3 15 "HeadBudgets$Heads" "depth" "[I", Cond.fieldLink RX3 18 "HeadBudgets$Heads" "rank" "[I", Cond.fieldLink RX3 21 "HeadBudgets$Heads" "frozen" "[I", Cond.fieldLink RX3 24 "HeadBudgets$Heads" "allotment" "[I"]
def wsX4_rememberRevoking_r3 : List Cond := [Cond.fieldLink RX3 27 "HeadBudgets$Heads" "committed" "[I", Cond.fieldLink RX3 30 "HeadBudgets$Heads" "spent" "[I", Cond.fieldLink RX3 33 "HeadBudgets$Heads" "allotted" "[I", Cond.fieldLink RX3 36 "HeadBudgets$Heads" "left" "[I", Cond.fieldLink RX3 39 "HeadBudgets$Heads" "share" "[I", Cond.fieldLink RX3 48 "HeadBudgets$Heads" "made" "I", Cond.methodLink RX0 33 yX1_copyFrom, Cond.instanceMethod yX1_copyFrom, Cond.selects RX1 yX1_copyFrom yX1_copyFrom, Cond.initialized RX1, Cond.code yX1_copyFrom cX1_copyFrom 2 none, Cond.fieldLink RX1 9 "HeadBudgets$Commitments" "head" "[I", Cond.methodLink RX1 24 arraycopyName, Cond.fieldLink RX1 15 "HeadBudgets$Commitments" "open" "[I", Cond.fieldLink RX1 18 "HeadBudgets$Commitments" "paid" "[I", Cond.fieldLink RX1 21 "HeadBudgets$Commitments" "year" "[I", Cond.fieldLink RX1 30 "HeadBudgets$Commitments" "made" "I"]
def wsX4_rememberRevoking : List Cond := .code yX4_rememberRevoking cX4_rememberRevoking 3 none :: ((wsX4_rememberRevoking_r1 ++ (wsX4_rememberRevoking_r2 ++ wsX4_rememberRevoking_r3)) ++ wsX40 ++ wsX20 ++ wsX00 ++ wsX30 ++ wsX10)
def wsX4_wasRevoked : List Cond := .code yX4_wasRevoked cX4_wasRevoked 4 (some .boolean) :: ([.fieldLink RX4 55 "HeadBudgets$Deed" "kind" "I", .fieldLink RX4 58 "HeadBudgets$Deed" "subject" "I", .methodLink RX4 38 yX4_recall, .instanceMethod yX4_recall, .selects RX4 yX4_recall yX4_recall, .initialized RX4, .code yX4_recall cX4_recall 2 (some (.object "HeadBudgets$Deed")), .fieldLink RX4 18 "HeadBudgets$Memory" "held" "I", .fieldLink RX4 11 "HeadBudgets$Memory" "places" "[LHeadBudgets$Deed;", .fieldLink RX4 22 "HeadBudgets$Memory" "oldest" "I", .methodLink RX4 25 yJ9_floorMod_7cf53, .static yJ9_floorMod_7cf53, .initialized RJ9, .code yJ9_floorMod_7cf53 cJ9_floorMod_7cf53 3 (some .int)] ++ wsX20 ++ wsX40)
def wsX4_forgetLatest : List Cond := .code yX4_forgetLatest cX4_forgetLatest 1 (some .int) :: ([.fieldLink RX4 18 "HeadBudgets$Memory" "held" "I"] ++ wsX40)
def wsX5_init_r1 : List Cond := [Cond.methodLink RX5 1 objectInit, Cond.instanceMethod objectInit, Cond.code objectInit ⟨#[0xb1]⟩ 1 none, Cond.classLink RX5 7 RX0, Cond.instantiable RX0 6, Cond.initialized RX0, Cond.fieldLink RX5 10 "HeadBudgets" "now" "LHeadBudgets$Books;", Cond.classLink RX5 16 RX4, Cond.instantiable RX4 4, Cond.initialized RX4, Cond.fieldLink RX5 19 "HeadBudgets" "memory" "LHeadBudgets$Memory;", Cond.fieldLink RX5 23 "HeadBudgets$Books" "heads" "LHeadBudgets$Heads;", Cond.instanceMethod yX0_init, Cond.code yX0_init cX0_init 1 none, Cond.methodLink RX0 3 objectInit, Cond.classLink RX0 9 RX3, Cond.instantiable RX3 11, Cond.initialized RX3, Cond.fieldLink RX0 12 "HeadBudgets$Books" "heads" "LHeadBudgets$Heads;", Cond.classLink RX0 18 RX1, Cond.instantiable RX1 5, Cond.initialized RX1, Cond.fieldLink RX0 21 "HeadBudgets$Books" "commitments" "LHeadBudgets$Commitments;", Cond.fieldLink RX0 25 "HeadBudgets$Books" "carriedPart" "I"]
def wsX5_init_r2 : List Cond := [Cond.instanceMethod yX3_init, Cond.code yX3_init cX3_init 1 none, Cond.methodLink RX3 3 objectInit, Cond.arrayClass .int, Cond.fieldLink RX3 9 "HeadBudgets$Heads" "above" "[I", Cond.fieldLink RX3 15 "HeadBudgets$Heads" "depth" "[I", Cond.fieldLink RX3 18 "HeadBudgets$Heads" "rank" "[I", Cond.fieldLink RX3 21 "HeadBudgets$Heads" "frozen" "[I", Cond.fieldLink RX3 24 "HeadBudgets$Heads" "allotment" "[I", Cond.fieldLink RX3 27 "HeadBudgets$Heads" "committed" "[I", Cond.fieldLink RX3 30 "HeadBudgets$Heads" "spent" "[I", Cond.fieldLink RX3 33 "HeadBudgets$Heads" "allotted" "[I", Cond.fieldLink RX3 36 "HeadBudgets$Heads" "left" "[I", Cond.fieldLink RX3 39 "HeadBudgets$Heads" "share" "[I", Cond.instanceMethod yX1_init, Cond.code yX1_init cX1_init 1 none, Cond.methodLink RX1 3 objectInit, Cond.fieldLink RX1 9 "HeadBudgets$Commitments" "head" "[I", Cond.fieldLink RX1 15 "HeadBudgets$Commitments" "open" "[I", Cond.fieldLink RX1 18 "HeadBudgets$Commitments" "paid" "[I", Cond.fieldLink RX1 21 "HeadBudgets$Commitments" "year" "[I", Cond.methodLink RX5 18 yX4_init, Cond.instanceMethod yX4_init, Cond.code yX4_init cX4_init 2 none]
def wsX5_init_r3 : List Cond := [Cond.methodLink RX4 3 objectInit, Cond.classLink RX4 9 RX2, Cond.fieldLink RX4 11 "HeadBudgets$Memory" "places" "[LHeadBudgets$Deed;", Cond.instantiable RX2 6, Cond.initialized RX2, Cond.instanceMethod yX2_init, Cond.code yX2_init cX2_init 1 none, Cond.methodLink RX2 1 objectInit, Cond.classLink RX2 7 RX0, Cond.fieldLink RX2 10 "HeadBudgets$Deed" "before" "LHeadBudgets$Books;", Cond.methodLink RX5 27 yX3_add, Cond.instanceMethod yX3_add, Cond.selects RX3 yX3_add yX3_add, Cond.code yX3_add cX3_add 4 (some .int), Cond.fieldLink RX3 48 "HeadBudgets$Heads" "made" "I", Cond.methodLink RX3 52 yX3_has, Cond.instanceMethod yX3_has, Cond.selects RX3 yX3_has yX3_has, Cond.code yX3_has cX3_has 2 (some .boolean)]
def wsX5_init : List Cond := .code yX5_init cX5_init 1 none :: ((wsX5_init_r1 ++ (wsX5_init_r2 ++ wsX5_init_r3)) ++ wsX00 ++ wsX50 ++ wsX40 ++ wsX30 ++ wsX10 ++ wsX20)
def wsX5_make_r1 : List Cond := [Cond.fieldLink RX5 10 "HeadBudgets" "now" "LHeadBudgets$Books;", Cond.fieldLink RX5 23 "HeadBudgets$Books" "heads" "LHeadBudgets$Heads;", Cond.fieldLink RX5 37 "HeadBudgets$Heads" "depth" "[I", Cond.fieldLink RX5 41 "HeadBudgets$Heads" "made" "I", Cond.fieldLink RX5 19 "HeadBudgets" "memory" "LHeadBudgets$Memory;", Cond.methodLink RX5 33 yX3_has, Cond.instanceMethod yX3_has, Cond.selects RX3 yX3_has yX3_has, Cond.initialized RX3, Cond.code yX3_has cX3_has 2 (some .boolean), Cond.fieldLink RX3 48 "HeadBudgets$Heads" "made" "I", Cond.methodLink RX5 45 yX4_remember, Cond.instanceMethod yX4_remember, Cond.selects RX4 yX4_remember yX4_remember, Cond.initialized RX4, Cond.code yX4_remember cX4_remember 3 none, Cond.methodLink RX4 31 yX4_rememberWith, Cond.instanceMethod yX4_rememberWith, Cond.selects RX4 yX4_rememberWith yX4_rememberWith, Cond.code yX4_rememberWith cX4_rememberWith 7 none, Cond.fieldLink RX4 18 "HeadBudgets$Memory" "held" "I", Cond.fieldLink RX4 22 "HeadBudgets$Memory" "oldest" "I", Cond.fieldLink RX4 35 "HeadBudgets$Memory" "latestNumber" "I", Cond.fieldLink RX4 42 "HeadBudgets$Deed" "before" "LHeadBudgets$Books;"]
def wsX5_make_r2 : List Cond := [Cond.fieldLink RX4 52 "HeadBudgets$Deed" "number" "I", Cond.fieldLink RX4 55 "HeadBudgets$Deed" "kind" "I", Cond.fieldLink RX4 58 "HeadBudgets$Deed" "subject" "I", Cond.fieldLink RX4 61 "HeadBudgets$Deed" "taker" "I", Cond.fieldLink RX4 64 "HeadBudgets$Deed" "amount" "I", Cond.methodLink RX4 25 yJ9_floorMod_7cf53, Cond.static yJ9_floorMod_7cf53, Cond.initialized RJ9, Cond.code yJ9_floorMod_7cf53 cJ9_floorMod_7cf53 3 (some .int), Cond.methodLink RX4 38 yX4_recall, Cond.instanceMethod yX4_recall, Cond.selects RX4 yX4_recall yX4_recall, Cond.code yX4_recall cX4_recall 2 (some (.object "HeadBudgets$Deed")), Cond.fieldLink RX4 11 "HeadBudgets$Memory" "places" "[LHeadBudgets$Deed;", Cond.methodLink RX4 46 yX0_copyFrom, Cond.instanceMethod yX0_copyFrom, Cond.selects RX0 yX0_copyFrom yX0_copyFrom, Cond.initialized RX0, Cond.code yX0_copyFrom cX0_copyFrom 2 none, Cond.fieldLink RX0 12 "HeadBudgets$Books" "heads" "LHeadBudgets$Heads;", Cond.fieldLink RX0 21 "HeadBudgets$Books" "commitments" "LHeadBudgets$Commitments;", Cond.fieldLink RX0 36 "HeadBudgets$Books" "year" "I", Cond.fieldLink RX0 25 "HeadBudgets$Books" "carriedPart" "I", Cond.fieldLink RX0 39 "HeadBudgets$Books" "lapsed" "I"]
def wsX5_make_r3 : List Cond := [Cond.fieldLink RX0 42 "HeadBudgets$Books" "spent" "I", Cond.methodLink RX0 29 yX3_copyFrom, Cond.instanceMethod yX3_copyFrom, Cond.selects RX3 yX3_copyFrom yX3_copyFrom, Cond.code yX3_copyFrom cX3_copyFrom 2 none, Cond.fieldLink RX3 9 "HeadBudgets$Heads" "above" "[I", Cond.methodLink RX3 42 arraycopyName, Cond.native arraycopyName, Cond.static arraycopyName, Cond.initialized "java/lang/System", Cond.fieldLink RX3 15 "HeadBudgets$Heads" "depth" "[I", Cond.fieldLink RX3 18 "HeadBudgets$Heads" "rank" "[I", Cond.fieldLink RX3 21 "HeadBudgets$Heads" "frozen" "[I", Cond.fieldLink RX3 24 "HeadBudgets$Heads" "allotment" "[I", Cond.fieldLink RX3 27 "HeadBudgets$Heads" "committed" "[I", Cond.fieldLink RX3 30 "HeadBudgets$Heads" "spent" "[I", Cond.fieldLink RX3 33 "HeadBudgets$Heads" "allotted" "[I", Cond.fieldLink RX3 36 "HeadBudgets$Heads" "left" "[I", Cond.fieldLink RX3 39 "HeadBudgets$Heads" "share" "[I", Cond.methodLink RX0 33 yX1_copyFrom, Cond.instanceMethod yX1_copyFrom, Cond.selects RX1 yX1_copyFrom yX1_copyFrom, Cond.initialized RX1, Cond.code yX1_copyFrom cX1_copyFrom 2 none]
def wsX5_make_r4 : List Cond := [Cond.fieldLink RX1 9 "HeadBudgets$Commitments" "head" "[I", Cond.methodLink RX1 24 arraycopyName, Cond.fieldLink RX1 15 "HeadBudgets$Commitments" "open" "[I", Cond.fieldLink RX1 18 "HeadBudgets$Commitments" "paid" "[I", Cond.fieldLink RX1 21 "HeadBudgets$Commitments" "year" "[I", Cond.fieldLink RX1 30 "HeadBudgets$Commitments" "made" "I", Cond.methodLink RX5 27 yX3_add, Cond.instanceMethod yX3_add, Cond.selects RX3 yX3_add yX3_add, Cond.code yX3_add cX3_add 4 (some .int), Cond.methodLink RX3 52 yX3_has]
def wsX5_make : List Cond := .code yX5_make cX5_make 4 (some .int) :: ((wsX5_make_r1 ++ (wsX5_make_r2 ++ (wsX5_make_r3 ++ wsX5_make_r4))) ++ wsX50 ++ wsX00 ++ wsX30 ++ wsX40 ++ wsX20 ++ wsX10)
def wsX5_isAmount : List Cond := .code yX5_isAmount cX5_isAmount 1 (some .boolean) :: ([.constant RX5 222 (100000)])
def wsX5_allot_r1 : List Cond := [Cond.fieldLink RX5 10 "HeadBudgets" "now" "LHeadBudgets$Books;", Cond.fieldLink RX5 23 "HeadBudgets$Books" "heads" "LHeadBudgets$Heads;", Cond.fieldLink RX5 52 "HeadBudgets$Heads" "allotment" "[I", Cond.constant RX5 55 (1000000), Cond.fieldLink RX5 19 "HeadBudgets" "memory" "LHeadBudgets$Memory;", Cond.fieldLink RX5 56 "HeadBudgets$Heads" "allotted" "[I", Cond.methodLink RX5 33 yX3_has, Cond.instanceMethod yX3_has, Cond.selects RX3 yX3_has yX3_has, Cond.initialized RX3, Cond.code yX3_has cX3_has 2 (some .boolean), Cond.fieldLink RX3 48 "HeadBudgets$Heads" "made" "I", Cond.methodLink RX5 49 yX5_isAmount, Cond.static yX5_isAmount, Cond.initialized RX5, Cond.code yX5_isAmount cX5_isAmount 1 (some .boolean), Cond.constant RX5 222 (100000), Cond.methodLink RX5 45 yX4_remember, Cond.instanceMethod yX4_remember, Cond.selects RX4 yX4_remember yX4_remember, Cond.initialized RX4, Cond.code yX4_remember cX4_remember 3 none, Cond.methodLink RX4 31 yX4_rememberWith, Cond.instanceMethod yX4_rememberWith]
def wsX5_allot_r2 : List Cond := [Cond.selects RX4 yX4_rememberWith yX4_rememberWith, Cond.code yX4_rememberWith cX4_rememberWith 7 none, Cond.fieldLink RX4 18 "HeadBudgets$Memory" "held" "I", Cond.fieldLink RX4 22 "HeadBudgets$Memory" "oldest" "I", Cond.fieldLink RX4 35 "HeadBudgets$Memory" "latestNumber" "I", Cond.fieldLink RX4 42 "HeadBudgets$Deed" "before" "LHeadBudgets$Books;", Cond.fieldLink RX4 52 "HeadBudgets$Deed" "number" "I", Cond.fieldLink RX4 55 "HeadBudgets$Deed" "kind" "I", Cond.fieldLink RX4 58 "HeadBudgets$Deed" "subject" "I", Cond.fieldLink RX4 61 "HeadBudgets$Deed" "taker" "I", Cond.fieldLink RX4 64 "HeadBudgets$Deed" "amount" "I", Cond.methodLink RX4 25 yJ9_floorMod_7cf53, Cond.static yJ9_floorMod_7cf53, Cond.initialized RJ9, Cond.code yJ9_floorMod_7cf53 cJ9_floorMod_7cf53 3 (some .int), Cond.methodLink RX4 38 yX4_recall, Cond.instanceMethod yX4_recall, Cond.selects RX4 yX4_recall yX4_recall, Cond.code yX4_recall cX4_recall 2 (some (.object "HeadBudgets$Deed")), Cond.fieldLink RX4 11 "HeadBudgets$Memory" "places" "[LHeadBudgets$Deed;", Cond.methodLink RX4 46 yX0_copyFrom, Cond.instanceMethod yX0_copyFrom, Cond.selects RX0 yX0_copyFrom yX0_copyFrom, Cond.initialized RX0]
def wsX5_allot_r3 : List Cond := [Cond.code yX0_copyFrom cX0_copyFrom 2 none, Cond.fieldLink RX0 12 "HeadBudgets$Books" "heads" "LHeadBudgets$Heads;", Cond.fieldLink RX0 21 "HeadBudgets$Books" "commitments" "LHeadBudgets$Commitments;", Cond.fieldLink RX0 36 "HeadBudgets$Books" "year" "I", Cond.fieldLink RX0 25 "HeadBudgets$Books" "carriedPart" "I", Cond.fieldLink RX0 39 "HeadBudgets$Books" "lapsed" "I", Cond.fieldLink RX0 42 "HeadBudgets$Books" "spent" "I", Cond.methodLink RX0 29 yX3_copyFrom, Cond.instanceMethod yX3_copyFrom, Cond.selects RX3 yX3_copyFrom yX3_copyFrom, Cond.code yX3_copyFrom cX3_copyFrom 2 none, Cond.fieldLink RX3 9 "HeadBudgets$Heads" "above" "[I", Cond.methodLink RX3 42 arraycopyName, Cond.native arraycopyName, Cond.static arraycopyName, Cond.initialized "java/lang/System", Cond.fieldLink RX3 15 "HeadBudgets$Heads" "depth" "[I", Cond.fieldLink RX3 18 "HeadBudgets$Heads" "rank" "[I", Cond.fieldLink RX3 21 "HeadBudgets$Heads" "frozen" "[I", Cond.fieldLink RX3 24 "HeadBudgets$Heads" "allotment" "[I", Cond.fieldLink RX3 27 "HeadBudgets$Heads" "committed" "[I", Cond.fieldLink RX3 30 "HeadBudgets$Heads" "spent" "[I", Cond.fieldLink RX3 33 "HeadBudgets$Heads" "allotted" "[I", Cond.fieldLink RX3 36 "HeadBudgets$Heads" "left" "[I"]
def wsX5_allot_r4 : List Cond := [Cond.fieldLink RX3 39 "HeadBudgets$Heads" "share" "[I", Cond.methodLink RX0 33 yX1_copyFrom, Cond.instanceMethod yX1_copyFrom, Cond.selects RX1 yX1_copyFrom yX1_copyFrom, Cond.initialized RX1, Cond.code yX1_copyFrom cX1_copyFrom 2 none, Cond.fieldLink RX1 9 "HeadBudgets$Commitments" "head" "[I", Cond.methodLink RX1 24 arraycopyName, Cond.fieldLink RX1 15 "HeadBudgets$Commitments" "open" "[I", Cond.fieldLink RX1 18 "HeadBudgets$Commitments" "paid" "[I", Cond.fieldLink RX1 21 "HeadBudgets$Commitments" "year" "[I", Cond.fieldLink RX1 30 "HeadBudgets$Commitments" "made" "I"]
def wsX5_allot : List Cond := .code yX5_allot cX5_allot 4 (some .int) :: ((wsX5_allot_r1 ++ (wsX5_allot_r2 ++ (wsX5_allot_r3 ++ wsX5_allot_r4))) ++ wsX50 ++ wsX00 ++ wsX30 ++ wsX40 ++ wsX20 ++ wsX10)
def wsX5_freeze_r1 : List Cond := [Cond.fieldLink RX5 10 "HeadBudgets" "now" "LHeadBudgets$Books;", Cond.fieldLink RX5 23 "HeadBudgets$Books" "heads" "LHeadBudgets$Heads;", Cond.fieldLink RX5 59 "HeadBudgets$Heads" "frozen" "[I", Cond.fieldLink RX5 19 "HeadBudgets" "memory" "LHeadBudgets$Memory;", Cond.methodLink RX5 33 yX3_has, Cond.instanceMethod yX3_has, Cond.selects RX3 yX3_has yX3_has, Cond.initialized RX3, Cond.code yX3_has cX3_has 2 (some .boolean), Cond.fieldLink RX3 48 "HeadBudgets$Heads" "made" "I", Cond.methodLink RX5 45 yX4_remember, Cond.instanceMethod yX4_remember, Cond.selects RX4 yX4_remember yX4_remember, Cond.initialized RX4, Cond.code yX4_remember cX4_remember 3 none, Cond.methodLink RX4 31 yX4_rememberWith, Cond.instanceMethod yX4_rememberWith, Cond.selects RX4 yX4_rememberWith yX4_rememberWith, Cond.code yX4_rememberWith cX4_rememberWith 7 none, Cond.fieldLink RX4 18 "HeadBudgets$Memory" "held" "I", Cond.fieldLink RX4 22 "HeadBudgets$Memory" "oldest" "I", Cond.fieldLink RX4 35 "HeadBudgets$Memory" "latestNumber" "I", Cond.fieldLink RX4 42 "HeadBudgets$Deed" "before" "LHeadBudgets$Books;", Cond.fieldLink RX4 52 "HeadBudgets$Deed" "number" "I"]
def wsX5_freeze_r2 : List Cond := [Cond.fieldLink RX4 55 "HeadBudgets$Deed" "kind" "I", Cond.fieldLink RX4 58 "HeadBudgets$Deed" "subject" "I", Cond.fieldLink RX4 61 "HeadBudgets$Deed" "taker" "I", Cond.fieldLink RX4 64 "HeadBudgets$Deed" "amount" "I", Cond.methodLink RX4 25 yJ9_floorMod_7cf53, Cond.static yJ9_floorMod_7cf53, Cond.initialized RJ9, Cond.code yJ9_floorMod_7cf53 cJ9_floorMod_7cf53 3 (some .int), Cond.methodLink RX4 38 yX4_recall, Cond.instanceMethod yX4_recall, Cond.selects RX4 yX4_recall yX4_recall, Cond.code yX4_recall cX4_recall 2 (some (.object "HeadBudgets$Deed")), Cond.fieldLink RX4 11 "HeadBudgets$Memory" "places" "[LHeadBudgets$Deed;", Cond.methodLink RX4 46 yX0_copyFrom, Cond.instanceMethod yX0_copyFrom, Cond.selects RX0 yX0_copyFrom yX0_copyFrom, Cond.initialized RX0, Cond.code yX0_copyFrom cX0_copyFrom 2 none, Cond.fieldLink RX0 12 "HeadBudgets$Books" "heads" "LHeadBudgets$Heads;", Cond.fieldLink RX0 21 "HeadBudgets$Books" "commitments" "LHeadBudgets$Commitments;", Cond.fieldLink RX0 36 "HeadBudgets$Books" "year" "I", Cond.fieldLink RX0 25 "HeadBudgets$Books" "carriedPart" "I", Cond.fieldLink RX0 39 "HeadBudgets$Books" "lapsed" "I", Cond.fieldLink RX0 42 "HeadBudgets$Books" "spent" "I"]
def wsX5_freeze_r3 : List Cond := [Cond.methodLink RX0 29 yX3_copyFrom, Cond.instanceMethod yX3_copyFrom, Cond.selects RX3 yX3_copyFrom yX3_copyFrom, Cond.code yX3_copyFrom cX3_copyFrom 2 none, Cond.fieldLink RX3 9 "HeadBudgets$Heads" "above" "[I", Cond.methodLink RX3 42 arraycopyName, Cond.native arraycopyName, Cond.static arraycopyName, Cond.initialized "java/lang/System", Cond.fieldLink RX3 15 "HeadBudgets$Heads" "depth" "[I", Cond.fieldLink RX3 18 "HeadBudgets$Heads" "rank" "[I", Cond.fieldLink RX3 21 "HeadBudgets$Heads" "frozen" "[I", Cond.fieldLink RX3 24 "HeadBudgets$Heads" "allotment" "[I", Cond.fieldLink RX3 27 "HeadBudgets$Heads" "committed" "[I", Cond.fieldLink RX3 30 "HeadBudgets$Heads" "spent" "[I", Cond.fieldLink RX3 33 "HeadBudgets$Heads" "allotted" "[I", Cond.fieldLink RX3 36 "HeadBudgets$Heads" "left" "[I", Cond.fieldLink RX3 39 "HeadBudgets$Heads" "share" "[I", Cond.methodLink RX0 33 yX1_copyFrom, Cond.instanceMethod yX1_copyFrom, Cond.selects RX1 yX1_copyFrom yX1_copyFrom, Cond.initialized RX1, Cond.code yX1_copyFrom cX1_copyFrom 2 none, Cond.fieldLink RX1 9 "HeadBudgets$Commitments" "head" "[I"]
def wsX5_freeze_r4 : List Cond := [Cond.methodLink RX1 24 arraycopyName, Cond.fieldLink RX1 15 "HeadBudgets$Commitments" "open" "[I", Cond.fieldLink RX1 18 "HeadBudgets$Commitments" "paid" "[I", Cond.fieldLink RX1 21 "HeadBudgets$Commitments" "year" "[I", Cond.fieldLink RX1 30 "HeadBudgets$Commitments" "made" "I", Cond.methodLink RX5 62 yX3_countBarred, Cond.instanceMethod yX3_countBarred, Cond.selects RX3 yX3_countBarred yX3_countBarred, Cond.code yX3_countBarred cX3_countBarred 3 (some .int), Cond.methodLink RX3 56 yX3_isBarred, Cond.instanceMethod yX3_isBarred, Cond.selects RX3 yX3_isBarred yX3_isBarred, Cond.code yX3_isBarred cX3_isBarred 4 (some .boolean), Cond.methodLink RX3 52 yX3_has]
def wsX5_freeze : List Cond := .code yX5_freeze cX5_freeze 4 (some .int) :: ((wsX5_freeze_r1 ++ (wsX5_freeze_r2 ++ (wsX5_freeze_r3 ++ wsX5_freeze_r4))) ++ wsX50 ++ wsX00 ++ wsX30 ++ wsX40 ++ wsX20 ++ wsX10)
def wsX5_isPercentage : List Cond := .code yX5_isPercentage cX5_isPercentage 1 (some .boolean) :: ([])
def wsX5_setShare_r1 : List Cond := [Cond.fieldLink RX5 10 "HeadBudgets" "now" "LHeadBudgets$Books;", Cond.fieldLink RX5 23 "HeadBudgets$Books" "heads" "LHeadBudgets$Heads;", Cond.fieldLink RX5 19 "HeadBudgets" "memory" "LHeadBudgets$Memory;", Cond.fieldLink RX5 69 "HeadBudgets$Heads" "share" "[I", Cond.methodLink RX5 33 yX3_has, Cond.instanceMethod yX3_has, Cond.selects RX3 yX3_has yX3_has, Cond.initialized RX3, Cond.code yX3_has cX3_has 2 (some .boolean), Cond.fieldLink RX3 48 "HeadBudgets$Heads" "made" "I", Cond.methodLink RX5 66 yX5_isPercentage, Cond.static yX5_isPercentage, Cond.initialized RX5, Cond.code yX5_isPercentage cX5_isPercentage 1 (some .boolean), Cond.methodLink RX5 45 yX4_remember, Cond.instanceMethod yX4_remember, Cond.selects RX4 yX4_remember yX4_remember, Cond.initialized RX4, Cond.code yX4_remember cX4_remember 3 none, Cond.methodLink RX4 31 yX4_rememberWith, Cond.instanceMethod yX4_rememberWith, Cond.selects RX4 yX4_rememberWith yX4_rememberWith, Cond.code yX4_rememberWith cX4_rememberWith 7 none, Cond.fieldLink RX4 18 "HeadBudgets$Memory" "held" "I"]
def wsX5_setShare_r2 : List Cond := [Cond.fieldLink RX4 22 "HeadBudgets$Memory" "oldest" "I", Cond.fieldLink RX4 35 "HeadBudgets$Memory" "latestNumber" "I", Cond.fieldLink RX4 42 "HeadBudgets$Deed" "before" "LHeadBudgets$Books;", Cond.fieldLink RX4 52 "HeadBudgets$Deed" "number" "I", Cond.fieldLink RX4 55 "HeadBudgets$Deed" "kind" "I", Cond.fieldLink RX4 58 "HeadBudgets$Deed" "subject" "I", Cond.fieldLink RX4 61 "HeadBudgets$Deed" "taker" "I", Cond.fieldLink RX4 64 "HeadBudgets$Deed" "amount" "I", Cond.methodLink RX4 25 yJ9_floorMod_7cf53, Cond.static yJ9_floorMod_7cf53, Cond.initialized RJ9, Cond.code yJ9_floorMod_7cf53 cJ9_floorMod_7cf53 3 (some .int), Cond.methodLink RX4 38 yX4_recall, Cond.instanceMethod yX4_recall, Cond.selects RX4 yX4_recall yX4_recall, Cond.code yX4_recall cX4_recall 2 (some (.object "HeadBudgets$Deed")), Cond.fieldLink RX4 11 "HeadBudgets$Memory" "places" "[LHeadBudgets$Deed;", Cond.methodLink RX4 46 yX0_copyFrom, Cond.instanceMethod yX0_copyFrom, Cond.selects RX0 yX0_copyFrom yX0_copyFrom, Cond.initialized RX0, Cond.code yX0_copyFrom cX0_copyFrom 2 none, Cond.fieldLink RX0 12 "HeadBudgets$Books" "heads" "LHeadBudgets$Heads;", Cond.fieldLink RX0 21 "HeadBudgets$Books" "commitments" "LHeadBudgets$Commitments;"]
def wsX5_setShare_r3 : List Cond := [Cond.fieldLink RX0 36 "HeadBudgets$Books" "year" "I", Cond.fieldLink RX0 25 "HeadBudgets$Books" "carriedPart" "I", Cond.fieldLink RX0 39 "HeadBudgets$Books" "lapsed" "I", Cond.fieldLink RX0 42 "HeadBudgets$Books" "spent" "I", Cond.methodLink RX0 29 yX3_copyFrom, Cond.instanceMethod yX3_copyFrom, Cond.selects RX3 yX3_copyFrom yX3_copyFrom, Cond.code yX3_copyFrom cX3_copyFrom 2 none, Cond.fieldLink RX3 9 "HeadBudgets$Heads" "above" "[I", Cond.methodLink RX3 42 arraycopyName, Cond.native arraycopyName, Cond.static arraycopyName, Cond.initialized "java/lang/System", Cond.fieldLink RX3 15 "HeadBudgets$Heads" "depth" "[I", Cond.fieldLink RX3 18 "HeadBudgets$Heads" "rank" "[I", Cond.fieldLink RX3 21 "HeadBudgets$Heads" "frozen" "[I", Cond.fieldLink RX3 24 "HeadBudgets$Heads" "allotment" "[I", Cond.fieldLink RX3 27 "HeadBudgets$Heads" "committed" "[I", Cond.fieldLink RX3 30 "HeadBudgets$Heads" "spent" "[I", Cond.fieldLink RX3 33 "HeadBudgets$Heads" "allotted" "[I", Cond.fieldLink RX3 36 "HeadBudgets$Heads" "left" "[I", Cond.fieldLink RX3 39 "HeadBudgets$Heads" "share" "[I", Cond.methodLink RX0 33 yX1_copyFrom, Cond.instanceMethod yX1_copyFrom]
def wsX5_setShare_r4 : List Cond := [Cond.selects RX1 yX1_copyFrom yX1_copyFrom, Cond.initialized RX1, Cond.code yX1_copyFrom cX1_copyFrom 2 none, Cond.fieldLink RX1 9 "HeadBudgets$Commitments" "head" "[I", Cond.methodLink RX1 24 arraycopyName, Cond.fieldLink RX1 15 "HeadBudgets$Commitments" "open" "[I", Cond.fieldLink RX1 18 "HeadBudgets$Commitments" "paid" "[I", Cond.fieldLink RX1 21 "HeadBudgets$Commitments" "year" "[I", Cond.fieldLink RX1 30 "HeadBudgets$Commitments" "made" "I"]
def wsX5_setShare : List Cond := .code yX5_setShare cX5_setShare 5 (some .int) :: ((wsX5_setShare_r1 ++ (wsX5_setShare_r2 ++ (wsX5_setShare_r3 ++ wsX5_setShare_r4))) ++ wsX50 ++ wsX00 ++ wsX30 ++ wsX40 ++ wsX20 ++ wsX10)
def wsX5_setCarried_r1 : List Cond := [Cond.fieldLink RX5 19 "HeadBudgets" "memory" "LHeadBudgets$Memory;", Cond.fieldLink RX5 10 "HeadBudgets" "now" "LHeadBudgets$Books;", Cond.fieldLink RX5 72 "HeadBudgets$Books" "carriedPart" "I", Cond.methodLink RX5 66 yX5_isPercentage, Cond.static yX5_isPercentage, Cond.initialized RX5, Cond.code yX5_isPercentage cX5_isPercentage 1 (some .boolean), Cond.methodLink RX5 45 yX4_remember, Cond.instanceMethod yX4_remember, Cond.selects RX4 yX4_remember yX4_remember, Cond.initialized RX4, Cond.code yX4_remember cX4_remember 3 none, Cond.methodLink RX4 31 yX4_rememberWith, Cond.instanceMethod yX4_rememberWith, Cond.selects RX4 yX4_rememberWith yX4_rememberWith, Cond.code yX4_rememberWith cX4_rememberWith 7 none, Cond.fieldLink RX4 18 "HeadBudgets$Memory" "held" "I", Cond.fieldLink RX4 22 "HeadBudgets$Memory" "oldest" "I", Cond.fieldLink RX4 35 "HeadBudgets$Memory" "latestNumber" "I", Cond.fieldLink RX4 42 "HeadBudgets$Deed" "before" "LHeadBudgets$Books;", Cond.fieldLink RX4 52 "HeadBudgets$Deed" "number" "I", Cond.fieldLink RX4 55 "HeadBudgets$Deed" "kind" "I", Cond.fieldLink RX4 58 "HeadBudgets$Deed" "subject" "I", Cond.fieldLink RX4 61 "HeadBudgets$Deed" "taker" "I"]
def wsX5_setCarried_r2 : List Cond := [Cond.fieldLink RX4 64 "HeadBudgets$Deed" "amount" "I", Cond.methodLink RX4 25 yJ9_floorMod_7cf53, Cond.static yJ9_floorMod_7cf53, Cond.initialized RJ9, Cond.code yJ9_floorMod_7cf53 cJ9_floorMod_7cf53 3 (some .int), Cond.methodLink RX4 38 yX4_recall, Cond.instanceMethod yX4_recall, Cond.selects RX4 yX4_recall yX4_recall, Cond.code yX4_recall cX4_recall 2 (some (.object "HeadBudgets$Deed")), Cond.fieldLink RX4 11 "HeadBudgets$Memory" "places" "[LHeadBudgets$Deed;", Cond.methodLink RX4 46 yX0_copyFrom, Cond.instanceMethod yX0_copyFrom, Cond.selects RX0 yX0_copyFrom yX0_copyFrom, Cond.initialized RX0, Cond.code yX0_copyFrom cX0_copyFrom 2 none, Cond.fieldLink RX0 12 "HeadBudgets$Books" "heads" "LHeadBudgets$Heads;", Cond.fieldLink RX0 21 "HeadBudgets$Books" "commitments" "LHeadBudgets$Commitments;", Cond.fieldLink RX0 36 "HeadBudgets$Books" "year" "I", Cond.fieldLink RX0 25 "HeadBudgets$Books" "carriedPart" "I", Cond.fieldLink RX0 39 "HeadBudgets$Books" "lapsed" "I", Cond.fieldLink RX0 42 "HeadBudgets$Books" "spent" "I", Cond.methodLink RX0 29 yX3_copyFrom, Cond.instanceMethod yX3_copyFrom, Cond.selects RX3 yX3_copyFrom yX3_copyFrom]
def wsX5_setCarried_r3 : List Cond := [Cond.initialized RX3, Cond.code yX3_copyFrom cX3_copyFrom 2 none, Cond.fieldLink RX3 9 "HeadBudgets$Heads" "above" "[I", Cond.methodLink RX3 42 arraycopyName, Cond.native arraycopyName, Cond.static arraycopyName, Cond.initialized "java/lang/System", Cond.fieldLink RX3 15 "HeadBudgets$Heads" "depth" "[I", Cond.fieldLink RX3 18 "HeadBudgets$Heads" "rank" "[I", Cond.fieldLink RX3 21 "HeadBudgets$Heads" "frozen" "[I", Cond.fieldLink RX3 24 "HeadBudgets$Heads" "allotment" "[I", Cond.fieldLink RX3 27 "HeadBudgets$Heads" "committed" "[I", Cond.fieldLink RX3 30 "HeadBudgets$Heads" "spent" "[I", Cond.fieldLink RX3 33 "HeadBudgets$Heads" "allotted" "[I", Cond.fieldLink RX3 36 "HeadBudgets$Heads" "left" "[I", Cond.fieldLink RX3 39 "HeadBudgets$Heads" "share" "[I", Cond.fieldLink RX3 48 "HeadBudgets$Heads" "made" "I", Cond.methodLink RX0 33 yX1_copyFrom, Cond.instanceMethod yX1_copyFrom, Cond.selects RX1 yX1_copyFrom yX1_copyFrom, Cond.initialized RX1, Cond.code yX1_copyFrom cX1_copyFrom 2 none, Cond.fieldLink RX1 9 "HeadBudgets$Commitments" "head" "[I", Cond.methodLink RX1 24 arraycopyName]
def wsX5_setCarried_r4 : List Cond := [Cond.fieldLink RX1 15 "HeadBudgets$Commitments" "open" "[I", Cond.fieldLink RX1 18 "HeadBudgets$Commitments" "paid" "[I", Cond.fieldLink RX1 21 "HeadBudgets$Commitments" "year" "[I", Cond.fieldLink RX1 30 "HeadBudgets$Commitments" "made" "I"]
def wsX5_setCarried : List Cond := .code yX5_setCarried cX5_setCarried 3 (some .int) :: ((wsX5_setCarried_r1 ++ (wsX5_setCarried_r2 ++ (wsX5_setCarried_r3 ++ wsX5_setCarried_r4))) ++ wsX50 ++ wsX00 ++ wsX40 ++ wsX20 ++ wsX30 ++ wsX10)
def wsX5_commit_r1 : List Cond := [Cond.fieldLink RX5 10 "HeadBudgets" "now" "LHeadBudgets$Books;", Cond.fieldLink RX5 23 "HeadBudgets$Books" "heads" "LHeadBudgets$Heads;", Cond.fieldLink RX5 82 "HeadBudgets$Books" "commitments" "LHeadBudgets$Commitments;", Cond.fieldLink RX5 86 "HeadBudgets$Commitments" "made" "I", Cond.fieldLink RX5 19 "HeadBudgets" "memory" "LHeadBudgets$Memory;", Cond.fieldLink RX5 97 "HeadBudgets$Books" "year" "I", Cond.methodLink RX5 33 yX3_has, Cond.instanceMethod yX3_has, Cond.selects RX3 yX3_has yX3_has, Cond.initialized RX3, Cond.code yX3_has cX3_has 2 (some .boolean), Cond.fieldLink RX3 48 "HeadBudgets$Heads" "made" "I", Cond.methodLink RX5 49 yX5_isAmount, Cond.static yX5_isAmount, Cond.initialized RX5, Cond.code yX5_isAmount cX5_isAmount 1 (some .boolean), Cond.constant RX5 222 (100000), Cond.methodLink RX5 75 yX3_isBarred, Cond.instanceMethod yX3_isBarred, Cond.selects RX3 yX3_isBarred yX3_isBarred, Cond.code yX3_isBarred cX3_isBarred 4 (some .boolean), Cond.fieldLink RX3 21 "HeadBudgets$Heads" "frozen" "[I", Cond.fieldLink RX3 9 "HeadBudgets$Heads" "above" "[I", Cond.methodLink RX3 52 yX3_has]
def wsX5_commit_r2 : List Cond := [Cond.methodLink RX5 78 yX3_freeOf, Cond.instanceMethod yX3_freeOf, Cond.selects RX3 yX3_freeOf yX3_freeOf, Cond.code yX3_freeOf cX3_freeOf 2 (some .int), Cond.fieldLink RX3 24 "HeadBudgets$Heads" "allotment" "[I", Cond.fieldLink RX3 27 "HeadBudgets$Heads" "committed" "[I", Cond.fieldLink RX3 30 "HeadBudgets$Heads" "spent" "[I", Cond.methodLink RX5 89 yX4_rememberCommitment, Cond.instanceMethod yX4_rememberCommitment, Cond.selects RX4 yX4_rememberCommitment yX4_rememberCommitment, Cond.initialized RX4, Cond.code yX4_rememberCommitment cX4_rememberCommitment 3 none, Cond.methodLink RX4 31 yX4_rememberWith, Cond.instanceMethod yX4_rememberWith, Cond.selects RX4 yX4_rememberWith yX4_rememberWith, Cond.code yX4_rememberWith cX4_rememberWith 7 none, Cond.fieldLink RX4 18 "HeadBudgets$Memory" "held" "I", Cond.fieldLink RX4 22 "HeadBudgets$Memory" "oldest" "I", Cond.fieldLink RX4 35 "HeadBudgets$Memory" "latestNumber" "I", Cond.fieldLink RX4 42 "HeadBudgets$Deed" "before" "LHeadBudgets$Books;", Cond.fieldLink RX4 52 "HeadBudgets$Deed" "number" "I", Cond.fieldLink RX4 55 "HeadBudgets$Deed" "kind" "I", Cond.fieldLink RX4 58 "HeadBudgets$Deed" "subject" "I", Cond.fieldLink RX4 61 "HeadBudgets$Deed" "taker" "I"]
def wsX5_commit_r3 : List Cond := [Cond.fieldLink RX4 64 "HeadBudgets$Deed" "amount" "I", Cond.methodLink RX4 25 yJ9_floorMod_7cf53, Cond.static yJ9_floorMod_7cf53, Cond.initialized RJ9, Cond.code yJ9_floorMod_7cf53 cJ9_floorMod_7cf53 3 (some .int), Cond.methodLink RX4 38 yX4_recall, Cond.instanceMethod yX4_recall, Cond.selects RX4 yX4_recall yX4_recall, Cond.code yX4_recall cX4_recall 2 (some (.object "HeadBudgets$Deed")), Cond.fieldLink RX4 11 "HeadBudgets$Memory" "places" "[LHeadBudgets$Deed;", Cond.methodLink RX4 46 yX0_copyFrom, Cond.instanceMethod yX0_copyFrom, Cond.selects RX0 yX0_copyFrom yX0_copyFrom, Cond.initialized RX0, Cond.code yX0_copyFrom cX0_copyFrom 2 none, Cond.fieldLink RX0 12 "HeadBudgets$Books" "heads" "LHeadBudgets$Heads;", Cond.fieldLink RX0 21 "HeadBudgets$Books" "commitments" "LHeadBudgets$Commitments;", Cond.fieldLink RX0 36 "HeadBudgets$Books" "year" "I", Cond.fieldLink RX0 25 "HeadBudgets$Books" "carriedPart" "I", Cond.fieldLink RX0 39 "HeadBudgets$Books" "lapsed" "I", Cond.fieldLink RX0 42 "HeadBudgets$Books" "spent" "I", Cond.methodLink RX0 29 yX3_copyFrom, Cond.instanceMethod yX3_copyFrom, Cond.selects RX3 yX3_copyFrom yX3_copyFrom]
def wsX5_commit_r4 : List Cond := [Cond.code yX3_copyFrom cX3_copyFrom 2 none, Cond.methodLink RX3 42 arraycopyName, Cond.native arraycopyName, Cond.static arraycopyName, Cond.initialized "java/lang/System", Cond.fieldLink RX3 15 "HeadBudgets$Heads" "depth" "[I", Cond.fieldLink RX3 18 "HeadBudgets$Heads" "rank" "[I", Cond.fieldLink RX3 33 "HeadBudgets$Heads" "allotted" "[I", Cond.fieldLink RX3 36 "HeadBudgets$Heads" "left" "[I", Cond.fieldLink RX3 39 "HeadBudgets$Heads" "share" "[I", Cond.methodLink RX0 33 yX1_copyFrom, Cond.instanceMethod yX1_copyFrom, Cond.selects RX1 yX1_copyFrom yX1_copyFrom, Cond.initialized RX1, Cond.code yX1_copyFrom cX1_copyFrom 2 none, Cond.fieldLink RX1 9 "HeadBudgets$Commitments" "head" "[I", Cond.methodLink RX1 24 arraycopyName, Cond.fieldLink RX1 15 "HeadBudgets$Commitments" "open" "[I", Cond.fieldLink RX1 18 "HeadBudgets$Commitments" "paid" "[I", Cond.fieldLink RX1 21 "HeadBudgets$Commitments" "year" "[I", Cond.fieldLink RX1 30 "HeadBudgets$Commitments" "made" "I", Cond.methodLink RX5 93 yX3_changeCommitted, Cond.instanceMethod yX3_changeCommitted, Cond.selects RX3 yX3_changeCommitted yX3_changeCommitted]
def wsX5_commit_r5 : List Cond := [Cond.code yX3_changeCommitted cX3_changeCommitted 3 none, Cond.methodLink RX5 100 yX1_add, Cond.instanceMethod yX1_add, Cond.selects RX1 yX1_add yX1_add, Cond.code yX1_add cX1_add 5 (some .int)]
def wsX5_commit : List Cond := .code yX5_commit cX5_commit 4 (some .int) :: ((wsX5_commit_r1 ++ (wsX5_commit_r2 ++ (wsX5_commit_r3 ++ (wsX5_commit_r4 ++ wsX5_commit_r5)))) ++ wsX50 ++ wsX00 ++ wsX10 ++ wsX30 ++ wsX40 ++ wsX20)
def wsX5_pay_r1 : List Cond := [Cond.fieldLink RX5 10 "HeadBudgets" "now" "LHeadBudgets$Books;", Cond.fieldLink RX5 82 "HeadBudgets$Books" "commitments" "LHeadBudgets$Commitments;", Cond.fieldLink RX5 104 "HeadBudgets$Commitments" "open" "[I", Cond.fieldLink RX5 19 "HeadBudgets" "memory" "LHeadBudgets$Memory;", Cond.fieldLink RX5 107 "HeadBudgets$Commitments" "paid" "[I", Cond.fieldLink RX5 23 "HeadBudgets$Books" "heads" "LHeadBudgets$Heads;", Cond.fieldLink RX5 110 "HeadBudgets$Commitments" "head" "[I", Cond.fieldLink RX5 116 "HeadBudgets$Books" "spent" "I", Cond.methodLink RX5 103 yX1_has, Cond.instanceMethod yX1_has, Cond.selects RX1 yX1_has yX1_has, Cond.initialized RX1, Cond.code yX1_has cX1_has 2 (some .boolean), Cond.fieldLink RX1 30 "HeadBudgets$Commitments" "made" "I", Cond.methodLink RX5 49 yX5_isAmount, Cond.static yX5_isAmount, Cond.initialized RX5, Cond.code yX5_isAmount cX5_isAmount 1 (some .boolean), Cond.constant RX5 222 (100000), Cond.methodLink RX5 45 yX4_remember, Cond.instanceMethod yX4_remember, Cond.selects RX4 yX4_remember yX4_remember, Cond.initialized RX4, Cond.code yX4_remember cX4_remember 3 none]
def wsX5_pay_r2 : List Cond := [Cond.methodLink RX4 31 yX4_rememberWith, Cond.instanceMethod yX4_rememberWith, Cond.selects RX4 yX4_rememberWith yX4_rememberWith, Cond.code yX4_rememberWith cX4_rememberWith 7 none, Cond.fieldLink RX4 18 "HeadBudgets$Memory" "held" "I", Cond.fieldLink RX4 22 "HeadBudgets$Memory" "oldest" "I", Cond.fieldLink RX4 35 "HeadBudgets$Memory" "latestNumber" "I", Cond.fieldLink RX4 42 "HeadBudgets$Deed" "before" "LHeadBudgets$Books;", Cond.fieldLink RX4 52 "HeadBudgets$Deed" "number" "I", Cond.fieldLink RX4 55 "HeadBudgets$Deed" "kind" "I", Cond.fieldLink RX4 58 "HeadBudgets$Deed" "subject" "I", Cond.fieldLink RX4 61 "HeadBudgets$Deed" "taker" "I", Cond.fieldLink RX4 64 "HeadBudgets$Deed" "amount" "I", Cond.methodLink RX4 25 yJ9_floorMod_7cf53, Cond.static yJ9_floorMod_7cf53, Cond.initialized RJ9, Cond.code yJ9_floorMod_7cf53 cJ9_floorMod_7cf53 3 (some .int), Cond.methodLink RX4 38 yX4_recall, Cond.instanceMethod yX4_recall, Cond.selects RX4 yX4_recall yX4_recall, Cond.code yX4_recall cX4_recall 2 (some (.object "HeadBudgets$Deed")), Cond.fieldLink RX4 11 "HeadBudgets$Memory" "places" "[LHeadBudgets$Deed;", Cond.methodLink RX4 46 yX0_copyFrom, Cond.instanceMethod yX0_copyFrom]
def wsX5_pay_r3 : List Cond := [Cond.selects RX0 yX0_copyFrom yX0_copyFrom, Cond.initialized RX0, Cond.code yX0_copyFrom cX0_copyFrom 2 none, Cond.fieldLink RX0 12 "HeadBudgets$Books" "heads" "LHeadBudgets$Heads;", Cond.fieldLink RX0 21 "HeadBudgets$Books" "commitments" "LHeadBudgets$Commitments;", Cond.fieldLink RX0 36 "HeadBudgets$Books" "year" "I", Cond.fieldLink RX0 25 "HeadBudgets$Books" "carriedPart" "I", Cond.fieldLink RX0 39 "HeadBudgets$Books" "lapsed" "I", Cond.fieldLink RX0 42 "HeadBudgets$Books" "spent" "I", Cond.methodLink RX0 29 yX3_copyFrom, Cond.instanceMethod yX3_copyFrom, Cond.selects RX3 yX3_copyFrom yX3_copyFrom, Cond.initialized RX3, Cond.code yX3_copyFrom cX3_copyFrom 2 none, Cond.fieldLink RX3 9 "HeadBudgets$Heads" "above" "[I", Cond.methodLink RX3 42 arraycopyName, Cond.native arraycopyName, Cond.static arraycopyName, Cond.initialized "java/lang/System", Cond.fieldLink RX3 15 "HeadBudgets$Heads" "depth" "[I", Cond.fieldLink RX3 18 "HeadBudgets$Heads" "rank" "[I", Cond.fieldLink RX3 21 "HeadBudgets$Heads" "frozen" "[I", Cond.fieldLink RX3 24 "HeadBudgets$Heads" "allotment" "[I", Cond.fieldLink RX3 27 "HeadBudgets$Heads" "committed" "[I"]
def wsX5_pay_r4 : List Cond := [Cond.fieldLink RX3 30 "HeadBudgets$Heads" "spent" "[I", Cond.fieldLink RX3 33 "HeadBudgets$Heads" "allotted" "[I", Cond.fieldLink RX3 36 "HeadBudgets$Heads" "left" "[I", Cond.fieldLink RX3 39 "HeadBudgets$Heads" "share" "[I", Cond.fieldLink RX3 48 "HeadBudgets$Heads" "made" "I", Cond.methodLink RX0 33 yX1_copyFrom, Cond.instanceMethod yX1_copyFrom, Cond.selects RX1 yX1_copyFrom yX1_copyFrom, Cond.code yX1_copyFrom cX1_copyFrom 2 none, Cond.fieldLink RX1 9 "HeadBudgets$Commitments" "head" "[I", Cond.methodLink RX1 24 arraycopyName, Cond.fieldLink RX1 15 "HeadBudgets$Commitments" "open" "[I", Cond.fieldLink RX1 18 "HeadBudgets$Commitments" "paid" "[I", Cond.fieldLink RX1 21 "HeadBudgets$Commitments" "year" "[I", Cond.methodLink RX5 113 yX3_spendCommitted, Cond.instanceMethod yX3_spendCommitted, Cond.selects RX3 yX3_spendCommitted yX3_spendCommitted, Cond.code yX3_spendCommitted cX3_spendCommitted 3 none, Cond.methodLink RX3 52 yX3_has, Cond.instanceMethod yX3_has, Cond.selects RX3 yX3_has yX3_has, Cond.code yX3_has cX3_has 2 (some .boolean)]
def wsX5_pay : List Cond := .code yX5_pay cX5_pay 4 (some .int) :: ((wsX5_pay_r1 ++ (wsX5_pay_r2 ++ (wsX5_pay_r3 ++ wsX5_pay_r4))) ++ wsX50 ++ wsX00 ++ wsX10 ++ wsX40 ++ wsX20 ++ wsX30)
def wsX5_release_r1 : List Cond := [Cond.fieldLink RX5 10 "HeadBudgets" "now" "LHeadBudgets$Books;", Cond.fieldLink RX5 82 "HeadBudgets$Books" "commitments" "LHeadBudgets$Commitments;", Cond.fieldLink RX5 104 "HeadBudgets$Commitments" "open" "[I", Cond.fieldLink RX5 19 "HeadBudgets" "memory" "LHeadBudgets$Memory;", Cond.methodLink RX5 103 yX1_has, Cond.instanceMethod yX1_has, Cond.selects RX1 yX1_has yX1_has, Cond.initialized RX1, Cond.code yX1_has cX1_has 2 (some .boolean), Cond.fieldLink RX1 30 "HeadBudgets$Commitments" "made" "I", Cond.methodLink RX5 45 yX4_remember, Cond.instanceMethod yX4_remember, Cond.selects RX4 yX4_remember yX4_remember, Cond.initialized RX4, Cond.code yX4_remember cX4_remember 3 none, Cond.methodLink RX4 31 yX4_rememberWith, Cond.instanceMethod yX4_rememberWith, Cond.selects RX4 yX4_rememberWith yX4_rememberWith, Cond.code yX4_rememberWith cX4_rememberWith 7 none, Cond.fieldLink RX4 18 "HeadBudgets$Memory" "held" "I", Cond.fieldLink RX4 22 "HeadBudgets$Memory" "oldest" "I", Cond.fieldLink RX4 35 "HeadBudgets$Memory" "latestNumber" "I", Cond.fieldLink RX4 42 "HeadBudgets$Deed" "before" "LHeadBudgets$Books;", Cond.fieldLink RX4 52 "HeadBudgets$Deed" "number" "I"]
def wsX5_release_r2 : List Cond := [Cond.fieldLink RX4 55 "HeadBudgets$Deed" "kind" "I", Cond.fieldLink RX4 58 "HeadBudgets$Deed" "subject" "I", Cond.fieldLink RX4 61 "HeadBudgets$Deed" "taker" "I", Cond.fieldLink RX4 64 "HeadBudgets$Deed" "amount" "I", Cond.methodLink RX4 25 yJ9_floorMod_7cf53, Cond.static yJ9_floorMod_7cf53, Cond.initialized RJ9, Cond.code yJ9_floorMod_7cf53 cJ9_floorMod_7cf53 3 (some .int), Cond.methodLink RX4 38 yX4_recall, Cond.instanceMethod yX4_recall, Cond.selects RX4 yX4_recall yX4_recall, Cond.code yX4_recall cX4_recall 2 (some (.object "HeadBudgets$Deed")), Cond.fieldLink RX4 11 "HeadBudgets$Memory" "places" "[LHeadBudgets$Deed;", Cond.methodLink RX4 46 yX0_copyFrom, Cond.instanceMethod yX0_copyFrom, Cond.selects RX0 yX0_copyFrom yX0_copyFrom, Cond.initialized RX0, Cond.code yX0_copyFrom cX0_copyFrom 2 none, Cond.fieldLink RX0 12 "HeadBudgets$Books" "heads" "LHeadBudgets$Heads;", Cond.fieldLink RX0 21 "HeadBudgets$Books" "commitments" "LHeadBudgets$Commitments;", Cond.fieldLink RX0 36 "HeadBudgets$Books" "year" "I", Cond.fieldLink RX0 25 "HeadBudgets$Books" "carriedPart" "I", Cond.fieldLink RX0 39 "HeadBudgets$Books" "lapsed" "I", Cond.fieldLink RX0 42 "HeadBudgets$Books" "spent" "I"]
def wsX5_release_r3 : List Cond := [Cond.methodLink RX0 29 yX3_copyFrom, Cond.instanceMethod yX3_copyFrom, Cond.selects RX3 yX3_copyFrom yX3_copyFrom, Cond.initialized RX3, Cond.code yX3_copyFrom cX3_copyFrom 2 none, Cond.fieldLink RX3 9 "HeadBudgets$Heads" "above" "[I", Cond.methodLink RX3 42 arraycopyName, Cond.native arraycopyName, Cond.static arraycopyName, Cond.initialized "java/lang/System", Cond.fieldLink RX3 15 "HeadBudgets$Heads" "depth" "[I", Cond.fieldLink RX3 18 "HeadBudgets$Heads" "rank" "[I", Cond.fieldLink RX3 21 "HeadBudgets$Heads" "frozen" "[I", Cond.fieldLink RX3 24 "HeadBudgets$Heads" "allotment" "[I", Cond.fieldLink RX3 27 "HeadBudgets$Heads" "committed" "[I", Cond.fieldLink RX3 30 "HeadBudgets$Heads" "spent" "[I", Cond.fieldLink RX3 33 "HeadBudgets$Heads" "allotted" "[I", Cond.fieldLink RX3 36 "HeadBudgets$Heads" "left" "[I", Cond.fieldLink RX3 39 "HeadBudgets$Heads" "share" "[I", Cond.fieldLink RX3 48 "HeadBudgets$Heads" "made" "I", Cond.methodLink RX0 33 yX1_copyFrom, Cond.instanceMethod yX1_copyFrom, Cond.selects RX1 yX1_copyFrom yX1_copyFrom, Cond.code yX1_copyFrom cX1_copyFrom 2 none]
def wsX5_release_r4 : List Cond := [Cond.fieldLink RX1 9 "HeadBudgets$Commitments" "head" "[I", Cond.methodLink RX1 24 arraycopyName, Cond.fieldLink RX1 15 "HeadBudgets$Commitments" "open" "[I", Cond.fieldLink RX1 18 "HeadBudgets$Commitments" "paid" "[I", Cond.fieldLink RX1 21 "HeadBudgets$Commitments" "year" "[I", Cond.methodLink RX5 119 yX0_freeOpenOf, Cond.instanceMethod yX0_freeOpenOf, Cond.selects RX0 yX0_freeOpenOf yX0_freeOpenOf, Cond.code yX0_freeOpenOf cX0_freeOpenOf 3 (some .int), Cond.fieldLink RX0 49 "HeadBudgets$Commitments" "open" "[I", Cond.fieldLink RX0 53 "HeadBudgets$Commitments" "head" "[I", Cond.methodLink RX0 45 yX1_has, Cond.methodLink RX0 56 yX3_changeCommitted, Cond.instanceMethod yX3_changeCommitted, Cond.selects RX3 yX3_changeCommitted yX3_changeCommitted, Cond.code yX3_changeCommitted cX3_changeCommitted 3 none, Cond.methodLink RX3 52 yX3_has, Cond.instanceMethod yX3_has, Cond.selects RX3 yX3_has yX3_has, Cond.code yX3_has cX3_has 2 (some .boolean)]
def wsX5_release : List Cond := .code yX5_release cX5_release 2 (some .int) :: ((wsX5_release_r1 ++ (wsX5_release_r2 ++ (wsX5_release_r3 ++ wsX5_release_r4))) ++ wsX50 ++ wsX00 ++ wsX10 ++ wsX40 ++ wsX20 ++ wsX30)
def wsX5_vire_r1 : List Cond := [Cond.fieldLink RX5 10 "HeadBudgets" "now" "LHeadBudgets$Books;", Cond.fieldLink RX5 23 "HeadBudgets$Books" "heads" "LHeadBudgets$Heads;", Cond.fieldLink RX5 19 "HeadBudgets" "memory" "LHeadBudgets$Memory;", Cond.methodLink RX5 122 yX3_hasBoth, Cond.instanceMethod yX3_hasBoth, Cond.selects RX3 yX3_hasBoth yX3_hasBoth, Cond.initialized RX3, Cond.code yX3_hasBoth cX3_hasBoth 3 (some .boolean), Cond.methodLink RX3 52 yX3_has, Cond.instanceMethod yX3_has, Cond.selects RX3 yX3_has yX3_has, Cond.code yX3_has cX3_has 2 (some .boolean), Cond.fieldLink RX3 48 "HeadBudgets$Heads" "made" "I", Cond.methodLink RX5 49 yX5_isAmount, Cond.static yX5_isAmount, Cond.initialized RX5, Cond.code yX5_isAmount cX5_isAmount 1 (some .boolean), Cond.constant RX5 222 (100000), Cond.methodLink RX5 126 yX3_movable, Cond.instanceMethod yX3_movable, Cond.selects RX3 yX3_movable yX3_movable, Cond.code yX3_movable cX3_movable 5 (some .int), Cond.fieldLink RX3 33 "HeadBudgets$Heads" "allotted" "[I", Cond.fieldLink RX3 39 "HeadBudgets$Heads" "share" "[I"]
def wsX5_vire_r2 : List Cond := [Cond.fieldLink RX3 36 "HeadBudgets$Heads" "left" "[I", Cond.constant RX3 80 (100000), Cond.methodLink RX3 81 Lib.Math.min.name, Cond.static Lib.Math.min.name, Cond.initialized "java/lang/Math", Cond.code Lib.Math.min.name Lib.Math.min.code 2 (some .int), Cond.methodLink RX3 86 Lib.Math.max.name, Cond.static Lib.Math.max.name, Cond.code Lib.Math.max.name Lib.Math.max.code 2 (some .int), Cond.methodLink RX3 71 yX3_hasBoth, Cond.methodLink RX3 74 yX3_mayGive, Cond.instanceMethod yX3_mayGive, Cond.selects RX3 yX3_mayGive yX3_mayGive, Cond.code yX3_mayGive cX3_mayGive 4 (some .boolean), Cond.fieldLink RX3 9 "HeadBudgets$Heads" "above" "[I", Cond.fieldLink RX3 18 "HeadBudgets$Heads" "rank" "[I", Cond.methodLink RX3 56 yX3_isBarred, Cond.instanceMethod yX3_isBarred, Cond.selects RX3 yX3_isBarred yX3_isBarred, Cond.code yX3_isBarred cX3_isBarred 4 (some .boolean), Cond.fieldLink RX3 21 "HeadBudgets$Heads" "frozen" "[I", Cond.methodLink RX3 59 yX3_isWithin, Cond.instanceMethod yX3_isWithin, Cond.selects RX3 yX3_isWithin yX3_isWithin]
def wsX5_vire_r3 : List Cond := [Cond.code yX3_isWithin cX3_isWithin 5 (some .boolean), Cond.static yX5_partOf, Cond.code yX5_partOf cX5_partOf 2 (some .int), Cond.constantLong RX5 223 (100), Cond.methodLink RX3 67 yX3_freeOf, Cond.instanceMethod yX3_freeOf, Cond.selects RX3 yX3_freeOf yX3_freeOf, Cond.code yX3_freeOf cX3_freeOf 2 (some .int), Cond.fieldLink RX3 24 "HeadBudgets$Heads" "allotment" "[I", Cond.fieldLink RX3 27 "HeadBudgets$Heads" "committed" "[I", Cond.fieldLink RX3 30 "HeadBudgets$Heads" "spent" "[I", Cond.methodLink RX5 129 yX4_rememberVirement, Cond.instanceMethod yX4_rememberVirement, Cond.selects RX4 yX4_rememberVirement yX4_rememberVirement, Cond.initialized RX4, Cond.code yX4_rememberVirement cX4_rememberVirement 5 none, Cond.methodLink RX4 31 yX4_rememberWith, Cond.instanceMethod yX4_rememberWith, Cond.selects RX4 yX4_rememberWith yX4_rememberWith, Cond.code yX4_rememberWith cX4_rememberWith 7 none, Cond.fieldLink RX4 18 "HeadBudgets$Memory" "held" "I", Cond.fieldLink RX4 22 "HeadBudgets$Memory" "oldest" "I", Cond.fieldLink RX4 35 "HeadBudgets$Memory" "latestNumber" "I", Cond.fieldLink RX4 42 "HeadBudgets$Deed" "before" "LHeadBudgets$Books;"]
def wsX5_vire_r4 : List Cond := [Cond.fieldLink RX4 52 "HeadBudgets$Deed" "number" "I", Cond.fieldLink RX4 55 "HeadBudgets$Deed" "kind" "I", Cond.fieldLink RX4 58 "HeadBudgets$Deed" "subject" "I", Cond.fieldLink RX4 61 "HeadBudgets$Deed" "taker" "I", Cond.fieldLink RX4 64 "HeadBudgets$Deed" "amount" "I", Cond.methodLink RX4 25 yJ9_floorMod_7cf53, Cond.static yJ9_floorMod_7cf53, Cond.initialized RJ9, Cond.code yJ9_floorMod_7cf53 cJ9_floorMod_7cf53 3 (some .int), Cond.methodLink RX4 38 yX4_recall, Cond.instanceMethod yX4_recall, Cond.selects RX4 yX4_recall yX4_recall, Cond.code yX4_recall cX4_recall 2 (some (.object "HeadBudgets$Deed")), Cond.fieldLink RX4 11 "HeadBudgets$Memory" "places" "[LHeadBudgets$Deed;", Cond.methodLink RX4 46 yX0_copyFrom, Cond.instanceMethod yX0_copyFrom, Cond.selects RX0 yX0_copyFrom yX0_copyFrom, Cond.initialized RX0, Cond.code yX0_copyFrom cX0_copyFrom 2 none, Cond.fieldLink RX0 12 "HeadBudgets$Books" "heads" "LHeadBudgets$Heads;", Cond.fieldLink RX0 21 "HeadBudgets$Books" "commitments" "LHeadBudgets$Commitments;", Cond.fieldLink RX0 36 "HeadBudgets$Books" "year" "I", Cond.fieldLink RX0 25 "HeadBudgets$Books" "carriedPart" "I", Cond.fieldLink RX0 39 "HeadBudgets$Books" "lapsed" "I"]
def wsX5_vire_r5 : List Cond := [Cond.fieldLink RX0 42 "HeadBudgets$Books" "spent" "I", Cond.methodLink RX0 29 yX3_copyFrom, Cond.instanceMethod yX3_copyFrom, Cond.selects RX3 yX3_copyFrom yX3_copyFrom, Cond.code yX3_copyFrom cX3_copyFrom 2 none, Cond.methodLink RX3 42 arraycopyName, Cond.native arraycopyName, Cond.static arraycopyName, Cond.initialized "java/lang/System", Cond.fieldLink RX3 15 "HeadBudgets$Heads" "depth" "[I", Cond.methodLink RX0 33 yX1_copyFrom, Cond.instanceMethod yX1_copyFrom, Cond.selects RX1 yX1_copyFrom yX1_copyFrom, Cond.initialized RX1, Cond.code yX1_copyFrom cX1_copyFrom 2 none, Cond.fieldLink RX1 9 "HeadBudgets$Commitments" "head" "[I", Cond.methodLink RX1 24 arraycopyName, Cond.fieldLink RX1 15 "HeadBudgets$Commitments" "open" "[I", Cond.fieldLink RX1 18 "HeadBudgets$Commitments" "paid" "[I", Cond.fieldLink RX1 21 "HeadBudgets$Commitments" "year" "[I", Cond.fieldLink RX1 30 "HeadBudgets$Commitments" "made" "I", Cond.methodLink RX5 133 yX3_moveByVirement, Cond.instanceMethod yX3_moveByVirement, Cond.selects RX3 yX3_moveByVirement yX3_moveByVirement]
def wsX5_vire_r6 : List Cond := [Cond.code yX3_moveByVirement cX3_moveByVirement 4 none, Cond.methodLink RX5 78 yX3_freeOf]
def wsX5_vire : List Cond := .code yX5_vire cX5_vire 5 (some .int) :: ((wsX5_vire_r1 ++ (wsX5_vire_r2 ++ (wsX5_vire_r3 ++ (wsX5_vire_r4 ++ (wsX5_vire_r5 ++ wsX5_vire_r6))))) ++ wsX50 ++ wsX00 ++ wsX30 ++ wsX40 ++ wsX20 ++ wsX10)
def wsX5_endYear_r1 : List Cond := [Cond.fieldLink RX5 10 "HeadBudgets" "now" "LHeadBudgets$Books;", Cond.fieldLink RX5 97 "HeadBudgets$Books" "year" "I", Cond.fieldLink RX5 19 "HeadBudgets" "memory" "LHeadBudgets$Memory;", Cond.fieldLink RX5 23 "HeadBudgets$Books" "heads" "LHeadBudgets$Heads;", Cond.fieldLink RX5 72 "HeadBudgets$Books" "carriedPart" "I", Cond.fieldLink RX5 144 "HeadBudgets$Books" "lapsed" "I", Cond.methodLink RX5 45 yX4_remember, Cond.instanceMethod yX4_remember, Cond.selects RX4 yX4_remember yX4_remember, Cond.initialized RX4, Cond.code yX4_remember cX4_remember 3 none, Cond.methodLink RX4 31 yX4_rememberWith, Cond.instanceMethod yX4_rememberWith, Cond.selects RX4 yX4_rememberWith yX4_rememberWith, Cond.code yX4_rememberWith cX4_rememberWith 7 none, Cond.fieldLink RX4 18 "HeadBudgets$Memory" "held" "I", Cond.fieldLink RX4 22 "HeadBudgets$Memory" "oldest" "I", Cond.fieldLink RX4 35 "HeadBudgets$Memory" "latestNumber" "I", Cond.fieldLink RX4 42 "HeadBudgets$Deed" "before" "LHeadBudgets$Books;", Cond.fieldLink RX4 52 "HeadBudgets$Deed" "number" "I", Cond.fieldLink RX4 55 "HeadBudgets$Deed" "kind" "I", Cond.fieldLink RX4 58 "HeadBudgets$Deed" "subject" "I", Cond.fieldLink RX4 61 "HeadBudgets$Deed" "taker" "I", Cond.fieldLink RX4 64 "HeadBudgets$Deed" "amount" "I"]
def wsX5_endYear_r2 : List Cond := [Cond.methodLink RX4 25 yJ9_floorMod_7cf53, Cond.static yJ9_floorMod_7cf53, Cond.initialized RJ9, Cond.code yJ9_floorMod_7cf53 cJ9_floorMod_7cf53 3 (some .int), Cond.methodLink RX4 38 yX4_recall, Cond.instanceMethod yX4_recall, Cond.selects RX4 yX4_recall yX4_recall, Cond.code yX4_recall cX4_recall 2 (some (.object "HeadBudgets$Deed")), Cond.fieldLink RX4 11 "HeadBudgets$Memory" "places" "[LHeadBudgets$Deed;", Cond.methodLink RX4 46 yX0_copyFrom, Cond.instanceMethod yX0_copyFrom, Cond.selects RX0 yX0_copyFrom yX0_copyFrom, Cond.initialized RX0, Cond.code yX0_copyFrom cX0_copyFrom 2 none, Cond.fieldLink RX0 12 "HeadBudgets$Books" "heads" "LHeadBudgets$Heads;", Cond.fieldLink RX0 21 "HeadBudgets$Books" "commitments" "LHeadBudgets$Commitments;", Cond.fieldLink RX0 36 "HeadBudgets$Books" "year" "I", Cond.fieldLink RX0 25 "HeadBudgets$Books" "carriedPart" "I", Cond.fieldLink RX0 39 "HeadBudgets$Books" "lapsed" "I", Cond.fieldLink RX0 42 "HeadBudgets$Books" "spent" "I", Cond.methodLink RX0 29 yX3_copyFrom, Cond.instanceMethod yX3_copyFrom, Cond.selects RX3 yX3_copyFrom yX3_copyFrom, Cond.initialized RX3]
def wsX5_endYear_r3 : List Cond := [Cond.code yX3_copyFrom cX3_copyFrom 2 none, Cond.fieldLink RX3 9 "HeadBudgets$Heads" "above" "[I", Cond.methodLink RX3 42 arraycopyName, Cond.native arraycopyName, Cond.static arraycopyName, Cond.initialized "java/lang/System", Cond.fieldLink RX3 15 "HeadBudgets$Heads" "depth" "[I", Cond.fieldLink RX3 18 "HeadBudgets$Heads" "rank" "[I", Cond.fieldLink RX3 21 "HeadBudgets$Heads" "frozen" "[I", Cond.fieldLink RX3 24 "HeadBudgets$Heads" "allotment" "[I", Cond.fieldLink RX3 27 "HeadBudgets$Heads" "committed" "[I", Cond.fieldLink RX3 30 "HeadBudgets$Heads" "spent" "[I", Cond.fieldLink RX3 33 "HeadBudgets$Heads" "allotted" "[I", Cond.fieldLink RX3 36 "HeadBudgets$Heads" "left" "[I", Cond.fieldLink RX3 39 "HeadBudgets$Heads" "share" "[I", Cond.fieldLink RX3 48 "HeadBudgets$Heads" "made" "I", Cond.methodLink RX0 33 yX1_copyFrom, Cond.instanceMethod yX1_copyFrom, Cond.selects RX1 yX1_copyFrom yX1_copyFrom, Cond.initialized RX1, Cond.code yX1_copyFrom cX1_copyFrom 2 none, Cond.fieldLink RX1 9 "HeadBudgets$Commitments" "head" "[I", Cond.methodLink RX1 24 arraycopyName, Cond.fieldLink RX1 15 "HeadBudgets$Commitments" "open" "[I"]
def wsX5_endYear_r4 : List Cond := [Cond.fieldLink RX1 18 "HeadBudgets$Commitments" "paid" "[I", Cond.fieldLink RX1 21 "HeadBudgets$Commitments" "year" "[I", Cond.fieldLink RX1 30 "HeadBudgets$Commitments" "made" "I", Cond.methodLink RX5 137 yX3_lapseWithin, Cond.instanceMethod yX3_lapseWithin, Cond.selects RX3 yX3_lapseWithin yX3_lapseWithin, Cond.code yX3_lapseWithin cX3_lapseWithin 6 (some .int), Cond.methodLink RX3 59 yX3_isWithin, Cond.instanceMethod yX3_isWithin, Cond.selects RX3 yX3_isWithin yX3_isWithin, Cond.code yX3_isWithin cX3_isWithin 5 (some .boolean), Cond.methodLink RX3 52 yX3_has, Cond.instanceMethod yX3_has, Cond.selects RX3 yX3_has yX3_has, Cond.code yX3_has cX3_has 2 (some .boolean), Cond.methodLink RX3 67 yX3_freeOf, Cond.instanceMethod yX3_freeOf, Cond.selects RX3 yX3_freeOf yX3_freeOf, Cond.code yX3_freeOf cX3_freeOf 2 (some .int), Cond.static yX5_partOf, Cond.initialized RX5, Cond.code yX5_partOf cX5_partOf 2 (some .int), Cond.constantLong RX5 223 (100), Cond.methodLink RX5 140 yX3_carryForward]
def wsX5_endYear_r5 : List Cond := [Cond.instanceMethod yX3_carryForward, Cond.selects RX3 yX3_carryForward yX3_carryForward, Cond.code yX3_carryForward cX3_carryForward 4 none]
def wsX5_endYear : List Cond := .code yX5_endYear cX5_endYear 2 (some .int) :: ((wsX5_endYear_r1 ++ (wsX5_endYear_r2 ++ (wsX5_endYear_r3 ++ (wsX5_endYear_r4 ++ wsX5_endYear_r5)))) ++ wsX50 ++ wsX00 ++ wsX40 ++ wsX20 ++ wsX30 ++ wsX10)
def wsX5_undo_r1 : List Cond := [Cond.fieldLink RX5 19 "HeadBudgets" "memory" "LHeadBudgets$Memory;", Cond.fieldLink RX5 10 "HeadBudgets" "now" "LHeadBudgets$Books;", Cond.fieldLink RX5 151 "HeadBudgets$Deed" "before" "LHeadBudgets$Books;", Cond.methodLink RX5 147 yX4_recall, Cond.instanceMethod yX4_recall, Cond.selects RX4 yX4_recall yX4_recall, Cond.initialized RX4, Cond.code yX4_recall cX4_recall 2 (some (.object "HeadBudgets$Deed")), Cond.fieldLink RX4 18 "HeadBudgets$Memory" "held" "I", Cond.fieldLink RX4 11 "HeadBudgets$Memory" "places" "[LHeadBudgets$Deed;", Cond.fieldLink RX4 22 "HeadBudgets$Memory" "oldest" "I", Cond.methodLink RX4 25 yJ9_floorMod_7cf53, Cond.static yJ9_floorMod_7cf53, Cond.initialized RJ9, Cond.code yJ9_floorMod_7cf53 cJ9_floorMod_7cf53 3 (some .int), Cond.methodLink RX5 156 yX0_copyFrom, Cond.instanceMethod yX0_copyFrom, Cond.selects RX0 yX0_copyFrom yX0_copyFrom, Cond.initialized RX0, Cond.code yX0_copyFrom cX0_copyFrom 2 none, Cond.fieldLink RX0 12 "HeadBudgets$Books" "heads" "LHeadBudgets$Heads;", Cond.fieldLink RX0 21 "HeadBudgets$Books" "commitments" "LHeadBudgets$Commitments;", Cond.fieldLink RX0 36 "HeadBudgets$Books" "year" "I", Cond.fieldLink RX0 25 "HeadBudgets$Books" "carriedPart" "I"]
def wsX5_undo_r2 : List Cond := [Cond.fieldLink RX0 39 "HeadBudgets$Books" "lapsed" "I", Cond.fieldLink RX0 42 "HeadBudgets$Books" "spent" "I", Cond.methodLink RX0 29 yX3_copyFrom, Cond.instanceMethod yX3_copyFrom, Cond.selects RX3 yX3_copyFrom yX3_copyFrom, Cond.initialized RX3, Cond.code yX3_copyFrom cX3_copyFrom 2 none, Cond.fieldLink RX3 9 "HeadBudgets$Heads" "above" "[I", Cond.methodLink RX3 42 arraycopyName, Cond.native arraycopyName, Cond.static arraycopyName, Cond.initialized "java/lang/System", Cond.fieldLink RX3 15 "HeadBudgets$Heads" "depth" "[I", Cond.fieldLink RX3 18 "HeadBudgets$Heads" "rank" "[I", Cond.fieldLink RX3 21 "HeadBudgets$Heads" "frozen" "[I", Cond.fieldLink RX3 24 "HeadBudgets$Heads" "allotment" "[I", Cond.fieldLink RX3 27 "HeadBudgets$Heads" "committed" "[I", Cond.fieldLink RX3 30 "HeadBudgets$Heads" "spent" "[I", Cond.fieldLink RX3 33 "HeadBudgets$Heads" "allotted" "[I", Cond.fieldLink RX3 36 "HeadBudgets$Heads" "left" "[I", Cond.fieldLink RX3 39 "HeadBudgets$Heads" "share" "[I", Cond.fieldLink RX3 48 "HeadBudgets$Heads" "made" "I", Cond.methodLink RX0 33 yX1_copyFrom, Cond.instanceMethod yX1_copyFrom]
def wsX5_undo_r3 : List Cond := [Cond.selects RX1 yX1_copyFrom yX1_copyFrom, Cond.initialized RX1, Cond.code yX1_copyFrom cX1_copyFrom 2 none, Cond.fieldLink RX1 9 "HeadBudgets$Commitments" "head" "[I", Cond.methodLink RX1 24 arraycopyName, Cond.fieldLink RX1 15 "HeadBudgets$Commitments" "open" "[I", Cond.fieldLink RX1 18 "HeadBudgets$Commitments" "paid" "[I", Cond.fieldLink RX1 21 "HeadBudgets$Commitments" "year" "[I", Cond.fieldLink RX1 30 "HeadBudgets$Commitments" "made" "I", Cond.methodLink RX5 160 yX4_forgetLatest, Cond.instanceMethod yX4_forgetLatest, Cond.selects RX4 yX4_forgetLatest yX4_forgetLatest, Cond.code yX4_forgetLatest cX4_forgetLatest 1 (some .int)]
def wsX5_undo : List Cond := .code yX5_undo cX5_undo 2 (some .int) :: ((wsX5_undo_r1 ++ (wsX5_undo_r2 ++ wsX5_undo_r3)) ++ wsX50 ++ wsX20 ++ wsX40 ++ wsX00 ++ wsX30 ++ wsX10)
def wsX5_revokeVirement_r1 : List Cond := [Cond.fieldLink RX5 10 "HeadBudgets" "now" "LHeadBudgets$Books;", Cond.fieldLink RX5 23 "HeadBudgets$Books" "heads" "LHeadBudgets$Heads;", Cond.fieldLink RX5 19 "HeadBudgets" "memory" "LHeadBudgets$Memory;", Cond.methodLink RX5 78 yX3_freeOf, Cond.instanceMethod yX3_freeOf, Cond.selects RX3 yX3_freeOf yX3_freeOf, Cond.initialized RX3, Cond.code yX3_freeOf cX3_freeOf 2 (some .int), Cond.fieldLink RX3 24 "HeadBudgets$Heads" "allotment" "[I", Cond.fieldLink RX3 27 "HeadBudgets$Heads" "committed" "[I", Cond.fieldLink RX3 30 "HeadBudgets$Heads" "spent" "[I", Cond.methodLink RX3 52 yX3_has, Cond.instanceMethod yX3_has, Cond.selects RX3 yX3_has yX3_has, Cond.code yX3_has cX3_has 2 (some .boolean), Cond.fieldLink RX3 48 "HeadBudgets$Heads" "made" "I", Cond.methodLink RX5 188 yX4_rememberRevoking, Cond.instanceMethod yX4_rememberRevoking, Cond.selects RX4 yX4_rememberRevoking yX4_rememberRevoking, Cond.initialized RX4, Cond.code yX4_rememberRevoking cX4_rememberRevoking 3 none, Cond.methodLink RX4 31 yX4_rememberWith, Cond.instanceMethod yX4_rememberWith, Cond.selects RX4 yX4_rememberWith yX4_rememberWith]
def wsX5_revokeVirement_r2 : List Cond := [Cond.code yX4_rememberWith cX4_rememberWith 7 none, Cond.fieldLink RX4 18 "HeadBudgets$Memory" "held" "I", Cond.fieldLink RX4 22 "HeadBudgets$Memory" "oldest" "I", Cond.fieldLink RX4 35 "HeadBudgets$Memory" "latestNumber" "I", Cond.fieldLink RX4 42 "HeadBudgets$Deed" "before" "LHeadBudgets$Books;", Cond.fieldLink RX4 52 "HeadBudgets$Deed" "number" "I", Cond.fieldLink RX4 55 "HeadBudgets$Deed" "kind" "I", Cond.fieldLink RX4 58 "HeadBudgets$Deed" "subject" "I", Cond.fieldLink RX4 61 "HeadBudgets$Deed" "taker" "I", Cond.fieldLink RX4 64 "HeadBudgets$Deed" "amount" "I", Cond.methodLink RX4 25 yJ9_floorMod_7cf53, Cond.static yJ9_floorMod_7cf53, Cond.initialized RJ9, Cond.code yJ9_floorMod_7cf53 cJ9_floorMod_7cf53 3 (some .int), Cond.methodLink RX4 38 yX4_recall, Cond.instanceMethod yX4_recall, Cond.selects RX4 yX4_recall yX4_recall, Cond.code yX4_recall cX4_recall 2 (some (.object "HeadBudgets$Deed")), Cond.fieldLink RX4 11 "HeadBudgets$Memory" "places" "[LHeadBudgets$Deed;", Cond.methodLink RX4 46 yX0_copyFrom, Cond.instanceMethod yX0_copyFrom, Cond.selects RX0 yX0_copyFrom yX0_copyFrom, Cond.initialized RX0, Cond.code yX0_copyFrom cX0_copyFrom 2 none]
def wsX5_revokeVirement_r3 : List Cond := [Cond.fieldLink RX0 12 "HeadBudgets$Books" "heads" "LHeadBudgets$Heads;", Cond.fieldLink RX0 21 "HeadBudgets$Books" "commitments" "LHeadBudgets$Commitments;", Cond.fieldLink RX0 36 "HeadBudgets$Books" "year" "I", Cond.fieldLink RX0 25 "HeadBudgets$Books" "carriedPart" "I", Cond.fieldLink RX0 39 "HeadBudgets$Books" "lapsed" "I", Cond.fieldLink RX0 42 "HeadBudgets$Books" "spent" "I", Cond.methodLink RX0 29 yX3_copyFrom, Cond.instanceMethod yX3_copyFrom, Cond.selects RX3 yX3_copyFrom yX3_copyFrom, Cond.code yX3_copyFrom cX3_copyFrom 2 none, Cond.fieldLink RX3 9 "HeadBudgets$Heads" "above" "[I", Cond.methodLink RX3 42 arraycopyName, Cond.native arraycopyName, Cond.static arraycopyName, Cond.initialized "java/lang/System", Cond.fieldLink RX3 15 "HeadBudgets$Heads" "depth" "[I", Cond.fieldLink RX3 18 "HeadBudgets$Heads" "rank" "[I", Cond.fieldLink RX3 21 "HeadBudgets$Heads" "frozen" "[I", Cond.fieldLink RX3 33 "HeadBudgets$Heads" "allotted" "[I", Cond.fieldLink RX3 36 "HeadBudgets$Heads" "left" "[I", Cond.fieldLink RX3 39 "HeadBudgets$Heads" "share" "[I", Cond.methodLink RX0 33 yX1_copyFrom, Cond.instanceMethod yX1_copyFrom, Cond.selects RX1 yX1_copyFrom yX1_copyFrom]
def wsX5_revokeVirement_r4 : List Cond := [Cond.initialized RX1, Cond.code yX1_copyFrom cX1_copyFrom 2 none, Cond.fieldLink RX1 9 "HeadBudgets$Commitments" "head" "[I", Cond.methodLink RX1 24 arraycopyName, Cond.fieldLink RX1 15 "HeadBudgets$Commitments" "open" "[I", Cond.fieldLink RX1 18 "HeadBudgets$Commitments" "paid" "[I", Cond.fieldLink RX1 21 "HeadBudgets$Commitments" "year" "[I", Cond.fieldLink RX1 30 "HeadBudgets$Commitments" "made" "I", Cond.methodLink RX5 133 yX3_moveByVirement, Cond.instanceMethod yX3_moveByVirement, Cond.selects RX3 yX3_moveByVirement yX3_moveByVirement, Cond.code yX3_moveByVirement cX3_moveByVirement 4 none, Cond.methodLink RX3 71 yX3_hasBoth, Cond.instanceMethod yX3_hasBoth, Cond.selects RX3 yX3_hasBoth yX3_hasBoth, Cond.code yX3_hasBoth cX3_hasBoth 3 (some .boolean)]
def wsX5_revokeVirement : List Cond := .code yX5_revokeVirement cX5_revokeVirement 5 (some .int) :: ((wsX5_revokeVirement_r1 ++ (wsX5_revokeVirement_r2 ++ (wsX5_revokeVirement_r3 ++ wsX5_revokeVirement_r4))) ++ wsX50 ++ wsX00 ++ wsX30 ++ wsX40 ++ wsX20 ++ wsX10)
def wsX5_revokeCommitment_r1 : List Cond := [Cond.fieldLink RX5 10 "HeadBudgets" "now" "LHeadBudgets$Books;", Cond.fieldLink RX5 82 "HeadBudgets$Books" "commitments" "LHeadBudgets$Commitments;", Cond.fieldLink RX5 104 "HeadBudgets$Commitments" "open" "[I", Cond.fieldLink RX5 19 "HeadBudgets" "memory" "LHeadBudgets$Memory;", Cond.methodLink RX5 103 yX1_has, Cond.instanceMethod yX1_has, Cond.selects RX1 yX1_has yX1_has, Cond.initialized RX1, Cond.code yX1_has cX1_has 2 (some .boolean), Cond.fieldLink RX1 30 "HeadBudgets$Commitments" "made" "I", Cond.methodLink RX5 188 yX4_rememberRevoking, Cond.instanceMethod yX4_rememberRevoking, Cond.selects RX4 yX4_rememberRevoking yX4_rememberRevoking, Cond.initialized RX4, Cond.code yX4_rememberRevoking cX4_rememberRevoking 3 none, Cond.methodLink RX4 31 yX4_rememberWith, Cond.instanceMethod yX4_rememberWith, Cond.selects RX4 yX4_rememberWith yX4_rememberWith, Cond.code yX4_rememberWith cX4_rememberWith 7 none, Cond.fieldLink RX4 18 "HeadBudgets$Memory" "held" "I", Cond.fieldLink RX4 22 "HeadBudgets$Memory" "oldest" "I", Cond.fieldLink RX4 35 "HeadBudgets$Memory" "latestNumber" "I", Cond.fieldLink RX4 42 "HeadBudgets$Deed" "before" "LHeadBudgets$Books;", Cond.fieldLink RX4 52 "HeadBudgets$Deed" "number" "I"]
def wsX5_revokeCommitment_r2 : List Cond := [Cond.fieldLink RX4 55 "HeadBudgets$Deed" "kind" "I", Cond.fieldLink RX4 58 "HeadBudgets$Deed" "subject" "I", Cond.fieldLink RX4 61 "HeadBudgets$Deed" "taker" "I", Cond.fieldLink RX4 64 "HeadBudgets$Deed" "amount" "I", Cond.methodLink RX4 25 yJ9_floorMod_7cf53, Cond.static yJ9_floorMod_7cf53, Cond.initialized RJ9, Cond.code yJ9_floorMod_7cf53 cJ9_floorMod_7cf53 3 (some .int), Cond.methodLink RX4 38 yX4_recall, Cond.instanceMethod yX4_recall, Cond.selects RX4 yX4_recall yX4_recall, Cond.code yX4_recall cX4_recall 2 (some (.object "HeadBudgets$Deed")), Cond.fieldLink RX4 11 "HeadBudgets$Memory" "places" "[LHeadBudgets$Deed;", Cond.methodLink RX4 46 yX0_copyFrom, Cond.instanceMethod yX0_copyFrom, Cond.selects RX0 yX0_copyFrom yX0_copyFrom, Cond.initialized RX0, Cond.code yX0_copyFrom cX0_copyFrom 2 none, Cond.fieldLink RX0 12 "HeadBudgets$Books" "heads" "LHeadBudgets$Heads;", Cond.fieldLink RX0 21 "HeadBudgets$Books" "commitments" "LHeadBudgets$Commitments;", Cond.fieldLink RX0 36 "HeadBudgets$Books" "year" "I", Cond.fieldLink RX0 25 "HeadBudgets$Books" "carriedPart" "I", Cond.fieldLink RX0 39 "HeadBudgets$Books" "lapsed" "I", Cond.fieldLink RX0 42 "HeadBudgets$Books" "spent" "I"]
def wsX5_revokeCommitment_r3 : List Cond := [Cond.methodLink RX0 29 yX3_copyFrom, Cond.instanceMethod yX3_copyFrom, Cond.selects RX3 yX3_copyFrom yX3_copyFrom, Cond.initialized RX3, Cond.code yX3_copyFrom cX3_copyFrom 2 none, Cond.fieldLink RX3 9 "HeadBudgets$Heads" "above" "[I", Cond.methodLink RX3 42 arraycopyName, Cond.native arraycopyName, Cond.static arraycopyName, Cond.initialized "java/lang/System", Cond.fieldLink RX3 15 "HeadBudgets$Heads" "depth" "[I", Cond.fieldLink RX3 18 "HeadBudgets$Heads" "rank" "[I", Cond.fieldLink RX3 21 "HeadBudgets$Heads" "frozen" "[I", Cond.fieldLink RX3 24 "HeadBudgets$Heads" "allotment" "[I", Cond.fieldLink RX3 27 "HeadBudgets$Heads" "committed" "[I", Cond.fieldLink RX3 30 "HeadBudgets$Heads" "spent" "[I", Cond.fieldLink RX3 33 "HeadBudgets$Heads" "allotted" "[I", Cond.fieldLink RX3 36 "HeadBudgets$Heads" "left" "[I", Cond.fieldLink RX3 39 "HeadBudgets$Heads" "share" "[I", Cond.fieldLink RX3 48 "HeadBudgets$Heads" "made" "I", Cond.methodLink RX0 33 yX1_copyFrom, Cond.instanceMethod yX1_copyFrom, Cond.selects RX1 yX1_copyFrom yX1_copyFrom, Cond.code yX1_copyFrom cX1_copyFrom 2 none]
def wsX5_revokeCommitment_r4 : List Cond := [Cond.fieldLink RX1 9 "HeadBudgets$Commitments" "head" "[I", Cond.methodLink RX1 24 arraycopyName, Cond.fieldLink RX1 15 "HeadBudgets$Commitments" "open" "[I", Cond.fieldLink RX1 18 "HeadBudgets$Commitments" "paid" "[I", Cond.fieldLink RX1 21 "HeadBudgets$Commitments" "year" "[I", Cond.methodLink RX5 119 yX0_freeOpenOf, Cond.instanceMethod yX0_freeOpenOf, Cond.selects RX0 yX0_freeOpenOf yX0_freeOpenOf, Cond.code yX0_freeOpenOf cX0_freeOpenOf 3 (some .int), Cond.fieldLink RX0 49 "HeadBudgets$Commitments" "open" "[I", Cond.fieldLink RX0 53 "HeadBudgets$Commitments" "head" "[I", Cond.methodLink RX0 45 yX1_has, Cond.methodLink RX0 56 yX3_changeCommitted, Cond.instanceMethod yX3_changeCommitted, Cond.selects RX3 yX3_changeCommitted yX3_changeCommitted, Cond.code yX3_changeCommitted cX3_changeCommitted 3 none, Cond.methodLink RX3 52 yX3_has, Cond.instanceMethod yX3_has, Cond.selects RX3 yX3_has yX3_has, Cond.code yX3_has cX3_has 2 (some .boolean)]
def wsX5_revokeCommitment : List Cond := .code yX5_revokeCommitment cX5_revokeCommitment 3 (some .int) :: ((wsX5_revokeCommitment_r1 ++ (wsX5_revokeCommitment_r2 ++ (wsX5_revokeCommitment_r3 ++ wsX5_revokeCommitment_r4))) ++ wsX50 ++ wsX00 ++ wsX10 ++ wsX40 ++ wsX20 ++ wsX30)
def wsX5_revoke_r1 : List Cond := [Cond.fieldLink RX5 19 "HeadBudgets" "memory" "LHeadBudgets$Memory;", Cond.fieldLink RX5 151 "HeadBudgets$Deed" "before" "LHeadBudgets$Books;", Cond.fieldLink RX5 97 "HeadBudgets$Books" "year" "I", Cond.fieldLink RX5 10 "HeadBudgets" "now" "LHeadBudgets$Books;", Cond.fieldLink RX5 163 "HeadBudgets$Deed" "number" "I", Cond.fieldLink RX5 169 "HeadBudgets$Deed" "kind" "I", Cond.fieldLink RX5 172 "HeadBudgets$Deed" "subject" "I", Cond.fieldLink RX5 175 "HeadBudgets$Deed" "taker" "I", Cond.fieldLink RX5 178 "HeadBudgets$Deed" "amount" "I", Cond.methodLink RX5 147 yX4_recall, Cond.instanceMethod yX4_recall, Cond.selects RX4 yX4_recall yX4_recall, Cond.initialized RX4, Cond.code yX4_recall cX4_recall 2 (some (.object "HeadBudgets$Deed")), Cond.fieldLink RX4 18 "HeadBudgets$Memory" "held" "I", Cond.fieldLink RX4 11 "HeadBudgets$Memory" "places" "[LHeadBudgets$Deed;", Cond.fieldLink RX4 22 "HeadBudgets$Memory" "oldest" "I", Cond.methodLink RX4 25 yJ9_floorMod_7cf53, Cond.static yJ9_floorMod_7cf53, Cond.initialized RJ9, Cond.code yJ9_floorMod_7cf53 cJ9_floorMod_7cf53 3 (some .int), Cond.methodLink RX5 166 yX4_wasRevoked, Cond.instanceMethod yX4_wasRevoked, Cond.selects RX4 yX4_wasRevoked yX4_wasRevoked]
def wsX5_revoke_r2 : List Cond := [Cond.code yX4_wasRevoked cX4_wasRevoked 4 (some .boolean), Cond.fieldLink RX4 55 "HeadBudgets$Deed" "kind" "I", Cond.fieldLink RX4 58 "HeadBudgets$Deed" "subject" "I", Cond.methodLink RX4 38 yX4_recall, Cond.methodLink RX5 181 yX5_revokeVirement, Cond.instanceMethod yX5_revokeVirement, Cond.selects RX5 yX5_revokeVirement yX5_revokeVirement, Cond.initialized RX5, Cond.code yX5_revokeVirement cX5_revokeVirement 5 (some .int), Cond.fieldLink RX5 23 "HeadBudgets$Books" "heads" "LHeadBudgets$Heads;", Cond.methodLink RX5 78 yX3_freeOf, Cond.instanceMethod yX3_freeOf, Cond.selects RX3 yX3_freeOf yX3_freeOf, Cond.initialized RX3, Cond.code yX3_freeOf cX3_freeOf 2 (some .int), Cond.fieldLink RX3 24 "HeadBudgets$Heads" "allotment" "[I", Cond.fieldLink RX3 27 "HeadBudgets$Heads" "committed" "[I", Cond.fieldLink RX3 30 "HeadBudgets$Heads" "spent" "[I", Cond.methodLink RX3 52 yX3_has, Cond.instanceMethod yX3_has, Cond.selects RX3 yX3_has yX3_has, Cond.code yX3_has cX3_has 2 (some .boolean), Cond.fieldLink RX3 48 "HeadBudgets$Heads" "made" "I", Cond.methodLink RX5 188 yX4_rememberRevoking]
def wsX5_revoke_r3 : List Cond := [Cond.instanceMethod yX4_rememberRevoking, Cond.selects RX4 yX4_rememberRevoking yX4_rememberRevoking, Cond.code yX4_rememberRevoking cX4_rememberRevoking 3 none, Cond.methodLink RX4 31 yX4_rememberWith, Cond.instanceMethod yX4_rememberWith, Cond.selects RX4 yX4_rememberWith yX4_rememberWith, Cond.code yX4_rememberWith cX4_rememberWith 7 none, Cond.fieldLink RX4 35 "HeadBudgets$Memory" "latestNumber" "I", Cond.fieldLink RX4 42 "HeadBudgets$Deed" "before" "LHeadBudgets$Books;", Cond.fieldLink RX4 52 "HeadBudgets$Deed" "number" "I", Cond.fieldLink RX4 61 "HeadBudgets$Deed" "taker" "I", Cond.fieldLink RX4 64 "HeadBudgets$Deed" "amount" "I", Cond.methodLink RX4 46 yX0_copyFrom, Cond.instanceMethod yX0_copyFrom, Cond.selects RX0 yX0_copyFrom yX0_copyFrom, Cond.initialized RX0, Cond.code yX0_copyFrom cX0_copyFrom 2 none, Cond.fieldLink RX0 12 "HeadBudgets$Books" "heads" "LHeadBudgets$Heads;", Cond.fieldLink RX0 21 "HeadBudgets$Books" "commitments" "LHeadBudgets$Commitments;", Cond.fieldLink RX0 36 "HeadBudgets$Books" "year" "I", Cond.fieldLink RX0 25 "HeadBudgets$Books" "carriedPart" "I", Cond.fieldLink RX0 39 "HeadBudgets$Books" "lapsed" "I", Cond.fieldLink RX0 42 "HeadBudgets$Books" "spent" "I", Cond.methodLink RX0 29 yX3_copyFrom]
def wsX5_revoke_r4 : List Cond := [Cond.instanceMethod yX3_copyFrom, Cond.selects RX3 yX3_copyFrom yX3_copyFrom, Cond.code yX3_copyFrom cX3_copyFrom 2 none, Cond.fieldLink RX3 9 "HeadBudgets$Heads" "above" "[I", Cond.methodLink RX3 42 arraycopyName, Cond.native arraycopyName, Cond.static arraycopyName, Cond.initialized "java/lang/System", Cond.fieldLink RX3 15 "HeadBudgets$Heads" "depth" "[I", Cond.fieldLink RX3 18 "HeadBudgets$Heads" "rank" "[I", Cond.fieldLink RX3 21 "HeadBudgets$Heads" "frozen" "[I", Cond.fieldLink RX3 33 "HeadBudgets$Heads" "allotted" "[I", Cond.fieldLink RX3 36 "HeadBudgets$Heads" "left" "[I", Cond.fieldLink RX3 39 "HeadBudgets$Heads" "share" "[I", Cond.methodLink RX0 33 yX1_copyFrom, Cond.instanceMethod yX1_copyFrom, Cond.selects RX1 yX1_copyFrom yX1_copyFrom, Cond.initialized RX1, Cond.code yX1_copyFrom cX1_copyFrom 2 none, Cond.fieldLink RX1 9 "HeadBudgets$Commitments" "head" "[I", Cond.methodLink RX1 24 arraycopyName, Cond.fieldLink RX1 15 "HeadBudgets$Commitments" "open" "[I", Cond.fieldLink RX1 18 "HeadBudgets$Commitments" "paid" "[I", Cond.fieldLink RX1 21 "HeadBudgets$Commitments" "year" "[I"]
def wsX5_revoke_r5 : List Cond := [Cond.fieldLink RX1 30 "HeadBudgets$Commitments" "made" "I", Cond.methodLink RX5 133 yX3_moveByVirement, Cond.instanceMethod yX3_moveByVirement, Cond.selects RX3 yX3_moveByVirement yX3_moveByVirement, Cond.code yX3_moveByVirement cX3_moveByVirement 4 none, Cond.methodLink RX3 71 yX3_hasBoth, Cond.instanceMethod yX3_hasBoth, Cond.selects RX3 yX3_hasBoth yX3_hasBoth, Cond.code yX3_hasBoth cX3_hasBoth 3 (some .boolean), Cond.methodLink RX5 185 yX5_revokeCommitment, Cond.instanceMethod yX5_revokeCommitment, Cond.selects RX5 yX5_revokeCommitment yX5_revokeCommitment, Cond.code yX5_revokeCommitment cX5_revokeCommitment 3 (some .int), Cond.fieldLink RX5 82 "HeadBudgets$Books" "commitments" "LHeadBudgets$Commitments;", Cond.fieldLink RX5 104 "HeadBudgets$Commitments" "open" "[I", Cond.methodLink RX5 103 yX1_has, Cond.instanceMethod yX1_has, Cond.selects RX1 yX1_has yX1_has, Cond.code yX1_has cX1_has 2 (some .boolean), Cond.methodLink RX5 119 yX0_freeOpenOf, Cond.instanceMethod yX0_freeOpenOf, Cond.selects RX0 yX0_freeOpenOf yX0_freeOpenOf, Cond.code yX0_freeOpenOf cX0_freeOpenOf 3 (some .int), Cond.fieldLink RX0 49 "HeadBudgets$Commitments" "open" "[I"]
def wsX5_revoke_r6 : List Cond := [Cond.fieldLink RX0 53 "HeadBudgets$Commitments" "head" "[I", Cond.methodLink RX0 45 yX1_has, Cond.methodLink RX0 56 yX3_changeCommitted, Cond.instanceMethod yX3_changeCommitted, Cond.selects RX3 yX3_changeCommitted yX3_changeCommitted, Cond.code yX3_changeCommitted cX3_changeCommitted 3 none]
def wsX5_revoke : List Cond := .code yX5_revoke cX5_revoke 3 (some .int) :: ((wsX5_revoke_r1 ++ (wsX5_revoke_r2 ++ (wsX5_revoke_r3 ++ (wsX5_revoke_r4 ++ (wsX5_revoke_r5 ++ wsX5_revoke_r6))))) ++ wsX50 ++ wsX20 ++ wsX00 ++ wsX40 ++ wsX30 ++ wsX10)
def wsX5_count_r1 : List Cond := [Cond.fieldLink RX5 10 "HeadBudgets" "now" "LHeadBudgets$Books;", Cond.fieldLink RX5 97 "HeadBudgets$Books" "year" "I", Cond.fieldLink RX5 23 "HeadBudgets$Books" "heads" "LHeadBudgets$Heads;", Cond.fieldLink RX5 41 "HeadBudgets$Heads" "made" "I", Cond.fieldLink RX5 82 "HeadBudgets$Books" "commitments" "LHeadBudgets$Commitments;", Cond.fieldLink RX5 86 "HeadBudgets$Commitments" "made" "I", Cond.fieldLink RX5 72 "HeadBudgets$Books" "carriedPart" "I", Cond.fieldLink RX5 144 "HeadBudgets$Books" "lapsed" "I", Cond.fieldLink RX5 116 "HeadBudgets$Books" "spent" "I", Cond.fieldLink RX5 19 "HeadBudgets" "memory" "LHeadBudgets$Memory;", Cond.fieldLink RX5 197 "HeadBudgets$Memory" "held" "I", Cond.methodLink RX5 191 yX1_countOpen, Cond.instanceMethod yX1_countOpen, Cond.selects RX1 yX1_countOpen yX1_countOpen, Cond.initialized RX1, Cond.code yX1_countOpen cX1_countOpen 3 (some .int), Cond.fieldLink RX1 15 "HeadBudgets$Commitments" "open" "[I", Cond.methodLink RX5 62 yX3_countBarred, Cond.instanceMethod yX3_countBarred, Cond.selects RX3 yX3_countBarred yX3_countBarred, Cond.initialized RX3, Cond.code yX3_countBarred cX3_countBarred 3 (some .int), Cond.methodLink RX3 56 yX3_isBarred, Cond.instanceMethod yX3_isBarred]
def wsX5_count_r2 : List Cond := [Cond.selects RX3 yX3_isBarred yX3_isBarred, Cond.code yX3_isBarred cX3_isBarred 4 (some .boolean), Cond.fieldLink RX3 21 "HeadBudgets$Heads" "frozen" "[I", Cond.fieldLink RX3 9 "HeadBudgets$Heads" "above" "[I", Cond.methodLink RX3 52 yX3_has, Cond.instanceMethod yX3_has, Cond.selects RX3 yX3_has yX3_has, Cond.code yX3_has cX3_has 2 (some .boolean), Cond.fieldLink RX3 48 "HeadBudgets$Heads" "made" "I", Cond.methodLink RX5 194 yX3_sumWithin, Cond.instanceMethod yX3_sumWithin, Cond.selects RX3 yX3_sumWithin yX3_sumWithin, Cond.code yX3_sumWithin cX3_sumWithin 5 (some .int), Cond.methodLink RX3 59 yX3_isWithin, Cond.instanceMethod yX3_isWithin, Cond.selects RX3 yX3_isWithin yX3_isWithin, Cond.code yX3_isWithin cX3_isWithin 5 (some .boolean), Cond.methodLink RX3 63 yX3_summand, Cond.instanceMethod yX3_summand, Cond.selects RX3 yX3_summand yX3_summand, Cond.code yX3_summand cX3_summand 3 (some .int), Cond.fieldLink RX3 24 "HeadBudgets$Heads" "allotment" "[I", Cond.fieldLink RX3 27 "HeadBudgets$Heads" "committed" "[I", Cond.fieldLink RX3 30 "HeadBudgets$Heads" "spent" "[I"]
def wsX5_count_r3 : List Cond := [Cond.methodLink RX3 67 yX3_freeOf, Cond.instanceMethod yX3_freeOf, Cond.selects RX3 yX3_freeOf yX3_freeOf, Cond.code yX3_freeOf cX3_freeOf 2 (some .int)]
def wsX5_count : List Cond := .code yX5_count cX5_count 2 (some .int) :: ((wsX5_count_r1 ++ (wsX5_count_r2 ++ wsX5_count_r3)) ++ wsX50 ++ wsX00 ++ wsX30 ++ wsX10 ++ wsX40)
def wsX5_head_r1 : List Cond := [Cond.fieldLink RX5 10 "HeadBudgets" "now" "LHeadBudgets$Books;", Cond.fieldLink RX5 23 "HeadBudgets$Books" "heads" "LHeadBudgets$Heads;", Cond.fieldLink RX5 200 "HeadBudgets$Heads" "above" "[I", Cond.fieldLink RX5 37 "HeadBudgets$Heads" "depth" "[I", Cond.fieldLink RX5 203 "HeadBudgets$Heads" "rank" "[I", Cond.fieldLink RX5 59 "HeadBudgets$Heads" "frozen" "[I", Cond.fieldLink RX5 52 "HeadBudgets$Heads" "allotment" "[I", Cond.fieldLink RX5 206 "HeadBudgets$Heads" "committed" "[I", Cond.fieldLink RX5 209 "HeadBudgets$Heads" "spent" "[I", Cond.fieldLink RX5 56 "HeadBudgets$Heads" "allotted" "[I", Cond.fieldLink RX5 211 "HeadBudgets$Heads" "left" "[I", Cond.fieldLink RX5 69 "HeadBudgets$Heads" "share" "[I", Cond.methodLink RX5 33 yX3_has, Cond.instanceMethod yX3_has, Cond.selects RX3 yX3_has yX3_has, Cond.initialized RX3, Cond.code yX3_has cX3_has 2 (some .boolean), Cond.fieldLink RX3 48 "HeadBudgets$Heads" "made" "I", Cond.methodLink RX5 75 yX3_isBarred, Cond.instanceMethod yX3_isBarred, Cond.selects RX3 yX3_isBarred yX3_isBarred, Cond.code yX3_isBarred cX3_isBarred 4 (some .boolean), Cond.fieldLink RX3 21 "HeadBudgets$Heads" "frozen" "[I", Cond.fieldLink RX3 9 "HeadBudgets$Heads" "above" "[I"]
def wsX5_head_r2 : List Cond := [Cond.methodLink RX3 52 yX3_has, Cond.methodLink RX5 78 yX3_freeOf, Cond.instanceMethod yX3_freeOf, Cond.selects RX3 yX3_freeOf yX3_freeOf, Cond.code yX3_freeOf cX3_freeOf 2 (some .int), Cond.fieldLink RX3 24 "HeadBudgets$Heads" "allotment" "[I", Cond.fieldLink RX3 27 "HeadBudgets$Heads" "committed" "[I", Cond.fieldLink RX3 30 "HeadBudgets$Heads" "spent" "[I"]
def wsX5_head : List Cond := .code yX5_head cX5_head 4 (some .int) :: ((wsX5_head_r1 ++ wsX5_head_r2) ++ wsX50 ++ wsX00 ++ wsX30)
def wsX5_total_r1 : List Cond := [Cond.fieldLink RX5 10 "HeadBudgets" "now" "LHeadBudgets$Books;", Cond.fieldLink RX5 23 "HeadBudgets$Books" "heads" "LHeadBudgets$Heads;", Cond.methodLink RX5 33 yX3_has, Cond.instanceMethod yX3_has, Cond.selects RX3 yX3_has yX3_has, Cond.initialized RX3, Cond.code yX3_has cX3_has 2 (some .boolean), Cond.fieldLink RX3 48 "HeadBudgets$Heads" "made" "I", Cond.methodLink RX5 194 yX3_sumWithin, Cond.instanceMethod yX3_sumWithin, Cond.selects RX3 yX3_sumWithin yX3_sumWithin, Cond.code yX3_sumWithin cX3_sumWithin 5 (some .int), Cond.methodLink RX3 59 yX3_isWithin, Cond.instanceMethod yX3_isWithin, Cond.selects RX3 yX3_isWithin yX3_isWithin, Cond.code yX3_isWithin cX3_isWithin 5 (some .boolean), Cond.fieldLink RX3 9 "HeadBudgets$Heads" "above" "[I", Cond.methodLink RX3 52 yX3_has, Cond.methodLink RX3 63 yX3_summand, Cond.instanceMethod yX3_summand, Cond.selects RX3 yX3_summand yX3_summand, Cond.code yX3_summand cX3_summand 3 (some .int), Cond.fieldLink RX3 24 "HeadBudgets$Heads" "allotment" "[I", Cond.fieldLink RX3 27 "HeadBudgets$Heads" "committed" "[I"]
def wsX5_total_r2 : List Cond := [Cond.fieldLink RX3 30 "HeadBudgets$Heads" "spent" "[I", Cond.methodLink RX3 67 yX3_freeOf, Cond.instanceMethod yX3_freeOf, Cond.selects RX3 yX3_freeOf yX3_freeOf, Cond.code yX3_freeOf cX3_freeOf 2 (some .int)]
def wsX5_total : List Cond := .code yX5_total cX5_total 3 (some .int) :: ((wsX5_total_r1 ++ wsX5_total_r2) ++ wsX50 ++ wsX00 ++ wsX30)
def wsX5_commitment : List Cond := .code yX5_commitment cX5_commitment 4 (some .int) :: ([.fieldLink RX5 10 "HeadBudgets" "now" "LHeadBudgets$Books;", .fieldLink RX5 82 "HeadBudgets$Books" "commitments" "LHeadBudgets$Commitments;", .fieldLink RX5 110 "HeadBudgets$Commitments" "head" "[I", .fieldLink RX5 104 "HeadBudgets$Commitments" "open" "[I", .fieldLink RX5 107 "HeadBudgets$Commitments" "paid" "[I", .fieldLink RX5 214 "HeadBudgets$Commitments" "year" "[I", .methodLink RX5 103 yX1_has, .instanceMethod yX1_has, .selects RX1 yX1_has yX1_has, .initialized RX1, .code yX1_has cX1_has 2 (some .boolean), .fieldLink RX1 30 "HeadBudgets$Commitments" "made" "I"] ++ wsX50 ++ wsX00 ++ wsX10)
def wsX5_deed : List Cond := .code yX5_deed cX5_deed 3 (some .int) :: ([.fieldLink RX5 19 "HeadBudgets" "memory" "LHeadBudgets$Memory;", .fieldLink RX5 169 "HeadBudgets$Deed" "kind" "I", .methodLink RX5 147 yX4_recall, .instanceMethod yX4_recall, .selects RX4 yX4_recall yX4_recall, .initialized RX4, .code yX4_recall cX4_recall 2 (some (.object "HeadBudgets$Deed")), .fieldLink RX4 18 "HeadBudgets$Memory" "held" "I", .fieldLink RX4 11 "HeadBudgets$Memory" "places" "[LHeadBudgets$Deed;", .fieldLink RX4 22 "HeadBudgets$Memory" "oldest" "I", .methodLink RX4 25 yJ9_floorMod_7cf53, .static yJ9_floorMod_7cf53, .initialized RJ9, .code yJ9_floorMod_7cf53 cJ9_floorMod_7cf53 3 (some .int)] ++ wsX50 ++ wsX20 ++ wsX40)
def wsX5_mostFrom_r1 : List Cond := [Cond.fieldLink RX5 10 "HeadBudgets" "now" "LHeadBudgets$Books;", Cond.fieldLink RX5 23 "HeadBudgets$Books" "heads" "LHeadBudgets$Heads;", Cond.methodLink RX5 122 yX3_hasBoth, Cond.instanceMethod yX3_hasBoth, Cond.selects RX3 yX3_hasBoth yX3_hasBoth, Cond.initialized RX3, Cond.code yX3_hasBoth cX3_hasBoth 3 (some .boolean), Cond.methodLink RX3 52 yX3_has, Cond.instanceMethod yX3_has, Cond.selects RX3 yX3_has yX3_has, Cond.code yX3_has cX3_has 2 (some .boolean), Cond.fieldLink RX3 48 "HeadBudgets$Heads" "made" "I", Cond.methodLink RX5 126 yX3_movable, Cond.instanceMethod yX3_movable, Cond.selects RX3 yX3_movable yX3_movable, Cond.code yX3_movable cX3_movable 5 (some .int), Cond.fieldLink RX3 33 "HeadBudgets$Heads" "allotted" "[I", Cond.fieldLink RX3 39 "HeadBudgets$Heads" "share" "[I", Cond.fieldLink RX3 36 "HeadBudgets$Heads" "left" "[I", Cond.constant RX3 80 (100000), Cond.methodLink RX3 81 Lib.Math.min.name, Cond.static Lib.Math.min.name, Cond.initialized "java/lang/Math", Cond.code Lib.Math.min.name Lib.Math.min.code 2 (some .int)]
def wsX5_mostFrom_r2 : List Cond := [Cond.methodLink RX3 86 Lib.Math.max.name, Cond.static Lib.Math.max.name, Cond.code Lib.Math.max.name Lib.Math.max.code 2 (some .int), Cond.methodLink RX3 71 yX3_hasBoth, Cond.methodLink RX3 74 yX3_mayGive, Cond.instanceMethod yX3_mayGive, Cond.selects RX3 yX3_mayGive yX3_mayGive, Cond.code yX3_mayGive cX3_mayGive 4 (some .boolean), Cond.fieldLink RX3 9 "HeadBudgets$Heads" "above" "[I", Cond.fieldLink RX3 18 "HeadBudgets$Heads" "rank" "[I", Cond.methodLink RX3 56 yX3_isBarred, Cond.instanceMethod yX3_isBarred, Cond.selects RX3 yX3_isBarred yX3_isBarred, Cond.code yX3_isBarred cX3_isBarred 4 (some .boolean), Cond.fieldLink RX3 21 "HeadBudgets$Heads" "frozen" "[I", Cond.methodLink RX3 59 yX3_isWithin, Cond.instanceMethod yX3_isWithin, Cond.selects RX3 yX3_isWithin yX3_isWithin, Cond.code yX3_isWithin cX3_isWithin 5 (some .boolean), Cond.static yX5_partOf, Cond.initialized RX5, Cond.code yX5_partOf cX5_partOf 2 (some .int), Cond.constantLong RX5 223 (100), Cond.methodLink RX3 67 yX3_freeOf]
def wsX5_mostFrom_r3 : List Cond := [Cond.instanceMethod yX3_freeOf, Cond.selects RX3 yX3_freeOf yX3_freeOf, Cond.code yX3_freeOf cX3_freeOf 2 (some .int), Cond.fieldLink RX3 24 "HeadBudgets$Heads" "allotment" "[I", Cond.fieldLink RX3 27 "HeadBudgets$Heads" "committed" "[I", Cond.fieldLink RX3 30 "HeadBudgets$Heads" "spent" "[I"]
def wsX5_mostFrom : List Cond := .code yX5_mostFrom cX5_mostFrom 3 (some .int) :: ((wsX5_mostFrom_r1 ++ (wsX5_mostFrom_r2 ++ wsX5_mostFrom_r3)) ++ wsX50 ++ wsX00 ++ wsX30)
def wsX5_bestGiver_r1 : List Cond := [Cond.fieldLink RX5 10 "HeadBudgets" "now" "LHeadBudgets$Books;", Cond.fieldLink RX5 23 "HeadBudgets$Books" "heads" "LHeadBudgets$Heads;", Cond.methodLink RX5 33 yX3_has, Cond.instanceMethod yX3_has, Cond.selects RX3 yX3_has yX3_has, Cond.initialized RX3, Cond.code yX3_has cX3_has 2 (some .boolean), Cond.fieldLink RX3 48 "HeadBudgets$Heads" "made" "I", Cond.methodLink RX5 216 yX3_giverOfMost, Cond.instanceMethod yX3_giverOfMost, Cond.selects RX3 yX3_giverOfMost yX3_giverOfMost, Cond.code yX3_giverOfMost cX3_giverOfMost 6 (some .int), Cond.fieldLink RX3 18 "HeadBudgets$Heads" "rank" "[I", Cond.methodLink RX3 89 yX3_movable, Cond.instanceMethod yX3_movable, Cond.selects RX3 yX3_movable yX3_movable, Cond.code yX3_movable cX3_movable 5 (some .int), Cond.fieldLink RX3 33 "HeadBudgets$Heads" "allotted" "[I", Cond.fieldLink RX3 39 "HeadBudgets$Heads" "share" "[I", Cond.fieldLink RX3 36 "HeadBudgets$Heads" "left" "[I", Cond.constant RX3 80 (100000), Cond.methodLink RX3 81 Lib.Math.min.name, Cond.static Lib.Math.min.name, Cond.initialized "java/lang/Math"]
def wsX5_bestGiver_r2 : List Cond := [Cond.code Lib.Math.min.name Lib.Math.min.code 2 (some .int), Cond.methodLink RX3 86 Lib.Math.max.name, Cond.static Lib.Math.max.name, Cond.code Lib.Math.max.name Lib.Math.max.code 2 (some .int), Cond.methodLink RX3 71 yX3_hasBoth, Cond.instanceMethod yX3_hasBoth, Cond.selects RX3 yX3_hasBoth yX3_hasBoth, Cond.code yX3_hasBoth cX3_hasBoth 3 (some .boolean), Cond.methodLink RX3 52 yX3_has, Cond.methodLink RX3 74 yX3_mayGive, Cond.instanceMethod yX3_mayGive, Cond.selects RX3 yX3_mayGive yX3_mayGive, Cond.code yX3_mayGive cX3_mayGive 4 (some .boolean), Cond.fieldLink RX3 9 "HeadBudgets$Heads" "above" "[I", Cond.methodLink RX3 56 yX3_isBarred, Cond.instanceMethod yX3_isBarred, Cond.selects RX3 yX3_isBarred yX3_isBarred, Cond.code yX3_isBarred cX3_isBarred 4 (some .boolean), Cond.fieldLink RX3 21 "HeadBudgets$Heads" "frozen" "[I", Cond.methodLink RX3 59 yX3_isWithin, Cond.instanceMethod yX3_isWithin, Cond.selects RX3 yX3_isWithin yX3_isWithin, Cond.code yX3_isWithin cX3_isWithin 5 (some .boolean), Cond.static yX5_partOf]
def wsX5_bestGiver_r3 : List Cond := [Cond.initialized RX5, Cond.code yX5_partOf cX5_partOf 2 (some .int), Cond.constantLong RX5 223 (100), Cond.methodLink RX3 67 yX3_freeOf, Cond.instanceMethod yX3_freeOf, Cond.selects RX3 yX3_freeOf yX3_freeOf, Cond.code yX3_freeOf cX3_freeOf 2 (some .int), Cond.fieldLink RX3 24 "HeadBudgets$Heads" "allotment" "[I", Cond.fieldLink RX3 27 "HeadBudgets$Heads" "committed" "[I", Cond.fieldLink RX3 30 "HeadBudgets$Heads" "spent" "[I"]
def wsX5_bestGiver : List Cond := .code yX5_bestGiver cX5_bestGiver 2 (some .int) :: ((wsX5_bestGiver_r1 ++ (wsX5_bestGiver_r2 ++ wsX5_bestGiver_r3)) ++ wsX50 ++ wsX00 ++ wsX30)
def wsX5_wouldLapse_r1 : List Cond := [Cond.fieldLink RX5 10 "HeadBudgets" "now" "LHeadBudgets$Books;", Cond.fieldLink RX5 23 "HeadBudgets$Books" "heads" "LHeadBudgets$Heads;", Cond.fieldLink RX5 72 "HeadBudgets$Books" "carriedPart" "I", Cond.methodLink RX5 33 yX3_has, Cond.instanceMethod yX3_has, Cond.selects RX3 yX3_has yX3_has, Cond.initialized RX3, Cond.code yX3_has cX3_has 2 (some .boolean), Cond.fieldLink RX3 48 "HeadBudgets$Heads" "made" "I", Cond.methodLink RX5 137 yX3_lapseWithin, Cond.instanceMethod yX3_lapseWithin, Cond.selects RX3 yX3_lapseWithin yX3_lapseWithin, Cond.code yX3_lapseWithin cX3_lapseWithin 6 (some .int), Cond.methodLink RX3 59 yX3_isWithin, Cond.instanceMethod yX3_isWithin, Cond.selects RX3 yX3_isWithin yX3_isWithin, Cond.code yX3_isWithin cX3_isWithin 5 (some .boolean), Cond.fieldLink RX3 9 "HeadBudgets$Heads" "above" "[I", Cond.methodLink RX3 52 yX3_has, Cond.methodLink RX3 67 yX3_freeOf, Cond.instanceMethod yX3_freeOf, Cond.selects RX3 yX3_freeOf yX3_freeOf, Cond.code yX3_freeOf cX3_freeOf 2 (some .int), Cond.fieldLink RX3 24 "HeadBudgets$Heads" "allotment" "[I"]
def wsX5_wouldLapse_r2 : List Cond := [Cond.fieldLink RX3 27 "HeadBudgets$Heads" "committed" "[I", Cond.fieldLink RX3 30 "HeadBudgets$Heads" "spent" "[I", Cond.static yX5_partOf, Cond.initialized RX5, Cond.code yX5_partOf cX5_partOf 2 (some .int), Cond.constantLong RX5 223 (100)]
def wsX5_wouldLapse : List Cond := .code yX5_wouldLapse cX5_wouldLapse 2 (some .int) :: ((wsX5_wouldLapse_r1 ++ wsX5_wouldLapse_r2) ++ wsX50 ++ wsX00 ++ wsX30)
def wsJ9_max_7cf53 : List Cond := .code yJ9_max_7cf53 cJ9_max_7cf53 2 (some .int) :: ([])
def wsJ9_min_7cf53 : List Cond := .code yJ9_min_7cf53 cJ9_min_7cf53 2 (some .int) :: ([])
end
section
theorem inJ9 : ∀ w ∈ wsJ90, w ∈ lw_tbl := by decide +kernel
theorem inJ10 : ∀ w ∈ wsJ100, w ∈ lw_tbl := by decide +kernel
set_option maxRecDepth 20000 in
theorem ggX0_init_X3_init : GoodIn wsX0_init wsX3_init := goodIn_r _ [14, 15, 2, 3, 16, 17, 18, 19, 20, 21, 22, 23, 24, 25, 26, 34, 35, 36, 37, 38, 39, 40, 41, 42, 43, 44] (by decide +kernel) (by decide +kernel)
set_option maxRecDepth 20000 in
theorem gX0_init_X3_init_n11 : GoodIn wsX0_init (wsX3_init) := ggX0_init_X3_init
set_option maxRecDepth 20000 in
theorem ggX0_init_X1_init : GoodIn wsX0_init wsX1_init := goodIn_r _ [28, 29, 2, 3, 16, 30, 31, 32, 33, 51, 52, 53, 54, 55] (by decide +kernel) (by decide +kernel)
set_option maxRecDepth 20000 in
theorem gX0_init_X1_init_n20 : GoodIn wsX0_init (wsX1_init) := ggX0_init_X1_init
theorem dX0_init_0 : decode cX0_init 0 = .ok (.aload_n 0, 1) := by decide +kernel
theorem dX0_init_1 : decode cX0_init 1 = .ok (.invokespecial 3, 3) := by decide +kernel
theorem dX0_init_4 : decode cX0_init 4 = .ok (.aload_n 0, 1) := by decide +kernel
theorem dX0_init_5 : decode cX0_init 5 = .ok (.new 9, 3) := by decide +kernel
theorem dX0_init_8 : decode cX0_init 8 = .ok (.dup, 1) := by decide +kernel
theorem dX0_init_9 : decode cX0_init 9 = .ok (.invokespecial 11, 3) := by decide +kernel
theorem dX0_init_12 : decode cX0_init 12 = .ok (.putfield 12, 3) := by decide +kernel
theorem dX0_init_15 : decode cX0_init 15 = .ok (.aload_n 0, 1) := by decide +kernel
theorem dX0_init_16 : decode cX0_init 16 = .ok (.new 18, 3) := by decide +kernel
theorem dX0_init_19 : decode cX0_init 19 = .ok (.dup, 1) := by decide +kernel
theorem dX0_init_20 : decode cX0_init 20 = .ok (.invokespecial 20, 3) := by decide +kernel
theorem dX0_init_23 : decode cX0_init 23 = .ok (.putfield 21, 3) := by decide +kernel
theorem dX0_init_26 : decode cX0_init 26 = .ok (.aload_n 0, 1) := by decide +kernel
theorem dX0_init_27 : decode cX0_init 27 = .ok (.bipush 10, 2) := by decide +kernel
theorem dX0_init_29 : decode cX0_init 29 = .ok (.putfield 25, 3) := by decide +kernel
theorem dX0_init_32 : decode cX0_init 32 = .ok (.return_, 1) := by decide +kernel
set_option maxRecDepth 20000 in
theorem ggX0_copyFrom_X3_copyFrom : GoodIn wsX0_copyFrom wsX3_copyFrom := goodIn_r _ [11, 12, 13, 14, 15, 16, 17, 18, 19, 20, 21, 22, 23, 24, 25, 26, 44, 45, 46, 47, 48, 49, 50, 51, 52, 53, 54] (by decide +kernel) (by decide +kernel)
set_option maxRecDepth 20000 in
theorem gX0_copyFrom_X3_copyFrom : GoodIn wsX0_copyFrom (wsV RX0 29 RX3 yX3_copyFrom wsX3_copyFrom) := goodIn_app (goodIn_of _ (by decide +kernel)) ggX0_copyFrom_X3_copyFrom
set_option maxRecDepth 20000 in
theorem ggX0_copyFrom_X1_copyFrom : GoodIn wsX0_copyFrom wsX1_copyFrom := goodIn_r _ [31, 32, 33, 14, 15, 16, 34, 35, 36, 37, 55, 56, 57, 58, 59] (by decide +kernel) (by decide +kernel)
set_option maxRecDepth 20000 in
theorem gX0_copyFrom_X1_copyFrom : GoodIn wsX0_copyFrom (wsV RX0 33 RX1 yX1_copyFrom wsX1_copyFrom) := goodIn_app (goodIn_of _ (by decide +kernel)) ggX0_copyFrom_X1_copyFrom
theorem dX0_copyFrom_0 : decode cX0_copyFrom 0 = .ok (.aload_n 0, 1) := by decide +kernel
theorem dX0_copyFrom_1 : decode cX0_copyFrom 1 = .ok (.getfield 12, 3) := by decide +kernel
theorem dX0_copyFrom_4 : decode cX0_copyFrom 4 = .ok (.aload_n 1, 1) := by decide +kernel
theorem dX0_copyFrom_5 : decode cX0_copyFrom 5 = .ok (.getfield 12, 3) := by decide +kernel
theorem dX0_copyFrom_8 : decode cX0_copyFrom 8 = .ok (.invokevirtual 29, 3) := by decide +kernel
theorem dX0_copyFrom_11 : decode cX0_copyFrom 11 = .ok (.aload_n 0, 1) := by decide +kernel
theorem dX0_copyFrom_12 : decode cX0_copyFrom 12 = .ok (.getfield 21, 3) := by decide +kernel
theorem dX0_copyFrom_15 : decode cX0_copyFrom 15 = .ok (.aload_n 1, 1) := by decide +kernel
theorem dX0_copyFrom_16 : decode cX0_copyFrom 16 = .ok (.getfield 21, 3) := by decide +kernel
theorem dX0_copyFrom_19 : decode cX0_copyFrom 19 = .ok (.invokevirtual 33, 3) := by decide +kernel
theorem dX0_copyFrom_22 : decode cX0_copyFrom 22 = .ok (.aload_n 0, 1) := by decide +kernel
theorem dX0_copyFrom_23 : decode cX0_copyFrom 23 = .ok (.aload_n 1, 1) := by decide +kernel
theorem dX0_copyFrom_24 : decode cX0_copyFrom 24 = .ok (.getfield 36, 3) := by decide +kernel
theorem dX0_copyFrom_27 : decode cX0_copyFrom 27 = .ok (.putfield 36, 3) := by decide +kernel
theorem dX0_copyFrom_30 : decode cX0_copyFrom 30 = .ok (.aload_n 0, 1) := by decide +kernel
theorem dX0_copyFrom_31 : decode cX0_copyFrom 31 = .ok (.aload_n 1, 1) := by decide +kernel
theorem dX0_copyFrom_32 : decode cX0_copyFrom 32 = .ok (.getfield 25, 3) := by decide +kernel
theorem dX0_copyFrom_35 : decode cX0_copyFrom 35 = .ok (.putfield 25, 3) := by decide +kernel
theorem dX0_copyFrom_38 : decode cX0_copyFrom 38 = .ok (.aload_n 0, 1) := by decide +kernel
theorem dX0_copyFrom_39 : decode cX0_copyFrom 39 = .ok (.aload_n 1, 1) := by decide +kernel
theorem dX0_copyFrom_40 : decode cX0_copyFrom 40 = .ok (.getfield 39, 3) := by decide +kernel
theorem dX0_copyFrom_43 : decode cX0_copyFrom 43 = .ok (.putfield 39, 3) := by decide +kernel
theorem dX0_copyFrom_46 : decode cX0_copyFrom 46 = .ok (.aload_n 0, 1) := by decide +kernel
theorem dX0_copyFrom_47 : decode cX0_copyFrom 47 = .ok (.aload_n 1, 1) := by decide +kernel
theorem dX0_copyFrom_48 : decode cX0_copyFrom 48 = .ok (.getfield 42, 3) := by decide +kernel
theorem dX0_copyFrom_51 : decode cX0_copyFrom 51 = .ok (.putfield 42, 3) := by decide +kernel
theorem dX0_copyFrom_54 : decode cX0_copyFrom 54 = .ok (.return_, 1) := by decide +kernel
set_option maxRecDepth 20000 in
theorem ggX0_freeOpenOf_X1_has : GoodIn wsX0_freeOpenOf wsX1_has := goodIn_r _ [9, 10, 28, 29, 30, 31, 32] (by decide +kernel) (by decide +kernel)
set_option maxRecDepth 20000 in
theorem gX0_freeOpenOf_X1_has : GoodIn wsX0_freeOpenOf (wsV RX0 45 RX1 yX1_has wsX1_has) := goodIn_app (goodIn_of _ (by decide +kernel)) ggX0_freeOpenOf_X1_has
set_option maxRecDepth 20000 in
theorem ggX0_freeOpenOf_X3_changeCommitted : GoodIn wsX0_freeOpenOf wsX3_changeCommitted := goodIn_r _ [15, 16, 17, 18, 19, 14, 20, 21, 33, 34, 35, 36, 37, 38, 39, 40, 41, 42, 43] (by decide +kernel) (by decide +kernel)
set_option maxRecDepth 20000 in
theorem gX0_freeOpenOf_X3_changeCommitted : GoodIn wsX0_freeOpenOf (wsV RX0 56 RX3 yX3_changeCommitted wsX3_changeCommitted) := goodIn_app (goodIn_of _ (by decide +kernel)) ggX0_freeOpenOf_X3_changeCommitted
theorem dX0_freeOpenOf_0 : decode cX0_freeOpenOf 0 = .ok (.aload_n 0, 1) := by decide +kernel
theorem dX0_freeOpenOf_1 : decode cX0_freeOpenOf 1 = .ok (.getfield 21, 3) := by decide +kernel
theorem dX0_freeOpenOf_4 : decode cX0_freeOpenOf 4 = .ok (.iload_n 1, 1) := by decide +kernel
theorem dX0_freeOpenOf_5 : decode cX0_freeOpenOf 5 = .ok (.invokevirtual 45, 3) := by decide +kernel
theorem dX0_freeOpenOf_8 : decode cX0_freeOpenOf 8 = .ok (.ifCond .ne 5, 3) := by decide +kernel
theorem dX0_freeOpenOf_11 : decode cX0_freeOpenOf 11 = .ok (.iconst 0, 1) := by decide +kernel
theorem dX0_freeOpenOf_12 : decode cX0_freeOpenOf 12 = .ok (.ireturn, 1) := by decide +kernel
theorem dX0_freeOpenOf_13 : decode cX0_freeOpenOf 13 = .ok (.aload_n 0, 1) := by decide +kernel
theorem dX0_freeOpenOf_14 : decode cX0_freeOpenOf 14 = .ok (.getfield 21, 3) := by decide +kernel
theorem dX0_freeOpenOf_17 : decode cX0_freeOpenOf 17 = .ok (.getfield 49, 3) := by decide +kernel
theorem dX0_freeOpenOf_20 : decode cX0_freeOpenOf 20 = .ok (.iload_n 1, 1) := by decide +kernel
theorem dX0_freeOpenOf_21 : decode cX0_freeOpenOf 21 = .ok (.iaload, 1) := by decide +kernel
theorem dX0_freeOpenOf_22 : decode cX0_freeOpenOf 22 = .ok (.istore_n 2, 1) := by decide +kernel
theorem dX0_freeOpenOf_23 : decode cX0_freeOpenOf 23 = .ok (.aload_n 0, 1) := by decide +kernel
theorem dX0_freeOpenOf_24 : decode cX0_freeOpenOf 24 = .ok (.getfield 21, 3) := by decide +kernel
theorem dX0_freeOpenOf_27 : decode cX0_freeOpenOf 27 = .ok (.getfield 49, 3) := by decide +kernel
theorem dX0_freeOpenOf_30 : decode cX0_freeOpenOf 30 = .ok (.iload_n 1, 1) := by decide +kernel
theorem dX0_freeOpenOf_31 : decode cX0_freeOpenOf 31 = .ok (.iconst 0, 1) := by decide +kernel
theorem dX0_freeOpenOf_32 : decode cX0_freeOpenOf 32 = .ok (.iastore, 1) := by decide +kernel
theorem dX0_freeOpenOf_33 : decode cX0_freeOpenOf 33 = .ok (.aload_n 0, 1) := by decide +kernel
theorem dX0_freeOpenOf_34 : decode cX0_freeOpenOf 34 = .ok (.getfield 12, 3) := by decide +kernel
theorem dX0_freeOpenOf_37 : decode cX0_freeOpenOf 37 = .ok (.aload_n 0, 1) := by decide +kernel
theorem dX0_freeOpenOf_38 : decode cX0_freeOpenOf 38 = .ok (.getfield 21, 3) := by decide +kernel
theorem dX0_freeOpenOf_41 : decode cX0_freeOpenOf 41 = .ok (.getfield 53, 3) := by decide +kernel
theorem dX0_freeOpenOf_44 : decode cX0_freeOpenOf 44 = .ok (.iload_n 1, 1) := by decide +kernel
theorem dX0_freeOpenOf_45 : decode cX0_freeOpenOf 45 = .ok (.iaload, 1) := by decide +kernel
theorem dX0_freeOpenOf_46 : decode cX0_freeOpenOf 46 = .ok (.iload_n 2, 1) := by decide +kernel
theorem dX0_freeOpenOf_47 : decode cX0_freeOpenOf 47 = .ok (.ineg, 1) := by decide +kernel
theorem dX0_freeOpenOf_48 : decode cX0_freeOpenOf 48 = .ok (.invokevirtual 56, 3) := by decide +kernel
theorem dX0_freeOpenOf_51 : decode cX0_freeOpenOf 51 = .ok (.iload_n 2, 1) := by decide +kernel
theorem dX0_freeOpenOf_52 : decode cX0_freeOpenOf 52 = .ok (.ireturn, 1) := by decide +kernel
theorem dX1_init_0 : decode cX1_init 0 = .ok (.aload_n 0, 1) := by decide +kernel
theorem dX1_init_1 : decode cX1_init 1 = .ok (.invokespecial 3, 3) := by decide +kernel
theorem dX1_init_4 : decode cX1_init 4 = .ok (.aload_n 0, 1) := by decide +kernel
theorem dX1_init_5 : decode cX1_init 5 = .ok (.bipush 40, 2) := by decide +kernel
theorem dX1_init_7 : decode cX1_init 7 = .ok (.newarray .int, 2) := by decide +kernel
theorem dX1_init_9 : decode cX1_init 9 = .ok (.putfield 9, 3) := by decide +kernel
theorem dX1_init_12 : decode cX1_init 12 = .ok (.aload_n 0, 1) := by decide +kernel
theorem dX1_init_13 : decode cX1_init 13 = .ok (.bipush 40, 2) := by decide +kernel
theorem dX1_init_15 : decode cX1_init 15 = .ok (.newarray .int, 2) := by decide +kernel
theorem dX1_init_17 : decode cX1_init 17 = .ok (.putfield 15, 3) := by decide +kernel
theorem dX1_init_20 : decode cX1_init 20 = .ok (.aload_n 0, 1) := by decide +kernel
theorem dX1_init_21 : decode cX1_init 21 = .ok (.bipush 40, 2) := by decide +kernel
theorem dX1_init_23 : decode cX1_init 23 = .ok (.newarray .int, 2) := by decide +kernel
theorem dX1_init_25 : decode cX1_init 25 = .ok (.putfield 18, 3) := by decide +kernel
theorem dX1_init_28 : decode cX1_init 28 = .ok (.aload_n 0, 1) := by decide +kernel
theorem dX1_init_29 : decode cX1_init 29 = .ok (.bipush 40, 2) := by decide +kernel
theorem dX1_init_31 : decode cX1_init 31 = .ok (.newarray .int, 2) := by decide +kernel
theorem dX1_init_33 : decode cX1_init 33 = .ok (.putfield 21, 3) := by decide +kernel
theorem dX1_init_36 : decode cX1_init 36 = .ok (.return_, 1) := by decide +kernel
theorem dX1_copyFrom_0 : decode cX1_copyFrom 0 = .ok (.aload_n 1, 1) := by decide +kernel
theorem dX1_copyFrom_1 : decode cX1_copyFrom 1 = .ok (.getfield 9, 3) := by decide +kernel
theorem dX1_copyFrom_4 : decode cX1_copyFrom 4 = .ok (.iconst 0, 1) := by decide +kernel
theorem dX1_copyFrom_5 : decode cX1_copyFrom 5 = .ok (.aload_n 0, 1) := by decide +kernel
theorem dX1_copyFrom_6 : decode cX1_copyFrom 6 = .ok (.getfield 9, 3) := by decide +kernel
theorem dX1_copyFrom_9 : decode cX1_copyFrom 9 = .ok (.iconst 0, 1) := by decide +kernel
theorem dX1_copyFrom_10 : decode cX1_copyFrom 10 = .ok (.bipush 40, 2) := by decide +kernel
theorem dX1_copyFrom_12 : decode cX1_copyFrom 12 = .ok (.invokestatic 24, 3) := by decide +kernel
theorem dX1_copyFrom_15 : decode cX1_copyFrom 15 = .ok (.aload_n 1, 1) := by decide +kernel
theorem dX1_copyFrom_16 : decode cX1_copyFrom 16 = .ok (.getfield 15, 3) := by decide +kernel
theorem dX1_copyFrom_19 : decode cX1_copyFrom 19 = .ok (.iconst 0, 1) := by decide +kernel
theorem dX1_copyFrom_20 : decode cX1_copyFrom 20 = .ok (.aload_n 0, 1) := by decide +kernel
theorem dX1_copyFrom_21 : decode cX1_copyFrom 21 = .ok (.getfield 15, 3) := by decide +kernel
theorem dX1_copyFrom_24 : decode cX1_copyFrom 24 = .ok (.iconst 0, 1) := by decide +kernel
theorem dX1_copyFrom_25 : decode cX1_copyFrom 25 = .ok (.bipush 40, 2) := by decide +kernel
theorem dX1_copyFrom_27 : decode cX1_copyFrom 27 = .ok (.invokestatic 24, 3) := by decide +kernel
theorem dX1_copyFrom_30 : decode cX1_copyFrom 30 = .ok (.aload_n 1, 1) := by decide +kernel
theorem dX1_copyFrom_31 : decode cX1_copyFrom 31 = .ok (.getfield 18, 3) := by decide +kernel
theorem dX1_copyFrom_34 : decode cX1_copyFrom 34 = .ok (.iconst 0, 1) := by decide +kernel
theorem dX1_copyFrom_35 : decode cX1_copyFrom 35 = .ok (.aload_n 0, 1) := by decide +kernel
theorem dX1_copyFrom_36 : decode cX1_copyFrom 36 = .ok (.getfield 18, 3) := by decide +kernel
theorem dX1_copyFrom_39 : decode cX1_copyFrom 39 = .ok (.iconst 0, 1) := by decide +kernel
theorem dX1_copyFrom_40 : decode cX1_copyFrom 40 = .ok (.bipush 40, 2) := by decide +kernel
theorem dX1_copyFrom_42 : decode cX1_copyFrom 42 = .ok (.invokestatic 24, 3) := by decide +kernel
theorem dX1_copyFrom_45 : decode cX1_copyFrom 45 = .ok (.aload_n 1, 1) := by decide +kernel
theorem dX1_copyFrom_46 : decode cX1_copyFrom 46 = .ok (.getfield 21, 3) := by decide +kernel
theorem dX1_copyFrom_49 : decode cX1_copyFrom 49 = .ok (.iconst 0, 1) := by decide +kernel
theorem dX1_copyFrom_50 : decode cX1_copyFrom 50 = .ok (.aload_n 0, 1) := by decide +kernel
theorem dX1_copyFrom_51 : decode cX1_copyFrom 51 = .ok (.getfield 21, 3) := by decide +kernel
theorem dX1_copyFrom_54 : decode cX1_copyFrom 54 = .ok (.iconst 0, 1) := by decide +kernel
theorem dX1_copyFrom_55 : decode cX1_copyFrom 55 = .ok (.bipush 40, 2) := by decide +kernel
theorem dX1_copyFrom_57 : decode cX1_copyFrom 57 = .ok (.invokestatic 24, 3) := by decide +kernel
theorem dX1_copyFrom_60 : decode cX1_copyFrom 60 = .ok (.aload_n 0, 1) := by decide +kernel
theorem dX1_copyFrom_61 : decode cX1_copyFrom 61 = .ok (.aload_n 1, 1) := by decide +kernel
theorem dX1_copyFrom_62 : decode cX1_copyFrom 62 = .ok (.getfield 30, 3) := by decide +kernel
theorem dX1_copyFrom_65 : decode cX1_copyFrom 65 = .ok (.putfield 30, 3) := by decide +kernel
theorem dX1_copyFrom_68 : decode cX1_copyFrom 68 = .ok (.return_, 1) := by decide +kernel
theorem dX1_has_0 : decode cX1_has 0 = .ok (.iload_n 1, 1) := by decide +kernel
theorem dX1_has_1 : decode cX1_has 1 = .ok (.ifCond .lt 21, 3) := by decide +kernel
theorem dX1_has_4 : decode cX1_has 4 = .ok (.iload_n 1, 1) := by decide +kernel
theorem dX1_has_5 : decode cX1_has 5 = .ok (.aload_n 0, 1) := by decide +kernel
theorem dX1_has_6 : decode cX1_has 6 = .ok (.getfield 30, 3) := by decide +kernel
theorem dX1_has_9 : decode cX1_has 9 = .ok (.if_icmp .ge 13, 3) := by decide +kernel
theorem dX1_has_12 : decode cX1_has 12 = .ok (.iload_n 1, 1) := by decide +kernel
theorem dX1_has_13 : decode cX1_has 13 = .ok (.bipush 40, 2) := by decide +kernel
theorem dX1_has_15 : decode cX1_has 15 = .ok (.if_icmp .ge 7, 3) := by decide +kernel
theorem dX1_has_18 : decode cX1_has 18 = .ok (.iconst 1, 1) := by decide +kernel
theorem dX1_has_19 : decode cX1_has 19 = .ok (.goto 4, 3) := by decide +kernel
theorem dX1_has_22 : decode cX1_has 22 = .ok (.iconst 0, 1) := by decide +kernel
theorem dX1_has_23 : decode cX1_has 23 = .ok (.ireturn, 1) := by decide +kernel
theorem dX1_add_0 : decode cX1_add 0 = .ok (.aload_n 0, 1) := by decide +kernel
theorem dX1_add_1 : decode cX1_add 1 = .ok (.getfield 30, 3) := by decide +kernel
theorem dX1_add_4 : decode cX1_add 4 = .ok (.istore 4, 2) := by decide +kernel
theorem dX1_add_6 : decode cX1_add 6 = .ok (.iload 4, 2) := by decide +kernel
theorem dX1_add_8 : decode cX1_add 8 = .ok (.ifCond .lt 10, 3) := by decide +kernel
theorem dX1_add_11 : decode cX1_add 11 = .ok (.iload 4, 2) := by decide +kernel
theorem dX1_add_13 : decode cX1_add 13 = .ok (.bipush 40, 2) := by decide +kernel
theorem dX1_add_15 : decode cX1_add 15 = .ok (.if_icmp .lt 6, 3) := by decide +kernel
theorem dX1_add_18 : decode cX1_add 18 = .ok (.bipush (-3), 2) := by decide +kernel
theorem dX1_add_20 : decode cX1_add 20 = .ok (.ireturn, 1) := by decide +kernel
theorem dX1_add_21 : decode cX1_add 21 = .ok (.aload_n 0, 1) := by decide +kernel
theorem dX1_add_22 : decode cX1_add 22 = .ok (.getfield 9, 3) := by decide +kernel
theorem dX1_add_25 : decode cX1_add 25 = .ok (.iload 4, 2) := by decide +kernel
theorem dX1_add_27 : decode cX1_add 27 = .ok (.iload_n 1, 1) := by decide +kernel
theorem dX1_add_28 : decode cX1_add 28 = .ok (.iastore, 1) := by decide +kernel
theorem dX1_add_29 : decode cX1_add 29 = .ok (.aload_n 0, 1) := by decide +kernel
theorem dX1_add_30 : decode cX1_add 30 = .ok (.getfield 15, 3) := by decide +kernel
theorem dX1_add_33 : decode cX1_add 33 = .ok (.iload 4, 2) := by decide +kernel
theorem dX1_add_35 : decode cX1_add 35 = .ok (.iload_n 2, 1) := by decide +kernel
theorem dX1_add_36 : decode cX1_add 36 = .ok (.iastore, 1) := by decide +kernel
theorem dX1_add_37 : decode cX1_add 37 = .ok (.aload_n 0, 1) := by decide +kernel
theorem dX1_add_38 : decode cX1_add 38 = .ok (.getfield 21, 3) := by decide +kernel
theorem dX1_add_41 : decode cX1_add 41 = .ok (.iload 4, 2) := by decide +kernel
theorem dX1_add_43 : decode cX1_add 43 = .ok (.iload_n 3, 1) := by decide +kernel
theorem dX1_add_44 : decode cX1_add 44 = .ok (.iastore, 1) := by decide +kernel
theorem dX1_add_45 : decode cX1_add 45 = .ok (.aload_n 0, 1) := by decide +kernel
theorem dX1_add_46 : decode cX1_add 46 = .ok (.dup, 1) := by decide +kernel
theorem dX1_add_47 : decode cX1_add 47 = .ok (.getfield 30, 3) := by decide +kernel
theorem dX1_add_50 : decode cX1_add 50 = .ok (.iconst 1, 1) := by decide +kernel
theorem dX1_add_51 : decode cX1_add 51 = .ok (.iadd, 1) := by decide +kernel
theorem dX1_add_52 : decode cX1_add 52 = .ok (.putfield 30, 3) := by decide +kernel
theorem dX1_add_55 : decode cX1_add 55 = .ok (.iload 4, 2) := by decide +kernel
theorem dX1_add_57 : decode cX1_add 57 = .ok (.ireturn, 1) := by decide +kernel
theorem dX1_countOpen_0 : decode cX1_countOpen 0 = .ok (.iconst 0, 1) := by decide +kernel
theorem dX1_countOpen_1 : decode cX1_countOpen 1 = .ok (.istore_n 1, 1) := by decide +kernel
theorem dX1_countOpen_2 : decode cX1_countOpen 2 = .ok (.iconst 0, 1) := by decide +kernel
theorem dX1_countOpen_3 : decode cX1_countOpen 3 = .ok (.istore_n 2, 1) := by decide +kernel
theorem dX1_countOpen_4 : decode cX1_countOpen 4 = .ok (.iload_n 2, 1) := by decide +kernel
theorem dX1_countOpen_5 : decode cX1_countOpen 5 = .ok (.bipush 40, 2) := by decide +kernel
theorem dX1_countOpen_7 : decode cX1_countOpen 7 = .ok (.if_icmp .ge 21, 3) := by decide +kernel
theorem dX1_countOpen_10 : decode cX1_countOpen 10 = .ok (.aload_n 0, 1) := by decide +kernel
theorem dX1_countOpen_11 : decode cX1_countOpen 11 = .ok (.getfield 15, 3) := by decide +kernel
theorem dX1_countOpen_14 : decode cX1_countOpen 14 = .ok (.iload_n 2, 1) := by decide +kernel
theorem dX1_countOpen_15 : decode cX1_countOpen 15 = .ok (.iaload, 1) := by decide +kernel
theorem dX1_countOpen_16 : decode cX1_countOpen 16 = .ok (.ifCond .le 6, 3) := by decide +kernel
theorem dX1_countOpen_19 : decode cX1_countOpen 19 = .ok (.iinc 1 1, 3) := by decide +kernel
theorem dX1_countOpen_22 : decode cX1_countOpen 22 = .ok (.iinc 2 1, 3) := by decide +kernel
theorem dX1_countOpen_25 : decode cX1_countOpen 25 = .ok (.goto (-21), 3) := by decide +kernel
theorem dX1_countOpen_28 : decode cX1_countOpen 28 = .ok (.iload_n 1, 1) := by decide +kernel
theorem dX1_countOpen_29 : decode cX1_countOpen 29 = .ok (.ireturn, 1) := by decide +kernel
set_option maxRecDepth 20000 in
theorem ggX2_init_X0_init : GoodIn wsX2_init wsX0_init := goodIn_r _ [9, 10, 2, 3, 11, 12, 13, 14, 15, 16, 17, 18, 19, 20, 21, 22, 23, 24, 25, 26, 27, 28, 29, 30, 31, 32, 33, 34, 35, 36, 37, 38, 39, 40, 53, 54, 55, 56, 57, 58, 59, 60, 61, 62, 63, 41, 42, 43, 44, 45, 46, 64, 65, 66, 67, 68] (by decide +kernel) (by decide +kernel)
set_option maxRecDepth 20000 in
theorem gX2_init_X0_init_n9 : GoodIn wsX2_init (wsX0_init) := ggX2_init_X0_init
theorem dX2_init_0 : decode cX2_init 0 = .ok (.aload_n 0, 1) := by decide +kernel
theorem dX2_init_1 : decode cX2_init 1 = .ok (.invokespecial 1, 3) := by decide +kernel
theorem dX2_init_4 : decode cX2_init 4 = .ok (.aload_n 0, 1) := by decide +kernel
theorem dX2_init_5 : decode cX2_init 5 = .ok (.new 7, 3) := by decide +kernel
theorem dX2_init_8 : decode cX2_init 8 = .ok (.dup, 1) := by decide +kernel
theorem dX2_init_9 : decode cX2_init 9 = .ok (.invokespecial 9, 3) := by decide +kernel
theorem dX2_init_12 : decode cX2_init 12 = .ok (.putfield 10, 3) := by decide +kernel
theorem dX2_init_15 : decode cX2_init 15 = .ok (.return_, 1) := by decide +kernel
theorem dX3_init_0 : decode cX3_init 0 = .ok (.aload_n 0, 1) := by decide +kernel
theorem dX3_init_1 : decode cX3_init 1 = .ok (.invokespecial 3, 3) := by decide +kernel
theorem dX3_init_4 : decode cX3_init 4 = .ok (.aload_n 0, 1) := by decide +kernel
theorem dX3_init_5 : decode cX3_init 5 = .ok (.bipush 20, 2) := by decide +kernel
theorem dX3_init_7 : decode cX3_init 7 = .ok (.newarray .int, 2) := by decide +kernel
theorem dX3_init_9 : decode cX3_init 9 = .ok (.putfield 9, 3) := by decide +kernel
theorem dX3_init_12 : decode cX3_init 12 = .ok (.aload_n 0, 1) := by decide +kernel
theorem dX3_init_13 : decode cX3_init 13 = .ok (.bipush 20, 2) := by decide +kernel
theorem dX3_init_15 : decode cX3_init 15 = .ok (.newarray .int, 2) := by decide +kernel
theorem dX3_init_17 : decode cX3_init 17 = .ok (.putfield 15, 3) := by decide +kernel
theorem dX3_init_20 : decode cX3_init 20 = .ok (.aload_n 0, 1) := by decide +kernel
theorem dX3_init_21 : decode cX3_init 21 = .ok (.bipush 20, 2) := by decide +kernel
theorem dX3_init_23 : decode cX3_init 23 = .ok (.newarray .int, 2) := by decide +kernel
theorem dX3_init_25 : decode cX3_init 25 = .ok (.putfield 18, 3) := by decide +kernel
theorem dX3_init_28 : decode cX3_init 28 = .ok (.aload_n 0, 1) := by decide +kernel
theorem dX3_init_29 : decode cX3_init 29 = .ok (.bipush 20, 2) := by decide +kernel
theorem dX3_init_31 : decode cX3_init 31 = .ok (.newarray .int, 2) := by decide +kernel
theorem dX3_init_33 : decode cX3_init 33 = .ok (.putfield 21, 3) := by decide +kernel
theorem dX3_init_36 : decode cX3_init 36 = .ok (.aload_n 0, 1) := by decide +kernel
theorem dX3_init_37 : decode cX3_init 37 = .ok (.bipush 20, 2) := by decide +kernel
theorem dX3_init_39 : decode cX3_init 39 = .ok (.newarray .int, 2) := by decide +kernel
theorem dX3_init_41 : decode cX3_init 41 = .ok (.putfield 24, 3) := by decide +kernel
theorem dX3_init_44 : decode cX3_init 44 = .ok (.aload_n 0, 1) := by decide +kernel
theorem dX3_init_45 : decode cX3_init 45 = .ok (.bipush 20, 2) := by decide +kernel
theorem dX3_init_47 : decode cX3_init 47 = .ok (.newarray .int, 2) := by decide +kernel
theorem dX3_init_49 : decode cX3_init 49 = .ok (.putfield 27, 3) := by decide +kernel
theorem dX3_init_52 : decode cX3_init 52 = .ok (.aload_n 0, 1) := by decide +kernel
theorem dX3_init_53 : decode cX3_init 53 = .ok (.bipush 20, 2) := by decide +kernel
theorem dX3_init_55 : decode cX3_init 55 = .ok (.newarray .int, 2) := by decide +kernel
theorem dX3_init_57 : decode cX3_init 57 = .ok (.putfield 30, 3) := by decide +kernel
theorem dX3_init_60 : decode cX3_init 60 = .ok (.aload_n 0, 1) := by decide +kernel
theorem dX3_init_61 : decode cX3_init 61 = .ok (.bipush 20, 2) := by decide +kernel
theorem dX3_init_63 : decode cX3_init 63 = .ok (.newarray .int, 2) := by decide +kernel
theorem dX3_init_65 : decode cX3_init 65 = .ok (.putfield 33, 3) := by decide +kernel
theorem dX3_init_68 : decode cX3_init 68 = .ok (.aload_n 0, 1) := by decide +kernel
theorem dX3_init_69 : decode cX3_init 69 = .ok (.bipush 20, 2) := by decide +kernel
theorem dX3_init_71 : decode cX3_init 71 = .ok (.newarray .int, 2) := by decide +kernel
theorem dX3_init_73 : decode cX3_init 73 = .ok (.putfield 36, 3) := by decide +kernel
theorem dX3_init_76 : decode cX3_init 76 = .ok (.aload_n 0, 1) := by decide +kernel
theorem dX3_init_77 : decode cX3_init 77 = .ok (.bipush 20, 2) := by decide +kernel
theorem dX3_init_79 : decode cX3_init 79 = .ok (.newarray .int, 2) := by decide +kernel
theorem dX3_init_81 : decode cX3_init 81 = .ok (.putfield 39, 3) := by decide +kernel
theorem dX3_init_84 : decode cX3_init 84 = .ok (.return_, 1) := by decide +kernel
theorem dX3_copyFrom_0 : decode cX3_copyFrom 0 = .ok (.aload_n 1, 1) := by decide +kernel
theorem dX3_copyFrom_1 : decode cX3_copyFrom 1 = .ok (.getfield 9, 3) := by decide +kernel
theorem dX3_copyFrom_4 : decode cX3_copyFrom 4 = .ok (.iconst 0, 1) := by decide +kernel
theorem dX3_copyFrom_5 : decode cX3_copyFrom 5 = .ok (.aload_n 0, 1) := by decide +kernel
theorem dX3_copyFrom_6 : decode cX3_copyFrom 6 = .ok (.getfield 9, 3) := by decide +kernel
theorem dX3_copyFrom_9 : decode cX3_copyFrom 9 = .ok (.iconst 0, 1) := by decide +kernel
theorem dX3_copyFrom_10 : decode cX3_copyFrom 10 = .ok (.bipush 20, 2) := by decide +kernel
theorem dX3_copyFrom_12 : decode cX3_copyFrom 12 = .ok (.invokestatic 42, 3) := by decide +kernel
theorem dX3_copyFrom_15 : decode cX3_copyFrom 15 = .ok (.aload_n 1, 1) := by decide +kernel
theorem dX3_copyFrom_16 : decode cX3_copyFrom 16 = .ok (.getfield 15, 3) := by decide +kernel
theorem dX3_copyFrom_19 : decode cX3_copyFrom 19 = .ok (.iconst 0, 1) := by decide +kernel
theorem dX3_copyFrom_20 : decode cX3_copyFrom 20 = .ok (.aload_n 0, 1) := by decide +kernel
theorem dX3_copyFrom_21 : decode cX3_copyFrom 21 = .ok (.getfield 15, 3) := by decide +kernel
theorem dX3_copyFrom_24 : decode cX3_copyFrom 24 = .ok (.iconst 0, 1) := by decide +kernel
theorem dX3_copyFrom_25 : decode cX3_copyFrom 25 = .ok (.bipush 20, 2) := by decide +kernel
theorem dX3_copyFrom_27 : decode cX3_copyFrom 27 = .ok (.invokestatic 42, 3) := by decide +kernel
theorem dX3_copyFrom_30 : decode cX3_copyFrom 30 = .ok (.aload_n 1, 1) := by decide +kernel
theorem dX3_copyFrom_31 : decode cX3_copyFrom 31 = .ok (.getfield 18, 3) := by decide +kernel
theorem dX3_copyFrom_34 : decode cX3_copyFrom 34 = .ok (.iconst 0, 1) := by decide +kernel
theorem dX3_copyFrom_35 : decode cX3_copyFrom 35 = .ok (.aload_n 0, 1) := by decide +kernel
theorem dX3_copyFrom_36 : decode cX3_copyFrom 36 = .ok (.getfield 18, 3) := by decide +kernel
theorem dX3_copyFrom_39 : decode cX3_copyFrom 39 = .ok (.iconst 0, 1) := by decide +kernel
theorem dX3_copyFrom_40 : decode cX3_copyFrom 40 = .ok (.bipush 20, 2) := by decide +kernel
theorem dX3_copyFrom_42 : decode cX3_copyFrom 42 = .ok (.invokestatic 42, 3) := by decide +kernel
theorem dX3_copyFrom_45 : decode cX3_copyFrom 45 = .ok (.aload_n 1, 1) := by decide +kernel
theorem dX3_copyFrom_46 : decode cX3_copyFrom 46 = .ok (.getfield 21, 3) := by decide +kernel
theorem dX3_copyFrom_49 : decode cX3_copyFrom 49 = .ok (.iconst 0, 1) := by decide +kernel
theorem dX3_copyFrom_50 : decode cX3_copyFrom 50 = .ok (.aload_n 0, 1) := by decide +kernel
theorem dX3_copyFrom_51 : decode cX3_copyFrom 51 = .ok (.getfield 21, 3) := by decide +kernel
theorem dX3_copyFrom_54 : decode cX3_copyFrom 54 = .ok (.iconst 0, 1) := by decide +kernel
theorem dX3_copyFrom_55 : decode cX3_copyFrom 55 = .ok (.bipush 20, 2) := by decide +kernel
theorem dX3_copyFrom_57 : decode cX3_copyFrom 57 = .ok (.invokestatic 42, 3) := by decide +kernel
theorem dX3_copyFrom_60 : decode cX3_copyFrom 60 = .ok (.aload_n 1, 1) := by decide +kernel
theorem dX3_copyFrom_61 : decode cX3_copyFrom 61 = .ok (.getfield 24, 3) := by decide +kernel
theorem dX3_copyFrom_64 : decode cX3_copyFrom 64 = .ok (.iconst 0, 1) := by decide +kernel
theorem dX3_copyFrom_65 : decode cX3_copyFrom 65 = .ok (.aload_n 0, 1) := by decide +kernel
theorem dX3_copyFrom_66 : decode cX3_copyFrom 66 = .ok (.getfield 24, 3) := by decide +kernel
theorem dX3_copyFrom_69 : decode cX3_copyFrom 69 = .ok (.iconst 0, 1) := by decide +kernel
theorem dX3_copyFrom_70 : decode cX3_copyFrom 70 = .ok (.bipush 20, 2) := by decide +kernel
theorem dX3_copyFrom_72 : decode cX3_copyFrom 72 = .ok (.invokestatic 42, 3) := by decide +kernel
theorem dX3_copyFrom_75 : decode cX3_copyFrom 75 = .ok (.aload_n 1, 1) := by decide +kernel
theorem dX3_copyFrom_76 : decode cX3_copyFrom 76 = .ok (.getfield 27, 3) := by decide +kernel
theorem dX3_copyFrom_79 : decode cX3_copyFrom 79 = .ok (.iconst 0, 1) := by decide +kernel
theorem dX3_copyFrom_80 : decode cX3_copyFrom 80 = .ok (.aload_n 0, 1) := by decide +kernel
theorem dX3_copyFrom_81 : decode cX3_copyFrom 81 = .ok (.getfield 27, 3) := by decide +kernel
theorem dX3_copyFrom_84 : decode cX3_copyFrom 84 = .ok (.iconst 0, 1) := by decide +kernel
theorem dX3_copyFrom_85 : decode cX3_copyFrom 85 = .ok (.bipush 20, 2) := by decide +kernel
theorem dX3_copyFrom_87 : decode cX3_copyFrom 87 = .ok (.invokestatic 42, 3) := by decide +kernel
theorem dX3_copyFrom_90 : decode cX3_copyFrom 90 = .ok (.aload_n 1, 1) := by decide +kernel
theorem dX3_copyFrom_91 : decode cX3_copyFrom 91 = .ok (.getfield 30, 3) := by decide +kernel
theorem dX3_copyFrom_94 : decode cX3_copyFrom 94 = .ok (.iconst 0, 1) := by decide +kernel
theorem dX3_copyFrom_95 : decode cX3_copyFrom 95 = .ok (.aload_n 0, 1) := by decide +kernel
theorem dX3_copyFrom_96 : decode cX3_copyFrom 96 = .ok (.getfield 30, 3) := by decide +kernel
theorem dX3_copyFrom_99 : decode cX3_copyFrom 99 = .ok (.iconst 0, 1) := by decide +kernel
theorem dX3_copyFrom_100 : decode cX3_copyFrom 100 = .ok (.bipush 20, 2) := by decide +kernel
theorem dX3_copyFrom_102 : decode cX3_copyFrom 102 = .ok (.invokestatic 42, 3) := by decide +kernel
theorem dX3_copyFrom_105 : decode cX3_copyFrom 105 = .ok (.aload_n 1, 1) := by decide +kernel
theorem dX3_copyFrom_106 : decode cX3_copyFrom 106 = .ok (.getfield 33, 3) := by decide +kernel
theorem dX3_copyFrom_109 : decode cX3_copyFrom 109 = .ok (.iconst 0, 1) := by decide +kernel
theorem dX3_copyFrom_110 : decode cX3_copyFrom 110 = .ok (.aload_n 0, 1) := by decide +kernel
theorem dX3_copyFrom_111 : decode cX3_copyFrom 111 = .ok (.getfield 33, 3) := by decide +kernel
theorem dX3_copyFrom_114 : decode cX3_copyFrom 114 = .ok (.iconst 0, 1) := by decide +kernel
theorem dX3_copyFrom_115 : decode cX3_copyFrom 115 = .ok (.bipush 20, 2) := by decide +kernel
theorem dX3_copyFrom_117 : decode cX3_copyFrom 117 = .ok (.invokestatic 42, 3) := by decide +kernel
theorem dX3_copyFrom_120 : decode cX3_copyFrom 120 = .ok (.aload_n 1, 1) := by decide +kernel
theorem dX3_copyFrom_121 : decode cX3_copyFrom 121 = .ok (.getfield 36, 3) := by decide +kernel
theorem dX3_copyFrom_124 : decode cX3_copyFrom 124 = .ok (.iconst 0, 1) := by decide +kernel
theorem dX3_copyFrom_125 : decode cX3_copyFrom 125 = .ok (.aload_n 0, 1) := by decide +kernel
theorem dX3_copyFrom_126 : decode cX3_copyFrom 126 = .ok (.getfield 36, 3) := by decide +kernel
theorem dX3_copyFrom_129 : decode cX3_copyFrom 129 = .ok (.iconst 0, 1) := by decide +kernel
theorem dX3_copyFrom_130 : decode cX3_copyFrom 130 = .ok (.bipush 20, 2) := by decide +kernel
theorem dX3_copyFrom_132 : decode cX3_copyFrom 132 = .ok (.invokestatic 42, 3) := by decide +kernel
theorem dX3_copyFrom_135 : decode cX3_copyFrom 135 = .ok (.aload_n 1, 1) := by decide +kernel
theorem dX3_copyFrom_136 : decode cX3_copyFrom 136 = .ok (.getfield 39, 3) := by decide +kernel
theorem dX3_copyFrom_139 : decode cX3_copyFrom 139 = .ok (.iconst 0, 1) := by decide +kernel
theorem dX3_copyFrom_140 : decode cX3_copyFrom 140 = .ok (.aload_n 0, 1) := by decide +kernel
theorem dX3_copyFrom_141 : decode cX3_copyFrom 141 = .ok (.getfield 39, 3) := by decide +kernel
theorem dX3_copyFrom_144 : decode cX3_copyFrom 144 = .ok (.iconst 0, 1) := by decide +kernel
theorem dX3_copyFrom_145 : decode cX3_copyFrom 145 = .ok (.bipush 20, 2) := by decide +kernel
theorem dX3_copyFrom_147 : decode cX3_copyFrom 147 = .ok (.invokestatic 42, 3) := by decide +kernel
theorem dX3_copyFrom_150 : decode cX3_copyFrom 150 = .ok (.aload_n 0, 1) := by decide +kernel
theorem dX3_copyFrom_151 : decode cX3_copyFrom 151 = .ok (.aload_n 1, 1) := by decide +kernel
theorem dX3_copyFrom_152 : decode cX3_copyFrom 152 = .ok (.getfield 48, 3) := by decide +kernel
theorem dX3_copyFrom_155 : decode cX3_copyFrom 155 = .ok (.putfield 48, 3) := by decide +kernel
theorem dX3_copyFrom_158 : decode cX3_copyFrom 158 = .ok (.return_, 1) := by decide +kernel
theorem dX3_has_0 : decode cX3_has 0 = .ok (.iload_n 1, 1) := by decide +kernel
theorem dX3_has_1 : decode cX3_has 1 = .ok (.ifCond .lt 21, 3) := by decide +kernel
theorem dX3_has_4 : decode cX3_has 4 = .ok (.iload_n 1, 1) := by decide +kernel
theorem dX3_has_5 : decode cX3_has 5 = .ok (.aload_n 0, 1) := by decide +kernel
theorem dX3_has_6 : decode cX3_has 6 = .ok (.getfield 48, 3) := by decide +kernel
theorem dX3_has_9 : decode cX3_has 9 = .ok (.if_icmp .ge 13, 3) := by decide +kernel
theorem dX3_has_12 : decode cX3_has 12 = .ok (.iload_n 1, 1) := by decide +kernel
theorem dX3_has_13 : decode cX3_has 13 = .ok (.bipush 20, 2) := by decide +kernel
theorem dX3_has_15 : decode cX3_has 15 = .ok (.if_icmp .ge 7, 3) := by decide +kernel
theorem dX3_has_18 : decode cX3_has 18 = .ok (.iconst 1, 1) := by decide +kernel
theorem dX3_has_19 : decode cX3_has 19 = .ok (.goto 4, 3) := by decide +kernel
theorem dX3_has_22 : decode cX3_has 22 = .ok (.iconst 0, 1) := by decide +kernel
theorem dX3_has_23 : decode cX3_has 23 = .ok (.ireturn, 1) := by decide +kernel
set_option maxRecDepth 20000 in
theorem ggX3_hasBoth_X3_has : GoodIn wsX3_hasBoth wsX3_has := goodIn_r _ [5, 6, 7, 8, 9, 10, 11, 12, 13, 14, 15, 16, 17] (by decide +kernel) (by decide +kernel)
set_option maxRecDepth 20000 in
theorem gX3_hasBoth_X3_has : GoodIn wsX3_hasBoth (wsV RX3 52 RX3 yX3_has wsX3_has) := goodIn_app (goodIn_of _ (by decide +kernel)) ggX3_hasBoth_X3_has
theorem dX3_hasBoth_0 : decode cX3_hasBoth 0 = .ok (.aload_n 0, 1) := by decide +kernel
theorem dX3_hasBoth_1 : decode cX3_hasBoth 1 = .ok (.iload_n 1, 1) := by decide +kernel
theorem dX3_hasBoth_2 : decode cX3_hasBoth 2 = .ok (.invokevirtual 52, 3) := by decide +kernel
theorem dX3_hasBoth_5 : decode cX3_hasBoth 5 = .ok (.ifCond .eq 20, 3) := by decide +kernel
theorem dX3_hasBoth_8 : decode cX3_hasBoth 8 = .ok (.aload_n 0, 1) := by decide +kernel
theorem dX3_hasBoth_9 : decode cX3_hasBoth 9 = .ok (.iload_n 2, 1) := by decide +kernel
theorem dX3_hasBoth_10 : decode cX3_hasBoth 10 = .ok (.invokevirtual 52, 3) := by decide +kernel
theorem dX3_hasBoth_13 : decode cX3_hasBoth 13 = .ok (.ifCond .eq 12, 3) := by decide +kernel
theorem dX3_hasBoth_16 : decode cX3_hasBoth 16 = .ok (.iload_n 1, 1) := by decide +kernel
theorem dX3_hasBoth_17 : decode cX3_hasBoth 17 = .ok (.iload_n 2, 1) := by decide +kernel
theorem dX3_hasBoth_18 : decode cX3_hasBoth 18 = .ok (.if_icmp .eq 7, 3) := by decide +kernel
theorem dX3_hasBoth_21 : decode cX3_hasBoth 21 = .ok (.iconst 1, 1) := by decide +kernel
theorem dX3_hasBoth_22 : decode cX3_hasBoth 22 = .ok (.goto 4, 3) := by decide +kernel
theorem dX3_hasBoth_25 : decode cX3_hasBoth 25 = .ok (.iconst 0, 1) := by decide +kernel
theorem dX3_hasBoth_26 : decode cX3_hasBoth 26 = .ok (.ireturn, 1) := by decide +kernel
set_option maxRecDepth 20000 in
theorem ggX3_add_X3_has : GoodIn wsX3_add wsX3_has := goodIn_r _ [10, 1, 11, 12, 13, 14, 15, 16, 17, 18, 19, 20, 21] (by decide +kernel) (by decide +kernel)
set_option maxRecDepth 20000 in
theorem gX3_add_X3_has : GoodIn wsX3_add (wsV RX3 52 RX3 yX3_has wsX3_has) := goodIn_app (goodIn_of _ (by decide +kernel)) ggX3_add_X3_has
theorem dX3_add_0 : decode cX3_add 0 = .ok (.aload_n 0, 1) := by decide +kernel
theorem dX3_add_1 : decode cX3_add 1 = .ok (.getfield 48, 3) := by decide +kernel
theorem dX3_add_4 : decode cX3_add 4 = .ok (.istore_n 3, 1) := by decide +kernel
theorem dX3_add_5 : decode cX3_add 5 = .ok (.iload_n 3, 1) := by decide +kernel
theorem dX3_add_6 : decode cX3_add 6 = .ok (.ifCond .lt 9, 3) := by decide +kernel
theorem dX3_add_9 : decode cX3_add 9 = .ok (.iload_n 3, 1) := by decide +kernel
theorem dX3_add_10 : decode cX3_add 10 = .ok (.bipush 20, 2) := by decide +kernel
theorem dX3_add_12 : decode cX3_add 12 = .ok (.if_icmp .lt 6, 3) := by decide +kernel
theorem dX3_add_15 : decode cX3_add 15 = .ok (.bipush (-3), 2) := by decide +kernel
theorem dX3_add_17 : decode cX3_add 17 = .ok (.ireturn, 1) := by decide +kernel
theorem dX3_add_18 : decode cX3_add 18 = .ok (.aload_n 0, 1) := by decide +kernel
theorem dX3_add_19 : decode cX3_add 19 = .ok (.getfield 9, 3) := by decide +kernel
theorem dX3_add_22 : decode cX3_add 22 = .ok (.iload_n 3, 1) := by decide +kernel
theorem dX3_add_23 : decode cX3_add 23 = .ok (.iload_n 1, 1) := by decide +kernel
theorem dX3_add_24 : decode cX3_add 24 = .ok (.iastore, 1) := by decide +kernel
theorem dX3_add_25 : decode cX3_add 25 = .ok (.aload_n 0, 1) := by decide +kernel
theorem dX3_add_26 : decode cX3_add 26 = .ok (.getfield 15, 3) := by decide +kernel
theorem dX3_add_29 : decode cX3_add 29 = .ok (.iload_n 3, 1) := by decide +kernel
theorem dX3_add_30 : decode cX3_add 30 = .ok (.aload_n 0, 1) := by decide +kernel
theorem dX3_add_31 : decode cX3_add 31 = .ok (.iload_n 1, 1) := by decide +kernel
theorem dX3_add_32 : decode cX3_add 32 = .ok (.invokevirtual 52, 3) := by decide +kernel
theorem dX3_add_35 : decode cX3_add 35 = .ok (.ifCond .eq 14, 3) := by decide +kernel
theorem dX3_add_38 : decode cX3_add 38 = .ok (.aload_n 0, 1) := by decide +kernel
theorem dX3_add_39 : decode cX3_add 39 = .ok (.getfield 15, 3) := by decide +kernel
theorem dX3_add_42 : decode cX3_add 42 = .ok (.iload_n 1, 1) := by decide +kernel
theorem dX3_add_43 : decode cX3_add 43 = .ok (.iaload, 1) := by decide +kernel
theorem dX3_add_44 : decode cX3_add 44 = .ok (.iconst 1, 1) := by decide +kernel
theorem dX3_add_45 : decode cX3_add 45 = .ok (.iadd, 1) := by decide +kernel
theorem dX3_add_46 : decode cX3_add 46 = .ok (.goto 4, 3) := by decide +kernel
theorem dX3_add_49 : decode cX3_add 49 = .ok (.iconst 0, 1) := by decide +kernel
theorem dX3_add_50 : decode cX3_add 50 = .ok (.iastore, 1) := by decide +kernel
theorem dX3_add_51 : decode cX3_add 51 = .ok (.aload_n 0, 1) := by decide +kernel
theorem dX3_add_52 : decode cX3_add 52 = .ok (.getfield 18, 3) := by decide +kernel
theorem dX3_add_55 : decode cX3_add 55 = .ok (.iload_n 3, 1) := by decide +kernel
theorem dX3_add_56 : decode cX3_add 56 = .ok (.iload_n 2, 1) := by decide +kernel
theorem dX3_add_57 : decode cX3_add 57 = .ok (.iastore, 1) := by decide +kernel
theorem dX3_add_58 : decode cX3_add 58 = .ok (.aload_n 0, 1) := by decide +kernel
theorem dX3_add_59 : decode cX3_add 59 = .ok (.getfield 39, 3) := by decide +kernel
theorem dX3_add_62 : decode cX3_add 62 = .ok (.iload_n 3, 1) := by decide +kernel
theorem dX3_add_63 : decode cX3_add 63 = .ok (.bipush 50, 2) := by decide +kernel
theorem dX3_add_65 : decode cX3_add 65 = .ok (.iastore, 1) := by decide +kernel
theorem dX3_add_66 : decode cX3_add 66 = .ok (.aload_n 0, 1) := by decide +kernel
theorem dX3_add_67 : decode cX3_add 67 = .ok (.dup, 1) := by decide +kernel
theorem dX3_add_68 : decode cX3_add 68 = .ok (.getfield 48, 3) := by decide +kernel
theorem dX3_add_71 : decode cX3_add 71 = .ok (.iconst 1, 1) := by decide +kernel
theorem dX3_add_72 : decode cX3_add 72 = .ok (.iadd, 1) := by decide +kernel
theorem dX3_add_73 : decode cX3_add 73 = .ok (.putfield 48, 3) := by decide +kernel
theorem dX3_add_76 : decode cX3_add 76 = .ok (.iload_n 3, 1) := by decide +kernel
theorem dX3_add_77 : decode cX3_add 77 = .ok (.ireturn, 1) := by decide +kernel
set_option maxRecDepth 20000 in
theorem ggX3_freeOf_X3_has : GoodIn wsX3_freeOf wsX3_has := goodIn_r _ [8, 9, 10, 11, 12, 13, 14, 15, 16, 17, 18, 19, 20] (by decide +kernel) (by decide +kernel)
set_option maxRecDepth 20000 in
theorem gX3_freeOf_X3_has : GoodIn wsX3_freeOf (wsV RX3 52 RX3 yX3_has wsX3_has) := goodIn_app (goodIn_of _ (by decide +kernel)) ggX3_freeOf_X3_has
end
section
theorem dX3_freeOf_0 : decode cX3_freeOf 0 = .ok (.aload_n 0, 1) := by decide +kernel
theorem dX3_freeOf_1 : decode cX3_freeOf 1 = .ok (.iload_n 1, 1) := by decide +kernel
theorem dX3_freeOf_2 : decode cX3_freeOf 2 = .ok (.invokevirtual 52, 3) := by decide +kernel
theorem dX3_freeOf_5 : decode cX3_freeOf 5 = .ok (.ifCond .eq 26, 3) := by decide +kernel
theorem dX3_freeOf_8 : decode cX3_freeOf 8 = .ok (.aload_n 0, 1) := by decide +kernel
theorem dX3_freeOf_9 : decode cX3_freeOf 9 = .ok (.getfield 24, 3) := by decide +kernel
theorem dX3_freeOf_12 : decode cX3_freeOf 12 = .ok (.iload_n 1, 1) := by decide +kernel
theorem dX3_freeOf_13 : decode cX3_freeOf 13 = .ok (.iaload, 1) := by decide +kernel
theorem dX3_freeOf_14 : decode cX3_freeOf 14 = .ok (.aload_n 0, 1) := by decide +kernel
theorem dX3_freeOf_15 : decode cX3_freeOf 15 = .ok (.getfield 27, 3) := by decide +kernel
theorem dX3_freeOf_18 : decode cX3_freeOf 18 = .ok (.iload_n 1, 1) := by decide +kernel
theorem dX3_freeOf_19 : decode cX3_freeOf 19 = .ok (.iaload, 1) := by decide +kernel
theorem dX3_freeOf_20 : decode cX3_freeOf 20 = .ok (.isub, 1) := by decide +kernel
theorem dX3_freeOf_21 : decode cX3_freeOf 21 = .ok (.aload_n 0, 1) := by decide +kernel
theorem dX3_freeOf_22 : decode cX3_freeOf 22 = .ok (.getfield 30, 3) := by decide +kernel
theorem dX3_freeOf_25 : decode cX3_freeOf 25 = .ok (.iload_n 1, 1) := by decide +kernel
theorem dX3_freeOf_26 : decode cX3_freeOf 26 = .ok (.iaload, 1) := by decide +kernel
theorem dX3_freeOf_27 : decode cX3_freeOf 27 = .ok (.isub, 1) := by decide +kernel
theorem dX3_freeOf_28 : decode cX3_freeOf 28 = .ok (.goto 4, 3) := by decide +kernel
theorem dX3_freeOf_31 : decode cX3_freeOf 31 = .ok (.iconst 0, 1) := by decide +kernel
theorem dX3_freeOf_32 : decode cX3_freeOf 32 = .ok (.ireturn, 1) := by decide +kernel
set_option maxRecDepth 20000 in
theorem ggX3_isBarred_X3_has : GoodIn wsX3_isBarred wsX3_has := goodIn_r _ [7, 8, 9, 10, 11, 12, 13, 14, 15, 16, 17, 18, 19] (by decide +kernel) (by decide +kernel)
set_option maxRecDepth 20000 in
theorem gX3_isBarred_X3_has : GoodIn wsX3_isBarred (wsV RX3 52 RX3 yX3_has wsX3_has) := goodIn_app (goodIn_of _ (by decide +kernel)) ggX3_isBarred_X3_has
theorem dX3_isBarred_0 : decode cX3_isBarred 0 = .ok (.iload_n 1, 1) := by decide +kernel
theorem dX3_isBarred_1 : decode cX3_isBarred 1 = .ok (.istore_n 2, 1) := by decide +kernel
theorem dX3_isBarred_2 : decode cX3_isBarred 2 = .ok (.iconst 0, 1) := by decide +kernel
theorem dX3_isBarred_3 : decode cX3_isBarred 3 = .ok (.istore_n 3, 1) := by decide +kernel
theorem dX3_isBarred_4 : decode cX3_isBarred 4 = .ok (.iload_n 3, 1) := by decide +kernel
theorem dX3_isBarred_5 : decode cX3_isBarred 5 = .ok (.iconst 4, 1) := by decide +kernel
theorem dX3_isBarred_6 : decode cX3_isBarred 6 = .ok (.if_icmp .gt 36, 3) := by decide +kernel
theorem dX3_isBarred_9 : decode cX3_isBarred 9 = .ok (.aload_n 0, 1) := by decide +kernel
theorem dX3_isBarred_10 : decode cX3_isBarred 10 = .ok (.iload_n 2, 1) := by decide +kernel
theorem dX3_isBarred_11 : decode cX3_isBarred 11 = .ok (.invokevirtual 52, 3) := by decide +kernel
theorem dX3_isBarred_14 : decode cX3_isBarred 14 = .ok (.ifCond .eq 28, 3) := by decide +kernel
theorem dX3_isBarred_17 : decode cX3_isBarred 17 = .ok (.aload_n 0, 1) := by decide +kernel
theorem dX3_isBarred_18 : decode cX3_isBarred 18 = .ok (.getfield 21, 3) := by decide +kernel
theorem dX3_isBarred_21 : decode cX3_isBarred 21 = .ok (.iload_n 2, 1) := by decide +kernel
theorem dX3_isBarred_22 : decode cX3_isBarred 22 = .ok (.iaload, 1) := by decide +kernel
theorem dX3_isBarred_23 : decode cX3_isBarred 23 = .ok (.iconst 1, 1) := by decide +kernel
theorem dX3_isBarred_24 : decode cX3_isBarred 24 = .ok (.if_icmp .ne 5, 3) := by decide +kernel
theorem dX3_isBarred_27 : decode cX3_isBarred 27 = .ok (.iconst 1, 1) := by decide +kernel
theorem dX3_isBarred_28 : decode cX3_isBarred 28 = .ok (.ireturn, 1) := by decide +kernel
theorem dX3_isBarred_29 : decode cX3_isBarred 29 = .ok (.aload_n 0, 1) := by decide +kernel
theorem dX3_isBarred_30 : decode cX3_isBarred 30 = .ok (.getfield 9, 3) := by decide +kernel
theorem dX3_isBarred_33 : decode cX3_isBarred 33 = .ok (.iload_n 2, 1) := by decide +kernel
theorem dX3_isBarred_34 : decode cX3_isBarred 34 = .ok (.iaload, 1) := by decide +kernel
theorem dX3_isBarred_35 : decode cX3_isBarred 35 = .ok (.istore_n 2, 1) := by decide +kernel
theorem dX3_isBarred_36 : decode cX3_isBarred 36 = .ok (.iinc 3 1, 3) := by decide +kernel
theorem dX3_isBarred_39 : decode cX3_isBarred 39 = .ok (.goto (-35), 3) := by decide +kernel
theorem dX3_isBarred_42 : decode cX3_isBarred 42 = .ok (.iconst 0, 1) := by decide +kernel
theorem dX3_isBarred_43 : decode cX3_isBarred 43 = .ok (.ireturn, 1) := by decide +kernel
set_option maxRecDepth 20000 in
theorem ggX3_countBarred_X3_isBarred : GoodIn wsX3_countBarred wsX3_isBarred := goodIn_r _ [5, 6, 7, 8, 9, 10, 4, 11, 12, 13, 14, 15, 16, 17, 18, 19, 20, 21, 22, 23] (by decide +kernel) (by decide +kernel)
set_option maxRecDepth 20000 in
theorem gX3_countBarred_X3_isBarred : GoodIn wsX3_countBarred (wsV RX3 56 RX3 yX3_isBarred wsX3_isBarred) := goodIn_app (goodIn_of _ (by decide +kernel)) ggX3_countBarred_X3_isBarred
theorem dX3_countBarred_0 : decode cX3_countBarred 0 = .ok (.iconst 0, 1) := by decide +kernel
theorem dX3_countBarred_1 : decode cX3_countBarred 1 = .ok (.istore_n 1, 1) := by decide +kernel
theorem dX3_countBarred_2 : decode cX3_countBarred 2 = .ok (.iconst 0, 1) := by decide +kernel
theorem dX3_countBarred_3 : decode cX3_countBarred 3 = .ok (.istore_n 2, 1) := by decide +kernel
theorem dX3_countBarred_4 : decode cX3_countBarred 4 = .ok (.iload_n 2, 1) := by decide +kernel
theorem dX3_countBarred_5 : decode cX3_countBarred 5 = .ok (.bipush 20, 2) := by decide +kernel
theorem dX3_countBarred_7 : decode cX3_countBarred 7 = .ok (.if_icmp .ge 20, 3) := by decide +kernel
theorem dX3_countBarred_10 : decode cX3_countBarred 10 = .ok (.aload_n 0, 1) := by decide +kernel
theorem dX3_countBarred_11 : decode cX3_countBarred 11 = .ok (.iload_n 2, 1) := by decide +kernel
theorem dX3_countBarred_12 : decode cX3_countBarred 12 = .ok (.invokevirtual 56, 3) := by decide +kernel
theorem dX3_countBarred_15 : decode cX3_countBarred 15 = .ok (.ifCond .eq 6, 3) := by decide +kernel
theorem dX3_countBarred_18 : decode cX3_countBarred 18 = .ok (.iinc 1 1, 3) := by decide +kernel
theorem dX3_countBarred_21 : decode cX3_countBarred 21 = .ok (.iinc 2 1, 3) := by decide +kernel
theorem dX3_countBarred_24 : decode cX3_countBarred 24 = .ok (.goto (-20), 3) := by decide +kernel
theorem dX3_countBarred_27 : decode cX3_countBarred 27 = .ok (.iload_n 1, 1) := by decide +kernel
theorem dX3_countBarred_28 : decode cX3_countBarred 28 = .ok (.ireturn, 1) := by decide +kernel
set_option maxRecDepth 20000 in
theorem ggX3_isWithin_X3_has : GoodIn wsX3_isWithin wsX3_has := goodIn_r _ [6, 7, 8, 9, 10, 11, 12, 13, 14, 15, 16, 17, 18] (by decide +kernel) (by decide +kernel)
set_option maxRecDepth 20000 in
theorem gX3_isWithin_X3_has : GoodIn wsX3_isWithin (wsV RX3 52 RX3 yX3_has wsX3_has) := goodIn_app (goodIn_of _ (by decide +kernel)) ggX3_isWithin_X3_has
theorem dX3_isWithin_0 : decode cX3_isWithin 0 = .ok (.iload_n 1, 1) := by decide +kernel
theorem dX3_isWithin_1 : decode cX3_isWithin 1 = .ok (.istore_n 3, 1) := by decide +kernel
theorem dX3_isWithin_2 : decode cX3_isWithin 2 = .ok (.iconst 0, 1) := by decide +kernel
theorem dX3_isWithin_3 : decode cX3_isWithin 3 = .ok (.istore 4, 2) := by decide +kernel
theorem dX3_isWithin_5 : decode cX3_isWithin 5 = .ok (.iload 4, 2) := by decide +kernel
theorem dX3_isWithin_7 : decode cX3_isWithin 7 = .ok (.iconst 4, 1) := by decide +kernel
theorem dX3_isWithin_8 : decode cX3_isWithin 8 = .ok (.if_icmp .gt 31, 3) := by decide +kernel
theorem dX3_isWithin_11 : decode cX3_isWithin 11 = .ok (.aload_n 0, 1) := by decide +kernel
theorem dX3_isWithin_12 : decode cX3_isWithin 12 = .ok (.iload_n 3, 1) := by decide +kernel
theorem dX3_isWithin_13 : decode cX3_isWithin 13 = .ok (.invokevirtual 52, 3) := by decide +kernel
theorem dX3_isWithin_16 : decode cX3_isWithin 16 = .ok (.ifCond .eq 23, 3) := by decide +kernel
theorem dX3_isWithin_19 : decode cX3_isWithin 19 = .ok (.iload_n 3, 1) := by decide +kernel
theorem dX3_isWithin_20 : decode cX3_isWithin 20 = .ok (.iload_n 2, 1) := by decide +kernel
theorem dX3_isWithin_21 : decode cX3_isWithin 21 = .ok (.if_icmp .ne 5, 3) := by decide +kernel
theorem dX3_isWithin_24 : decode cX3_isWithin 24 = .ok (.iconst 1, 1) := by decide +kernel
theorem dX3_isWithin_25 : decode cX3_isWithin 25 = .ok (.ireturn, 1) := by decide +kernel
theorem dX3_isWithin_26 : decode cX3_isWithin 26 = .ok (.aload_n 0, 1) := by decide +kernel
theorem dX3_isWithin_27 : decode cX3_isWithin 27 = .ok (.getfield 9, 3) := by decide +kernel
theorem dX3_isWithin_30 : decode cX3_isWithin 30 = .ok (.iload_n 3, 1) := by decide +kernel
theorem dX3_isWithin_31 : decode cX3_isWithin 31 = .ok (.iaload, 1) := by decide +kernel
theorem dX3_isWithin_32 : decode cX3_isWithin 32 = .ok (.istore_n 3, 1) := by decide +kernel
theorem dX3_isWithin_33 : decode cX3_isWithin 33 = .ok (.iinc 4 1, 3) := by decide +kernel
theorem dX3_isWithin_36 : decode cX3_isWithin 36 = .ok (.goto (-31), 3) := by decide +kernel
theorem dX3_isWithin_39 : decode cX3_isWithin 39 = .ok (.iconst 0, 1) := by decide +kernel
theorem dX3_isWithin_40 : decode cX3_isWithin 40 = .ok (.ireturn, 1) := by decide +kernel
set_option maxRecDepth 20000 in
theorem ggX3_sumWithin_X3_isWithin : GoodIn wsX3_sumWithin wsX3_isWithin := goodIn_r _ [5, 6, 7, 8, 9, 4, 10, 11, 23, 24, 25, 26, 27, 28, 29, 30, 31, 32, 33] (by decide +kernel) (by decide +kernel)
set_option maxRecDepth 20000 in
theorem gX3_sumWithin_X3_isWithin : GoodIn wsX3_sumWithin (wsV RX3 59 RX3 yX3_isWithin wsX3_isWithin) := goodIn_app (goodIn_of _ (by decide +kernel)) ggX3_sumWithin_X3_isWithin
set_option maxRecDepth 20000 in
theorem ggX3_sumWithin_X3_summand : GoodIn wsX3_sumWithin wsX3_summand := goodIn_r _ [15, 16, 17, 18, 7, 8, 9, 4, 10, 11, 19, 20, 21, 22, 23, 24, 25, 26, 27, 28, 29, 30, 31, 32, 33] (by decide +kernel) (by decide +kernel)
set_option maxRecDepth 20000 in
theorem gX3_sumWithin_X3_summand : GoodIn wsX3_sumWithin (wsV RX3 63 RX3 yX3_summand wsX3_summand) := goodIn_app (goodIn_of _ (by decide +kernel)) ggX3_sumWithin_X3_summand
theorem dX3_sumWithin_0 : decode cX3_sumWithin 0 = .ok (.iconst 0, 1) := by decide +kernel
theorem dX3_sumWithin_1 : decode cX3_sumWithin 1 = .ok (.istore_n 3, 1) := by decide +kernel
theorem dX3_sumWithin_2 : decode cX3_sumWithin 2 = .ok (.iconst 0, 1) := by decide +kernel
theorem dX3_sumWithin_3 : decode cX3_sumWithin 3 = .ok (.istore 4, 2) := by decide +kernel
theorem dX3_sumWithin_5 : decode cX3_sumWithin 5 = .ok (.iload 4, 2) := by decide +kernel
theorem dX3_sumWithin_7 : decode cX3_sumWithin 7 = .ok (.bipush 20, 2) := by decide +kernel
theorem dX3_sumWithin_9 : decode cX3_sumWithin 9 = .ok (.if_icmp .ge 29, 3) := by decide +kernel
theorem dX3_sumWithin_12 : decode cX3_sumWithin 12 = .ok (.aload_n 0, 1) := by decide +kernel
theorem dX3_sumWithin_13 : decode cX3_sumWithin 13 = .ok (.iload 4, 2) := by decide +kernel
theorem dX3_sumWithin_15 : decode cX3_sumWithin 15 = .ok (.iload_n 1, 1) := by decide +kernel
theorem dX3_sumWithin_16 : decode cX3_sumWithin 16 = .ok (.invokevirtual 59, 3) := by decide +kernel
theorem dX3_sumWithin_19 : decode cX3_sumWithin 19 = .ok (.ifCond .eq 13, 3) := by decide +kernel
theorem dX3_sumWithin_22 : decode cX3_sumWithin 22 = .ok (.iload_n 3, 1) := by decide +kernel
theorem dX3_sumWithin_23 : decode cX3_sumWithin 23 = .ok (.aload_n 0, 1) := by decide +kernel
theorem dX3_sumWithin_24 : decode cX3_sumWithin 24 = .ok (.iload 4, 2) := by decide +kernel
theorem dX3_sumWithin_26 : decode cX3_sumWithin 26 = .ok (.iload_n 2, 1) := by decide +kernel
theorem dX3_sumWithin_27 : decode cX3_sumWithin 27 = .ok (.invokevirtual 63, 3) := by decide +kernel
theorem dX3_sumWithin_30 : decode cX3_sumWithin 30 = .ok (.iadd, 1) := by decide +kernel
theorem dX3_sumWithin_31 : decode cX3_sumWithin 31 = .ok (.istore_n 3, 1) := by decide +kernel
theorem dX3_sumWithin_32 : decode cX3_sumWithin 32 = .ok (.iinc 4 1, 3) := by decide +kernel
theorem dX3_sumWithin_35 : decode cX3_sumWithin 35 = .ok (.goto (-30), 3) := by decide +kernel
theorem dX3_sumWithin_38 : decode cX3_sumWithin 38 = .ok (.iload_n 3, 1) := by decide +kernel
theorem dX3_sumWithin_39 : decode cX3_sumWithin 39 = .ok (.ireturn, 1) := by decide +kernel
set_option maxRecDepth 20000 in
theorem ggX3_summand_X3_has : GoodIn wsX3_summand wsX3_has := goodIn_r _ [8, 9, 14, 15, 16, 17, 18, 19, 20, 21, 22, 23, 24] (by decide +kernel) (by decide +kernel)
set_option maxRecDepth 20000 in
theorem gX3_summand_X3_has : GoodIn wsX3_summand (wsV RX3 52 RX3 yX3_has wsX3_has) := goodIn_app (goodIn_of _ (by decide +kernel)) ggX3_summand_X3_has
set_option maxRecDepth 20000 in
theorem ggX3_summand_X3_freeOf : GoodIn wsX3_summand wsX3_freeOf := goodIn_r _ [13, 1, 2, 3, 4, 5, 6, 7, 8, 9, 14, 15, 16, 17, 18, 19, 20, 21, 22, 23, 24] (by decide +kernel) (by decide +kernel)
set_option maxRecDepth 20000 in
theorem gX3_summand_X3_freeOf : GoodIn wsX3_summand (wsV RX3 67 RX3 yX3_freeOf wsX3_freeOf) := goodIn_app (goodIn_of _ (by decide +kernel)) ggX3_summand_X3_freeOf
theorem dX3_summand_0 : decode cX3_summand 0 = .ok (.aload_n 0, 1) := by decide +kernel
theorem dX3_summand_1 : decode cX3_summand 1 = .ok (.iload_n 1, 1) := by decide +kernel
theorem dX3_summand_2 : decode cX3_summand 2 = .ok (.invokevirtual 52, 3) := by decide +kernel
theorem dX3_summand_5 : decode cX3_summand 5 = .ok (.ifCond .ne 5, 3) := by decide +kernel
theorem dX3_summand_8 : decode cX3_summand 8 = .ok (.iconst 0, 1) := by decide +kernel
theorem dX3_summand_9 : decode cX3_summand 9 = .ok (.ireturn, 1) := by decide +kernel
theorem dX3_summand_10 : decode cX3_summand 10 = .ok (.iload_n 2, 1) := by decide +kernel
theorem dX3_summand_11 : decode cX3_summand 11 = .ok (.tableswitch 56 0 3 #[29, 36, 43, 50], 29) := by decide +kernel
theorem dX3_summand_40 : decode cX3_summand 40 = .ok (.aload_n 0, 1) := by decide +kernel
theorem dX3_summand_41 : decode cX3_summand 41 = .ok (.getfield 24, 3) := by decide +kernel
theorem dX3_summand_44 : decode cX3_summand 44 = .ok (.iload_n 1, 1) := by decide +kernel
theorem dX3_summand_45 : decode cX3_summand 45 = .ok (.iaload, 1) := by decide +kernel
theorem dX3_summand_46 : decode cX3_summand 46 = .ok (.ireturn, 1) := by decide +kernel
theorem dX3_summand_47 : decode cX3_summand 47 = .ok (.aload_n 0, 1) := by decide +kernel
theorem dX3_summand_48 : decode cX3_summand 48 = .ok (.getfield 27, 3) := by decide +kernel
theorem dX3_summand_51 : decode cX3_summand 51 = .ok (.iload_n 1, 1) := by decide +kernel
theorem dX3_summand_52 : decode cX3_summand 52 = .ok (.iaload, 1) := by decide +kernel
theorem dX3_summand_53 : decode cX3_summand 53 = .ok (.ireturn, 1) := by decide +kernel
theorem dX3_summand_54 : decode cX3_summand 54 = .ok (.aload_n 0, 1) := by decide +kernel
theorem dX3_summand_55 : decode cX3_summand 55 = .ok (.getfield 30, 3) := by decide +kernel
theorem dX3_summand_58 : decode cX3_summand 58 = .ok (.iload_n 1, 1) := by decide +kernel
theorem dX3_summand_59 : decode cX3_summand 59 = .ok (.iaload, 1) := by decide +kernel
theorem dX3_summand_60 : decode cX3_summand 60 = .ok (.ireturn, 1) := by decide +kernel
theorem dX3_summand_61 : decode cX3_summand 61 = .ok (.aload_n 0, 1) := by decide +kernel
theorem dX3_summand_62 : decode cX3_summand 62 = .ok (.iload_n 1, 1) := by decide +kernel
theorem dX3_summand_63 : decode cX3_summand 63 = .ok (.invokevirtual 67, 3) := by decide +kernel
theorem dX3_summand_66 : decode cX3_summand 66 = .ok (.ireturn, 1) := by decide +kernel
theorem dX3_summand_67 : decode cX3_summand 67 = .ok (.iconst 1, 1) := by decide +kernel
theorem dX3_summand_68 : decode cX3_summand 68 = .ok (.ireturn, 1) := by decide +kernel
set_option maxRecDepth 20000 in
theorem ggX3_changeCommitted_X3_has : GoodIn wsX3_changeCommitted wsX3_has := goodIn_r _ [6, 7, 8, 9, 10, 11, 12, 13, 14, 15, 16, 17, 18] (by decide +kernel) (by decide +kernel)
set_option maxRecDepth 20000 in
theorem gX3_changeCommitted_X3_has : GoodIn wsX3_changeCommitted (wsV RX3 52 RX3 yX3_has wsX3_has) := goodIn_app (goodIn_of _ (by decide +kernel)) ggX3_changeCommitted_X3_has
theorem dX3_changeCommitted_0 : decode cX3_changeCommitted 0 = .ok (.aload_n 0, 1) := by decide +kernel
theorem dX3_changeCommitted_1 : decode cX3_changeCommitted 1 = .ok (.iload_n 1, 1) := by decide +kernel
theorem dX3_changeCommitted_2 : decode cX3_changeCommitted 2 = .ok (.invokevirtual 52, 3) := by decide +kernel
theorem dX3_changeCommitted_5 : decode cX3_changeCommitted 5 = .ok (.ifCond .eq 13, 3) := by decide +kernel
theorem dX3_changeCommitted_8 : decode cX3_changeCommitted 8 = .ok (.aload_n 0, 1) := by decide +kernel
theorem dX3_changeCommitted_9 : decode cX3_changeCommitted 9 = .ok (.getfield 27, 3) := by decide +kernel
theorem dX3_changeCommitted_12 : decode cX3_changeCommitted 12 = .ok (.iload_n 1, 1) := by decide +kernel
theorem dX3_changeCommitted_13 : decode cX3_changeCommitted 13 = .ok (.dup2, 1) := by decide +kernel
theorem dX3_changeCommitted_14 : decode cX3_changeCommitted 14 = .ok (.iaload, 1) := by decide +kernel
theorem dX3_changeCommitted_15 : decode cX3_changeCommitted 15 = .ok (.iload_n 2, 1) := by decide +kernel
theorem dX3_changeCommitted_16 : decode cX3_changeCommitted 16 = .ok (.iadd, 1) := by decide +kernel
theorem dX3_changeCommitted_17 : decode cX3_changeCommitted 17 = .ok (.iastore, 1) := by decide +kernel
theorem dX3_changeCommitted_18 : decode cX3_changeCommitted 18 = .ok (.return_, 1) := by decide +kernel
set_option maxRecDepth 20000 in
theorem ggX3_spendCommitted_X3_has : GoodIn wsX3_spendCommitted wsX3_has := goodIn_r _ [7, 8, 9, 10, 11, 12, 13, 14, 15, 16, 17, 18, 19] (by decide +kernel) (by decide +kernel)
set_option maxRecDepth 20000 in
theorem gX3_spendCommitted_X3_has : GoodIn wsX3_spendCommitted (wsV RX3 52 RX3 yX3_has wsX3_has) := goodIn_app (goodIn_of _ (by decide +kernel)) ggX3_spendCommitted_X3_has
theorem dX3_spendCommitted_0 : decode cX3_spendCommitted 0 = .ok (.aload_n 0, 1) := by decide +kernel
theorem dX3_spendCommitted_1 : decode cX3_spendCommitted 1 = .ok (.iload_n 1, 1) := by decide +kernel
theorem dX3_spendCommitted_2 : decode cX3_spendCommitted 2 = .ok (.invokevirtual 52, 3) := by decide +kernel
theorem dX3_spendCommitted_5 : decode cX3_spendCommitted 5 = .ok (.ifCond .eq 23, 3) := by decide +kernel
theorem dX3_spendCommitted_8 : decode cX3_spendCommitted 8 = .ok (.aload_n 0, 1) := by decide +kernel
theorem dX3_spendCommitted_9 : decode cX3_spendCommitted 9 = .ok (.getfield 27, 3) := by decide +kernel
theorem dX3_spendCommitted_12 : decode cX3_spendCommitted 12 = .ok (.iload_n 1, 1) := by decide +kernel
theorem dX3_spendCommitted_13 : decode cX3_spendCommitted 13 = .ok (.dup2, 1) := by decide +kernel
theorem dX3_spendCommitted_14 : decode cX3_spendCommitted 14 = .ok (.iaload, 1) := by decide +kernel
theorem dX3_spendCommitted_15 : decode cX3_spendCommitted 15 = .ok (.iload_n 2, 1) := by decide +kernel
theorem dX3_spendCommitted_16 : decode cX3_spendCommitted 16 = .ok (.isub, 1) := by decide +kernel
theorem dX3_spendCommitted_17 : decode cX3_spendCommitted 17 = .ok (.iastore, 1) := by decide +kernel
theorem dX3_spendCommitted_18 : decode cX3_spendCommitted 18 = .ok (.aload_n 0, 1) := by decide +kernel
theorem dX3_spendCommitted_19 : decode cX3_spendCommitted 19 = .ok (.getfield 30, 3) := by decide +kernel
theorem dX3_spendCommitted_22 : decode cX3_spendCommitted 22 = .ok (.iload_n 1, 1) := by decide +kernel
theorem dX3_spendCommitted_23 : decode cX3_spendCommitted 23 = .ok (.dup2, 1) := by decide +kernel
theorem dX3_spendCommitted_24 : decode cX3_spendCommitted 24 = .ok (.iaload, 1) := by decide +kernel
theorem dX3_spendCommitted_25 : decode cX3_spendCommitted 25 = .ok (.iload_n 2, 1) := by decide +kernel
theorem dX3_spendCommitted_26 : decode cX3_spendCommitted 26 = .ok (.iadd, 1) := by decide +kernel
theorem dX3_spendCommitted_27 : decode cX3_spendCommitted 27 = .ok (.iastore, 1) := by decide +kernel
theorem dX3_spendCommitted_28 : decode cX3_spendCommitted 28 = .ok (.return_, 1) := by decide +kernel
set_option maxRecDepth 20000 in
theorem ggX3_movable_X3_hasBoth : GoodIn wsX3_movable wsX3_hasBoth := goodIn_r _ [16, 17, 18, 19, 15, 20, 21, 48, 49, 50, 51, 52, 53, 54, 55, 56, 57, 58] (by decide +kernel) (by decide +kernel)
set_option maxRecDepth 20000 in
theorem gX3_movable_X3_hasBoth : GoodIn wsX3_movable (wsV RX3 71 RX3 yX3_hasBoth wsX3_hasBoth) := goodIn_app (goodIn_of _ (by decide +kernel)) ggX3_movable_X3_hasBoth
set_option maxRecDepth 20000 in
theorem ggX3_movable_X3_mayGive : GoodIn wsX3_movable wsX3_mayGive := goodIn_r _ [25, 26, 27, 12, 13, 14, 15, 16, 17, 18, 19, 20, 21, 28, 29, 30, 31, 32, 33, 34, 35, 36, 48, 49, 50, 51, 52, 53, 54, 55, 56, 57, 58] (by decide +kernel) (by decide +kernel)
set_option maxRecDepth 20000 in
theorem gX3_movable_X3_mayGive : GoodIn wsX3_movable (wsV RX3 74 RX3 yX3_mayGive wsX3_mayGive) := goodIn_app (goodIn_of _ (by decide +kernel)) ggX3_movable_X3_mayGive
set_option maxRecDepth 20000 in
theorem ggX3_movable_X5_partOf : GoodIn wsX3_movable wsX5_partOf := goodIn_r _ [39, 40] (by decide +kernel) (by decide +kernel)
set_option maxRecDepth 20000 in
theorem gX3_movable_X5_partOf_n77 : GoodIn wsX3_movable (wsX5_partOf) := ggX3_movable_X5_partOf
set_option maxRecDepth 20000 in
theorem ggX3_movable_X3_freeOf : GoodIn wsX3_movable wsX3_freeOf := goodIn_r _ [44, 45, 46, 47, 17, 18, 19, 15, 20, 21, 48, 49, 50, 51, 52, 53, 54, 55, 56, 57, 58] (by decide +kernel) (by decide +kernel)
set_option maxRecDepth 20000 in
theorem gX3_movable_X3_freeOf : GoodIn wsX3_movable (wsV RX3 67 RX3 yX3_freeOf wsX3_freeOf) := goodIn_app (goodIn_of _ (by decide +kernel)) ggX3_movable_X3_freeOf
theorem dX3_movable_0 : decode cX3_movable 0 = .ok (.aload_n 0, 1) := by decide +kernel
theorem dX3_movable_1 : decode cX3_movable 1 = .ok (.iload_n 1, 1) := by decide +kernel
theorem dX3_movable_2 : decode cX3_movable 2 = .ok (.iload_n 2, 1) := by decide +kernel
theorem dX3_movable_3 : decode cX3_movable 3 = .ok (.invokevirtual 71, 3) := by decide +kernel
theorem dX3_movable_6 : decode cX3_movable 6 = .ok (.ifCond .eq 12, 3) := by decide +kernel
theorem dX3_movable_9 : decode cX3_movable 9 = .ok (.aload_n 0, 1) := by decide +kernel
theorem dX3_movable_10 : decode cX3_movable 10 = .ok (.iload_n 1, 1) := by decide +kernel
theorem dX3_movable_11 : decode cX3_movable 11 = .ok (.iload_n 2, 1) := by decide +kernel
theorem dX3_movable_12 : decode cX3_movable 12 = .ok (.invokevirtual 74, 3) := by decide +kernel
theorem dX3_movable_15 : decode cX3_movable 15 = .ok (.ifCond .ne 5, 3) := by decide +kernel
theorem dX3_movable_18 : decode cX3_movable 18 = .ok (.iconst 0, 1) := by decide +kernel
theorem dX3_movable_19 : decode cX3_movable 19 = .ok (.ireturn, 1) := by decide +kernel
theorem dX3_movable_20 : decode cX3_movable 20 = .ok (.aload_n 0, 1) := by decide +kernel
theorem dX3_movable_21 : decode cX3_movable 21 = .ok (.getfield 33, 3) := by decide +kernel
theorem dX3_movable_24 : decode cX3_movable 24 = .ok (.iload_n 1, 1) := by decide +kernel
theorem dX3_movable_25 : decode cX3_movable 25 = .ok (.iaload, 1) := by decide +kernel
theorem dX3_movable_26 : decode cX3_movable 26 = .ok (.aload_n 0, 1) := by decide +kernel
theorem dX3_movable_27 : decode cX3_movable 27 = .ok (.getfield 39, 3) := by decide +kernel
theorem dX3_movable_30 : decode cX3_movable 30 = .ok (.iload_n 1, 1) := by decide +kernel
theorem dX3_movable_31 : decode cX3_movable 31 = .ok (.iaload, 1) := by decide +kernel
theorem dX3_movable_32 : decode cX3_movable 32 = .ok (.invokestatic 77, 3) := by decide +kernel
theorem dX3_movable_35 : decode cX3_movable 35 = .ok (.aload_n 0, 1) := by decide +kernel
theorem dX3_movable_36 : decode cX3_movable 36 = .ok (.getfield 36, 3) := by decide +kernel
theorem dX3_movable_39 : decode cX3_movable 39 = .ok (.iload_n 1, 1) := by decide +kernel
theorem dX3_movable_40 : decode cX3_movable 40 = .ok (.iaload, 1) := by decide +kernel
theorem dX3_movable_41 : decode cX3_movable 41 = .ok (.isub, 1) := by decide +kernel
theorem dX3_movable_42 : decode cX3_movable 42 = .ok (.istore_n 3, 1) := by decide +kernel
theorem dX3_movable_43 : decode cX3_movable 43 = .ok (.ldc 80, 2) := by decide +kernel
theorem dX3_movable_45 : decode cX3_movable 45 = .ok (.aload_n 0, 1) := by decide +kernel
theorem dX3_movable_46 : decode cX3_movable 46 = .ok (.iload_n 1, 1) := by decide +kernel
theorem dX3_movable_47 : decode cX3_movable 47 = .ok (.invokevirtual 67, 3) := by decide +kernel
theorem dX3_movable_50 : decode cX3_movable 50 = .ok (.iload_n 3, 1) := by decide +kernel
theorem dX3_movable_51 : decode cX3_movable 51 = .ok (.invokestatic 81, 3) := by decide +kernel
theorem dX3_movable_54 : decode cX3_movable 54 = .ok (.invokestatic 81, 3) := by decide +kernel
theorem dX3_movable_57 : decode cX3_movable 57 = .ok (.istore 4, 2) := by decide +kernel
theorem dX3_movable_59 : decode cX3_movable 59 = .ok (.iconst 0, 1) := by decide +kernel
theorem dX3_movable_60 : decode cX3_movable 60 = .ok (.iload 4, 2) := by decide +kernel
theorem dX3_movable_62 : decode cX3_movable 62 = .ok (.invokestatic 86, 3) := by decide +kernel
theorem dX3_movable_65 : decode cX3_movable 65 = .ok (.ireturn, 1) := by decide +kernel
set_option maxRecDepth 20000 in
theorem ggX3_mayGive_X3_hasBoth : GoodIn wsX3_mayGive wsX3_hasBoth := goodIn_r _ [7, 8, 9, 10, 6, 11, 12, 22, 23, 24, 25, 26, 27, 28, 29, 30, 31, 32] (by decide +kernel) (by decide +kernel)
set_option maxRecDepth 20000 in
theorem gX3_mayGive_X3_hasBoth : GoodIn wsX3_mayGive (wsV RX3 71 RX3 yX3_hasBoth wsX3_hasBoth) := goodIn_app (goodIn_of _ (by decide +kernel)) ggX3_mayGive_X3_hasBoth
set_option maxRecDepth 20000 in
theorem ggX3_mayGive_X3_isBarred : GoodIn wsX3_mayGive wsX3_isBarred := goodIn_r _ [16, 17, 1, 8, 9, 10, 6, 11, 12, 22, 23, 24, 25, 26, 27, 28, 29, 30, 31, 32] (by decide +kernel) (by decide +kernel)
set_option maxRecDepth 20000 in
theorem gX3_mayGive_X3_isBarred : GoodIn wsX3_mayGive (wsV RX3 56 RX3 yX3_isBarred wsX3_isBarred) := goodIn_app (goodIn_of _ (by decide +kernel)) ggX3_mayGive_X3_isBarred
set_option maxRecDepth 20000 in
theorem ggX3_mayGive_X3_isWithin : GoodIn wsX3_mayGive wsX3_isWithin := goodIn_r _ [21, 1, 8, 9, 10, 6, 11, 12, 22, 23, 24, 25, 26, 27, 28, 29, 30, 31, 32] (by decide +kernel) (by decide +kernel)
set_option maxRecDepth 20000 in
theorem gX3_mayGive_X3_isWithin : GoodIn wsX3_mayGive (wsV RX3 59 RX3 yX3_isWithin wsX3_isWithin) := goodIn_app (goodIn_of _ (by decide +kernel)) ggX3_mayGive_X3_isWithin
theorem dX3_mayGive_0 : decode cX3_mayGive 0 = .ok (.aload_n 0, 1) := by decide +kernel
theorem dX3_mayGive_1 : decode cX3_mayGive 1 = .ok (.iload_n 1, 1) := by decide +kernel
theorem dX3_mayGive_2 : decode cX3_mayGive 2 = .ok (.iload_n 2, 1) := by decide +kernel
theorem dX3_mayGive_3 : decode cX3_mayGive 3 = .ok (.invokevirtual 71, 3) := by decide +kernel
theorem dX3_mayGive_6 : decode cX3_mayGive 6 = .ok (.ifCond .eq 19, 3) := by decide +kernel
theorem dX3_mayGive_9 : decode cX3_mayGive 9 = .ok (.aload_n 0, 1) := by decide +kernel
theorem dX3_mayGive_10 : decode cX3_mayGive 10 = .ok (.iload_n 1, 1) := by decide +kernel
theorem dX3_mayGive_11 : decode cX3_mayGive 11 = .ok (.invokevirtual 56, 3) := by decide +kernel
theorem dX3_mayGive_14 : decode cX3_mayGive 14 = .ok (.ifCond .ne 11, 3) := by decide +kernel
theorem dX3_mayGive_17 : decode cX3_mayGive 17 = .ok (.aload_n 0, 1) := by decide +kernel
theorem dX3_mayGive_18 : decode cX3_mayGive 18 = .ok (.iload_n 2, 1) := by decide +kernel
theorem dX3_mayGive_19 : decode cX3_mayGive 19 = .ok (.invokevirtual 56, 3) := by decide +kernel
theorem dX3_mayGive_22 : decode cX3_mayGive 22 = .ok (.ifCond .eq 5, 3) := by decide +kernel
theorem dX3_mayGive_25 : decode cX3_mayGive 25 = .ok (.iconst 0, 1) := by decide +kernel
theorem dX3_mayGive_26 : decode cX3_mayGive 26 = .ok (.ireturn, 1) := by decide +kernel
theorem dX3_mayGive_27 : decode cX3_mayGive 27 = .ok (.aload_n 0, 1) := by decide +kernel
theorem dX3_mayGive_28 : decode cX3_mayGive 28 = .ok (.iload_n 1, 1) := by decide +kernel
theorem dX3_mayGive_29 : decode cX3_mayGive 29 = .ok (.iload_n 2, 1) := by decide +kernel
theorem dX3_mayGive_30 : decode cX3_mayGive 30 = .ok (.invokevirtual 59, 3) := by decide +kernel
theorem dX3_mayGive_33 : decode cX3_mayGive 33 = .ok (.ifCond .ne 27, 3) := by decide +kernel
theorem dX3_mayGive_36 : decode cX3_mayGive 36 = .ok (.aload_n 0, 1) := by decide +kernel
theorem dX3_mayGive_37 : decode cX3_mayGive 37 = .ok (.iload_n 2, 1) := by decide +kernel
theorem dX3_mayGive_38 : decode cX3_mayGive 38 = .ok (.iload_n 1, 1) := by decide +kernel
theorem dX3_mayGive_39 : decode cX3_mayGive 39 = .ok (.invokevirtual 59, 3) := by decide +kernel
theorem dX3_mayGive_42 : decode cX3_mayGive 42 = .ok (.ifCond .ne 18, 3) := by decide +kernel
theorem dX3_mayGive_45 : decode cX3_mayGive 45 = .ok (.aload_n 0, 1) := by decide +kernel
theorem dX3_mayGive_46 : decode cX3_mayGive 46 = .ok (.getfield 9, 3) := by decide +kernel
theorem dX3_mayGive_49 : decode cX3_mayGive 49 = .ok (.iload_n 1, 1) := by decide +kernel
theorem dX3_mayGive_50 : decode cX3_mayGive 50 = .ok (.iaload, 1) := by decide +kernel
theorem dX3_mayGive_51 : decode cX3_mayGive 51 = .ok (.aload_n 0, 1) := by decide +kernel
theorem dX3_mayGive_52 : decode cX3_mayGive 52 = .ok (.getfield 9, 3) := by decide +kernel
theorem dX3_mayGive_55 : decode cX3_mayGive 55 = .ok (.iload_n 2, 1) := by decide +kernel
theorem dX3_mayGive_56 : decode cX3_mayGive 56 = .ok (.iaload, 1) := by decide +kernel
theorem dX3_mayGive_57 : decode cX3_mayGive 57 = .ok (.if_icmp .ne 7, 3) := by decide +kernel
theorem dX3_mayGive_60 : decode cX3_mayGive 60 = .ok (.iconst 1, 1) := by decide +kernel
theorem dX3_mayGive_61 : decode cX3_mayGive 61 = .ok (.goto 4, 3) := by decide +kernel
theorem dX3_mayGive_64 : decode cX3_mayGive 64 = .ok (.iconst 0, 1) := by decide +kernel
theorem dX3_mayGive_65 : decode cX3_mayGive 65 = .ok (.istore_n 3, 1) := by decide +kernel
theorem dX3_mayGive_66 : decode cX3_mayGive 66 = .ok (.iload_n 3, 1) := by decide +kernel
theorem dX3_mayGive_67 : decode cX3_mayGive 67 = .ok (.ifCond .ne 18, 3) := by decide +kernel
theorem dX3_mayGive_70 : decode cX3_mayGive 70 = .ok (.aload_n 0, 1) := by decide +kernel
theorem dX3_mayGive_71 : decode cX3_mayGive 71 = .ok (.getfield 18, 3) := by decide +kernel
theorem dX3_mayGive_74 : decode cX3_mayGive 74 = .ok (.iload_n 1, 1) := by decide +kernel
theorem dX3_mayGive_75 : decode cX3_mayGive 75 = .ok (.iaload, 1) := by decide +kernel
theorem dX3_mayGive_76 : decode cX3_mayGive 76 = .ok (.aload_n 0, 1) := by decide +kernel
theorem dX3_mayGive_77 : decode cX3_mayGive 77 = .ok (.getfield 18, 3) := by decide +kernel
theorem dX3_mayGive_80 : decode cX3_mayGive 80 = .ok (.iload_n 2, 1) := by decide +kernel
theorem dX3_mayGive_81 : decode cX3_mayGive 81 = .ok (.iaload, 1) := by decide +kernel
theorem dX3_mayGive_82 : decode cX3_mayGive 82 = .ok (.if_icmp .gt 7, 3) := by decide +kernel
theorem dX3_mayGive_85 : decode cX3_mayGive 85 = .ok (.iconst 1, 1) := by decide +kernel
theorem dX3_mayGive_86 : decode cX3_mayGive 86 = .ok (.goto 4, 3) := by decide +kernel
theorem dX3_mayGive_89 : decode cX3_mayGive 89 = .ok (.iconst 0, 1) := by decide +kernel
theorem dX3_mayGive_90 : decode cX3_mayGive 90 = .ok (.ireturn, 1) := by decide +kernel
set_option maxRecDepth 20000 in
theorem ggX3_moveByVirement_X3_hasBoth : GoodIn wsX3_moveByVirement wsX3_hasBoth := goodIn_r _ [7, 8, 9, 10, 6, 11, 12, 13, 14, 15, 16, 17, 18, 19, 20, 21, 22, 23] (by decide +kernel) (by decide +kernel)
set_option maxRecDepth 20000 in
theorem gX3_moveByVirement_X3_hasBoth : GoodIn wsX3_moveByVirement (wsV RX3 71 RX3 yX3_hasBoth wsX3_hasBoth) := goodIn_app (goodIn_of _ (by decide +kernel)) ggX3_moveByVirement_X3_hasBoth
theorem dX3_moveByVirement_0 : decode cX3_moveByVirement 0 = .ok (.aload_n 0, 1) := by decide +kernel
theorem dX3_moveByVirement_1 : decode cX3_moveByVirement 1 = .ok (.iload_n 1, 1) := by decide +kernel
theorem dX3_moveByVirement_2 : decode cX3_moveByVirement 2 = .ok (.iload_n 2, 1) := by decide +kernel
theorem dX3_moveByVirement_3 : decode cX3_moveByVirement 3 = .ok (.invokevirtual 71, 3) := by decide +kernel
theorem dX3_moveByVirement_6 : decode cX3_moveByVirement 6 = .ok (.ifCond .eq 33, 3) := by decide +kernel
theorem dX3_moveByVirement_9 : decode cX3_moveByVirement 9 = .ok (.aload_n 0, 1) := by decide +kernel
theorem dX3_moveByVirement_10 : decode cX3_moveByVirement 10 = .ok (.getfield 24, 3) := by decide +kernel
theorem dX3_moveByVirement_13 : decode cX3_moveByVirement 13 = .ok (.iload_n 1, 1) := by decide +kernel
theorem dX3_moveByVirement_14 : decode cX3_moveByVirement 14 = .ok (.dup2, 1) := by decide +kernel
theorem dX3_moveByVirement_15 : decode cX3_moveByVirement 15 = .ok (.iaload, 1) := by decide +kernel
theorem dX3_moveByVirement_16 : decode cX3_moveByVirement 16 = .ok (.iload_n 3, 1) := by decide +kernel
theorem dX3_moveByVirement_17 : decode cX3_moveByVirement 17 = .ok (.isub, 1) := by decide +kernel
theorem dX3_moveByVirement_18 : decode cX3_moveByVirement 18 = .ok (.iastore, 1) := by decide +kernel
theorem dX3_moveByVirement_19 : decode cX3_moveByVirement 19 = .ok (.aload_n 0, 1) := by decide +kernel
theorem dX3_moveByVirement_20 : decode cX3_moveByVirement 20 = .ok (.getfield 36, 3) := by decide +kernel
theorem dX3_moveByVirement_23 : decode cX3_moveByVirement 23 = .ok (.iload_n 1, 1) := by decide +kernel
theorem dX3_moveByVirement_24 : decode cX3_moveByVirement 24 = .ok (.dup2, 1) := by decide +kernel
theorem dX3_moveByVirement_25 : decode cX3_moveByVirement 25 = .ok (.iaload, 1) := by decide +kernel
theorem dX3_moveByVirement_26 : decode cX3_moveByVirement 26 = .ok (.iload_n 3, 1) := by decide +kernel
theorem dX3_moveByVirement_27 : decode cX3_moveByVirement 27 = .ok (.iadd, 1) := by decide +kernel
theorem dX3_moveByVirement_28 : decode cX3_moveByVirement 28 = .ok (.iastore, 1) := by decide +kernel
theorem dX3_moveByVirement_29 : decode cX3_moveByVirement 29 = .ok (.aload_n 0, 1) := by decide +kernel
theorem dX3_moveByVirement_30 : decode cX3_moveByVirement 30 = .ok (.getfield 24, 3) := by decide +kernel
theorem dX3_moveByVirement_33 : decode cX3_moveByVirement 33 = .ok (.iload_n 2, 1) := by decide +kernel
theorem dX3_moveByVirement_34 : decode cX3_moveByVirement 34 = .ok (.dup2, 1) := by decide +kernel
theorem dX3_moveByVirement_35 : decode cX3_moveByVirement 35 = .ok (.iaload, 1) := by decide +kernel
theorem dX3_moveByVirement_36 : decode cX3_moveByVirement 36 = .ok (.iload_n 3, 1) := by decide +kernel
theorem dX3_moveByVirement_37 : decode cX3_moveByVirement 37 = .ok (.iadd, 1) := by decide +kernel
theorem dX3_moveByVirement_38 : decode cX3_moveByVirement 38 = .ok (.iastore, 1) := by decide +kernel
theorem dX3_moveByVirement_39 : decode cX3_moveByVirement 39 = .ok (.return_, 1) := by decide +kernel
set_option maxRecDepth 20000 in
theorem ggX3_giverOfMost_X3_movable : GoodIn wsX3_giverOfMost wsX3_movable := goodIn_r _ [6, 7, 8, 9, 10, 11, 12, 13, 14, 15, 16, 17, 18, 19, 20, 5, 21, 22, 23, 24, 25, 26, 27, 28, 29, 30, 31, 1, 32, 33, 34, 35, 36, 37, 38, 39, 40, 41, 42, 43, 44, 45, 46, 47, 48, 49, 50, 51, 52, 53, 54, 55, 56, 57, 58, 59, 60, 61, 62] (by decide +kernel) (by decide +kernel)
set_option maxRecDepth 20000 in
theorem gX3_giverOfMost_X3_movable : GoodIn wsX3_giverOfMost (wsV RX3 89 RX3 yX3_movable wsX3_movable) := goodIn_app (goodIn_of _ (by decide +kernel)) ggX3_giverOfMost_X3_movable
set_option maxRecDepth 20000 in
theorem ggX3_giverOfMost_X3_has : GoodIn wsX3_giverOfMost wsX3_has := goodIn_r _ [25, 26, 52, 53, 54, 55, 56, 57, 58, 59, 60, 61, 62] (by decide +kernel) (by decide +kernel)
set_option maxRecDepth 20000 in
theorem gX3_giverOfMost_X3_has : GoodIn wsX3_giverOfMost (wsV RX3 52 RX3 yX3_has wsX3_has) := goodIn_app (goodIn_of _ (by decide +kernel)) ggX3_giverOfMost_X3_has
theorem dX3_giverOfMost_0 : decode cX3_giverOfMost 0 = .ok (.bipush (-9), 2) := by decide +kernel
theorem dX3_giverOfMost_2 : decode cX3_giverOfMost 2 = .ok (.istore_n 2, 1) := by decide +kernel
theorem dX3_giverOfMost_3 : decode cX3_giverOfMost 3 = .ok (.iconst 0, 1) := by decide +kernel
theorem dX3_giverOfMost_4 : decode cX3_giverOfMost 4 = .ok (.istore_n 3, 1) := by decide +kernel
theorem dX3_giverOfMost_5 : decode cX3_giverOfMost 5 = .ok (.iconst 0, 1) := by decide +kernel
theorem dX3_giverOfMost_6 : decode cX3_giverOfMost 6 = .ok (.istore 4, 2) := by decide +kernel
theorem dX3_giverOfMost_8 : decode cX3_giverOfMost 8 = .ok (.iload 4, 2) := by decide +kernel
theorem dX3_giverOfMost_10 : decode cX3_giverOfMost 10 = .ok (.bipush 20, 2) := by decide +kernel
theorem dX3_giverOfMost_12 : decode cX3_giverOfMost 12 = .ok (.if_icmp .ge 60, 3) := by decide +kernel
theorem dX3_giverOfMost_15 : decode cX3_giverOfMost 15 = .ok (.aload_n 0, 1) := by decide +kernel
theorem dX3_giverOfMost_16 : decode cX3_giverOfMost 16 = .ok (.iload 4, 2) := by decide +kernel
theorem dX3_giverOfMost_18 : decode cX3_giverOfMost 18 = .ok (.iload_n 1, 1) := by decide +kernel
theorem dX3_giverOfMost_19 : decode cX3_giverOfMost 19 = .ok (.invokevirtual 89, 3) := by decide +kernel
theorem dX3_giverOfMost_22 : decode cX3_giverOfMost 22 = .ok (.istore 5, 2) := by decide +kernel
theorem dX3_giverOfMost_24 : decode cX3_giverOfMost 24 = .ok (.iload 5, 2) := by decide +kernel
theorem dX3_giverOfMost_26 : decode cX3_giverOfMost 26 = .ok (.iload_n 3, 1) := by decide +kernel
theorem dX3_giverOfMost_27 : decode cX3_giverOfMost 27 = .ok (.if_icmp .gt 33, 3) := by decide +kernel
theorem dX3_giverOfMost_30 : decode cX3_giverOfMost 30 = .ok (.iload 5, 2) := by decide +kernel
theorem dX3_giverOfMost_32 : decode cX3_giverOfMost 32 = .ok (.iload_n 3, 1) := by decide +kernel
theorem dX3_giverOfMost_33 : decode cX3_giverOfMost 33 = .ok (.if_icmp .ne 33, 3) := by decide +kernel
theorem dX3_giverOfMost_36 : decode cX3_giverOfMost 36 = .ok (.aload_n 0, 1) := by decide +kernel
theorem dX3_giverOfMost_37 : decode cX3_giverOfMost 37 = .ok (.iload_n 2, 1) := by decide +kernel
theorem dX3_giverOfMost_38 : decode cX3_giverOfMost 38 = .ok (.invokevirtual 52, 3) := by decide +kernel
theorem dX3_giverOfMost_41 : decode cX3_giverOfMost 41 = .ok (.ifCond .eq 25, 3) := by decide +kernel
theorem dX3_giverOfMost_44 : decode cX3_giverOfMost 44 = .ok (.aload_n 0, 1) := by decide +kernel
theorem dX3_giverOfMost_45 : decode cX3_giverOfMost 45 = .ok (.getfield 18, 3) := by decide +kernel
theorem dX3_giverOfMost_48 : decode cX3_giverOfMost 48 = .ok (.iload 4, 2) := by decide +kernel
theorem dX3_giverOfMost_50 : decode cX3_giverOfMost 50 = .ok (.iaload, 1) := by decide +kernel
theorem dX3_giverOfMost_51 : decode cX3_giverOfMost 51 = .ok (.aload_n 0, 1) := by decide +kernel
theorem dX3_giverOfMost_52 : decode cX3_giverOfMost 52 = .ok (.getfield 18, 3) := by decide +kernel
theorem dX3_giverOfMost_55 : decode cX3_giverOfMost 55 = .ok (.iload_n 2, 1) := by decide +kernel
theorem dX3_giverOfMost_56 : decode cX3_giverOfMost 56 = .ok (.iaload, 1) := by decide +kernel
theorem dX3_giverOfMost_57 : decode cX3_giverOfMost 57 = .ok (.if_icmp .le 9, 3) := by decide +kernel
theorem dX3_giverOfMost_60 : decode cX3_giverOfMost 60 = .ok (.iload 4, 2) := by decide +kernel
theorem dX3_giverOfMost_62 : decode cX3_giverOfMost 62 = .ok (.istore_n 2, 1) := by decide +kernel
theorem dX3_giverOfMost_63 : decode cX3_giverOfMost 63 = .ok (.iload 5, 2) := by decide +kernel
theorem dX3_giverOfMost_65 : decode cX3_giverOfMost 65 = .ok (.istore_n 3, 1) := by decide +kernel
theorem dX3_giverOfMost_66 : decode cX3_giverOfMost 66 = .ok (.iinc 4 1, 3) := by decide +kernel
theorem dX3_giverOfMost_69 : decode cX3_giverOfMost 69 = .ok (.goto (-61), 3) := by decide +kernel
theorem dX3_giverOfMost_72 : decode cX3_giverOfMost 72 = .ok (.iload_n 2, 1) := by decide +kernel
theorem dX3_giverOfMost_73 : decode cX3_giverOfMost 73 = .ok (.ireturn, 1) := by decide +kernel
set_option maxRecDepth 20000 in
theorem ggX3_lapseWithin_X3_isWithin : GoodIn wsX3_lapseWithin wsX3_isWithin := goodIn_r _ [5, 6, 7, 8, 9, 4, 10, 11, 23, 24, 25, 26, 27, 28, 29, 30, 31, 32, 33] (by decide +kernel) (by decide +kernel)
set_option maxRecDepth 20000 in
theorem gX3_lapseWithin_X3_isWithin : GoodIn wsX3_lapseWithin (wsV RX3 59 RX3 yX3_isWithin wsX3_isWithin) := goodIn_app (goodIn_of _ (by decide +kernel)) ggX3_lapseWithin_X3_isWithin
set_option maxRecDepth 20000 in
theorem ggX3_lapseWithin_X3_freeOf : GoodIn wsX3_lapseWithin wsX3_freeOf := goodIn_r _ [15, 16, 17, 18, 7, 8, 9, 4, 10, 11, 23, 24, 25, 26, 27, 28, 29, 30, 31, 32, 33] (by decide +kernel) (by decide +kernel)
set_option maxRecDepth 20000 in
theorem gX3_lapseWithin_X3_freeOf : GoodIn wsX3_lapseWithin (wsV RX3 67 RX3 yX3_freeOf wsX3_freeOf) := goodIn_app (goodIn_of _ (by decide +kernel)) ggX3_lapseWithin_X3_freeOf
set_option maxRecDepth 20000 in
theorem ggX3_lapseWithin_X5_partOf : GoodIn wsX3_lapseWithin wsX5_partOf := goodIn_r _ [21, 22] (by decide +kernel) (by decide +kernel)
set_option maxRecDepth 20000 in
theorem gX3_lapseWithin_X5_partOf_n77 : GoodIn wsX3_lapseWithin (wsX5_partOf) := ggX3_lapseWithin_X5_partOf
theorem dX3_lapseWithin_0 : decode cX3_lapseWithin 0 = .ok (.iconst 0, 1) := by decide +kernel
theorem dX3_lapseWithin_1 : decode cX3_lapseWithin 1 = .ok (.istore_n 3, 1) := by decide +kernel
theorem dX3_lapseWithin_2 : decode cX3_lapseWithin 2 = .ok (.iconst 0, 1) := by decide +kernel
theorem dX3_lapseWithin_3 : decode cX3_lapseWithin 3 = .ok (.istore 4, 2) := by decide +kernel
theorem dX3_lapseWithin_5 : decode cX3_lapseWithin 5 = .ok (.iload 4, 2) := by decide +kernel
theorem dX3_lapseWithin_7 : decode cX3_lapseWithin 7 = .ok (.bipush 20, 2) := by decide +kernel
theorem dX3_lapseWithin_9 : decode cX3_lapseWithin 9 = .ok (.if_icmp .ge 39, 3) := by decide +kernel
theorem dX3_lapseWithin_12 : decode cX3_lapseWithin 12 = .ok (.aload_n 0, 1) := by decide +kernel
theorem dX3_lapseWithin_13 : decode cX3_lapseWithin 13 = .ok (.iload 4, 2) := by decide +kernel
theorem dX3_lapseWithin_15 : decode cX3_lapseWithin 15 = .ok (.iload_n 1, 1) := by decide +kernel
theorem dX3_lapseWithin_16 : decode cX3_lapseWithin 16 = .ok (.invokevirtual 59, 3) := by decide +kernel
theorem dX3_lapseWithin_19 : decode cX3_lapseWithin 19 = .ok (.ifCond .eq 23, 3) := by decide +kernel
theorem dX3_lapseWithin_22 : decode cX3_lapseWithin 22 = .ok (.aload_n 0, 1) := by decide +kernel
theorem dX3_lapseWithin_23 : decode cX3_lapseWithin 23 = .ok (.iload 4, 2) := by decide +kernel
theorem dX3_lapseWithin_25 : decode cX3_lapseWithin 25 = .ok (.invokevirtual 67, 3) := by decide +kernel
theorem dX3_lapseWithin_28 : decode cX3_lapseWithin 28 = .ok (.istore 5, 2) := by decide +kernel
theorem dX3_lapseWithin_30 : decode cX3_lapseWithin 30 = .ok (.iload_n 3, 1) := by decide +kernel
theorem dX3_lapseWithin_31 : decode cX3_lapseWithin 31 = .ok (.iload 5, 2) := by decide +kernel
theorem dX3_lapseWithin_33 : decode cX3_lapseWithin 33 = .ok (.iload 5, 2) := by decide +kernel
theorem dX3_lapseWithin_35 : decode cX3_lapseWithin 35 = .ok (.iload_n 2, 1) := by decide +kernel
theorem dX3_lapseWithin_36 : decode cX3_lapseWithin 36 = .ok (.invokestatic 77, 3) := by decide +kernel
theorem dX3_lapseWithin_39 : decode cX3_lapseWithin 39 = .ok (.isub, 1) := by decide +kernel
theorem dX3_lapseWithin_40 : decode cX3_lapseWithin 40 = .ok (.iadd, 1) := by decide +kernel
theorem dX3_lapseWithin_41 : decode cX3_lapseWithin 41 = .ok (.istore_n 3, 1) := by decide +kernel
theorem dX3_lapseWithin_42 : decode cX3_lapseWithin 42 = .ok (.iinc 4 1, 3) := by decide +kernel
theorem dX3_lapseWithin_45 : decode cX3_lapseWithin 45 = .ok (.goto (-40), 3) := by decide +kernel
theorem dX3_lapseWithin_48 : decode cX3_lapseWithin 48 = .ok (.iload_n 3, 1) := by decide +kernel
theorem dX3_lapseWithin_49 : decode cX3_lapseWithin 49 = .ok (.ireturn, 1) := by decide +kernel
set_option maxRecDepth 20000 in
theorem ggX3_carryForward_X3_freeOf : GoodIn wsX3_carryForward wsX3_freeOf := goodIn_r _ [10, 1, 2, 4, 11, 12, 13, 9, 14, 15, 20, 21, 22, 23, 24, 25, 26, 27, 28, 29, 30] (by decide +kernel) (by decide +kernel)
set_option maxRecDepth 20000 in
theorem gX3_carryForward_X3_freeOf : GoodIn wsX3_carryForward (wsV RX3 67 RX3 yX3_freeOf wsX3_freeOf) := goodIn_app (goodIn_of _ (by decide +kernel)) ggX3_carryForward_X3_freeOf
set_option maxRecDepth 20000 in
theorem ggX3_carryForward_X5_partOf : GoodIn wsX3_carryForward wsX5_partOf := goodIn_r _ [18, 19] (by decide +kernel) (by decide +kernel)
set_option maxRecDepth 20000 in
theorem gX3_carryForward_X5_partOf_n77 : GoodIn wsX3_carryForward (wsX5_partOf) := ggX3_carryForward_X5_partOf
end
section
theorem dX3_carryForward_0 : decode cX3_carryForward 0 = .ok (.iconst 0, 1) := by decide +kernel
theorem dX3_carryForward_1 : decode cX3_carryForward 1 = .ok (.istore_n 2, 1) := by decide +kernel
theorem dX3_carryForward_2 : decode cX3_carryForward 2 = .ok (.iload_n 2, 1) := by decide +kernel
theorem dX3_carryForward_3 : decode cX3_carryForward 3 = .ok (.bipush 20, 2) := by decide +kernel
theorem dX3_carryForward_5 : decode cX3_carryForward 5 = .ok (.if_icmp .ge 54, 3) := by decide +kernel
theorem dX3_carryForward_8 : decode cX3_carryForward 8 = .ok (.aload_n 0, 1) := by decide +kernel
theorem dX3_carryForward_9 : decode cX3_carryForward 9 = .ok (.iload_n 2, 1) := by decide +kernel
theorem dX3_carryForward_10 : decode cX3_carryForward 10 = .ok (.invokevirtual 67, 3) := by decide +kernel
theorem dX3_carryForward_13 : decode cX3_carryForward 13 = .ok (.iload_n 1, 1) := by decide +kernel
theorem dX3_carryForward_14 : decode cX3_carryForward 14 = .ok (.invokestatic 77, 3) := by decide +kernel
theorem dX3_carryForward_17 : decode cX3_carryForward 17 = .ok (.istore_n 3, 1) := by decide +kernel
theorem dX3_carryForward_18 : decode cX3_carryForward 18 = .ok (.aload_n 0, 1) := by decide +kernel
theorem dX3_carryForward_19 : decode cX3_carryForward 19 = .ok (.getfield 24, 3) := by decide +kernel
theorem dX3_carryForward_22 : decode cX3_carryForward 22 = .ok (.iload_n 2, 1) := by decide +kernel
theorem dX3_carryForward_23 : decode cX3_carryForward 23 = .ok (.aload_n 0, 1) := by decide +kernel
theorem dX3_carryForward_24 : decode cX3_carryForward 24 = .ok (.getfield 27, 3) := by decide +kernel
theorem dX3_carryForward_27 : decode cX3_carryForward 27 = .ok (.iload_n 2, 1) := by decide +kernel
theorem dX3_carryForward_28 : decode cX3_carryForward 28 = .ok (.iaload, 1) := by decide +kernel
theorem dX3_carryForward_29 : decode cX3_carryForward 29 = .ok (.iload_n 3, 1) := by decide +kernel
theorem dX3_carryForward_30 : decode cX3_carryForward 30 = .ok (.iadd, 1) := by decide +kernel
theorem dX3_carryForward_31 : decode cX3_carryForward 31 = .ok (.iastore, 1) := by decide +kernel
theorem dX3_carryForward_32 : decode cX3_carryForward 32 = .ok (.aload_n 0, 1) := by decide +kernel
theorem dX3_carryForward_33 : decode cX3_carryForward 33 = .ok (.getfield 33, 3) := by decide +kernel
theorem dX3_carryForward_36 : decode cX3_carryForward 36 = .ok (.iload_n 2, 1) := by decide +kernel
theorem dX3_carryForward_37 : decode cX3_carryForward 37 = .ok (.iload_n 3, 1) := by decide +kernel
theorem dX3_carryForward_38 : decode cX3_carryForward 38 = .ok (.iastore, 1) := by decide +kernel
theorem dX3_carryForward_39 : decode cX3_carryForward 39 = .ok (.aload_n 0, 1) := by decide +kernel
theorem dX3_carryForward_40 : decode cX3_carryForward 40 = .ok (.getfield 30, 3) := by decide +kernel
theorem dX3_carryForward_43 : decode cX3_carryForward 43 = .ok (.iload_n 2, 1) := by decide +kernel
theorem dX3_carryForward_44 : decode cX3_carryForward 44 = .ok (.iconst 0, 1) := by decide +kernel
theorem dX3_carryForward_45 : decode cX3_carryForward 45 = .ok (.iastore, 1) := by decide +kernel
theorem dX3_carryForward_46 : decode cX3_carryForward 46 = .ok (.aload_n 0, 1) := by decide +kernel
theorem dX3_carryForward_47 : decode cX3_carryForward 47 = .ok (.getfield 36, 3) := by decide +kernel
theorem dX3_carryForward_50 : decode cX3_carryForward 50 = .ok (.iload_n 2, 1) := by decide +kernel
theorem dX3_carryForward_51 : decode cX3_carryForward 51 = .ok (.iconst 0, 1) := by decide +kernel
theorem dX3_carryForward_52 : decode cX3_carryForward 52 = .ok (.iastore, 1) := by decide +kernel
theorem dX3_carryForward_53 : decode cX3_carryForward 53 = .ok (.iinc 2 1, 3) := by decide +kernel
theorem dX3_carryForward_56 : decode cX3_carryForward 56 = .ok (.goto (-54), 3) := by decide +kernel
theorem dX3_carryForward_59 : decode cX3_carryForward 59 = .ok (.return_, 1) := by decide +kernel
set_option maxRecDepth 20000 in
theorem ggX4_init_X2_init : GoodIn wsX4_init wsX2_init := goodIn_r _ [9, 10, 2, 3, 11, 12, 13, 14, 15, 16, 17, 18, 19, 20, 21, 22, 23, 24, 25, 26, 27, 28, 29, 30, 31, 32, 33, 34, 35, 36, 37, 38, 39, 40, 41, 42, 43, 44, 45, 46, 47, 58, 59, 60, 61, 62, 63, 52, 53, 54, 55, 56, 57, 64, 65, 66, 67, 68, 69, 70, 71, 72, 73, 74, 75, 76, 77, 78, 79] (by decide +kernel) (by decide +kernel)
set_option maxRecDepth 20000 in
theorem gX4_init_X2_init_n17 : GoodIn wsX4_init (wsX2_init) := ggX4_init_X2_init
theorem dX4_init_0 : decode cX4_init 0 = .ok (.aload_n 0, 1) := by decide +kernel
theorem dX4_init_1 : decode cX4_init 1 = .ok (.invokespecial 3, 3) := by decide +kernel
theorem dX4_init_4 : decode cX4_init 4 = .ok (.aload_n 0, 1) := by decide +kernel
theorem dX4_init_5 : decode cX4_init 5 = .ok (.bipush 12, 2) := by decide +kernel
theorem dX4_init_7 : decode cX4_init 7 = .ok (.anewarray 9, 3) := by decide +kernel
theorem dX4_init_10 : decode cX4_init 10 = .ok (.putfield 11, 3) := by decide +kernel
theorem dX4_init_13 : decode cX4_init 13 = .ok (.iconst 0, 1) := by decide +kernel
theorem dX4_init_14 : decode cX4_init 14 = .ok (.istore_n 1, 1) := by decide +kernel
theorem dX4_init_15 : decode cX4_init 15 = .ok (.iload_n 1, 1) := by decide +kernel
theorem dX4_init_16 : decode cX4_init 16 = .ok (.bipush 12, 2) := by decide +kernel
theorem dX4_init_18 : decode cX4_init 18 = .ok (.if_icmp .ge 22, 3) := by decide +kernel
theorem dX4_init_21 : decode cX4_init 21 = .ok (.aload_n 0, 1) := by decide +kernel
theorem dX4_init_22 : decode cX4_init 22 = .ok (.getfield 11, 3) := by decide +kernel
theorem dX4_init_25 : decode cX4_init 25 = .ok (.iload_n 1, 1) := by decide +kernel
theorem dX4_init_26 : decode cX4_init 26 = .ok (.new 9, 3) := by decide +kernel
theorem dX4_init_29 : decode cX4_init 29 = .ok (.dup, 1) := by decide +kernel
theorem dX4_init_30 : decode cX4_init 30 = .ok (.invokespecial 17, 3) := by decide +kernel
theorem dX4_init_33 : decode cX4_init 33 = .ok (.aastore, 1) := by decide +kernel
theorem dX4_init_34 : decode cX4_init 34 = .ok (.iinc 1 1, 3) := by decide +kernel
theorem dX4_init_37 : decode cX4_init 37 = .ok (.goto (-22), 3) := by decide +kernel
theorem dX4_init_40 : decode cX4_init 40 = .ok (.return_, 1) := by decide +kernel
set_option maxRecDepth 20000 in
theorem ggX4_recall_J9_floorMod_7cf53 : GoodIn wsX4_recall wsJ9_floorMod_7cf53 := goodIn_r _ [7] (by decide +kernel) (by decide +kernel)
set_option maxRecDepth 20000 in
theorem gX4_recall_J9_floorMod_7cf53 : GoodIn wsX4_recall (va_wsS RX4 25 yJ9_floorMod_7cf53 wsJ9_floorMod_7cf53) := goodIn_app (goodIn_of _ (by decide +kernel)) ggX4_recall_J9_floorMod_7cf53
theorem dX4_recall_0 : decode cX4_recall 0 = .ok (.iload_n 1, 1) := by decide +kernel
theorem dX4_recall_1 : decode cX4_recall 1 = .ok (.ifCond .lt 11, 3) := by decide +kernel
theorem dX4_recall_4 : decode cX4_recall 4 = .ok (.iload_n 1, 1) := by decide +kernel
theorem dX4_recall_5 : decode cX4_recall 5 = .ok (.aload_n 0, 1) := by decide +kernel
theorem dX4_recall_6 : decode cX4_recall 6 = .ok (.getfield 18, 3) := by decide +kernel
theorem dX4_recall_9 : decode cX4_recall 9 = .ok (.if_icmp .lt 5, 3) := by decide +kernel
theorem dX4_recall_12 : decode cX4_recall 12 = .ok (.aconst_null, 1) := by decide +kernel
theorem dX4_recall_13 : decode cX4_recall 13 = .ok (.areturn, 1) := by decide +kernel
theorem dX4_recall_14 : decode cX4_recall 14 = .ok (.aload_n 0, 1) := by decide +kernel
theorem dX4_recall_15 : decode cX4_recall 15 = .ok (.getfield 11, 3) := by decide +kernel
theorem dX4_recall_18 : decode cX4_recall 18 = .ok (.aload_n 0, 1) := by decide +kernel
theorem dX4_recall_19 : decode cX4_recall 19 = .ok (.getfield 22, 3) := by decide +kernel
theorem dX4_recall_22 : decode cX4_recall 22 = .ok (.aload_n 0, 1) := by decide +kernel
theorem dX4_recall_23 : decode cX4_recall 23 = .ok (.getfield 18, 3) := by decide +kernel
theorem dX4_recall_26 : decode cX4_recall 26 = .ok (.iadd, 1) := by decide +kernel
theorem dX4_recall_27 : decode cX4_recall 27 = .ok (.iconst 1, 1) := by decide +kernel
theorem dX4_recall_28 : decode cX4_recall 28 = .ok (.isub, 1) := by decide +kernel
theorem dX4_recall_29 : decode cX4_recall 29 = .ok (.iload_n 1, 1) := by decide +kernel
theorem dX4_recall_30 : decode cX4_recall 30 = .ok (.isub, 1) := by decide +kernel
theorem dX4_recall_31 : decode cX4_recall 31 = .ok (.bipush 12, 2) := by decide +kernel
theorem dX4_recall_33 : decode cX4_recall 33 = .ok (.invokestatic 25, 3) := by decide +kernel
theorem dX4_recall_36 : decode cX4_recall 36 = .ok (.aaload, 1) := by decide +kernel
theorem dX4_recall_37 : decode cX4_recall 37 = .ok (.areturn, 1) := by decide +kernel
set_option maxRecDepth 20000 in
theorem ggX4_remember_X4_rememberWith : GoodIn wsX4_remember wsX4_rememberWith := goodIn_r _ [5, 6, 7, 8, 9, 10, 11, 12, 13, 14, 15, 16, 17, 18, 19, 20, 21, 4, 22, 23, 24, 25, 26, 27, 28, 29, 30, 31, 32, 33, 34, 35, 36, 37, 38, 39, 40, 41, 42, 43, 44, 45, 46, 47, 48, 49, 50, 51, 52, 53, 54, 55, 56, 57, 58, 59, 60, 61, 62, 63, 64, 65, 66, 67, 68, 69, 70, 71, 72, 73, 74, 75, 76, 77, 78, 79, 80, 81, 82, 83, 84, 85, 86, 87, 88, 89, 90, 91, 92, 93, 94, 95, 96, 97] (by decide +kernel) (by decide +kernel)
set_option maxRecDepth 20000 in
theorem gX4_remember_X4_rememberWith : GoodIn wsX4_remember (wsV RX4 31 RX4 yX4_rememberWith wsX4_rememberWith) := goodIn_app (goodIn_of _ (by decide +kernel)) ggX4_remember_X4_rememberWith
theorem dX4_remember_0 : decode cX4_remember 0 = .ok (.aload_n 0, 1) := by decide +kernel
theorem dX4_remember_1 : decode cX4_remember 1 = .ok (.iload_n 1, 1) := by decide +kernel
theorem dX4_remember_2 : decode cX4_remember 2 = .ok (.aload_n 2, 1) := by decide +kernel
theorem dX4_remember_3 : decode cX4_remember 3 = .ok (.bipush (-9), 2) := by decide +kernel
theorem dX4_remember_5 : decode cX4_remember 5 = .ok (.bipush (-9), 2) := by decide +kernel
theorem dX4_remember_7 : decode cX4_remember 7 = .ok (.iconst 0, 1) := by decide +kernel
theorem dX4_remember_8 : decode cX4_remember 8 = .ok (.invokevirtual 31, 3) := by decide +kernel
theorem dX4_remember_11 : decode cX4_remember 11 = .ok (.return_, 1) := by decide +kernel
set_option maxRecDepth 20000 in
theorem ggX4_rememberCommitment_X4_rememberWith : GoodIn wsX4_rememberCommitment wsX4_rememberWith := goodIn_r _ [5, 6, 7, 8, 9, 10, 11, 12, 13, 14, 15, 16, 17, 18, 19, 20, 21, 4, 22, 23, 24, 25, 26, 27, 28, 29, 30, 31, 32, 33, 34, 35, 36, 37, 38, 39, 40, 41, 42, 43, 44, 45, 46, 47, 48, 49, 50, 51, 52, 53, 54, 55, 56, 57, 58, 59, 60, 61, 62, 63, 64, 65, 66, 67, 68, 69, 70, 71, 72, 73, 74, 75, 76, 77, 78, 79, 80, 81, 82, 83, 84, 85, 86, 87, 88, 89, 90, 91, 92, 93, 94, 95, 96, 97] (by decide +kernel) (by decide +kernel)
set_option maxRecDepth 20000 in
theorem gX4_rememberCommitment_X4_rememberWith : GoodIn wsX4_rememberCommitment (wsV RX4 31 RX4 yX4_rememberWith wsX4_rememberWith) := goodIn_app (goodIn_of _ (by decide +kernel)) ggX4_rememberCommitment_X4_rememberWith
theorem dX4_rememberCommitment_0 : decode cX4_rememberCommitment 0 = .ok (.aload_n 0, 1) := by decide +kernel
theorem dX4_rememberCommitment_1 : decode cX4_rememberCommitment 1 = .ok (.iconst 5, 1) := by decide +kernel
theorem dX4_rememberCommitment_2 : decode cX4_rememberCommitment 2 = .ok (.aload_n 1, 1) := by decide +kernel
theorem dX4_rememberCommitment_3 : decode cX4_rememberCommitment 3 = .ok (.iload_n 2, 1) := by decide +kernel
theorem dX4_rememberCommitment_4 : decode cX4_rememberCommitment 4 = .ok (.bipush (-9), 2) := by decide +kernel
theorem dX4_rememberCommitment_6 : decode cX4_rememberCommitment 6 = .ok (.iconst 0, 1) := by decide +kernel
theorem dX4_rememberCommitment_7 : decode cX4_rememberCommitment 7 = .ok (.invokevirtual 31, 3) := by decide +kernel
theorem dX4_rememberCommitment_10 : decode cX4_rememberCommitment 10 = .ok (.return_, 1) := by decide +kernel
set_option maxRecDepth 20000 in
theorem ggX4_rememberVirement_X4_rememberWith : GoodIn wsX4_rememberVirement wsX4_rememberWith := goodIn_r _ [5, 6, 7, 8, 9, 10, 11, 12, 13, 14, 15, 16, 17, 18, 19, 20, 21, 4, 22, 23, 24, 25, 26, 27, 28, 29, 30, 31, 32, 33, 34, 35, 36, 37, 38, 39, 40, 41, 42, 43, 44, 45, 46, 47, 48, 49, 50, 51, 52, 53, 54, 55, 56, 57, 58, 59, 60, 61, 62, 63, 64, 65, 66, 67, 68, 69, 70, 71, 72, 73, 74, 75, 76, 77, 78, 79, 80, 81, 82, 83, 84, 85, 86, 87, 88, 89, 90, 91, 92, 93, 94, 95, 96, 97] (by decide +kernel) (by decide +kernel)
set_option maxRecDepth 20000 in
theorem gX4_rememberVirement_X4_rememberWith : GoodIn wsX4_rememberVirement (wsV RX4 31 RX4 yX4_rememberWith wsX4_rememberWith) := goodIn_app (goodIn_of _ (by decide +kernel)) ggX4_rememberVirement_X4_rememberWith
theorem dX4_rememberVirement_0 : decode cX4_rememberVirement 0 = .ok (.aload_n 0, 1) := by decide +kernel
theorem dX4_rememberVirement_1 : decode cX4_rememberVirement 1 = .ok (.bipush 8, 2) := by decide +kernel
theorem dX4_rememberVirement_3 : decode cX4_rememberVirement 3 = .ok (.aload_n 1, 1) := by decide +kernel
theorem dX4_rememberVirement_4 : decode cX4_rememberVirement 4 = .ok (.iload_n 2, 1) := by decide +kernel
theorem dX4_rememberVirement_5 : decode cX4_rememberVirement 5 = .ok (.iload_n 3, 1) := by decide +kernel
theorem dX4_rememberVirement_6 : decode cX4_rememberVirement 6 = .ok (.iload 4, 2) := by decide +kernel
theorem dX4_rememberVirement_8 : decode cX4_rememberVirement 8 = .ok (.invokevirtual 31, 3) := by decide +kernel
theorem dX4_rememberVirement_11 : decode cX4_rememberVirement 11 = .ok (.return_, 1) := by decide +kernel
set_option maxRecDepth 20000 in
theorem ggX4_rememberRevoking_X4_rememberWith : GoodIn wsX4_rememberRevoking wsX4_rememberWith := goodIn_r _ [5, 6, 7, 8, 9, 10, 11, 12, 13, 14, 15, 16, 17, 18, 19, 20, 21, 4, 22, 23, 24, 25, 26, 27, 28, 29, 30, 31, 32, 33, 34, 35, 36, 37, 38, 39, 40, 41, 42, 43, 44, 45, 46, 47, 48, 49, 50, 51, 52, 53, 54, 55, 56, 57, 58, 59, 60, 61, 62, 63, 64, 65, 66, 67, 68, 69, 70, 71, 72, 73, 74, 75, 76, 77, 78, 79, 80, 81, 82, 83, 84, 85, 86, 87, 88, 89, 90, 91, 92, 93, 94, 95, 96, 97] (by decide +kernel) (by decide +kernel)
set_option maxRecDepth 20000 in
theorem gX4_rememberRevoking_X4_rememberWith : GoodIn wsX4_rememberRevoking (wsV RX4 31 RX4 yX4_rememberWith wsX4_rememberWith) := goodIn_app (goodIn_of _ (by decide +kernel)) ggX4_rememberRevoking_X4_rememberWith
theorem dX4_rememberRevoking_0 : decode cX4_rememberRevoking 0 = .ok (.aload_n 0, 1) := by decide +kernel
theorem dX4_rememberRevoking_1 : decode cX4_rememberRevoking 1 = .ok (.bipush 10, 2) := by decide +kernel
theorem dX4_rememberRevoking_3 : decode cX4_rememberRevoking 3 = .ok (.aload_n 1, 1) := by decide +kernel
theorem dX4_rememberRevoking_4 : decode cX4_rememberRevoking 4 = .ok (.iload_n 2, 1) := by decide +kernel
theorem dX4_rememberRevoking_5 : decode cX4_rememberRevoking 5 = .ok (.bipush (-9), 2) := by decide +kernel
theorem dX4_rememberRevoking_7 : decode cX4_rememberRevoking 7 = .ok (.iconst 0, 1) := by decide +kernel
theorem dX4_rememberRevoking_8 : decode cX4_rememberRevoking 8 = .ok (.invokevirtual 31, 3) := by decide +kernel
theorem dX4_rememberRevoking_11 : decode cX4_rememberRevoking 11 = .ok (.return_, 1) := by decide +kernel
set_option maxRecDepth 20000 in
theorem ggX4_rememberWith_J9_floorMod_7cf53 : GoodIn wsX4_rememberWith wsJ9_floorMod_7cf53 := goodIn_r _ [13] (by decide +kernel) (by decide +kernel)
set_option maxRecDepth 20000 in
theorem gX4_rememberWith_J9_floorMod_7cf53 : GoodIn wsX4_rememberWith (va_wsS RX4 25 yJ9_floorMod_7cf53 wsJ9_floorMod_7cf53) := goodIn_app (goodIn_of _ (by decide +kernel)) ggX4_rememberWith_J9_floorMod_7cf53
set_option maxRecDepth 20000 in
theorem ggX4_rememberWith_X4_recall : GoodIn wsX4_rememberWith wsX4_recall := goodIn_r _ [18, 1, 19, 2, 10, 11, 12, 13, 62, 63, 64, 65] (by decide +kernel) (by decide +kernel)
set_option maxRecDepth 20000 in
theorem gX4_rememberWith_X4_recall : GoodIn wsX4_rememberWith (wsV RX4 38 RX4 yX4_recall wsX4_recall) := goodIn_app (goodIn_of _ (by decide +kernel)) ggX4_rememberWith_X4_recall
set_option maxRecDepth 20000 in
theorem ggX4_rememberWith_X0_copyFrom : GoodIn wsX4_rememberWith wsX0_copyFrom := goodIn_r _ [24, 25, 26, 27, 28, 29, 30, 31, 32, 33, 34, 35, 36, 37, 38, 39, 40, 41, 42, 43, 44, 45, 46, 47, 48, 49, 50, 51, 52, 53, 54, 55, 56, 57, 58, 59, 60, 61, 72, 73, 74, 75, 76, 77, 78, 79, 80, 81, 82, 83, 84, 85, 86, 87, 88, 89, 90, 91, 92, 93] (by decide +kernel) (by decide +kernel)
set_option maxRecDepth 20000 in
theorem gX4_rememberWith_X0_copyFrom : GoodIn wsX4_rememberWith (wsV RX4 46 RX0 yX0_copyFrom wsX0_copyFrom) := goodIn_app (goodIn_of _ (by decide +kernel)) ggX4_rememberWith_X0_copyFrom
theorem dX4_rememberWith_0 : decode cX4_rememberWith 0 = .ok (.aload_n 0, 1) := by decide +kernel
theorem dX4_rememberWith_1 : decode cX4_rememberWith 1 = .ok (.getfield 18, 3) := by decide +kernel
theorem dX4_rememberWith_4 : decode cX4_rememberWith 4 = .ok (.bipush 12, 2) := by decide +kernel
theorem dX4_rememberWith_6 : decode cX4_rememberWith 6 = .ok (.if_icmp .ge 16, 3) := by decide +kernel
theorem dX4_rememberWith_9 : decode cX4_rememberWith 9 = .ok (.aload_n 0, 1) := by decide +kernel
theorem dX4_rememberWith_10 : decode cX4_rememberWith 10 = .ok (.dup, 1) := by decide +kernel
theorem dX4_rememberWith_11 : decode cX4_rememberWith 11 = .ok (.getfield 18, 3) := by decide +kernel
theorem dX4_rememberWith_14 : decode cX4_rememberWith 14 = .ok (.iconst 1, 1) := by decide +kernel
theorem dX4_rememberWith_15 : decode cX4_rememberWith 15 = .ok (.iadd, 1) := by decide +kernel
theorem dX4_rememberWith_16 : decode cX4_rememberWith 16 = .ok (.putfield 18, 3) := by decide +kernel
theorem dX4_rememberWith_19 : decode cX4_rememberWith 19 = .ok (.goto 18, 3) := by decide +kernel
theorem dX4_rememberWith_22 : decode cX4_rememberWith 22 = .ok (.aload_n 0, 1) := by decide +kernel
theorem dX4_rememberWith_23 : decode cX4_rememberWith 23 = .ok (.aload_n 0, 1) := by decide +kernel
theorem dX4_rememberWith_24 : decode cX4_rememberWith 24 = .ok (.getfield 22, 3) := by decide +kernel
theorem dX4_rememberWith_27 : decode cX4_rememberWith 27 = .ok (.iconst 1, 1) := by decide +kernel
theorem dX4_rememberWith_28 : decode cX4_rememberWith 28 = .ok (.iadd, 1) := by decide +kernel
theorem dX4_rememberWith_29 : decode cX4_rememberWith 29 = .ok (.bipush 12, 2) := by decide +kernel
theorem dX4_rememberWith_31 : decode cX4_rememberWith 31 = .ok (.invokestatic 25, 3) := by decide +kernel
theorem dX4_rememberWith_34 : decode cX4_rememberWith 34 = .ok (.putfield 22, 3) := by decide +kernel
theorem dX4_rememberWith_37 : decode cX4_rememberWith 37 = .ok (.aload_n 0, 1) := by decide +kernel
theorem dX4_rememberWith_38 : decode cX4_rememberWith 38 = .ok (.dup, 1) := by decide +kernel
theorem dX4_rememberWith_39 : decode cX4_rememberWith 39 = .ok (.getfield 35, 3) := by decide +kernel
theorem dX4_rememberWith_42 : decode cX4_rememberWith 42 = .ok (.iconst 1, 1) := by decide +kernel
theorem dX4_rememberWith_43 : decode cX4_rememberWith 43 = .ok (.iadd, 1) := by decide +kernel
theorem dX4_rememberWith_44 : decode cX4_rememberWith 44 = .ok (.putfield 35, 3) := by decide +kernel
theorem dX4_rememberWith_47 : decode cX4_rememberWith 47 = .ok (.aload_n 0, 1) := by decide +kernel
theorem dX4_rememberWith_48 : decode cX4_rememberWith 48 = .ok (.iconst 0, 1) := by decide +kernel
theorem dX4_rememberWith_49 : decode cX4_rememberWith 49 = .ok (.invokevirtual 38, 3) := by decide +kernel
theorem dX4_rememberWith_52 : decode cX4_rememberWith 52 = .ok (.astore 6, 2) := by decide +kernel
theorem dX4_rememberWith_54 : decode cX4_rememberWith 54 = .ok (.aload 6, 2) := by decide +kernel
theorem dX4_rememberWith_56 : decode cX4_rememberWith 56 = .ok (.ifnull 47, 3) := by decide +kernel
theorem dX4_rememberWith_59 : decode cX4_rememberWith 59 = .ok (.aload 6, 2) := by decide +kernel
theorem dX4_rememberWith_61 : decode cX4_rememberWith 61 = .ok (.getfield 42, 3) := by decide +kernel
theorem dX4_rememberWith_64 : decode cX4_rememberWith 64 = .ok (.aload_n 2, 1) := by decide +kernel
theorem dX4_rememberWith_65 : decode cX4_rememberWith 65 = .ok (.invokevirtual 46, 3) := by decide +kernel
theorem dX4_rememberWith_68 : decode cX4_rememberWith 68 = .ok (.aload 6, 2) := by decide +kernel
theorem dX4_rememberWith_70 : decode cX4_rememberWith 70 = .ok (.aload_n 0, 1) := by decide +kernel
theorem dX4_rememberWith_71 : decode cX4_rememberWith 71 = .ok (.getfield 35, 3) := by decide +kernel
theorem dX4_rememberWith_74 : decode cX4_rememberWith 74 = .ok (.putfield 52, 3) := by decide +kernel
theorem dX4_rememberWith_77 : decode cX4_rememberWith 77 = .ok (.aload 6, 2) := by decide +kernel
theorem dX4_rememberWith_79 : decode cX4_rememberWith 79 = .ok (.iload_n 1, 1) := by decide +kernel
theorem dX4_rememberWith_80 : decode cX4_rememberWith 80 = .ok (.putfield 55, 3) := by decide +kernel
theorem dX4_rememberWith_83 : decode cX4_rememberWith 83 = .ok (.aload 6, 2) := by decide +kernel
theorem dX4_rememberWith_85 : decode cX4_rememberWith 85 = .ok (.iload_n 3, 1) := by decide +kernel
theorem dX4_rememberWith_86 : decode cX4_rememberWith 86 = .ok (.putfield 58, 3) := by decide +kernel
theorem dX4_rememberWith_89 : decode cX4_rememberWith 89 = .ok (.aload 6, 2) := by decide +kernel
theorem dX4_rememberWith_91 : decode cX4_rememberWith 91 = .ok (.iload 4, 2) := by decide +kernel
theorem dX4_rememberWith_93 : decode cX4_rememberWith 93 = .ok (.putfield 61, 3) := by decide +kernel
theorem dX4_rememberWith_96 : decode cX4_rememberWith 96 = .ok (.aload 6, 2) := by decide +kernel
theorem dX4_rememberWith_98 : decode cX4_rememberWith 98 = .ok (.iload 5, 2) := by decide +kernel
theorem dX4_rememberWith_100 : decode cX4_rememberWith 100 = .ok (.putfield 64, 3) := by decide +kernel
theorem dX4_rememberWith_103 : decode cX4_rememberWith 103 = .ok (.return_, 1) := by decide +kernel
set_option maxRecDepth 20000 in
theorem ggX4_wasRevoked_X4_recall : GoodIn wsX4_wasRevoked wsX4_recall := goodIn_r _ [7, 8, 9, 10, 11, 12, 13, 14, 21, 22, 23, 24] (by decide +kernel) (by decide +kernel)
set_option maxRecDepth 20000 in
theorem gX4_wasRevoked_X4_recall : GoodIn wsX4_wasRevoked (wsV RX4 38 RX4 yX4_recall wsX4_recall) := goodIn_app (goodIn_of _ (by decide +kernel)) ggX4_wasRevoked_X4_recall
theorem dX4_wasRevoked_0 : decode cX4_wasRevoked 0 = .ok (.iconst 0, 1) := by decide +kernel
theorem dX4_wasRevoked_1 : decode cX4_wasRevoked 1 = .ok (.istore_n 2, 1) := by decide +kernel
theorem dX4_wasRevoked_2 : decode cX4_wasRevoked 2 = .ok (.iload_n 2, 1) := by decide +kernel
theorem dX4_wasRevoked_3 : decode cX4_wasRevoked 3 = .ok (.bipush 12, 2) := by decide +kernel
theorem dX4_wasRevoked_5 : decode cX4_wasRevoked 5 = .ok (.if_icmp .ge 38, 3) := by decide +kernel
theorem dX4_wasRevoked_8 : decode cX4_wasRevoked 8 = .ok (.aload_n 0, 1) := by decide +kernel
theorem dX4_wasRevoked_9 : decode cX4_wasRevoked 9 = .ok (.iload_n 2, 1) := by decide +kernel
theorem dX4_wasRevoked_10 : decode cX4_wasRevoked 10 = .ok (.invokevirtual 38, 3) := by decide +kernel
theorem dX4_wasRevoked_13 : decode cX4_wasRevoked 13 = .ok (.astore_n 3, 1) := by decide +kernel
theorem dX4_wasRevoked_14 : decode cX4_wasRevoked 14 = .ok (.aload_n 3, 1) := by decide +kernel
theorem dX4_wasRevoked_15 : decode cX4_wasRevoked 15 = .ok (.ifnull 22, 3) := by decide +kernel
theorem dX4_wasRevoked_18 : decode cX4_wasRevoked 18 = .ok (.aload_n 3, 1) := by decide +kernel
theorem dX4_wasRevoked_19 : decode cX4_wasRevoked 19 = .ok (.getfield 55, 3) := by decide +kernel
theorem dX4_wasRevoked_22 : decode cX4_wasRevoked 22 = .ok (.bipush 10, 2) := by decide +kernel
theorem dX4_wasRevoked_24 : decode cX4_wasRevoked 24 = .ok (.if_icmp .ne 13, 3) := by decide +kernel
theorem dX4_wasRevoked_27 : decode cX4_wasRevoked 27 = .ok (.aload_n 3, 1) := by decide +kernel
theorem dX4_wasRevoked_28 : decode cX4_wasRevoked 28 = .ok (.getfield 58, 3) := by decide +kernel
theorem dX4_wasRevoked_31 : decode cX4_wasRevoked 31 = .ok (.iload_n 1, 1) := by decide +kernel
theorem dX4_wasRevoked_32 : decode cX4_wasRevoked 32 = .ok (.if_icmp .ne 5, 3) := by decide +kernel
theorem dX4_wasRevoked_35 : decode cX4_wasRevoked 35 = .ok (.iconst 1, 1) := by decide +kernel
theorem dX4_wasRevoked_36 : decode cX4_wasRevoked 36 = .ok (.ireturn, 1) := by decide +kernel
theorem dX4_wasRevoked_37 : decode cX4_wasRevoked 37 = .ok (.iinc 2 1, 3) := by decide +kernel
theorem dX4_wasRevoked_40 : decode cX4_wasRevoked 40 = .ok (.goto (-38), 3) := by decide +kernel
theorem dX4_wasRevoked_43 : decode cX4_wasRevoked 43 = .ok (.iconst 0, 1) := by decide +kernel
theorem dX4_wasRevoked_44 : decode cX4_wasRevoked 44 = .ok (.ireturn, 1) := by decide +kernel
theorem dX4_forgetLatest_0 : decode cX4_forgetLatest 0 = .ok (.aload_n 0, 1) := by decide +kernel
theorem dX4_forgetLatest_1 : decode cX4_forgetLatest 1 = .ok (.getfield 18, 3) := by decide +kernel
theorem dX4_forgetLatest_4 : decode cX4_forgetLatest 4 = .ok (.ifCond .le 13, 3) := by decide +kernel
theorem dX4_forgetLatest_7 : decode cX4_forgetLatest 7 = .ok (.aload_n 0, 1) := by decide +kernel
theorem dX4_forgetLatest_8 : decode cX4_forgetLatest 8 = .ok (.dup, 1) := by decide +kernel
theorem dX4_forgetLatest_9 : decode cX4_forgetLatest 9 = .ok (.getfield 18, 3) := by decide +kernel
theorem dX4_forgetLatest_12 : decode cX4_forgetLatest 12 = .ok (.iconst 1, 1) := by decide +kernel
theorem dX4_forgetLatest_13 : decode cX4_forgetLatest 13 = .ok (.isub, 1) := by decide +kernel
theorem dX4_forgetLatest_14 : decode cX4_forgetLatest 14 = .ok (.putfield 18, 3) := by decide +kernel
theorem dX4_forgetLatest_17 : decode cX4_forgetLatest 17 = .ok (.aload_n 0, 1) := by decide +kernel
theorem dX4_forgetLatest_18 : decode cX4_forgetLatest 18 = .ok (.getfield 18, 3) := by decide +kernel
theorem dX4_forgetLatest_21 : decode cX4_forgetLatest 21 = .ok (.ireturn, 1) := by decide +kernel
set_option maxRecDepth 20000 in
theorem ggX5_init_X0_init : GoodIn wsX5_init wsX0_init := goodIn_r _ [14, 15, 2, 3, 16, 17, 18, 19, 20, 21, 22, 23, 24, 25, 26, 27, 28, 29, 30, 31, 32, 33, 34, 35, 36, 37, 38, 39, 40, 41, 42, 43, 44, 45, 80, 81, 82, 83, 84, 85, 86, 87, 88, 89, 90, 68, 69, 70, 71, 72, 73, 91, 92, 93, 94, 95] (by decide +kernel) (by decide +kernel)
set_option maxRecDepth 20000 in
theorem gX5_init_X0_init_n9 : GoodIn wsX5_init (wsX0_init) := ggX5_init_X0_init
set_option maxRecDepth 20000 in
theorem ggX5_init_X4_init : GoodIn wsX5_init wsX4_init := goodIn_r _ [48, 49, 2, 3, 50, 51, 52, 53, 54, 55, 56, 57, 5, 6, 58, 13, 14, 15, 16, 17, 18, 19, 20, 21, 22, 23, 24, 25, 26, 27, 28, 29, 30, 31, 32, 33, 34, 35, 36, 37, 38, 39, 40, 41, 42, 43, 44, 45, 76, 77, 78, 79, 96, 97, 98, 99, 100, 101, 68, 69, 70, 71, 72, 73, 80, 81, 82, 83, 84, 85, 86, 87, 88, 89, 90, 91, 92, 93, 94, 95] (by decide +kernel) (by decide +kernel)
set_option maxRecDepth 20000 in
theorem gX5_init_X4_init : GoodIn wsX5_init (wsX4_init) := ggX5_init_X4_init
set_option maxRecDepth 20000 in
theorem ggX5_init_X3_add : GoodIn wsX5_init wsX3_add := goodIn_r _ [62, 63, 29, 30, 31, 38, 64, 65, 66, 18, 67, 80, 81, 82, 83, 84, 85, 86, 87, 88, 89, 90] (by decide +kernel) (by decide +kernel)
set_option maxRecDepth 20000 in
theorem gX5_init_X3_add : GoodIn wsX5_init (wsV RX5 27 RX3 yX3_add wsX3_add) := goodIn_app (goodIn_of _ (by decide +kernel)) ggX5_init_X3_add
theorem dX5_init_0 : decode cX5_init 0 = .ok (.aload_n 0, 1) := by decide +kernel
theorem dX5_init_1 : decode cX5_init 1 = .ok (.invokespecial 1, 3) := by decide +kernel
theorem dX5_init_4 : decode cX5_init 4 = .ok (.aload_n 0, 1) := by decide +kernel
theorem dX5_init_5 : decode cX5_init 5 = .ok (.new 7, 3) := by decide +kernel
theorem dX5_init_8 : decode cX5_init 8 = .ok (.dup, 1) := by decide +kernel
theorem dX5_init_9 : decode cX5_init 9 = .ok (.invokespecial 9, 3) := by decide +kernel
theorem dX5_init_12 : decode cX5_init 12 = .ok (.putfield 10, 3) := by decide +kernel
theorem dX5_init_15 : decode cX5_init 15 = .ok (.aload_n 0, 1) := by decide +kernel
theorem dX5_init_16 : decode cX5_init 16 = .ok (.new 16, 3) := by decide +kernel
theorem dX5_init_19 : decode cX5_init 19 = .ok (.dup, 1) := by decide +kernel
theorem dX5_init_20 : decode cX5_init 20 = .ok (.invokespecial 18, 3) := by decide +kernel
theorem dX5_init_23 : decode cX5_init 23 = .ok (.putfield 19, 3) := by decide +kernel
theorem dX5_init_26 : decode cX5_init 26 = .ok (.aload_n 0, 1) := by decide +kernel
theorem dX5_init_27 : decode cX5_init 27 = .ok (.getfield 10, 3) := by decide +kernel
theorem dX5_init_30 : decode cX5_init 30 = .ok (.getfield 23, 3) := by decide +kernel
theorem dX5_init_33 : decode cX5_init 33 = .ok (.bipush (-9), 2) := by decide +kernel
theorem dX5_init_35 : decode cX5_init 35 = .ok (.iconst 0, 1) := by decide +kernel
theorem dX5_init_36 : decode cX5_init 36 = .ok (.invokevirtual 27, 3) := by decide +kernel
theorem dX5_init_39 : decode cX5_init 39 = .ok (.pop, 1) := by decide +kernel
theorem dX5_init_40 : decode cX5_init 40 = .ok (.return_, 1) := by decide +kernel
set_option maxRecDepth 20000 in
theorem ggX5_make_X3_has : GoodIn wsX5_make wsX3_has := goodIn_r _ [10, 11, 92, 93, 94, 95, 96, 97, 98, 99, 100, 101, 102] (by decide +kernel) (by decide +kernel)
set_option maxRecDepth 20000 in
theorem gX5_make_X3_has : GoodIn wsX5_make (wsV RX5 33 RX3 yX3_has wsX3_has) := goodIn_app (goodIn_of _ (by decide +kernel)) ggX5_make_X3_has
set_option maxRecDepth 20000 in
theorem ggX5_make_X4_remember : GoodIn wsX5_make wsX4_remember := goodIn_r _ [16, 17, 18, 19, 15, 20, 21, 22, 23, 24, 25, 26, 27, 28, 29, 30, 31, 32, 33, 34, 35, 36, 37, 38, 39, 40, 41, 42, 43, 44, 45, 46, 47, 48, 49, 50, 51, 52, 9, 53, 54, 55, 56, 57, 58, 59, 60, 61, 62, 63, 64, 65, 66, 67, 11, 68, 69, 70, 71, 72, 73, 74, 75, 76, 77, 78, 103, 104, 105, 106, 107, 108, 109, 110, 111, 112, 86, 87, 88, 89, 90, 91, 92, 93, 94, 95, 96, 97, 98, 99, 100, 101, 102, 113, 114, 115, 116, 117] (by decide +kernel) (by decide +kernel)
set_option maxRecDepth 20000 in
theorem gX5_make_X4_remember : GoodIn wsX5_make (wsV RX5 45 RX4 yX4_remember wsX4_remember) := goodIn_app (goodIn_of _ (by decide +kernel)) ggX5_make_X4_remember
set_option maxRecDepth 20000 in
theorem ggX5_make_X3_add : GoodIn wsX5_make wsX3_add := goodIn_r _ [82, 11, 54, 59, 60, 67, 83, 7, 8, 9, 10, 92, 93, 94, 95, 96, 97, 98, 99, 100, 101, 102] (by decide +kernel) (by decide +kernel)
set_option maxRecDepth 20000 in
theorem gX5_make_X3_add : GoodIn wsX5_make (wsV RX5 27 RX3 yX3_add wsX3_add) := goodIn_app (goodIn_of _ (by decide +kernel)) ggX5_make_X3_add
theorem dX5_make_0 : decode cX5_make 0 = .ok (.aload_n 0, 1) := by decide +kernel
theorem dX5_make_1 : decode cX5_make 1 = .ok (.getfield 10, 3) := by decide +kernel
theorem dX5_make_4 : decode cX5_make 4 = .ok (.getfield 23, 3) := by decide +kernel
theorem dX5_make_7 : decode cX5_make 7 = .ok (.astore_n 3, 1) := by decide +kernel
theorem dX5_make_8 : decode cX5_make 8 = .ok (.aload_n 3, 1) := by decide +kernel
theorem dX5_make_9 : decode cX5_make 9 = .ok (.iload_n 1, 1) := by decide +kernel
theorem dX5_make_10 : decode cX5_make 10 = .ok (.invokevirtual 33, 3) := by decide +kernel
theorem dX5_make_13 : decode cX5_make 13 = .ok (.ifCond .eq 13, 3) := by decide +kernel
theorem dX5_make_16 : decode cX5_make 16 = .ok (.iload_n 2, 1) := by decide +kernel
theorem dX5_make_17 : decode cX5_make 17 = .ok (.ifCond .lt 9, 3) := by decide +kernel
theorem dX5_make_20 : decode cX5_make 20 = .ok (.iload_n 2, 1) := by decide +kernel
theorem dX5_make_21 : decode cX5_make 21 = .ok (.bipush 9, 2) := by decide +kernel
theorem dX5_make_23 : decode cX5_make 23 = .ok (.if_icmp .le 5, 3) := by decide +kernel
theorem dX5_make_26 : decode cX5_make 26 = .ok (.iconst (-1), 1) := by decide +kernel
theorem dX5_make_27 : decode cX5_make 27 = .ok (.ireturn, 1) := by decide +kernel
theorem dX5_make_28 : decode cX5_make 28 = .ok (.aload_n 3, 1) := by decide +kernel
theorem dX5_make_29 : decode cX5_make 29 = .ok (.getfield 37, 3) := by decide +kernel
theorem dX5_make_32 : decode cX5_make 32 = .ok (.iload_n 1, 1) := by decide +kernel
theorem dX5_make_33 : decode cX5_make 33 = .ok (.iaload, 1) := by decide +kernel
theorem dX5_make_34 : decode cX5_make 34 = .ok (.iconst 4, 1) := by decide +kernel
theorem dX5_make_35 : decode cX5_make 35 = .ok (.if_icmp .lt 6, 3) := by decide +kernel
theorem dX5_make_38 : decode cX5_make 38 = .ok (.bipush (-2), 2) := by decide +kernel
theorem dX5_make_40 : decode cX5_make 40 = .ok (.ireturn, 1) := by decide +kernel
theorem dX5_make_41 : decode cX5_make 41 = .ok (.aload_n 3, 1) := by decide +kernel
theorem dX5_make_42 : decode cX5_make 42 = .ok (.getfield 41, 3) := by decide +kernel
theorem dX5_make_45 : decode cX5_make 45 = .ok (.bipush 20, 2) := by decide +kernel
theorem dX5_make_47 : decode cX5_make 47 = .ok (.if_icmp .lt 6, 3) := by decide +kernel
theorem dX5_make_50 : decode cX5_make 50 = .ok (.bipush (-3), 2) := by decide +kernel
theorem dX5_make_52 : decode cX5_make 52 = .ok (.ireturn, 1) := by decide +kernel
theorem dX5_make_53 : decode cX5_make 53 = .ok (.aload_n 0, 1) := by decide +kernel
theorem dX5_make_54 : decode cX5_make 54 = .ok (.getfield 19, 3) := by decide +kernel
theorem dX5_make_57 : decode cX5_make 57 = .ok (.iconst 0, 1) := by decide +kernel
theorem dX5_make_58 : decode cX5_make 58 = .ok (.aload_n 0, 1) := by decide +kernel
theorem dX5_make_59 : decode cX5_make 59 = .ok (.getfield 10, 3) := by decide +kernel
theorem dX5_make_62 : decode cX5_make 62 = .ok (.invokevirtual 45, 3) := by decide +kernel
theorem dX5_make_65 : decode cX5_make 65 = .ok (.aload_n 3, 1) := by decide +kernel
theorem dX5_make_66 : decode cX5_make 66 = .ok (.iload_n 1, 1) := by decide +kernel
theorem dX5_make_67 : decode cX5_make 67 = .ok (.iload_n 2, 1) := by decide +kernel
theorem dX5_make_68 : decode cX5_make 68 = .ok (.invokevirtual 27, 3) := by decide +kernel
theorem dX5_make_71 : decode cX5_make 71 = .ok (.ireturn, 1) := by decide +kernel
set_option maxRecDepth 20000 in
theorem ggX5_allot_X3_has : GoodIn wsX5_allot wsX3_has := goodIn_r _ [11, 12, 93, 94, 95, 96, 97, 98, 99, 100, 101, 102, 103] (by decide +kernel) (by decide +kernel)
set_option maxRecDepth 20000 in
theorem gX5_allot_X3_has : GoodIn wsX5_allot (wsV RX5 33 RX3 yX3_has wsX3_has) := goodIn_app (goodIn_of _ (by decide +kernel)) ggX5_allot_X3_has
set_option maxRecDepth 20000 in
theorem ggX5_allot_X5_isAmount : GoodIn wsX5_allot wsX5_isAmount := goodIn_r _ [16, 17] (by decide +kernel) (by decide +kernel)
set_option maxRecDepth 20000 in
theorem gX5_allot_X5_isAmount : GoodIn wsX5_allot (va_wsS RX5 49 yX5_isAmount wsX5_isAmount) := goodIn_app (goodIn_of _ (by decide +kernel)) ggX5_allot_X5_isAmount
set_option maxRecDepth 20000 in
theorem ggX5_allot_X4_remember : GoodIn wsX5_allot wsX4_remember := goodIn_r _ [22, 23, 24, 25, 21, 26, 27, 28, 29, 30, 31, 32, 33, 34, 35, 36, 37, 38, 39, 40, 41, 42, 43, 44, 45, 46, 47, 48, 49, 50, 51, 52, 53, 54, 55, 56, 57, 58, 10, 59, 60, 61, 62, 63, 64, 65, 66, 67, 68, 69, 70, 71, 72, 73, 12, 74, 75, 76, 77, 78, 79, 80, 81, 82, 83, 84, 104, 105, 106, 107, 108, 109, 110, 111, 112, 113, 87, 88, 89, 90, 91, 92, 93, 94, 95, 96, 97, 98, 99, 100, 101, 102, 103, 114, 115, 116, 117, 118] (by decide +kernel) (by decide +kernel)
set_option maxRecDepth 20000 in
theorem gX5_allot_X4_remember : GoodIn wsX5_allot (wsV RX5 45 RX4 yX4_remember wsX4_remember) := goodIn_app (goodIn_of _ (by decide +kernel)) ggX5_allot_X4_remember
theorem dX5_allot_0 : decode cX5_allot 0 = .ok (.aload_n 0, 1) := by decide +kernel
theorem dX5_allot_1 : decode cX5_allot 1 = .ok (.getfield 10, 3) := by decide +kernel
theorem dX5_allot_4 : decode cX5_allot 4 = .ok (.getfield 23, 3) := by decide +kernel
theorem dX5_allot_7 : decode cX5_allot 7 = .ok (.astore_n 3, 1) := by decide +kernel
theorem dX5_allot_8 : decode cX5_allot 8 = .ok (.aload_n 3, 1) := by decide +kernel
theorem dX5_allot_9 : decode cX5_allot 9 = .ok (.iload_n 1, 1) := by decide +kernel
theorem dX5_allot_10 : decode cX5_allot 10 = .ok (.invokevirtual 33, 3) := by decide +kernel
theorem dX5_allot_13 : decode cX5_allot 13 = .ok (.ifCond .eq 10, 3) := by decide +kernel
theorem dX5_allot_16 : decode cX5_allot 16 = .ok (.iload_n 2, 1) := by decide +kernel
theorem dX5_allot_17 : decode cX5_allot 17 = .ok (.invokestatic 49, 3) := by decide +kernel
theorem dX5_allot_20 : decode cX5_allot 20 = .ok (.ifCond .ne 5, 3) := by decide +kernel
theorem dX5_allot_23 : decode cX5_allot 23 = .ok (.iconst (-1), 1) := by decide +kernel
theorem dX5_allot_24 : decode cX5_allot 24 = .ok (.ireturn, 1) := by decide +kernel
theorem dX5_allot_25 : decode cX5_allot 25 = .ok (.aload_n 3, 1) := by decide +kernel
theorem dX5_allot_26 : decode cX5_allot 26 = .ok (.getfield 52, 3) := by decide +kernel
theorem dX5_allot_29 : decode cX5_allot 29 = .ok (.iload_n 1, 1) := by decide +kernel
theorem dX5_allot_30 : decode cX5_allot 30 = .ok (.iaload, 1) := by decide +kernel
theorem dX5_allot_31 : decode cX5_allot 31 = .ok (.ldc 55, 2) := by decide +kernel
theorem dX5_allot_33 : decode cX5_allot 33 = .ok (.iload_n 2, 1) := by decide +kernel
theorem dX5_allot_34 : decode cX5_allot 34 = .ok (.isub, 1) := by decide +kernel
theorem dX5_allot_35 : decode cX5_allot 35 = .ok (.if_icmp .le 6, 3) := by decide +kernel
theorem dX5_allot_38 : decode cX5_allot 38 = .ok (.bipush (-3), 2) := by decide +kernel
theorem dX5_allot_40 : decode cX5_allot 40 = .ok (.ireturn, 1) := by decide +kernel
theorem dX5_allot_41 : decode cX5_allot 41 = .ok (.aload_n 0, 1) := by decide +kernel
theorem dX5_allot_42 : decode cX5_allot 42 = .ok (.getfield 19, 3) := by decide +kernel
theorem dX5_allot_45 : decode cX5_allot 45 = .ok (.iconst 1, 1) := by decide +kernel
theorem dX5_allot_46 : decode cX5_allot 46 = .ok (.aload_n 0, 1) := by decide +kernel
theorem dX5_allot_47 : decode cX5_allot 47 = .ok (.getfield 10, 3) := by decide +kernel
theorem dX5_allot_50 : decode cX5_allot 50 = .ok (.invokevirtual 45, 3) := by decide +kernel
theorem dX5_allot_53 : decode cX5_allot 53 = .ok (.aload_n 3, 1) := by decide +kernel
theorem dX5_allot_54 : decode cX5_allot 54 = .ok (.getfield 52, 3) := by decide +kernel
theorem dX5_allot_57 : decode cX5_allot 57 = .ok (.iload_n 1, 1) := by decide +kernel
theorem dX5_allot_58 : decode cX5_allot 58 = .ok (.dup2, 1) := by decide +kernel
theorem dX5_allot_59 : decode cX5_allot 59 = .ok (.iaload, 1) := by decide +kernel
theorem dX5_allot_60 : decode cX5_allot 60 = .ok (.iload_n 2, 1) := by decide +kernel
theorem dX5_allot_61 : decode cX5_allot 61 = .ok (.iadd, 1) := by decide +kernel
theorem dX5_allot_62 : decode cX5_allot 62 = .ok (.iastore, 1) := by decide +kernel
theorem dX5_allot_63 : decode cX5_allot 63 = .ok (.aload_n 3, 1) := by decide +kernel
theorem dX5_allot_64 : decode cX5_allot 64 = .ok (.getfield 56, 3) := by decide +kernel
theorem dX5_allot_67 : decode cX5_allot 67 = .ok (.iload_n 1, 1) := by decide +kernel
theorem dX5_allot_68 : decode cX5_allot 68 = .ok (.dup2, 1) := by decide +kernel
theorem dX5_allot_69 : decode cX5_allot 69 = .ok (.iaload, 1) := by decide +kernel
theorem dX5_allot_70 : decode cX5_allot 70 = .ok (.iload_n 2, 1) := by decide +kernel
theorem dX5_allot_71 : decode cX5_allot 71 = .ok (.iadd, 1) := by decide +kernel
theorem dX5_allot_72 : decode cX5_allot 72 = .ok (.iastore, 1) := by decide +kernel
theorem dX5_allot_73 : decode cX5_allot 73 = .ok (.aload_n 3, 1) := by decide +kernel
theorem dX5_allot_74 : decode cX5_allot 74 = .ok (.getfield 52, 3) := by decide +kernel
theorem dX5_allot_77 : decode cX5_allot 77 = .ok (.iload_n 1, 1) := by decide +kernel
theorem dX5_allot_78 : decode cX5_allot 78 = .ok (.iaload, 1) := by decide +kernel
theorem dX5_allot_79 : decode cX5_allot 79 = .ok (.ireturn, 1) := by decide +kernel
set_option maxRecDepth 20000 in
theorem ggX5_freeze_X3_has : GoodIn wsX5_freeze wsX3_has := goodIn_r _ [9, 10, 95, 96, 97, 98, 99, 100, 101, 102, 103, 104, 105] (by decide +kernel) (by decide +kernel)
set_option maxRecDepth 20000 in
theorem gX5_freeze_X3_has : GoodIn wsX5_freeze (wsV RX5 33 RX3 yX3_has wsX3_has) := goodIn_app (goodIn_of _ (by decide +kernel)) ggX5_freeze_X3_has
set_option maxRecDepth 20000 in
theorem ggX5_freeze_X4_remember : GoodIn wsX5_freeze wsX4_remember := goodIn_r _ [15, 16, 17, 18, 14, 19, 20, 21, 22, 23, 24, 25, 26, 27, 28, 29, 30, 31, 32, 33, 34, 35, 36, 37, 38, 39, 40, 41, 42, 43, 44, 45, 46, 47, 48, 49, 50, 51, 8, 52, 53, 54, 55, 56, 57, 58, 59, 60, 61, 62, 63, 64, 65, 66, 10, 67, 68, 69, 70, 71, 72, 73, 74, 75, 76, 77, 106, 107, 108, 109, 110, 111, 112, 113, 114, 115, 89, 90, 91, 92, 93, 94, 95, 96, 97, 98, 99, 100, 101, 102, 103, 104, 105, 116, 117, 118, 119, 120] (by decide +kernel) (by decide +kernel)
set_option maxRecDepth 20000 in
theorem gX5_freeze_X4_remember : GoodIn wsX5_freeze (wsV RX5 45 RX4 yX4_remember wsX4_remember) := goodIn_app (goodIn_of _ (by decide +kernel)) ggX5_freeze_X4_remember
set_option maxRecDepth 20000 in
theorem ggX5_freeze_X3_countBarred : GoodIn wsX5_freeze wsX3_countBarred := goodIn_r _ [81, 82, 83, 84, 8, 85, 60, 53, 86, 6, 7, 9, 10, 95, 96, 97, 98, 99, 100, 101, 102, 103, 104, 105] (by decide +kernel) (by decide +kernel)
set_option maxRecDepth 20000 in
theorem gX5_freeze_X3_countBarred : GoodIn wsX5_freeze (wsV RX5 62 RX3 yX3_countBarred wsX3_countBarred) := goodIn_app (goodIn_of _ (by decide +kernel)) ggX5_freeze_X3_countBarred
theorem dX5_freeze_0 : decode cX5_freeze 0 = .ok (.aload_n 0, 1) := by decide +kernel
theorem dX5_freeze_1 : decode cX5_freeze 1 = .ok (.getfield 10, 3) := by decide +kernel
theorem dX5_freeze_4 : decode cX5_freeze 4 = .ok (.getfield 23, 3) := by decide +kernel
theorem dX5_freeze_7 : decode cX5_freeze 7 = .ok (.astore_n 3, 1) := by decide +kernel
theorem dX5_freeze_8 : decode cX5_freeze 8 = .ok (.aload_n 3, 1) := by decide +kernel
theorem dX5_freeze_9 : decode cX5_freeze 9 = .ok (.iload_n 1, 1) := by decide +kernel
theorem dX5_freeze_10 : decode cX5_freeze 10 = .ok (.invokevirtual 33, 3) := by decide +kernel
theorem dX5_freeze_13 : decode cX5_freeze 13 = .ok (.ifCond .eq 12, 3) := by decide +kernel
theorem dX5_freeze_16 : decode cX5_freeze 16 = .ok (.iload_n 2, 1) := by decide +kernel
theorem dX5_freeze_17 : decode cX5_freeze 17 = .ok (.ifCond .lt 8, 3) := by decide +kernel
theorem dX5_freeze_20 : decode cX5_freeze 20 = .ok (.iload_n 2, 1) := by decide +kernel
theorem dX5_freeze_21 : decode cX5_freeze 21 = .ok (.iconst 1, 1) := by decide +kernel
theorem dX5_freeze_22 : decode cX5_freeze 22 = .ok (.if_icmp .le 5, 3) := by decide +kernel
theorem dX5_freeze_25 : decode cX5_freeze 25 = .ok (.iconst (-1), 1) := by decide +kernel
theorem dX5_freeze_26 : decode cX5_freeze 26 = .ok (.ireturn, 1) := by decide +kernel
theorem dX5_freeze_27 : decode cX5_freeze 27 = .ok (.aload_n 3, 1) := by decide +kernel
theorem dX5_freeze_28 : decode cX5_freeze 28 = .ok (.getfield 59, 3) := by decide +kernel
theorem dX5_freeze_31 : decode cX5_freeze 31 = .ok (.iload_n 1, 1) := by decide +kernel
theorem dX5_freeze_32 : decode cX5_freeze 32 = .ok (.iaload, 1) := by decide +kernel
theorem dX5_freeze_33 : decode cX5_freeze 33 = .ok (.iload_n 2, 1) := by decide +kernel
theorem dX5_freeze_34 : decode cX5_freeze 34 = .ok (.if_icmp .ne 6, 3) := by decide +kernel
theorem dX5_freeze_37 : decode cX5_freeze 37 = .ok (.bipush (-2), 2) := by decide +kernel
theorem dX5_freeze_39 : decode cX5_freeze 39 = .ok (.ireturn, 1) := by decide +kernel
theorem dX5_freeze_40 : decode cX5_freeze 40 = .ok (.aload_n 0, 1) := by decide +kernel
theorem dX5_freeze_41 : decode cX5_freeze 41 = .ok (.getfield 19, 3) := by decide +kernel
theorem dX5_freeze_44 : decode cX5_freeze 44 = .ok (.iconst 2, 1) := by decide +kernel
theorem dX5_freeze_45 : decode cX5_freeze 45 = .ok (.aload_n 0, 1) := by decide +kernel
theorem dX5_freeze_46 : decode cX5_freeze 46 = .ok (.getfield 10, 3) := by decide +kernel
theorem dX5_freeze_49 : decode cX5_freeze 49 = .ok (.invokevirtual 45, 3) := by decide +kernel
theorem dX5_freeze_52 : decode cX5_freeze 52 = .ok (.aload_n 3, 1) := by decide +kernel
theorem dX5_freeze_53 : decode cX5_freeze 53 = .ok (.getfield 59, 3) := by decide +kernel
theorem dX5_freeze_56 : decode cX5_freeze 56 = .ok (.iload_n 1, 1) := by decide +kernel
theorem dX5_freeze_57 : decode cX5_freeze 57 = .ok (.iload_n 2, 1) := by decide +kernel
theorem dX5_freeze_58 : decode cX5_freeze 58 = .ok (.iastore, 1) := by decide +kernel
theorem dX5_freeze_59 : decode cX5_freeze 59 = .ok (.aload_n 3, 1) := by decide +kernel
theorem dX5_freeze_60 : decode cX5_freeze 60 = .ok (.invokevirtual 62, 3) := by decide +kernel
theorem dX5_freeze_63 : decode cX5_freeze 63 = .ok (.ireturn, 1) := by decide +kernel
set_option maxRecDepth 20000 in
theorem ggX5_setShare_X3_has : GoodIn wsX5_setShare wsX3_has := goodIn_r _ [9, 10, 90, 91, 92, 93, 94, 95, 96, 97, 98, 99, 100] (by decide +kernel) (by decide +kernel)
set_option maxRecDepth 20000 in
theorem gX5_setShare_X3_has : GoodIn wsX5_setShare (wsV RX5 33 RX3 yX3_has wsX3_has) := goodIn_app (goodIn_of _ (by decide +kernel)) ggX5_setShare_X3_has
set_option maxRecDepth 20000 in
theorem ggX5_setShare_X5_isPercentage : GoodIn wsX5_setShare wsX5_isPercentage := goodIn_r _ [14] (by decide +kernel) (by decide +kernel)
set_option maxRecDepth 20000 in
theorem gX5_setShare_X5_isPercentage : GoodIn wsX5_setShare (va_wsS RX5 66 yX5_isPercentage wsX5_isPercentage) := goodIn_app (goodIn_of _ (by decide +kernel)) ggX5_setShare_X5_isPercentage
set_option maxRecDepth 20000 in
theorem ggX5_setShare_X4_remember : GoodIn wsX5_setShare wsX4_remember := goodIn_r _ [19, 20, 21, 22, 18, 23, 24, 25, 26, 27, 28, 29, 30, 31, 32, 33, 34, 35, 36, 37, 38, 39, 40, 41, 42, 43, 44, 45, 46, 47, 48, 49, 50, 51, 52, 53, 54, 55, 8, 56, 57, 58, 59, 60, 61, 62, 63, 64, 65, 66, 67, 68, 69, 70, 10, 71, 72, 73, 74, 75, 76, 77, 78, 79, 80, 81, 101, 102, 103, 104, 105, 106, 107, 108, 109, 110, 84, 85, 86, 87, 88, 89, 90, 91, 92, 93, 94, 95, 96, 97, 98, 99, 100, 111, 112, 113, 114, 115] (by decide +kernel) (by decide +kernel)
set_option maxRecDepth 20000 in
theorem gX5_setShare_X4_remember : GoodIn wsX5_setShare (wsV RX5 45 RX4 yX4_remember wsX4_remember) := goodIn_app (goodIn_of _ (by decide +kernel)) ggX5_setShare_X4_remember
end
section
theorem dX5_setShare_0 : decode cX5_setShare 0 = .ok (.aload_n 0, 1) := by decide +kernel
theorem dX5_setShare_1 : decode cX5_setShare 1 = .ok (.getfield 10, 3) := by decide +kernel
theorem dX5_setShare_4 : decode cX5_setShare 4 = .ok (.getfield 23, 3) := by decide +kernel
theorem dX5_setShare_7 : decode cX5_setShare 7 = .ok (.astore_n 3, 1) := by decide +kernel
theorem dX5_setShare_8 : decode cX5_setShare 8 = .ok (.aload_n 3, 1) := by decide +kernel
theorem dX5_setShare_9 : decode cX5_setShare 9 = .ok (.iload_n 1, 1) := by decide +kernel
theorem dX5_setShare_10 : decode cX5_setShare 10 = .ok (.invokevirtual 33, 3) := by decide +kernel
theorem dX5_setShare_13 : decode cX5_setShare 13 = .ok (.ifCond .eq 10, 3) := by decide +kernel
theorem dX5_setShare_16 : decode cX5_setShare 16 = .ok (.iload_n 2, 1) := by decide +kernel
theorem dX5_setShare_17 : decode cX5_setShare 17 = .ok (.invokestatic 66, 3) := by decide +kernel
theorem dX5_setShare_20 : decode cX5_setShare 20 = .ok (.ifCond .ne 5, 3) := by decide +kernel
theorem dX5_setShare_23 : decode cX5_setShare 23 = .ok (.iconst (-1), 1) := by decide +kernel
theorem dX5_setShare_24 : decode cX5_setShare 24 = .ok (.ireturn, 1) := by decide +kernel
theorem dX5_setShare_25 : decode cX5_setShare 25 = .ok (.aload_n 0, 1) := by decide +kernel
theorem dX5_setShare_26 : decode cX5_setShare 26 = .ok (.getfield 19, 3) := by decide +kernel
theorem dX5_setShare_29 : decode cX5_setShare 29 = .ok (.iconst 3, 1) := by decide +kernel
theorem dX5_setShare_30 : decode cX5_setShare 30 = .ok (.aload_n 0, 1) := by decide +kernel
theorem dX5_setShare_31 : decode cX5_setShare 31 = .ok (.getfield 10, 3) := by decide +kernel
theorem dX5_setShare_34 : decode cX5_setShare 34 = .ok (.invokevirtual 45, 3) := by decide +kernel
theorem dX5_setShare_37 : decode cX5_setShare 37 = .ok (.aload_n 3, 1) := by decide +kernel
theorem dX5_setShare_38 : decode cX5_setShare 38 = .ok (.getfield 69, 3) := by decide +kernel
theorem dX5_setShare_41 : decode cX5_setShare 41 = .ok (.iload_n 1, 1) := by decide +kernel
theorem dX5_setShare_42 : decode cX5_setShare 42 = .ok (.iaload, 1) := by decide +kernel
theorem dX5_setShare_43 : decode cX5_setShare 43 = .ok (.istore 4, 2) := by decide +kernel
theorem dX5_setShare_45 : decode cX5_setShare 45 = .ok (.aload_n 3, 1) := by decide +kernel
theorem dX5_setShare_46 : decode cX5_setShare 46 = .ok (.getfield 69, 3) := by decide +kernel
theorem dX5_setShare_49 : decode cX5_setShare 49 = .ok (.iload_n 1, 1) := by decide +kernel
theorem dX5_setShare_50 : decode cX5_setShare 50 = .ok (.iload_n 2, 1) := by decide +kernel
theorem dX5_setShare_51 : decode cX5_setShare 51 = .ok (.iastore, 1) := by decide +kernel
theorem dX5_setShare_52 : decode cX5_setShare 52 = .ok (.iload 4, 2) := by decide +kernel
theorem dX5_setShare_54 : decode cX5_setShare 54 = .ok (.ireturn, 1) := by decide +kernel
set_option maxRecDepth 20000 in
theorem ggX5_setCarried_X5_isPercentage : GoodIn wsX5_setCarried wsX5_isPercentage := goodIn_r _ [7] (by decide +kernel) (by decide +kernel)
set_option maxRecDepth 20000 in
theorem gX5_setCarried_X5_isPercentage : GoodIn wsX5_setCarried (va_wsS RX5 66 yX5_isPercentage wsX5_isPercentage) := goodIn_app (goodIn_of _ (by decide +kernel)) ggX5_setCarried_X5_isPercentage
set_option maxRecDepth 20000 in
theorem ggX5_setCarried_X4_remember : GoodIn wsX5_setCarried wsX4_remember := goodIn_r _ [12, 13, 14, 15, 11, 16, 17, 18, 19, 20, 21, 22, 23, 24, 25, 26, 27, 28, 29, 30, 31, 32, 33, 34, 35, 36, 37, 38, 39, 40, 41, 42, 43, 44, 45, 46, 47, 48, 49, 50, 51, 52, 53, 54, 55, 56, 57, 58, 59, 60, 61, 62, 63, 64, 65, 66, 67, 68, 69, 70, 71, 72, 73, 74, 75, 76, 85, 86, 87, 88, 89, 90, 91, 92, 93, 94, 79, 80, 81, 82, 83, 84, 95, 96, 97, 98, 99, 100, 101, 102, 103, 104, 105, 106, 107, 108, 109, 110] (by decide +kernel) (by decide +kernel)
set_option maxRecDepth 20000 in
theorem gX5_setCarried_X4_remember : GoodIn wsX5_setCarried (wsV RX5 45 RX4 yX4_remember wsX4_remember) := goodIn_app (goodIn_of _ (by decide +kernel)) ggX5_setCarried_X4_remember
theorem dX5_setCarried_0 : decode cX5_setCarried 0 = .ok (.iload_n 1, 1) := by decide +kernel
theorem dX5_setCarried_1 : decode cX5_setCarried 1 = .ok (.invokestatic 66, 3) := by decide +kernel
theorem dX5_setCarried_4 : decode cX5_setCarried 4 = .ok (.ifCond .ne 5, 3) := by decide +kernel
theorem dX5_setCarried_7 : decode cX5_setCarried 7 = .ok (.iconst (-1), 1) := by decide +kernel
theorem dX5_setCarried_8 : decode cX5_setCarried 8 = .ok (.ireturn, 1) := by decide +kernel
theorem dX5_setCarried_9 : decode cX5_setCarried 9 = .ok (.aload_n 0, 1) := by decide +kernel
theorem dX5_setCarried_10 : decode cX5_setCarried 10 = .ok (.getfield 19, 3) := by decide +kernel
theorem dX5_setCarried_13 : decode cX5_setCarried 13 = .ok (.iconst 4, 1) := by decide +kernel
theorem dX5_setCarried_14 : decode cX5_setCarried 14 = .ok (.aload_n 0, 1) := by decide +kernel
theorem dX5_setCarried_15 : decode cX5_setCarried 15 = .ok (.getfield 10, 3) := by decide +kernel
theorem dX5_setCarried_18 : decode cX5_setCarried 18 = .ok (.invokevirtual 45, 3) := by decide +kernel
theorem dX5_setCarried_21 : decode cX5_setCarried 21 = .ok (.aload_n 0, 1) := by decide +kernel
theorem dX5_setCarried_22 : decode cX5_setCarried 22 = .ok (.getfield 10, 3) := by decide +kernel
theorem dX5_setCarried_25 : decode cX5_setCarried 25 = .ok (.getfield 72, 3) := by decide +kernel
theorem dX5_setCarried_28 : decode cX5_setCarried 28 = .ok (.istore_n 2, 1) := by decide +kernel
theorem dX5_setCarried_29 : decode cX5_setCarried 29 = .ok (.aload_n 0, 1) := by decide +kernel
theorem dX5_setCarried_30 : decode cX5_setCarried 30 = .ok (.getfield 10, 3) := by decide +kernel
theorem dX5_setCarried_33 : decode cX5_setCarried 33 = .ok (.iload_n 1, 1) := by decide +kernel
theorem dX5_setCarried_34 : decode cX5_setCarried 34 = .ok (.putfield 72, 3) := by decide +kernel
theorem dX5_setCarried_37 : decode cX5_setCarried 37 = .ok (.iload_n 2, 1) := by decide +kernel
theorem dX5_setCarried_38 : decode cX5_setCarried 38 = .ok (.ireturn, 1) := by decide +kernel
set_option maxRecDepth 20000 in
theorem ggX5_commit_X3_has : GoodIn wsX5_commit wsX3_has := goodIn_r _ [11, 12, 115, 116, 117, 118, 119, 120, 121, 122, 123, 124, 125] (by decide +kernel) (by decide +kernel)
set_option maxRecDepth 20000 in
theorem gX5_commit_X3_has : GoodIn wsX5_commit (wsV RX5 33 RX3 yX3_has wsX3_has) := goodIn_app (goodIn_of _ (by decide +kernel)) ggX5_commit_X3_has
set_option maxRecDepth 20000 in
theorem ggX5_commit_X5_isAmount : GoodIn wsX5_commit wsX5_isAmount := goodIn_r _ [16, 17] (by decide +kernel) (by decide +kernel)
set_option maxRecDepth 20000 in
theorem gX5_commit_X5_isAmount : GoodIn wsX5_commit (va_wsS RX5 49 yX5_isAmount wsX5_isAmount) := goodIn_app (goodIn_of _ (by decide +kernel)) ggX5_commit_X5_isAmount
set_option maxRecDepth 20000 in
theorem ggX5_commit_X3_isBarred : GoodIn wsX5_commit wsX3_isBarred := goodIn_r _ [21, 22, 23, 24, 8, 9, 10, 11, 12, 115, 116, 117, 118, 119, 120, 121, 122, 123, 124, 125] (by decide +kernel) (by decide +kernel)
set_option maxRecDepth 20000 in
theorem gX5_commit_X3_isBarred : GoodIn wsX5_commit (wsV RX5 75 RX3 yX3_isBarred wsX3_isBarred) := goodIn_app (goodIn_of _ (by decide +kernel)) ggX5_commit_X3_isBarred
set_option maxRecDepth 20000 in
theorem ggX5_commit_X3_freeOf : GoodIn wsX5_commit wsX3_freeOf := goodIn_r _ [28, 29, 30, 31, 24, 8, 9, 10, 11, 12, 115, 116, 117, 118, 119, 120, 121, 122, 123, 124, 125] (by decide +kernel) (by decide +kernel)
set_option maxRecDepth 20000 in
theorem gX5_commit_X3_freeOf : GoodIn wsX5_commit (wsV RX5 78 RX3 yX3_freeOf wsX3_freeOf) := goodIn_app (goodIn_of _ (by decide +kernel)) ggX5_commit_X3_freeOf
set_option maxRecDepth 20000 in
theorem ggX5_commit_X4_rememberCommitment : GoodIn wsX5_commit wsX4_rememberCommitment := goodIn_r _ [36, 37, 38, 39, 35, 40, 41, 42, 43, 44, 45, 46, 47, 48, 49, 50, 51, 52, 53, 54, 55, 56, 57, 58, 59, 60, 61, 62, 63, 64, 65, 66, 67, 68, 69, 70, 71, 72, 10, 73, 23, 74, 75, 76, 77, 78, 79, 22, 29, 30, 31, 80, 81, 82, 12, 83, 84, 85, 86, 87, 88, 89, 90, 91, 92, 93, 126, 127, 128, 129, 130, 131, 132, 133, 134, 135, 104, 105, 106, 107, 108, 109, 115, 116, 117, 118, 119, 120, 121, 122, 123, 124, 125, 110, 111, 112, 113, 114] (by decide +kernel) (by decide +kernel)
set_option maxRecDepth 20000 in
theorem gX5_commit_X4_rememberCommitment : GoodIn wsX5_commit (wsV RX5 89 RX4 yX4_rememberCommitment wsX4_rememberCommitment) := goodIn_app (goodIn_of _ (by decide +kernel)) ggX5_commit_X4_rememberCommitment
set_option maxRecDepth 20000 in
theorem ggX5_commit_X3_changeCommitted : GoodIn wsX5_commit wsX3_changeCommitted := goodIn_r _ [97, 30, 24, 8, 9, 10, 11, 12, 115, 116, 117, 118, 119, 120, 121, 122, 123, 124, 125] (by decide +kernel) (by decide +kernel)
set_option maxRecDepth 20000 in
theorem gX5_commit_X3_changeCommitted : GoodIn wsX5_commit (wsV RX5 93 RX3 yX3_changeCommitted wsX3_changeCommitted) := goodIn_app (goodIn_of _ (by decide +kernel)) ggX5_commit_X3_changeCommitted
set_option maxRecDepth 20000 in
theorem ggX5_commit_X1_add : GoodIn wsX5_commit wsX1_add := goodIn_r _ [101, 93, 88, 90, 92, 110, 111, 112, 113, 114] (by decide +kernel) (by decide +kernel)
set_option maxRecDepth 20000 in
theorem gX5_commit_X1_add : GoodIn wsX5_commit (wsV RX5 100 RX1 yX1_add wsX1_add) := goodIn_app (goodIn_of _ (by decide +kernel)) ggX5_commit_X1_add
theorem dX5_commit_0 : decode cX5_commit 0 = .ok (.aload_n 0, 1) := by decide +kernel
theorem dX5_commit_1 : decode cX5_commit 1 = .ok (.getfield 10, 3) := by decide +kernel
theorem dX5_commit_4 : decode cX5_commit 4 = .ok (.getfield 23, 3) := by decide +kernel
theorem dX5_commit_7 : decode cX5_commit 7 = .ok (.astore_n 3, 1) := by decide +kernel
theorem dX5_commit_8 : decode cX5_commit 8 = .ok (.aload_n 3, 1) := by decide +kernel
theorem dX5_commit_9 : decode cX5_commit 9 = .ok (.iload_n 1, 1) := by decide +kernel
theorem dX5_commit_10 : decode cX5_commit 10 = .ok (.invokevirtual 33, 3) := by decide +kernel
theorem dX5_commit_13 : decode cX5_commit 13 = .ok (.ifCond .eq 10, 3) := by decide +kernel
theorem dX5_commit_16 : decode cX5_commit 16 = .ok (.iload_n 2, 1) := by decide +kernel
theorem dX5_commit_17 : decode cX5_commit 17 = .ok (.invokestatic 49, 3) := by decide +kernel
theorem dX5_commit_20 : decode cX5_commit 20 = .ok (.ifCond .ne 5, 3) := by decide +kernel
theorem dX5_commit_23 : decode cX5_commit 23 = .ok (.iconst (-1), 1) := by decide +kernel
theorem dX5_commit_24 : decode cX5_commit 24 = .ok (.ireturn, 1) := by decide +kernel
theorem dX5_commit_25 : decode cX5_commit 25 = .ok (.aload_n 3, 1) := by decide +kernel
theorem dX5_commit_26 : decode cX5_commit 26 = .ok (.iload_n 1, 1) := by decide +kernel
theorem dX5_commit_27 : decode cX5_commit 27 = .ok (.invokevirtual 75, 3) := by decide +kernel
theorem dX5_commit_30 : decode cX5_commit 30 = .ok (.ifCond .ne 12, 3) := by decide +kernel
theorem dX5_commit_33 : decode cX5_commit 33 = .ok (.iload_n 2, 1) := by decide +kernel
theorem dX5_commit_34 : decode cX5_commit 34 = .ok (.aload_n 3, 1) := by decide +kernel
theorem dX5_commit_35 : decode cX5_commit 35 = .ok (.iload_n 1, 1) := by decide +kernel
theorem dX5_commit_36 : decode cX5_commit 36 = .ok (.invokevirtual 78, 3) := by decide +kernel
theorem dX5_commit_39 : decode cX5_commit 39 = .ok (.if_icmp .le 6, 3) := by decide +kernel
theorem dX5_commit_42 : decode cX5_commit 42 = .ok (.bipush (-2), 2) := by decide +kernel
theorem dX5_commit_44 : decode cX5_commit 44 = .ok (.ireturn, 1) := by decide +kernel
theorem dX5_commit_45 : decode cX5_commit 45 = .ok (.aload_n 0, 1) := by decide +kernel
theorem dX5_commit_46 : decode cX5_commit 46 = .ok (.getfield 10, 3) := by decide +kernel
theorem dX5_commit_49 : decode cX5_commit 49 = .ok (.getfield 82, 3) := by decide +kernel
theorem dX5_commit_52 : decode cX5_commit 52 = .ok (.getfield 86, 3) := by decide +kernel
theorem dX5_commit_55 : decode cX5_commit 55 = .ok (.bipush 40, 2) := by decide +kernel
theorem dX5_commit_57 : decode cX5_commit 57 = .ok (.if_icmp .lt 6, 3) := by decide +kernel
theorem dX5_commit_60 : decode cX5_commit 60 = .ok (.bipush (-3), 2) := by decide +kernel
theorem dX5_commit_62 : decode cX5_commit 62 = .ok (.ireturn, 1) := by decide +kernel
theorem dX5_commit_63 : decode cX5_commit 63 = .ok (.aload_n 0, 1) := by decide +kernel
theorem dX5_commit_64 : decode cX5_commit 64 = .ok (.getfield 19, 3) := by decide +kernel
theorem dX5_commit_67 : decode cX5_commit 67 = .ok (.aload_n 0, 1) := by decide +kernel
theorem dX5_commit_68 : decode cX5_commit 68 = .ok (.getfield 10, 3) := by decide +kernel
theorem dX5_commit_71 : decode cX5_commit 71 = .ok (.aload_n 0, 1) := by decide +kernel
theorem dX5_commit_72 : decode cX5_commit 72 = .ok (.getfield 10, 3) := by decide +kernel
theorem dX5_commit_75 : decode cX5_commit 75 = .ok (.getfield 82, 3) := by decide +kernel
theorem dX5_commit_78 : decode cX5_commit 78 = .ok (.getfield 86, 3) := by decide +kernel
theorem dX5_commit_81 : decode cX5_commit 81 = .ok (.invokevirtual 89, 3) := by decide +kernel
theorem dX5_commit_84 : decode cX5_commit 84 = .ok (.aload_n 3, 1) := by decide +kernel
theorem dX5_commit_85 : decode cX5_commit 85 = .ok (.iload_n 1, 1) := by decide +kernel
theorem dX5_commit_86 : decode cX5_commit 86 = .ok (.iload_n 2, 1) := by decide +kernel
theorem dX5_commit_87 : decode cX5_commit 87 = .ok (.invokevirtual 93, 3) := by decide +kernel
theorem dX5_commit_90 : decode cX5_commit 90 = .ok (.aload_n 0, 1) := by decide +kernel
theorem dX5_commit_91 : decode cX5_commit 91 = .ok (.getfield 10, 3) := by decide +kernel
theorem dX5_commit_94 : decode cX5_commit 94 = .ok (.getfield 82, 3) := by decide +kernel
theorem dX5_commit_97 : decode cX5_commit 97 = .ok (.iload_n 1, 1) := by decide +kernel
theorem dX5_commit_98 : decode cX5_commit 98 = .ok (.iload_n 2, 1) := by decide +kernel
theorem dX5_commit_99 : decode cX5_commit 99 = .ok (.aload_n 0, 1) := by decide +kernel
theorem dX5_commit_100 : decode cX5_commit 100 = .ok (.getfield 10, 3) := by decide +kernel
theorem dX5_commit_103 : decode cX5_commit 103 = .ok (.getfield 97, 3) := by decide +kernel
theorem dX5_commit_106 : decode cX5_commit 106 = .ok (.invokevirtual 100, 3) := by decide +kernel
theorem dX5_commit_109 : decode cX5_commit 109 = .ok (.ireturn, 1) := by decide +kernel
set_option maxRecDepth 20000 in
theorem ggX5_pay_X1_has : GoodIn wsX5_pay wsX1_has := goodIn_r _ [13, 14, 103, 104, 105, 106, 107] (by decide +kernel) (by decide +kernel)
set_option maxRecDepth 20000 in
theorem gX5_pay_X1_has : GoodIn wsX5_pay (wsV RX5 103 RX1 yX1_has wsX1_has) := goodIn_app (goodIn_of _ (by decide +kernel)) ggX5_pay_X1_has
set_option maxRecDepth 20000 in
theorem ggX5_pay_X5_isAmount : GoodIn wsX5_pay wsX5_isAmount := goodIn_r _ [18, 19] (by decide +kernel) (by decide +kernel)
set_option maxRecDepth 20000 in
theorem gX5_pay_X5_isAmount : GoodIn wsX5_pay (va_wsS RX5 49 yX5_isAmount wsX5_isAmount) := goodIn_app (goodIn_of _ (by decide +kernel)) ggX5_pay_X5_isAmount
set_option maxRecDepth 20000 in
theorem ggX5_pay_X4_remember : GoodIn wsX5_pay wsX4_remember := goodIn_r _ [24, 25, 26, 27, 23, 28, 29, 30, 31, 32, 33, 34, 35, 36, 37, 38, 39, 40, 41, 42, 43, 44, 45, 46, 47, 48, 49, 50, 51, 52, 53, 54, 55, 56, 57, 58, 59, 60, 61, 62, 63, 64, 65, 66, 67, 68, 69, 70, 71, 72, 73, 74, 75, 76, 77, 78, 79, 80, 12, 81, 82, 83, 84, 85, 86, 14, 108, 109, 110, 111, 112, 113, 114, 115, 116, 117, 97, 98, 99, 100, 101, 102, 118, 119, 120, 121, 122, 123, 124, 125, 126, 127, 128, 103, 104, 105, 106, 107] (by decide +kernel) (by decide +kernel)
set_option maxRecDepth 20000 in
theorem gX5_pay_X4_remember : GoodIn wsX5_pay (wsV RX5 45 RX4 yX4_remember wsX4_remember) := goodIn_app (goodIn_of _ (by decide +kernel)) ggX5_pay_X4_remember
set_option maxRecDepth 20000 in
theorem ggX5_pay_X3_spendCommitted : GoodIn wsX5_pay wsX3_spendCommitted := goodIn_r _ [90, 72, 73, 91, 92, 93, 61, 94, 77, 118, 119, 120, 121, 122, 123, 124, 125, 126, 127, 128] (by decide +kernel) (by decide +kernel)
set_option maxRecDepth 20000 in
theorem gX5_pay_X3_spendCommitted : GoodIn wsX5_pay (wsV RX5 113 RX3 yX3_spendCommitted wsX3_spendCommitted) := goodIn_app (goodIn_of _ (by decide +kernel)) ggX5_pay_X3_spendCommitted
theorem dX5_pay_0 : decode cX5_pay 0 = .ok (.aload_n 0, 1) := by decide +kernel
theorem dX5_pay_1 : decode cX5_pay 1 = .ok (.getfield 10, 3) := by decide +kernel
theorem dX5_pay_4 : decode cX5_pay 4 = .ok (.getfield 82, 3) := by decide +kernel
theorem dX5_pay_7 : decode cX5_pay 7 = .ok (.astore_n 3, 1) := by decide +kernel
theorem dX5_pay_8 : decode cX5_pay 8 = .ok (.aload_n 3, 1) := by decide +kernel
theorem dX5_pay_9 : decode cX5_pay 9 = .ok (.iload_n 1, 1) := by decide +kernel
theorem dX5_pay_10 : decode cX5_pay 10 = .ok (.invokevirtual 103, 3) := by decide +kernel
theorem dX5_pay_13 : decode cX5_pay 13 = .ok (.ifCond .eq 10, 3) := by decide +kernel
theorem dX5_pay_16 : decode cX5_pay 16 = .ok (.iload_n 2, 1) := by decide +kernel
theorem dX5_pay_17 : decode cX5_pay 17 = .ok (.invokestatic 49, 3) := by decide +kernel
theorem dX5_pay_20 : decode cX5_pay 20 = .ok (.ifCond .ne 5, 3) := by decide +kernel
theorem dX5_pay_23 : decode cX5_pay 23 = .ok (.iconst (-1), 1) := by decide +kernel
theorem dX5_pay_24 : decode cX5_pay 24 = .ok (.ireturn, 1) := by decide +kernel
theorem dX5_pay_25 : decode cX5_pay 25 = .ok (.iload_n 2, 1) := by decide +kernel
theorem dX5_pay_26 : decode cX5_pay 26 = .ok (.aload_n 3, 1) := by decide +kernel
theorem dX5_pay_27 : decode cX5_pay 27 = .ok (.getfield 104, 3) := by decide +kernel
theorem dX5_pay_30 : decode cX5_pay 30 = .ok (.iload_n 1, 1) := by decide +kernel
theorem dX5_pay_31 : decode cX5_pay 31 = .ok (.iaload, 1) := by decide +kernel
theorem dX5_pay_32 : decode cX5_pay 32 = .ok (.if_icmp .le 6, 3) := by decide +kernel
theorem dX5_pay_35 : decode cX5_pay 35 = .ok (.bipush (-2), 2) := by decide +kernel
theorem dX5_pay_37 : decode cX5_pay 37 = .ok (.ireturn, 1) := by decide +kernel
theorem dX5_pay_38 : decode cX5_pay 38 = .ok (.aload_n 0, 1) := by decide +kernel
theorem dX5_pay_39 : decode cX5_pay 39 = .ok (.getfield 19, 3) := by decide +kernel
theorem dX5_pay_42 : decode cX5_pay 42 = .ok (.bipush 6, 2) := by decide +kernel
theorem dX5_pay_44 : decode cX5_pay 44 = .ok (.aload_n 0, 1) := by decide +kernel
theorem dX5_pay_45 : decode cX5_pay 45 = .ok (.getfield 10, 3) := by decide +kernel
theorem dX5_pay_48 : decode cX5_pay 48 = .ok (.invokevirtual 45, 3) := by decide +kernel
theorem dX5_pay_51 : decode cX5_pay 51 = .ok (.aload_n 3, 1) := by decide +kernel
theorem dX5_pay_52 : decode cX5_pay 52 = .ok (.getfield 104, 3) := by decide +kernel
theorem dX5_pay_55 : decode cX5_pay 55 = .ok (.iload_n 1, 1) := by decide +kernel
theorem dX5_pay_56 : decode cX5_pay 56 = .ok (.dup2, 1) := by decide +kernel
theorem dX5_pay_57 : decode cX5_pay 57 = .ok (.iaload, 1) := by decide +kernel
theorem dX5_pay_58 : decode cX5_pay 58 = .ok (.iload_n 2, 1) := by decide +kernel
theorem dX5_pay_59 : decode cX5_pay 59 = .ok (.isub, 1) := by decide +kernel
theorem dX5_pay_60 : decode cX5_pay 60 = .ok (.iastore, 1) := by decide +kernel
theorem dX5_pay_61 : decode cX5_pay 61 = .ok (.aload_n 3, 1) := by decide +kernel
theorem dX5_pay_62 : decode cX5_pay 62 = .ok (.getfield 107, 3) := by decide +kernel
theorem dX5_pay_65 : decode cX5_pay 65 = .ok (.iload_n 1, 1) := by decide +kernel
theorem dX5_pay_66 : decode cX5_pay 66 = .ok (.dup2, 1) := by decide +kernel
theorem dX5_pay_67 : decode cX5_pay 67 = .ok (.iaload, 1) := by decide +kernel
theorem dX5_pay_68 : decode cX5_pay 68 = .ok (.iload_n 2, 1) := by decide +kernel
theorem dX5_pay_69 : decode cX5_pay 69 = .ok (.iadd, 1) := by decide +kernel
theorem dX5_pay_70 : decode cX5_pay 70 = .ok (.iastore, 1) := by decide +kernel
theorem dX5_pay_71 : decode cX5_pay 71 = .ok (.aload_n 0, 1) := by decide +kernel
theorem dX5_pay_72 : decode cX5_pay 72 = .ok (.getfield 10, 3) := by decide +kernel
theorem dX5_pay_75 : decode cX5_pay 75 = .ok (.getfield 23, 3) := by decide +kernel
theorem dX5_pay_78 : decode cX5_pay 78 = .ok (.aload_n 3, 1) := by decide +kernel
theorem dX5_pay_79 : decode cX5_pay 79 = .ok (.getfield 110, 3) := by decide +kernel
theorem dX5_pay_82 : decode cX5_pay 82 = .ok (.iload_n 1, 1) := by decide +kernel
theorem dX5_pay_83 : decode cX5_pay 83 = .ok (.iaload, 1) := by decide +kernel
theorem dX5_pay_84 : decode cX5_pay 84 = .ok (.iload_n 2, 1) := by decide +kernel
theorem dX5_pay_85 : decode cX5_pay 85 = .ok (.invokevirtual 113, 3) := by decide +kernel
theorem dX5_pay_88 : decode cX5_pay 88 = .ok (.aload_n 0, 1) := by decide +kernel
theorem dX5_pay_89 : decode cX5_pay 89 = .ok (.getfield 10, 3) := by decide +kernel
theorem dX5_pay_92 : decode cX5_pay 92 = .ok (.dup, 1) := by decide +kernel
theorem dX5_pay_93 : decode cX5_pay 93 = .ok (.getfield 116, 3) := by decide +kernel
theorem dX5_pay_96 : decode cX5_pay 96 = .ok (.iload_n 2, 1) := by decide +kernel
theorem dX5_pay_97 : decode cX5_pay 97 = .ok (.iadd, 1) := by decide +kernel
theorem dX5_pay_98 : decode cX5_pay 98 = .ok (.putfield 116, 3) := by decide +kernel
theorem dX5_pay_101 : decode cX5_pay 101 = .ok (.aload_n 3, 1) := by decide +kernel
theorem dX5_pay_102 : decode cX5_pay 102 = .ok (.getfield 104, 3) := by decide +kernel
theorem dX5_pay_105 : decode cX5_pay 105 = .ok (.iload_n 1, 1) := by decide +kernel
theorem dX5_pay_106 : decode cX5_pay 106 = .ok (.iaload, 1) := by decide +kernel
theorem dX5_pay_107 : decode cX5_pay 107 = .ok (.ireturn, 1) := by decide +kernel
set_option maxRecDepth 20000 in
theorem ggX5_release_X1_has : GoodIn wsX5_release wsX1_has := goodIn_r _ [9, 10, 101, 102, 103, 104, 105] (by decide +kernel) (by decide +kernel)
set_option maxRecDepth 20000 in
theorem gX5_release_X1_has : GoodIn wsX5_release (wsV RX5 103 RX1 yX1_has wsX1_has) := goodIn_app (goodIn_of _ (by decide +kernel)) ggX5_release_X1_has
set_option maxRecDepth 20000 in
theorem ggX5_release_X4_remember : GoodIn wsX5_release wsX4_remember := goodIn_r _ [15, 16, 17, 18, 14, 19, 20, 21, 22, 23, 24, 25, 26, 27, 28, 29, 30, 31, 32, 33, 34, 35, 36, 37, 38, 39, 40, 41, 42, 43, 44, 45, 46, 47, 48, 49, 50, 51, 52, 53, 54, 55, 56, 57, 58, 59, 60, 61, 62, 63, 64, 65, 66, 67, 68, 69, 70, 71, 8, 72, 73, 74, 75, 76, 77, 10, 106, 107, 108, 109, 110, 111, 112, 113, 114, 115, 95, 96, 97, 98, 99, 100, 116, 117, 118, 119, 120, 121, 122, 123, 124, 125, 126, 101, 102, 103, 104, 105] (by decide +kernel) (by decide +kernel)
set_option maxRecDepth 20000 in
theorem gX5_release_X4_remember : GoodIn wsX5_release (wsV RX5 45 RX4 yX4_remember wsX4_remember) := goodIn_app (goodIn_of _ (by decide +kernel)) ggX5_release_X4_remember
set_option maxRecDepth 20000 in
theorem ggX5_release_X0_freeOpenOf : GoodIn wsX5_release wsX0_freeOpenOf := goodIn_r _ [81, 44, 82, 43, 83, 84, 6, 7, 8, 9, 10, 85, 86, 87, 52, 88, 63, 89, 90, 91, 92, 68, 95, 96, 97, 98, 99, 100, 101, 102, 103, 104, 105, 116, 117, 118, 119, 120, 121, 122, 123, 124, 125, 126] (by decide +kernel) (by decide +kernel)
set_option maxRecDepth 20000 in
theorem gX5_release_X0_freeOpenOf : GoodIn wsX5_release (wsV RX5 119 RX0 yX0_freeOpenOf wsX0_freeOpenOf) := goodIn_app (goodIn_of _ (by decide +kernel)) ggX5_release_X0_freeOpenOf
theorem dX5_release_0 : decode cX5_release 0 = .ok (.aload_n 0, 1) := by decide +kernel
theorem dX5_release_1 : decode cX5_release 1 = .ok (.getfield 10, 3) := by decide +kernel
theorem dX5_release_4 : decode cX5_release 4 = .ok (.getfield 82, 3) := by decide +kernel
theorem dX5_release_7 : decode cX5_release 7 = .ok (.iload_n 1, 1) := by decide +kernel
theorem dX5_release_8 : decode cX5_release 8 = .ok (.invokevirtual 103, 3) := by decide +kernel
theorem dX5_release_11 : decode cX5_release 11 = .ok (.ifCond .ne 5, 3) := by decide +kernel
theorem dX5_release_14 : decode cX5_release 14 = .ok (.iconst (-1), 1) := by decide +kernel
theorem dX5_release_15 : decode cX5_release 15 = .ok (.ireturn, 1) := by decide +kernel
theorem dX5_release_16 : decode cX5_release 16 = .ok (.aload_n 0, 1) := by decide +kernel
theorem dX5_release_17 : decode cX5_release 17 = .ok (.getfield 10, 3) := by decide +kernel
theorem dX5_release_20 : decode cX5_release 20 = .ok (.getfield 82, 3) := by decide +kernel
theorem dX5_release_23 : decode cX5_release 23 = .ok (.getfield 104, 3) := by decide +kernel
theorem dX5_release_26 : decode cX5_release 26 = .ok (.iload_n 1, 1) := by decide +kernel
theorem dX5_release_27 : decode cX5_release 27 = .ok (.iaload, 1) := by decide +kernel
theorem dX5_release_28 : decode cX5_release 28 = .ok (.ifCond .ne 6, 3) := by decide +kernel
theorem dX5_release_31 : decode cX5_release 31 = .ok (.bipush (-2), 2) := by decide +kernel
theorem dX5_release_33 : decode cX5_release 33 = .ok (.ireturn, 1) := by decide +kernel
theorem dX5_release_34 : decode cX5_release 34 = .ok (.aload_n 0, 1) := by decide +kernel
theorem dX5_release_35 : decode cX5_release 35 = .ok (.getfield 19, 3) := by decide +kernel
theorem dX5_release_38 : decode cX5_release 38 = .ok (.bipush 7, 2) := by decide +kernel
theorem dX5_release_40 : decode cX5_release 40 = .ok (.aload_n 0, 1) := by decide +kernel
theorem dX5_release_41 : decode cX5_release 41 = .ok (.getfield 10, 3) := by decide +kernel
theorem dX5_release_44 : decode cX5_release 44 = .ok (.invokevirtual 45, 3) := by decide +kernel
theorem dX5_release_47 : decode cX5_release 47 = .ok (.aload_n 0, 1) := by decide +kernel
theorem dX5_release_48 : decode cX5_release 48 = .ok (.getfield 10, 3) := by decide +kernel
theorem dX5_release_51 : decode cX5_release 51 = .ok (.iload_n 1, 1) := by decide +kernel
theorem dX5_release_52 : decode cX5_release 52 = .ok (.invokevirtual 119, 3) := by decide +kernel
theorem dX5_release_55 : decode cX5_release 55 = .ok (.ireturn, 1) := by decide +kernel
set_option maxRecDepth 20000 in
theorem ggX5_vire_X3_hasBoth : GoodIn wsX5_vire wsX3_hasBoth := goodIn_r _ [8, 9, 10, 11, 7, 12, 13, 131, 132, 133, 134, 135, 136, 137, 138, 139, 140, 141] (by decide +kernel) (by decide +kernel)
set_option maxRecDepth 20000 in
theorem gX5_vire_X3_hasBoth : GoodIn wsX5_vire (wsV RX5 122 RX3 yX3_hasBoth wsX3_hasBoth) := goodIn_app (goodIn_of _ (by decide +kernel)) ggX5_vire_X3_hasBoth
set_option maxRecDepth 20000 in
theorem ggX5_vire_X5_isAmount : GoodIn wsX5_vire wsX5_isAmount := goodIn_r _ [17, 18] (by decide +kernel) (by decide +kernel)
set_option maxRecDepth 20000 in
theorem gX5_vire_X5_isAmount : GoodIn wsX5_vire (va_wsS RX5 49 yX5_isAmount wsX5_isAmount) := goodIn_app (goodIn_of _ (by decide +kernel)) ggX5_vire_X5_isAmount
set_option maxRecDepth 20000 in
theorem ggX5_vire_X3_movable : GoodIn wsX5_vire wsX3_movable := goodIn_r _ [22, 23, 24, 25, 26, 27, 28, 29, 30, 31, 32, 33, 34, 5, 6, 7, 8, 9, 10, 11, 12, 13, 35, 36, 37, 38, 39, 40, 41, 42, 43, 44, 45, 46, 47, 48, 49, 50, 16, 51, 52, 53, 54, 55, 56, 57, 58, 59, 131, 132, 133, 134, 135, 136, 137, 138, 139, 140, 141] (by decide +kernel) (by decide +kernel)
set_option maxRecDepth 20000 in
theorem gX5_vire_X3_movable : GoodIn wsX5_vire (wsV RX5 126 RX3 yX3_movable wsX3_movable) := goodIn_app (goodIn_of _ (by decide +kernel)) ggX5_vire_X3_movable
set_option maxRecDepth 20000 in
theorem ggX5_vire_X4_rememberVirement : GoodIn wsX5_vire wsX4_rememberVirement := goodIn_r _ [64, 65, 66, 67, 63, 68, 69, 70, 71, 72, 73, 74, 75, 76, 77, 78, 79, 80, 81, 82, 83, 84, 85, 86, 87, 88, 89, 90, 91, 92, 93, 94, 95, 96, 97, 98, 99, 100, 7, 101, 39, 102, 103, 104, 105, 106, 40, 45, 57, 58, 59, 23, 25, 24, 13, 107, 108, 109, 110, 111, 112, 113, 114, 115, 116, 117, 142, 143, 144, 145, 146, 147, 148, 149, 150, 151, 125, 126, 127, 128, 129, 130, 131, 132, 133, 134, 135, 136, 137, 138, 139, 140, 141, 152, 153, 154, 155, 156] (by decide +kernel) (by decide +kernel)
set_option maxRecDepth 20000 in
theorem gX5_vire_X4_rememberVirement : GoodIn wsX5_vire (wsV RX5 129 RX4 yX4_rememberVirement wsX4_rememberVirement) := goodIn_app (goodIn_of _ (by decide +kernel)) ggX5_vire_X4_rememberVirement
set_option maxRecDepth 20000 in
theorem ggX5_vire_X3_moveByVirement : GoodIn wsX5_vire wsX3_moveByVirement := goodIn_r _ [121, 57, 25, 34, 5, 6, 7, 8, 9, 10, 11, 12, 13, 131, 132, 133, 134, 135, 136, 137, 138, 139, 140, 141] (by decide +kernel) (by decide +kernel)
set_option maxRecDepth 20000 in
theorem gX5_vire_X3_moveByVirement : GoodIn wsX5_vire (wsV RX5 133 RX3 yX3_moveByVirement wsX3_moveByVirement) := goodIn_app (goodIn_of _ (by decide +kernel)) ggX5_vire_X3_moveByVirement
set_option maxRecDepth 20000 in
theorem ggX5_vire_X3_freeOf : GoodIn wsX5_vire wsX3_freeOf := goodIn_r _ [56, 57, 58, 59, 9, 10, 11, 7, 12, 13, 131, 132, 133, 134, 135, 136, 137, 138, 139, 140, 141] (by decide +kernel) (by decide +kernel)
set_option maxRecDepth 20000 in
theorem gX5_vire_X3_freeOf : GoodIn wsX5_vire (wsV RX5 78 RX3 yX3_freeOf wsX3_freeOf) := goodIn_app (goodIn_of _ (by decide +kernel)) ggX5_vire_X3_freeOf
theorem dX5_vire_0 : decode cX5_vire 0 = .ok (.aload_n 0, 1) := by decide +kernel
theorem dX5_vire_1 : decode cX5_vire 1 = .ok (.getfield 10, 3) := by decide +kernel
theorem dX5_vire_4 : decode cX5_vire 4 = .ok (.getfield 23, 3) := by decide +kernel
theorem dX5_vire_7 : decode cX5_vire 7 = .ok (.astore 4, 2) := by decide +kernel
theorem dX5_vire_9 : decode cX5_vire 9 = .ok (.aload 4, 2) := by decide +kernel
theorem dX5_vire_11 : decode cX5_vire 11 = .ok (.iload_n 1, 1) := by decide +kernel
theorem dX5_vire_12 : decode cX5_vire 12 = .ok (.iload_n 2, 1) := by decide +kernel
theorem dX5_vire_13 : decode cX5_vire 13 = .ok (.invokevirtual 122, 3) := by decide +kernel
theorem dX5_vire_16 : decode cX5_vire 16 = .ok (.ifCond .eq 10, 3) := by decide +kernel
theorem dX5_vire_19 : decode cX5_vire 19 = .ok (.iload_n 3, 1) := by decide +kernel
theorem dX5_vire_20 : decode cX5_vire 20 = .ok (.invokestatic 49, 3) := by decide +kernel
theorem dX5_vire_23 : decode cX5_vire 23 = .ok (.ifCond .ne 5, 3) := by decide +kernel
theorem dX5_vire_26 : decode cX5_vire 26 = .ok (.iconst (-1), 1) := by decide +kernel
theorem dX5_vire_27 : decode cX5_vire 27 = .ok (.ireturn, 1) := by decide +kernel
theorem dX5_vire_28 : decode cX5_vire 28 = .ok (.iload_n 3, 1) := by decide +kernel
theorem dX5_vire_29 : decode cX5_vire 29 = .ok (.aload 4, 2) := by decide +kernel
theorem dX5_vire_31 : decode cX5_vire 31 = .ok (.iload_n 1, 1) := by decide +kernel
theorem dX5_vire_32 : decode cX5_vire 32 = .ok (.iload_n 2, 1) := by decide +kernel
theorem dX5_vire_33 : decode cX5_vire 33 = .ok (.invokevirtual 126, 3) := by decide +kernel
theorem dX5_vire_36 : decode cX5_vire 36 = .ok (.if_icmp .le 6, 3) := by decide +kernel
theorem dX5_vire_39 : decode cX5_vire 39 = .ok (.bipush (-2), 2) := by decide +kernel
theorem dX5_vire_41 : decode cX5_vire 41 = .ok (.ireturn, 1) := by decide +kernel
theorem dX5_vire_42 : decode cX5_vire 42 = .ok (.aload_n 0, 1) := by decide +kernel
theorem dX5_vire_43 : decode cX5_vire 43 = .ok (.getfield 19, 3) := by decide +kernel
theorem dX5_vire_46 : decode cX5_vire 46 = .ok (.aload_n 0, 1) := by decide +kernel
theorem dX5_vire_47 : decode cX5_vire 47 = .ok (.getfield 10, 3) := by decide +kernel
theorem dX5_vire_50 : decode cX5_vire 50 = .ok (.iload_n 1, 1) := by decide +kernel
theorem dX5_vire_51 : decode cX5_vire 51 = .ok (.iload_n 2, 1) := by decide +kernel
theorem dX5_vire_52 : decode cX5_vire 52 = .ok (.iload_n 3, 1) := by decide +kernel
theorem dX5_vire_53 : decode cX5_vire 53 = .ok (.invokevirtual 129, 3) := by decide +kernel
theorem dX5_vire_56 : decode cX5_vire 56 = .ok (.aload 4, 2) := by decide +kernel
theorem dX5_vire_58 : decode cX5_vire 58 = .ok (.iload_n 1, 1) := by decide +kernel
theorem dX5_vire_59 : decode cX5_vire 59 = .ok (.iload_n 2, 1) := by decide +kernel
theorem dX5_vire_60 : decode cX5_vire 60 = .ok (.iload_n 3, 1) := by decide +kernel
theorem dX5_vire_61 : decode cX5_vire 61 = .ok (.invokevirtual 133, 3) := by decide +kernel
theorem dX5_vire_64 : decode cX5_vire 64 = .ok (.aload 4, 2) := by decide +kernel
theorem dX5_vire_66 : decode cX5_vire 66 = .ok (.iload_n 1, 1) := by decide +kernel
theorem dX5_vire_67 : decode cX5_vire 67 = .ok (.invokevirtual 78, 3) := by decide +kernel
theorem dX5_vire_70 : decode cX5_vire 70 = .ok (.ireturn, 1) := by decide +kernel
set_option maxRecDepth 20000 in
theorem ggX5_endYear_X4_remember : GoodIn wsX5_endYear wsX4_remember := goodIn_r _ [11, 12, 13, 14, 10, 15, 16, 17, 18, 19, 20, 21, 22, 23, 24, 25, 26, 27, 28, 29, 30, 31, 32, 33, 34, 35, 36, 37, 38, 39, 40, 41, 42, 43, 44, 45, 46, 47, 48, 49, 50, 51, 52, 53, 54, 55, 56, 57, 58, 59, 60, 61, 62, 63, 64, 65, 66, 67, 68, 69, 70, 71, 72, 73, 74, 75, 108, 109, 110, 111, 112, 113, 114, 115, 116, 117, 102, 103, 104, 105, 106, 107, 118, 119, 120, 121, 122, 123, 124, 125, 126, 127, 128, 129, 130, 131, 132, 133] (by decide +kernel) (by decide +kernel)
set_option maxRecDepth 20000 in
theorem gX5_endYear_X4_remember : GoodIn wsX5_endYear (wsV RX5 45 RX4 yX4_remember wsX4_remember) := goodIn_app (goodIn_of _ (by decide +kernel)) ggX5_endYear_X4_remember
set_option maxRecDepth 20000 in
theorem ggX5_endYear_X3_lapseWithin : GoodIn wsX5_endYear wsX3_lapseWithin := goodIn_r _ [79, 80, 81, 82, 48, 83, 50, 84, 85, 86, 87, 64, 88, 89, 90, 91, 58, 59, 60, 92, 93, 94, 95, 118, 119, 120, 121, 122, 123, 124, 125, 126, 127, 128] (by decide +kernel) (by decide +kernel)
set_option maxRecDepth 20000 in
theorem gX5_endYear_X3_lapseWithin : GoodIn wsX5_endYear (wsV RX5 137 RX3 yX3_lapseWithin wsX3_lapseWithin) := goodIn_app (goodIn_of _ (by decide +kernel)) ggX5_endYear_X3_lapseWithin
set_option maxRecDepth 20000 in
theorem ggX5_endYear_X3_carryForward : GoodIn wsX5_endYear wsX3_carryForward := goodIn_r _ [99, 58, 59, 61, 60, 62, 88, 89, 90, 48, 91, 84, 85, 86, 87, 64, 92, 93, 94, 95, 118, 119, 120, 121, 122, 123, 124, 125, 126, 127, 128] (by decide +kernel) (by decide +kernel)
set_option maxRecDepth 20000 in
theorem gX5_endYear_X3_carryForward : GoodIn wsX5_endYear (wsV RX5 140 RX3 yX3_carryForward wsX3_carryForward) := goodIn_app (goodIn_of _ (by decide +kernel)) ggX5_endYear_X3_carryForward
theorem dX5_endYear_0 : decode cX5_endYear 0 = .ok (.aload_n 0, 1) := by decide +kernel
theorem dX5_endYear_1 : decode cX5_endYear 1 = .ok (.getfield 10, 3) := by decide +kernel
theorem dX5_endYear_4 : decode cX5_endYear 4 = .ok (.getfield 97, 3) := by decide +kernel
theorem dX5_endYear_7 : decode cX5_endYear 7 = .ok (.bipush 99, 2) := by decide +kernel
theorem dX5_endYear_9 : decode cX5_endYear 9 = .ok (.if_icmp .lt 6, 3) := by decide +kernel
theorem dX5_endYear_12 : decode cX5_endYear 12 = .ok (.bipush (-2), 2) := by decide +kernel
theorem dX5_endYear_14 : decode cX5_endYear 14 = .ok (.ireturn, 1) := by decide +kernel
theorem dX5_endYear_15 : decode cX5_endYear 15 = .ok (.aload_n 0, 1) := by decide +kernel
theorem dX5_endYear_16 : decode cX5_endYear 16 = .ok (.getfield 19, 3) := by decide +kernel
theorem dX5_endYear_19 : decode cX5_endYear 19 = .ok (.bipush 9, 2) := by decide +kernel
theorem dX5_endYear_21 : decode cX5_endYear 21 = .ok (.aload_n 0, 1) := by decide +kernel
theorem dX5_endYear_22 : decode cX5_endYear 22 = .ok (.getfield 10, 3) := by decide +kernel
theorem dX5_endYear_25 : decode cX5_endYear 25 = .ok (.invokevirtual 45, 3) := by decide +kernel
theorem dX5_endYear_28 : decode cX5_endYear 28 = .ok (.aload_n 0, 1) := by decide +kernel
theorem dX5_endYear_29 : decode cX5_endYear 29 = .ok (.getfield 10, 3) := by decide +kernel
theorem dX5_endYear_32 : decode cX5_endYear 32 = .ok (.getfield 23, 3) := by decide +kernel
theorem dX5_endYear_35 : decode cX5_endYear 35 = .ok (.iconst 0, 1) := by decide +kernel
theorem dX5_endYear_36 : decode cX5_endYear 36 = .ok (.aload_n 0, 1) := by decide +kernel
theorem dX5_endYear_37 : decode cX5_endYear 37 = .ok (.getfield 10, 3) := by decide +kernel
theorem dX5_endYear_40 : decode cX5_endYear 40 = .ok (.getfield 72, 3) := by decide +kernel
theorem dX5_endYear_43 : decode cX5_endYear 43 = .ok (.invokevirtual 137, 3) := by decide +kernel
theorem dX5_endYear_46 : decode cX5_endYear 46 = .ok (.istore_n 1, 1) := by decide +kernel
theorem dX5_endYear_47 : decode cX5_endYear 47 = .ok (.aload_n 0, 1) := by decide +kernel
theorem dX5_endYear_48 : decode cX5_endYear 48 = .ok (.getfield 10, 3) := by decide +kernel
theorem dX5_endYear_51 : decode cX5_endYear 51 = .ok (.getfield 23, 3) := by decide +kernel
theorem dX5_endYear_54 : decode cX5_endYear 54 = .ok (.aload_n 0, 1) := by decide +kernel
theorem dX5_endYear_55 : decode cX5_endYear 55 = .ok (.getfield 10, 3) := by decide +kernel
theorem dX5_endYear_58 : decode cX5_endYear 58 = .ok (.getfield 72, 3) := by decide +kernel
theorem dX5_endYear_61 : decode cX5_endYear 61 = .ok (.invokevirtual 140, 3) := by decide +kernel
theorem dX5_endYear_64 : decode cX5_endYear 64 = .ok (.aload_n 0, 1) := by decide +kernel
theorem dX5_endYear_65 : decode cX5_endYear 65 = .ok (.getfield 10, 3) := by decide +kernel
theorem dX5_endYear_68 : decode cX5_endYear 68 = .ok (.dup, 1) := by decide +kernel
theorem dX5_endYear_69 : decode cX5_endYear 69 = .ok (.getfield 144, 3) := by decide +kernel
theorem dX5_endYear_72 : decode cX5_endYear 72 = .ok (.iload_n 1, 1) := by decide +kernel
theorem dX5_endYear_73 : decode cX5_endYear 73 = .ok (.iadd, 1) := by decide +kernel
theorem dX5_endYear_74 : decode cX5_endYear 74 = .ok (.putfield 144, 3) := by decide +kernel
theorem dX5_endYear_77 : decode cX5_endYear 77 = .ok (.aload_n 0, 1) := by decide +kernel
theorem dX5_endYear_78 : decode cX5_endYear 78 = .ok (.getfield 10, 3) := by decide +kernel
theorem dX5_endYear_81 : decode cX5_endYear 81 = .ok (.dup, 1) := by decide +kernel
theorem dX5_endYear_82 : decode cX5_endYear 82 = .ok (.getfield 97, 3) := by decide +kernel
theorem dX5_endYear_85 : decode cX5_endYear 85 = .ok (.iconst 1, 1) := by decide +kernel
theorem dX5_endYear_86 : decode cX5_endYear 86 = .ok (.iadd, 1) := by decide +kernel
theorem dX5_endYear_87 : decode cX5_endYear 87 = .ok (.putfield 97, 3) := by decide +kernel
theorem dX5_endYear_90 : decode cX5_endYear 90 = .ok (.iload_n 1, 1) := by decide +kernel
theorem dX5_endYear_91 : decode cX5_endYear 91 = .ok (.ireturn, 1) := by decide +kernel
set_option maxRecDepth 20000 in
theorem ggX5_undo_X4_recall : GoodIn wsX5_undo wsX4_recall := goodIn_r _ [8, 9, 10, 11, 12, 13, 14, 15, 70, 71, 72, 73] (by decide +kernel) (by decide +kernel)
set_option maxRecDepth 20000 in
theorem gX5_undo_X4_recall : GoodIn wsX5_undo (wsV RX5 147 RX4 yX4_recall wsX4_recall) := goodIn_app (goodIn_of _ (by decide +kernel)) ggX5_undo_X4_recall
set_option maxRecDepth 20000 in
theorem ggX5_undo_X0_copyFrom : GoodIn wsX5_undo wsX0_copyFrom := goodIn_r _ [20, 21, 22, 23, 24, 25, 26, 27, 28, 29, 30, 31, 32, 33, 34, 35, 36, 37, 38, 39, 40, 41, 42, 43, 44, 45, 46, 47, 48, 49, 50, 51, 52, 53, 54, 55, 56, 57, 74, 75, 76, 77, 78, 79, 80, 81, 82, 83, 84, 85, 86, 87, 88, 89, 90, 91, 92, 93, 94, 95] (by decide +kernel) (by decide +kernel)
set_option maxRecDepth 20000 in
theorem gX5_undo_X0_copyFrom : GoodIn wsX5_undo (wsV RX5 156 RX0 yX0_copyFrom wsX0_copyFrom) := goodIn_app (goodIn_of _ (by decide +kernel)) ggX5_undo_X0_copyFrom
set_option maxRecDepth 20000 in
theorem ggX5_undo_X4_forgetLatest : GoodIn wsX5_undo wsX4_forgetLatest := goodIn_r _ [61, 9, 70, 71, 72, 73] (by decide +kernel) (by decide +kernel)
set_option maxRecDepth 20000 in
theorem gX5_undo_X4_forgetLatest : GoodIn wsX5_undo (wsV RX5 160 RX4 yX4_forgetLatest wsX4_forgetLatest) := goodIn_app (goodIn_of _ (by decide +kernel)) ggX5_undo_X4_forgetLatest
theorem dX5_undo_0 : decode cX5_undo 0 = .ok (.aload_n 0, 1) := by decide +kernel
theorem dX5_undo_1 : decode cX5_undo 1 = .ok (.getfield 19, 3) := by decide +kernel
theorem dX5_undo_4 : decode cX5_undo 4 = .ok (.iconst 0, 1) := by decide +kernel
theorem dX5_undo_5 : decode cX5_undo 5 = .ok (.invokevirtual 147, 3) := by decide +kernel
theorem dX5_undo_8 : decode cX5_undo 8 = .ok (.astore_n 1, 1) := by decide +kernel
theorem dX5_undo_9 : decode cX5_undo 9 = .ok (.aload_n 1, 1) := by decide +kernel
theorem dX5_undo_10 : decode cX5_undo 10 = .ok (.ifnonnull 6, 3) := by decide +kernel
theorem dX5_undo_13 : decode cX5_undo 13 = .ok (.bipush (-2), 2) := by decide +kernel
theorem dX5_undo_15 : decode cX5_undo 15 = .ok (.ireturn, 1) := by decide +kernel
theorem dX5_undo_16 : decode cX5_undo 16 = .ok (.aload_n 0, 1) := by decide +kernel
theorem dX5_undo_17 : decode cX5_undo 17 = .ok (.getfield 10, 3) := by decide +kernel
theorem dX5_undo_20 : decode cX5_undo 20 = .ok (.aload_n 1, 1) := by decide +kernel
theorem dX5_undo_21 : decode cX5_undo 21 = .ok (.getfield 151, 3) := by decide +kernel
theorem dX5_undo_24 : decode cX5_undo 24 = .ok (.invokevirtual 156, 3) := by decide +kernel
theorem dX5_undo_27 : decode cX5_undo 27 = .ok (.aload_n 0, 1) := by decide +kernel
theorem dX5_undo_28 : decode cX5_undo 28 = .ok (.getfield 19, 3) := by decide +kernel
theorem dX5_undo_31 : decode cX5_undo 31 = .ok (.invokevirtual 160, 3) := by decide +kernel
theorem dX5_undo_34 : decode cX5_undo 34 = .ok (.ireturn, 1) := by decide +kernel
set_option maxRecDepth 20000 in
theorem ggX5_revoke_X4_recall : GoodIn wsX5_revoke wsX4_recall := goodIn_r _ [14, 15, 16, 17, 18, 19, 20, 21, 141, 142, 143, 144] (by decide +kernel) (by decide +kernel)
set_option maxRecDepth 20000 in
theorem gX5_revoke_X4_recall : GoodIn wsX5_revoke (wsV RX5 147 RX4 yX4_recall wsX4_recall) := goodIn_app (goodIn_of _ (by decide +kernel)) ggX5_revoke_X4_recall
set_option maxRecDepth 20000 in
theorem ggX5_revoke_X4_wasRevoked : GoodIn wsX5_revoke wsX4_wasRevoked := goodIn_r _ [25, 26, 27, 28, 11, 12, 13, 14, 15, 16, 17, 18, 19, 20, 21, 129, 130, 131, 132, 133, 134, 141, 142, 143, 144] (by decide +kernel) (by decide +kernel)
set_option maxRecDepth 20000 in
theorem gX5_revoke_X4_wasRevoked : GoodIn wsX5_revoke (wsV RX5 166 RX4 yX4_wasRevoked wsX4_wasRevoked) := goodIn_app (goodIn_of _ (by decide +kernel)) ggX5_revoke_X4_wasRevoked
set_option maxRecDepth 20000 in
theorem ggX5_revoke_X5_revokeVirement : GoodIn wsX5_revoke wsX5_revokeVirement := goodIn_r _ [33, 4, 34, 1, 35, 36, 37, 38, 39, 40, 41, 42, 43, 44, 45, 46, 47, 48, 49, 50, 13, 51, 52, 53, 54, 55, 15, 17, 56, 57, 58, 26, 27, 59, 60, 18, 19, 20, 21, 28, 11, 12, 14, 16, 61, 62, 63, 64, 65, 66, 67, 68, 69, 70, 71, 72, 73, 74, 75, 76, 77, 78, 79, 80, 81, 82, 83, 84, 85, 86, 87, 88, 89, 90, 91, 92, 93, 94, 95, 96, 97, 98, 99, 100, 101, 102, 103, 104, 105, 127, 128, 135, 136, 137, 138, 139, 140, 145, 146, 147, 148, 149, 150, 151, 152, 153, 154, 155, 141, 142, 143, 144, 129, 130, 131, 132, 133, 134, 156, 157, 158, 159, 160] (by decide +kernel) (by decide +kernel)
set_option maxRecDepth 20000 in
theorem gX5_revoke_X5_revokeVirement : GoodIn wsX5_revoke (wsV RX5 181 RX5 yX5_revokeVirement wsX5_revokeVirement) := goodIn_app (goodIn_of _ (by decide +kernel)) ggX5_revoke_X5_revokeVirement
set_option maxRecDepth 20000 in
theorem ggX5_revoke_X5_revokeCommitment : GoodIn wsX5_revoke wsX5_revokeCommitment := goodIn_r _ [109, 4, 110, 111, 1, 112, 113, 114, 90, 115, 97, 48, 49, 50, 13, 51, 52, 53, 54, 55, 15, 17, 56, 57, 58, 26, 27, 59, 60, 18, 19, 20, 21, 28, 11, 12, 14, 16, 61, 62, 63, 64, 65, 66, 67, 68, 69, 70, 71, 72, 73, 74, 38, 75, 76, 77, 78, 79, 80, 81, 82, 83, 40, 41, 42, 84, 85, 86, 47, 87, 88, 89, 91, 92, 93, 94, 95, 96, 116, 117, 118, 119, 120, 121, 122, 123, 124, 125, 126, 43, 44, 45, 46, 127, 128, 135, 136, 137, 138, 139, 140, 156, 157, 158, 159, 160, 141, 142, 143, 144, 129, 130, 131, 132, 133, 134, 145, 146, 147, 148, 149, 150, 151, 152, 153, 154, 155] (by decide +kernel) (by decide +kernel)
set_option maxRecDepth 20000 in
theorem gX5_revoke_X5_revokeCommitment : GoodIn wsX5_revoke (wsV RX5 185 RX5 yX5_revokeCommitment wsX5_revokeCommitment) := goodIn_app (goodIn_of _ (by decide +kernel)) ggX5_revoke_X5_revokeCommitment
theorem dX5_revoke_0 : decode cX5_revoke 0 = .ok (.iload_n 1, 1) := by decide +kernel
theorem dX5_revoke_1 : decode cX5_revoke 1 = .ok (.ifCond .ge 5, 3) := by decide +kernel
theorem dX5_revoke_4 : decode cX5_revoke 4 = .ok (.iconst (-1), 1) := by decide +kernel
theorem dX5_revoke_5 : decode cX5_revoke 5 = .ok (.ireturn, 1) := by decide +kernel
theorem dX5_revoke_6 : decode cX5_revoke 6 = .ok (.aload_n 0, 1) := by decide +kernel
theorem dX5_revoke_7 : decode cX5_revoke 7 = .ok (.getfield 19, 3) := by decide +kernel
theorem dX5_revoke_10 : decode cX5_revoke 10 = .ok (.iload_n 1, 1) := by decide +kernel
theorem dX5_revoke_11 : decode cX5_revoke 11 = .ok (.invokevirtual 147, 3) := by decide +kernel
theorem dX5_revoke_14 : decode cX5_revoke 14 = .ok (.astore_n 2, 1) := by decide +kernel
theorem dX5_revoke_15 : decode cX5_revoke 15 = .ok (.aload_n 2, 1) := by decide +kernel
theorem dX5_revoke_16 : decode cX5_revoke 16 = .ok (.ifnull 34, 3) := by decide +kernel
theorem dX5_revoke_19 : decode cX5_revoke 19 = .ok (.aload_n 2, 1) := by decide +kernel
theorem dX5_revoke_20 : decode cX5_revoke 20 = .ok (.getfield 151, 3) := by decide +kernel
theorem dX5_revoke_23 : decode cX5_revoke 23 = .ok (.getfield 97, 3) := by decide +kernel
theorem dX5_revoke_26 : decode cX5_revoke 26 = .ok (.aload_n 0, 1) := by decide +kernel
theorem dX5_revoke_27 : decode cX5_revoke 27 = .ok (.getfield 10, 3) := by decide +kernel
theorem dX5_revoke_30 : decode cX5_revoke 30 = .ok (.getfield 97, 3) := by decide +kernel
theorem dX5_revoke_33 : decode cX5_revoke 33 = .ok (.if_icmp .ne 17, 3) := by decide +kernel
theorem dX5_revoke_36 : decode cX5_revoke 36 = .ok (.aload_n 0, 1) := by decide +kernel
theorem dX5_revoke_37 : decode cX5_revoke 37 = .ok (.getfield 19, 3) := by decide +kernel
theorem dX5_revoke_40 : decode cX5_revoke 40 = .ok (.aload_n 2, 1) := by decide +kernel
theorem dX5_revoke_41 : decode cX5_revoke 41 = .ok (.getfield 163, 3) := by decide +kernel
theorem dX5_revoke_44 : decode cX5_revoke 44 = .ok (.invokevirtual 166, 3) := by decide +kernel
theorem dX5_revoke_47 : decode cX5_revoke 47 = .ok (.ifCond .eq 6, 3) := by decide +kernel
theorem dX5_revoke_50 : decode cX5_revoke 50 = .ok (.bipush (-2), 2) := by decide +kernel
theorem dX5_revoke_52 : decode cX5_revoke 52 = .ok (.ireturn, 1) := by decide +kernel
theorem dX5_revoke_53 : decode cX5_revoke 53 = .ok (.aload_n 2, 1) := by decide +kernel
theorem dX5_revoke_54 : decode cX5_revoke 54 = .ok (.getfield 169, 3) := by decide +kernel
theorem dX5_revoke_57 : decode cX5_revoke 57 = .ok (.bipush 8, 2) := by decide +kernel
theorem dX5_revoke_59 : decode cX5_revoke 59 = .ok (.if_icmp .ne 24, 3) := by decide +kernel
theorem dX5_revoke_62 : decode cX5_revoke 62 = .ok (.aload_n 0, 1) := by decide +kernel
theorem dX5_revoke_63 : decode cX5_revoke 63 = .ok (.aload_n 2, 1) := by decide +kernel
theorem dX5_revoke_64 : decode cX5_revoke 64 = .ok (.getfield 163, 3) := by decide +kernel
theorem dX5_revoke_67 : decode cX5_revoke 67 = .ok (.aload_n 2, 1) := by decide +kernel
theorem dX5_revoke_68 : decode cX5_revoke 68 = .ok (.getfield 172, 3) := by decide +kernel
theorem dX5_revoke_71 : decode cX5_revoke 71 = .ok (.aload_n 2, 1) := by decide +kernel
theorem dX5_revoke_72 : decode cX5_revoke 72 = .ok (.getfield 175, 3) := by decide +kernel
theorem dX5_revoke_75 : decode cX5_revoke 75 = .ok (.aload_n 2, 1) := by decide +kernel
theorem dX5_revoke_76 : decode cX5_revoke 76 = .ok (.getfield 178, 3) := by decide +kernel
theorem dX5_revoke_79 : decode cX5_revoke 79 = .ok (.invokevirtual 181, 3) := by decide +kernel
theorem dX5_revoke_82 : decode cX5_revoke 82 = .ok (.ireturn, 1) := by decide +kernel
theorem dX5_revoke_83 : decode cX5_revoke 83 = .ok (.aload_n 2, 1) := by decide +kernel
theorem dX5_revoke_84 : decode cX5_revoke 84 = .ok (.getfield 169, 3) := by decide +kernel
theorem dX5_revoke_87 : decode cX5_revoke 87 = .ok (.iconst 5, 1) := by decide +kernel
theorem dX5_revoke_88 : decode cX5_revoke 88 = .ok (.if_icmp .ne 16, 3) := by decide +kernel
theorem dX5_revoke_91 : decode cX5_revoke 91 = .ok (.aload_n 0, 1) := by decide +kernel
theorem dX5_revoke_92 : decode cX5_revoke 92 = .ok (.aload_n 2, 1) := by decide +kernel
theorem dX5_revoke_93 : decode cX5_revoke 93 = .ok (.getfield 163, 3) := by decide +kernel
theorem dX5_revoke_96 : decode cX5_revoke 96 = .ok (.aload_n 2, 1) := by decide +kernel
theorem dX5_revoke_97 : decode cX5_revoke 97 = .ok (.getfield 172, 3) := by decide +kernel
theorem dX5_revoke_100 : decode cX5_revoke 100 = .ok (.invokevirtual 185, 3) := by decide +kernel
theorem dX5_revoke_103 : decode cX5_revoke 103 = .ok (.ireturn, 1) := by decide +kernel
theorem dX5_revoke_104 : decode cX5_revoke 104 = .ok (.bipush (-2), 2) := by decide +kernel
theorem dX5_revoke_106 : decode cX5_revoke 106 = .ok (.ireturn, 1) := by decide +kernel
set_option maxRecDepth 20000 in
theorem ggX5_revokeVirement_X3_freeOf : GoodIn wsX5_revokeVirement wsX3_freeOf := goodIn_r _ [8, 9, 10, 11, 12, 13, 14, 7, 15, 16, 97, 98, 99, 100, 101, 102, 103, 104, 105, 106, 107] (by decide +kernel) (by decide +kernel)
set_option maxRecDepth 20000 in
theorem gX5_revokeVirement_X3_freeOf : GoodIn wsX5_revokeVirement (wsV RX5 78 RX3 yX3_freeOf wsX3_freeOf) := goodIn_app (goodIn_of _ (by decide +kernel)) ggX5_revokeVirement_X3_freeOf
set_option maxRecDepth 20000 in
theorem ggX5_revokeVirement_X4_rememberRevoking : GoodIn wsX5_revokeVirement wsX4_rememberRevoking := goodIn_r _ [21, 22, 23, 24, 20, 25, 26, 27, 28, 29, 30, 31, 32, 33, 34, 35, 36, 37, 38, 39, 40, 41, 42, 43, 44, 45, 46, 47, 48, 49, 50, 51, 52, 53, 54, 55, 56, 57, 7, 58, 59, 60, 61, 62, 63, 64, 65, 66, 9, 10, 11, 67, 68, 69, 16, 70, 71, 72, 73, 74, 75, 76, 77, 78, 79, 80, 108, 109, 110, 111, 112, 113, 114, 115, 116, 117, 91, 92, 93, 94, 95, 96, 97, 98, 99, 100, 101, 102, 103, 104, 105, 106, 107, 118, 119, 120, 121, 122] (by decide +kernel) (by decide +kernel)
set_option maxRecDepth 20000 in
theorem gX5_revokeVirement_X4_rememberRevoking : GoodIn wsX5_revokeVirement (wsV RX5 188 RX4 yX4_rememberRevoking wsX4_rememberRevoking) := goodIn_app (goodIn_of _ (by decide +kernel)) ggX5_revokeVirement_X4_rememberRevoking
set_option maxRecDepth 20000 in
theorem ggX5_revokeVirement_X3_moveByVirement : GoodIn wsX5_revokeVirement wsX3_moveByVirement := goodIn_r _ [84, 9, 68, 85, 86, 87, 7, 88, 12, 13, 14, 15, 16, 97, 98, 99, 100, 101, 102, 103, 104, 105, 106, 107] (by decide +kernel) (by decide +kernel)
set_option maxRecDepth 20000 in
theorem gX5_revokeVirement_X3_moveByVirement : GoodIn wsX5_revokeVirement (wsV RX5 133 RX3 yX3_moveByVirement wsX3_moveByVirement) := goodIn_app (goodIn_of _ (by decide +kernel)) ggX5_revokeVirement_X3_moveByVirement
end
section
theorem dX5_revokeVirement_0 : decode cX5_revokeVirement 0 = .ok (.iload 4, 2) := by decide +kernel
theorem dX5_revokeVirement_2 : decode cX5_revokeVirement 2 = .ok (.aload_n 0, 1) := by decide +kernel
theorem dX5_revokeVirement_3 : decode cX5_revokeVirement 3 = .ok (.getfield 10, 3) := by decide +kernel
theorem dX5_revokeVirement_6 : decode cX5_revokeVirement 6 = .ok (.getfield 23, 3) := by decide +kernel
theorem dX5_revokeVirement_9 : decode cX5_revokeVirement 9 = .ok (.iload_n 3, 1) := by decide +kernel
theorem dX5_revokeVirement_10 : decode cX5_revokeVirement 10 = .ok (.invokevirtual 78, 3) := by decide +kernel
theorem dX5_revokeVirement_13 : decode cX5_revokeVirement 13 = .ok (.if_icmp .le 6, 3) := by decide +kernel
theorem dX5_revokeVirement_16 : decode cX5_revokeVirement 16 = .ok (.bipush (-2), 2) := by decide +kernel
theorem dX5_revokeVirement_18 : decode cX5_revokeVirement 18 = .ok (.ireturn, 1) := by decide +kernel
theorem dX5_revokeVirement_19 : decode cX5_revokeVirement 19 = .ok (.aload_n 0, 1) := by decide +kernel
theorem dX5_revokeVirement_20 : decode cX5_revokeVirement 20 = .ok (.getfield 19, 3) := by decide +kernel
theorem dX5_revokeVirement_23 : decode cX5_revokeVirement 23 = .ok (.aload_n 0, 1) := by decide +kernel
theorem dX5_revokeVirement_24 : decode cX5_revokeVirement 24 = .ok (.getfield 10, 3) := by decide +kernel
theorem dX5_revokeVirement_27 : decode cX5_revokeVirement 27 = .ok (.iload_n 1, 1) := by decide +kernel
theorem dX5_revokeVirement_28 : decode cX5_revokeVirement 28 = .ok (.invokevirtual 188, 3) := by decide +kernel
theorem dX5_revokeVirement_31 : decode cX5_revokeVirement 31 = .ok (.aload_n 0, 1) := by decide +kernel
theorem dX5_revokeVirement_32 : decode cX5_revokeVirement 32 = .ok (.getfield 10, 3) := by decide +kernel
theorem dX5_revokeVirement_35 : decode cX5_revokeVirement 35 = .ok (.getfield 23, 3) := by decide +kernel
theorem dX5_revokeVirement_38 : decode cX5_revokeVirement 38 = .ok (.iload_n 2, 1) := by decide +kernel
theorem dX5_revokeVirement_39 : decode cX5_revokeVirement 39 = .ok (.iload_n 3, 1) := by decide +kernel
theorem dX5_revokeVirement_40 : decode cX5_revokeVirement 40 = .ok (.iload 4, 2) := by decide +kernel
theorem dX5_revokeVirement_42 : decode cX5_revokeVirement 42 = .ok (.ineg, 1) := by decide +kernel
theorem dX5_revokeVirement_43 : decode cX5_revokeVirement 43 = .ok (.invokevirtual 133, 3) := by decide +kernel
theorem dX5_revokeVirement_46 : decode cX5_revokeVirement 46 = .ok (.iload 4, 2) := by decide +kernel
theorem dX5_revokeVirement_48 : decode cX5_revokeVirement 48 = .ok (.ireturn, 1) := by decide +kernel
set_option maxRecDepth 20000 in
theorem ggX5_revokeCommitment_X1_has : GoodIn wsX5_revokeCommitment wsX1_has := goodIn_r _ [9, 10, 101, 102, 103, 104, 105] (by decide +kernel) (by decide +kernel)
set_option maxRecDepth 20000 in
theorem gX5_revokeCommitment_X1_has : GoodIn wsX5_revokeCommitment (wsV RX5 103 RX1 yX1_has wsX1_has) := goodIn_app (goodIn_of _ (by decide +kernel)) ggX5_revokeCommitment_X1_has
set_option maxRecDepth 20000 in
theorem ggX5_revokeCommitment_X4_rememberRevoking : GoodIn wsX5_revokeCommitment wsX4_rememberRevoking := goodIn_r _ [15, 16, 17, 18, 14, 19, 20, 21, 22, 23, 24, 25, 26, 27, 28, 29, 30, 31, 32, 33, 34, 35, 36, 37, 38, 39, 40, 41, 42, 43, 44, 45, 46, 47, 48, 49, 50, 51, 52, 53, 54, 55, 56, 57, 58, 59, 60, 61, 62, 63, 64, 65, 66, 67, 68, 69, 70, 71, 8, 72, 73, 74, 75, 76, 77, 10, 106, 107, 108, 109, 110, 111, 112, 113, 114, 115, 95, 96, 97, 98, 99, 100, 116, 117, 118, 119, 120, 121, 122, 123, 124, 125, 126, 101, 102, 103, 104, 105] (by decide +kernel) (by decide +kernel)
set_option maxRecDepth 20000 in
theorem gX5_revokeCommitment_X4_rememberRevoking : GoodIn wsX5_revokeCommitment (wsV RX5 188 RX4 yX4_rememberRevoking wsX4_rememberRevoking) := goodIn_app (goodIn_of _ (by decide +kernel)) ggX5_revokeCommitment_X4_rememberRevoking
set_option maxRecDepth 20000 in
theorem ggX5_revokeCommitment_X0_freeOpenOf : GoodIn wsX5_revokeCommitment wsX0_freeOpenOf := goodIn_r _ [81, 44, 82, 43, 83, 84, 6, 7, 8, 9, 10, 85, 86, 87, 52, 88, 63, 89, 90, 91, 92, 68, 95, 96, 97, 98, 99, 100, 101, 102, 103, 104, 105, 116, 117, 118, 119, 120, 121, 122, 123, 124, 125, 126] (by decide +kernel) (by decide +kernel)
set_option maxRecDepth 20000 in
theorem gX5_revokeCommitment_X0_freeOpenOf : GoodIn wsX5_revokeCommitment (wsV RX5 119 RX0 yX0_freeOpenOf wsX0_freeOpenOf) := goodIn_app (goodIn_of _ (by decide +kernel)) ggX5_revokeCommitment_X0_freeOpenOf
theorem dX5_revokeCommitment_0 : decode cX5_revokeCommitment 0 = .ok (.aload_n 0, 1) := by decide +kernel
theorem dX5_revokeCommitment_1 : decode cX5_revokeCommitment 1 = .ok (.getfield 10, 3) := by decide +kernel
theorem dX5_revokeCommitment_4 : decode cX5_revokeCommitment 4 = .ok (.getfield 82, 3) := by decide +kernel
theorem dX5_revokeCommitment_7 : decode cX5_revokeCommitment 7 = .ok (.iload_n 2, 1) := by decide +kernel
theorem dX5_revokeCommitment_8 : decode cX5_revokeCommitment 8 = .ok (.invokevirtual 103, 3) := by decide +kernel
theorem dX5_revokeCommitment_11 : decode cX5_revokeCommitment 11 = .ok (.ifCond .eq 18, 3) := by decide +kernel
theorem dX5_revokeCommitment_14 : decode cX5_revokeCommitment 14 = .ok (.aload_n 0, 1) := by decide +kernel
theorem dX5_revokeCommitment_15 : decode cX5_revokeCommitment 15 = .ok (.getfield 10, 3) := by decide +kernel
theorem dX5_revokeCommitment_18 : decode cX5_revokeCommitment 18 = .ok (.getfield 82, 3) := by decide +kernel
theorem dX5_revokeCommitment_21 : decode cX5_revokeCommitment 21 = .ok (.getfield 104, 3) := by decide +kernel
theorem dX5_revokeCommitment_24 : decode cX5_revokeCommitment 24 = .ok (.iload_n 2, 1) := by decide +kernel
theorem dX5_revokeCommitment_25 : decode cX5_revokeCommitment 25 = .ok (.iaload, 1) := by decide +kernel
theorem dX5_revokeCommitment_26 : decode cX5_revokeCommitment 26 = .ok (.ifCond .ne 6, 3) := by decide +kernel
theorem dX5_revokeCommitment_29 : decode cX5_revokeCommitment 29 = .ok (.bipush (-2), 2) := by decide +kernel
theorem dX5_revokeCommitment_31 : decode cX5_revokeCommitment 31 = .ok (.ireturn, 1) := by decide +kernel
theorem dX5_revokeCommitment_32 : decode cX5_revokeCommitment 32 = .ok (.aload_n 0, 1) := by decide +kernel
theorem dX5_revokeCommitment_33 : decode cX5_revokeCommitment 33 = .ok (.getfield 19, 3) := by decide +kernel
theorem dX5_revokeCommitment_36 : decode cX5_revokeCommitment 36 = .ok (.aload_n 0, 1) := by decide +kernel
theorem dX5_revokeCommitment_37 : decode cX5_revokeCommitment 37 = .ok (.getfield 10, 3) := by decide +kernel
theorem dX5_revokeCommitment_40 : decode cX5_revokeCommitment 40 = .ok (.iload_n 1, 1) := by decide +kernel
theorem dX5_revokeCommitment_41 : decode cX5_revokeCommitment 41 = .ok (.invokevirtual 188, 3) := by decide +kernel
theorem dX5_revokeCommitment_44 : decode cX5_revokeCommitment 44 = .ok (.aload_n 0, 1) := by decide +kernel
theorem dX5_revokeCommitment_45 : decode cX5_revokeCommitment 45 = .ok (.getfield 10, 3) := by decide +kernel
theorem dX5_revokeCommitment_48 : decode cX5_revokeCommitment 48 = .ok (.iload_n 2, 1) := by decide +kernel
theorem dX5_revokeCommitment_49 : decode cX5_revokeCommitment 49 = .ok (.invokevirtual 119, 3) := by decide +kernel
theorem dX5_revokeCommitment_52 : decode cX5_revokeCommitment 52 = .ok (.ireturn, 1) := by decide +kernel
set_option maxRecDepth 20000 in
theorem ggX5_count_X1_countOpen : GoodIn wsX5_count wsX1_countOpen := goodIn_r _ [16, 17, 72, 73, 74, 75, 76] (by decide +kernel) (by decide +kernel)
set_option maxRecDepth 20000 in
theorem gX5_count_X1_countOpen : GoodIn wsX5_count (wsV RX5 191 RX1 yX1_countOpen wsX1_countOpen) := goodIn_app (goodIn_of _ (by decide +kernel)) ggX5_count_X1_countOpen
set_option maxRecDepth 20000 in
theorem ggX5_count_X3_countBarred : GoodIn wsX5_count wsX3_countBarred := goodIn_r _ [22, 23, 24, 25, 21, 26, 27, 28, 29, 30, 31, 32, 33, 61, 62, 63, 64, 65, 66, 67, 68, 69, 70, 71] (by decide +kernel) (by decide +kernel)
set_option maxRecDepth 20000 in
theorem gX5_count_X3_countBarred : GoodIn wsX5_count (wsV RX5 62 RX3 yX3_countBarred wsX3_countBarred) := goodIn_app (goodIn_of _ (by decide +kernel)) ggX5_count_X3_countBarred
set_option maxRecDepth 20000 in
theorem ggX5_count_X3_sumWithin : GoodIn wsX5_count wsX3_sumWithin := goodIn_r _ [37, 38, 39, 40, 21, 41, 28, 29, 30, 31, 32, 33, 42, 43, 44, 45, 46, 47, 48, 49, 50, 51, 52, 61, 62, 63, 64, 65, 66, 67, 68, 69, 70, 71] (by decide +kernel) (by decide +kernel)
set_option maxRecDepth 20000 in
theorem gX5_count_X3_sumWithin : GoodIn wsX5_count (wsV RX5 194 RX3 yX3_sumWithin wsX3_sumWithin) := goodIn_app (goodIn_of _ (by decide +kernel)) ggX5_count_X3_sumWithin
theorem dX5_count_0 : decode cX5_count 0 = .ok (.iload_n 1, 1) := by decide +kernel
theorem dX5_count_1 : decode cX5_count 1 = .ok (.tableswitch 152 0 9 #[55, 63, 74, 85, 96, 107, 115, 128, 136, 144], 55) := by decide +kernel
theorem dX5_count_56 : decode cX5_count 56 = .ok (.aload_n 0, 1) := by decide +kernel
theorem dX5_count_57 : decode cX5_count 57 = .ok (.getfield 10, 3) := by decide +kernel
theorem dX5_count_60 : decode cX5_count 60 = .ok (.getfield 97, 3) := by decide +kernel
theorem dX5_count_63 : decode cX5_count 63 = .ok (.ireturn, 1) := by decide +kernel
theorem dX5_count_64 : decode cX5_count 64 = .ok (.aload_n 0, 1) := by decide +kernel
theorem dX5_count_65 : decode cX5_count 65 = .ok (.getfield 10, 3) := by decide +kernel
theorem dX5_count_68 : decode cX5_count 68 = .ok (.getfield 23, 3) := by decide +kernel
theorem dX5_count_71 : decode cX5_count 71 = .ok (.getfield 41, 3) := by decide +kernel
theorem dX5_count_74 : decode cX5_count 74 = .ok (.ireturn, 1) := by decide +kernel
theorem dX5_count_75 : decode cX5_count 75 = .ok (.aload_n 0, 1) := by decide +kernel
theorem dX5_count_76 : decode cX5_count 76 = .ok (.getfield 10, 3) := by decide +kernel
theorem dX5_count_79 : decode cX5_count 79 = .ok (.getfield 82, 3) := by decide +kernel
theorem dX5_count_82 : decode cX5_count 82 = .ok (.getfield 86, 3) := by decide +kernel
theorem dX5_count_85 : decode cX5_count 85 = .ok (.ireturn, 1) := by decide +kernel
theorem dX5_count_86 : decode cX5_count 86 = .ok (.aload_n 0, 1) := by decide +kernel
theorem dX5_count_87 : decode cX5_count 87 = .ok (.getfield 10, 3) := by decide +kernel
theorem dX5_count_90 : decode cX5_count 90 = .ok (.getfield 82, 3) := by decide +kernel
theorem dX5_count_93 : decode cX5_count 93 = .ok (.invokevirtual 191, 3) := by decide +kernel
theorem dX5_count_96 : decode cX5_count 96 = .ok (.ireturn, 1) := by decide +kernel
theorem dX5_count_97 : decode cX5_count 97 = .ok (.aload_n 0, 1) := by decide +kernel
theorem dX5_count_98 : decode cX5_count 98 = .ok (.getfield 10, 3) := by decide +kernel
theorem dX5_count_101 : decode cX5_count 101 = .ok (.getfield 23, 3) := by decide +kernel
theorem dX5_count_104 : decode cX5_count 104 = .ok (.invokevirtual 62, 3) := by decide +kernel
theorem dX5_count_107 : decode cX5_count 107 = .ok (.ireturn, 1) := by decide +kernel
theorem dX5_count_108 : decode cX5_count 108 = .ok (.aload_n 0, 1) := by decide +kernel
theorem dX5_count_109 : decode cX5_count 109 = .ok (.getfield 10, 3) := by decide +kernel
theorem dX5_count_112 : decode cX5_count 112 = .ok (.getfield 72, 3) := by decide +kernel
theorem dX5_count_115 : decode cX5_count 115 = .ok (.ireturn, 1) := by decide +kernel
theorem dX5_count_116 : decode cX5_count 116 = .ok (.aload_n 0, 1) := by decide +kernel
theorem dX5_count_117 : decode cX5_count 117 = .ok (.getfield 10, 3) := by decide +kernel
theorem dX5_count_120 : decode cX5_count 120 = .ok (.getfield 23, 3) := by decide +kernel
theorem dX5_count_123 : decode cX5_count 123 = .ok (.iconst 0, 1) := by decide +kernel
theorem dX5_count_124 : decode cX5_count 124 = .ok (.iconst 0, 1) := by decide +kernel
theorem dX5_count_125 : decode cX5_count 125 = .ok (.invokevirtual 194, 3) := by decide +kernel
theorem dX5_count_128 : decode cX5_count 128 = .ok (.ireturn, 1) := by decide +kernel
theorem dX5_count_129 : decode cX5_count 129 = .ok (.aload_n 0, 1) := by decide +kernel
theorem dX5_count_130 : decode cX5_count 130 = .ok (.getfield 10, 3) := by decide +kernel
theorem dX5_count_133 : decode cX5_count 133 = .ok (.getfield 144, 3) := by decide +kernel
theorem dX5_count_136 : decode cX5_count 136 = .ok (.ireturn, 1) := by decide +kernel
theorem dX5_count_137 : decode cX5_count 137 = .ok (.aload_n 0, 1) := by decide +kernel
theorem dX5_count_138 : decode cX5_count 138 = .ok (.getfield 10, 3) := by decide +kernel
theorem dX5_count_141 : decode cX5_count 141 = .ok (.getfield 116, 3) := by decide +kernel
theorem dX5_count_144 : decode cX5_count 144 = .ok (.ireturn, 1) := by decide +kernel
theorem dX5_count_145 : decode cX5_count 145 = .ok (.aload_n 0, 1) := by decide +kernel
theorem dX5_count_146 : decode cX5_count 146 = .ok (.getfield 19, 3) := by decide +kernel
theorem dX5_count_149 : decode cX5_count 149 = .ok (.getfield 197, 3) := by decide +kernel
theorem dX5_count_152 : decode cX5_count 152 = .ok (.ireturn, 1) := by decide +kernel
theorem dX5_count_153 : decode cX5_count 153 = .ok (.iconst (-1), 1) := by decide +kernel
theorem dX5_count_154 : decode cX5_count 154 = .ok (.ireturn, 1) := by decide +kernel
set_option maxRecDepth 20000 in
theorem ggX5_head_X3_has : GoodIn wsX5_head wsX3_has := goodIn_r _ [17, 18, 41, 42, 43, 44, 45, 46, 47, 48, 49, 50, 51] (by decide +kernel) (by decide +kernel)
set_option maxRecDepth 20000 in
theorem gX5_head_X3_has : GoodIn wsX5_head (wsV RX5 33 RX3 yX3_has wsX3_has) := goodIn_app (goodIn_of _ (by decide +kernel)) ggX5_head_X3_has
set_option maxRecDepth 20000 in
theorem ggX5_head_X3_isBarred : GoodIn wsX5_head wsX3_isBarred := goodIn_r _ [22, 23, 24, 25, 14, 15, 16, 17, 18, 41, 42, 43, 44, 45, 46, 47, 48, 49, 50, 51] (by decide +kernel) (by decide +kernel)
set_option maxRecDepth 20000 in
theorem gX5_head_X3_isBarred : GoodIn wsX5_head (wsV RX5 75 RX3 yX3_isBarred wsX3_isBarred) := goodIn_app (goodIn_of _ (by decide +kernel)) ggX5_head_X3_isBarred
set_option maxRecDepth 20000 in
theorem ggX5_head_X3_freeOf : GoodIn wsX5_head wsX3_freeOf := goodIn_r _ [29, 30, 31, 32, 25, 14, 15, 16, 17, 18, 41, 42, 43, 44, 45, 46, 47, 48, 49, 50, 51] (by decide +kernel) (by decide +kernel)
set_option maxRecDepth 20000 in
theorem gX5_head_X3_freeOf : GoodIn wsX5_head (wsV RX5 78 RX3 yX3_freeOf wsX3_freeOf) := goodIn_app (goodIn_of _ (by decide +kernel)) ggX5_head_X3_freeOf
theorem dX5_head_0 : decode cX5_head 0 = .ok (.aload_n 0, 1) := by decide +kernel
theorem dX5_head_1 : decode cX5_head 1 = .ok (.getfield 10, 3) := by decide +kernel
theorem dX5_head_4 : decode cX5_head 4 = .ok (.getfield 23, 3) := by decide +kernel
theorem dX5_head_7 : decode cX5_head 7 = .ok (.astore_n 3, 1) := by decide +kernel
theorem dX5_head_8 : decode cX5_head 8 = .ok (.aload_n 3, 1) := by decide +kernel
theorem dX5_head_9 : decode cX5_head 9 = .ok (.iload_n 1, 1) := by decide +kernel
theorem dX5_head_10 : decode cX5_head 10 = .ok (.invokevirtual 33, 3) := by decide +kernel
theorem dX5_head_13 : decode cX5_head 13 = .ok (.ifCond .ne 5, 3) := by decide +kernel
theorem dX5_head_16 : decode cX5_head 16 = .ok (.iconst (-1), 1) := by decide +kernel
theorem dX5_head_17 : decode cX5_head 17 = .ok (.ireturn, 1) := by decide +kernel
theorem dX5_head_18 : decode cX5_head 18 = .ok (.iload_n 2, 1) := by decide +kernel
theorem dX5_head_19 : decode cX5_head 19 = .ok (.tableswitch 151 0 11 #[61, 68, 75, 82, 89, 103, 110, 117, 124, 130, 137, 144], 61) := by decide +kernel
theorem dX5_head_80 : decode cX5_head 80 = .ok (.aload_n 3, 1) := by decide +kernel
theorem dX5_head_81 : decode cX5_head 81 = .ok (.getfield 200, 3) := by decide +kernel
theorem dX5_head_84 : decode cX5_head 84 = .ok (.iload_n 1, 1) := by decide +kernel
theorem dX5_head_85 : decode cX5_head 85 = .ok (.iaload, 1) := by decide +kernel
theorem dX5_head_86 : decode cX5_head 86 = .ok (.ireturn, 1) := by decide +kernel
theorem dX5_head_87 : decode cX5_head 87 = .ok (.aload_n 3, 1) := by decide +kernel
theorem dX5_head_88 : decode cX5_head 88 = .ok (.getfield 37, 3) := by decide +kernel
theorem dX5_head_91 : decode cX5_head 91 = .ok (.iload_n 1, 1) := by decide +kernel
theorem dX5_head_92 : decode cX5_head 92 = .ok (.iaload, 1) := by decide +kernel
theorem dX5_head_93 : decode cX5_head 93 = .ok (.ireturn, 1) := by decide +kernel
theorem dX5_head_94 : decode cX5_head 94 = .ok (.aload_n 3, 1) := by decide +kernel
theorem dX5_head_95 : decode cX5_head 95 = .ok (.getfield 203, 3) := by decide +kernel
theorem dX5_head_98 : decode cX5_head 98 = .ok (.iload_n 1, 1) := by decide +kernel
theorem dX5_head_99 : decode cX5_head 99 = .ok (.iaload, 1) := by decide +kernel
theorem dX5_head_100 : decode cX5_head 100 = .ok (.ireturn, 1) := by decide +kernel
theorem dX5_head_101 : decode cX5_head 101 = .ok (.aload_n 3, 1) := by decide +kernel
theorem dX5_head_102 : decode cX5_head 102 = .ok (.getfield 59, 3) := by decide +kernel
theorem dX5_head_105 : decode cX5_head 105 = .ok (.iload_n 1, 1) := by decide +kernel
theorem dX5_head_106 : decode cX5_head 106 = .ok (.iaload, 1) := by decide +kernel
theorem dX5_head_107 : decode cX5_head 107 = .ok (.ireturn, 1) := by decide +kernel
theorem dX5_head_108 : decode cX5_head 108 = .ok (.aload_n 3, 1) := by decide +kernel
theorem dX5_head_109 : decode cX5_head 109 = .ok (.iload_n 1, 1) := by decide +kernel
theorem dX5_head_110 : decode cX5_head 110 = .ok (.invokevirtual 75, 3) := by decide +kernel
theorem dX5_head_113 : decode cX5_head 113 = .ok (.ifCond .eq 7, 3) := by decide +kernel
theorem dX5_head_116 : decode cX5_head 116 = .ok (.iconst 1, 1) := by decide +kernel
theorem dX5_head_117 : decode cX5_head 117 = .ok (.goto 4, 3) := by decide +kernel
theorem dX5_head_120 : decode cX5_head 120 = .ok (.iconst 0, 1) := by decide +kernel
theorem dX5_head_121 : decode cX5_head 121 = .ok (.ireturn, 1) := by decide +kernel
theorem dX5_head_122 : decode cX5_head 122 = .ok (.aload_n 3, 1) := by decide +kernel
theorem dX5_head_123 : decode cX5_head 123 = .ok (.getfield 52, 3) := by decide +kernel
theorem dX5_head_126 : decode cX5_head 126 = .ok (.iload_n 1, 1) := by decide +kernel
theorem dX5_head_127 : decode cX5_head 127 = .ok (.iaload, 1) := by decide +kernel
theorem dX5_head_128 : decode cX5_head 128 = .ok (.ireturn, 1) := by decide +kernel
theorem dX5_head_129 : decode cX5_head 129 = .ok (.aload_n 3, 1) := by decide +kernel
theorem dX5_head_130 : decode cX5_head 130 = .ok (.getfield 206, 3) := by decide +kernel
theorem dX5_head_133 : decode cX5_head 133 = .ok (.iload_n 1, 1) := by decide +kernel
theorem dX5_head_134 : decode cX5_head 134 = .ok (.iaload, 1) := by decide +kernel
theorem dX5_head_135 : decode cX5_head 135 = .ok (.ireturn, 1) := by decide +kernel
theorem dX5_head_136 : decode cX5_head 136 = .ok (.aload_n 3, 1) := by decide +kernel
theorem dX5_head_137 : decode cX5_head 137 = .ok (.getfield 209, 3) := by decide +kernel
theorem dX5_head_140 : decode cX5_head 140 = .ok (.iload_n 1, 1) := by decide +kernel
theorem dX5_head_141 : decode cX5_head 141 = .ok (.iaload, 1) := by decide +kernel
theorem dX5_head_142 : decode cX5_head 142 = .ok (.ireturn, 1) := by decide +kernel
theorem dX5_head_143 : decode cX5_head 143 = .ok (.aload_n 3, 1) := by decide +kernel
theorem dX5_head_144 : decode cX5_head 144 = .ok (.iload_n 1, 1) := by decide +kernel
theorem dX5_head_145 : decode cX5_head 145 = .ok (.invokevirtual 78, 3) := by decide +kernel
theorem dX5_head_148 : decode cX5_head 148 = .ok (.ireturn, 1) := by decide +kernel
theorem dX5_head_149 : decode cX5_head 149 = .ok (.aload_n 3, 1) := by decide +kernel
theorem dX5_head_150 : decode cX5_head 150 = .ok (.getfield 56, 3) := by decide +kernel
theorem dX5_head_153 : decode cX5_head 153 = .ok (.iload_n 1, 1) := by decide +kernel
theorem dX5_head_154 : decode cX5_head 154 = .ok (.iaload, 1) := by decide +kernel
theorem dX5_head_155 : decode cX5_head 155 = .ok (.ireturn, 1) := by decide +kernel
theorem dX5_head_156 : decode cX5_head 156 = .ok (.aload_n 3, 1) := by decide +kernel
theorem dX5_head_157 : decode cX5_head 157 = .ok (.getfield 211, 3) := by decide +kernel
theorem dX5_head_160 : decode cX5_head 160 = .ok (.iload_n 1, 1) := by decide +kernel
theorem dX5_head_161 : decode cX5_head 161 = .ok (.iaload, 1) := by decide +kernel
theorem dX5_head_162 : decode cX5_head 162 = .ok (.ireturn, 1) := by decide +kernel
theorem dX5_head_163 : decode cX5_head 163 = .ok (.aload_n 3, 1) := by decide +kernel
theorem dX5_head_164 : decode cX5_head 164 = .ok (.getfield 69, 3) := by decide +kernel
theorem dX5_head_167 : decode cX5_head 167 = .ok (.iload_n 1, 1) := by decide +kernel
theorem dX5_head_168 : decode cX5_head 168 = .ok (.iaload, 1) := by decide +kernel
theorem dX5_head_169 : decode cX5_head 169 = .ok (.ireturn, 1) := by decide +kernel
theorem dX5_head_170 : decode cX5_head 170 = .ok (.iconst (-1), 1) := by decide +kernel
theorem dX5_head_171 : decode cX5_head 171 = .ok (.ireturn, 1) := by decide +kernel
set_option maxRecDepth 20000 in
theorem ggX5_total_X3_has : GoodIn wsX5_total wsX3_has := goodIn_r _ [7, 8, 38, 39, 40, 41, 42, 43, 44, 45, 46, 47, 48] (by decide +kernel) (by decide +kernel)
set_option maxRecDepth 20000 in
theorem gX5_total_X3_has : GoodIn wsX5_total (wsV RX5 33 RX3 yX3_has wsX3_has) := goodIn_app (goodIn_of _ (by decide +kernel)) ggX5_total_X3_has
set_option maxRecDepth 20000 in
theorem ggX5_total_X3_sumWithin : GoodIn wsX5_total wsX3_sumWithin := goodIn_r _ [12, 13, 14, 15, 6, 16, 17, 18, 4, 5, 7, 8, 19, 20, 21, 22, 23, 24, 25, 26, 27, 28, 29, 38, 39, 40, 41, 42, 43, 44, 45, 46, 47, 48] (by decide +kernel) (by decide +kernel)
set_option maxRecDepth 20000 in
theorem gX5_total_X3_sumWithin : GoodIn wsX5_total (wsV RX5 194 RX3 yX3_sumWithin wsX3_sumWithin) := goodIn_app (goodIn_of _ (by decide +kernel)) ggX5_total_X3_sumWithin
theorem dX5_total_0 : decode cX5_total 0 = .ok (.aload_n 0, 1) := by decide +kernel
theorem dX5_total_1 : decode cX5_total 1 = .ok (.getfield 10, 3) := by decide +kernel
theorem dX5_total_4 : decode cX5_total 4 = .ok (.getfield 23, 3) := by decide +kernel
theorem dX5_total_7 : decode cX5_total 7 = .ok (.iload_n 1, 1) := by decide +kernel
theorem dX5_total_8 : decode cX5_total 8 = .ok (.invokevirtual 33, 3) := by decide +kernel
theorem dX5_total_11 : decode cX5_total 11 = .ok (.ifCond .eq 12, 3) := by decide +kernel
theorem dX5_total_14 : decode cX5_total 14 = .ok (.iload_n 2, 1) := by decide +kernel
theorem dX5_total_15 : decode cX5_total 15 = .ok (.ifCond .lt 8, 3) := by decide +kernel
theorem dX5_total_18 : decode cX5_total 18 = .ok (.iload_n 2, 1) := by decide +kernel
theorem dX5_total_19 : decode cX5_total 19 = .ok (.iconst 4, 1) := by decide +kernel
theorem dX5_total_20 : decode cX5_total 20 = .ok (.if_icmp .le 5, 3) := by decide +kernel
theorem dX5_total_23 : decode cX5_total 23 = .ok (.iconst (-1), 1) := by decide +kernel
theorem dX5_total_24 : decode cX5_total 24 = .ok (.ireturn, 1) := by decide +kernel
theorem dX5_total_25 : decode cX5_total 25 = .ok (.aload_n 0, 1) := by decide +kernel
theorem dX5_total_26 : decode cX5_total 26 = .ok (.getfield 10, 3) := by decide +kernel
theorem dX5_total_29 : decode cX5_total 29 = .ok (.getfield 23, 3) := by decide +kernel
theorem dX5_total_32 : decode cX5_total 32 = .ok (.iload_n 1, 1) := by decide +kernel
theorem dX5_total_33 : decode cX5_total 33 = .ok (.iload_n 2, 1) := by decide +kernel
theorem dX5_total_34 : decode cX5_total 34 = .ok (.invokevirtual 194, 3) := by decide +kernel
theorem dX5_total_37 : decode cX5_total 37 = .ok (.ireturn, 1) := by decide +kernel
set_option maxRecDepth 20000 in
theorem ggX5_commitment_X1_has : GoodIn wsX5_commitment wsX1_has := goodIn_r _ [11, 12, 21, 22, 23, 24, 25] (by decide +kernel) (by decide +kernel)
set_option maxRecDepth 20000 in
theorem gX5_commitment_X1_has : GoodIn wsX5_commitment (wsV RX5 103 RX1 yX1_has wsX1_has) := goodIn_app (goodIn_of _ (by decide +kernel)) ggX5_commitment_X1_has
theorem dX5_commitment_0 : decode cX5_commitment 0 = .ok (.aload_n 0, 1) := by decide +kernel
theorem dX5_commitment_1 : decode cX5_commitment 1 = .ok (.getfield 10, 3) := by decide +kernel
theorem dX5_commitment_4 : decode cX5_commitment 4 = .ok (.getfield 82, 3) := by decide +kernel
theorem dX5_commitment_7 : decode cX5_commitment 7 = .ok (.astore_n 3, 1) := by decide +kernel
theorem dX5_commitment_8 : decode cX5_commitment 8 = .ok (.aload_n 3, 1) := by decide +kernel
theorem dX5_commitment_9 : decode cX5_commitment 9 = .ok (.iload_n 1, 1) := by decide +kernel
theorem dX5_commitment_10 : decode cX5_commitment 10 = .ok (.invokevirtual 103, 3) := by decide +kernel
theorem dX5_commitment_13 : decode cX5_commitment 13 = .ok (.ifCond .ne 5, 3) := by decide +kernel
theorem dX5_commitment_16 : decode cX5_commitment 16 = .ok (.iconst (-1), 1) := by decide +kernel
theorem dX5_commitment_17 : decode cX5_commitment 17 = .ok (.ireturn, 1) := by decide +kernel
theorem dX5_commitment_18 : decode cX5_commitment 18 = .ok (.iload_n 2, 1) := by decide +kernel
theorem dX5_commitment_19 : decode cX5_commitment 19 = .ok (.tableswitch 57 0 3 #[29, 36, 43, 50], 29) := by decide +kernel
theorem dX5_commitment_48 : decode cX5_commitment 48 = .ok (.aload_n 3, 1) := by decide +kernel
theorem dX5_commitment_49 : decode cX5_commitment 49 = .ok (.getfield 110, 3) := by decide +kernel
theorem dX5_commitment_52 : decode cX5_commitment 52 = .ok (.iload_n 1, 1) := by decide +kernel
theorem dX5_commitment_53 : decode cX5_commitment 53 = .ok (.iaload, 1) := by decide +kernel
theorem dX5_commitment_54 : decode cX5_commitment 54 = .ok (.ireturn, 1) := by decide +kernel
theorem dX5_commitment_55 : decode cX5_commitment 55 = .ok (.aload_n 3, 1) := by decide +kernel
theorem dX5_commitment_56 : decode cX5_commitment 56 = .ok (.getfield 104, 3) := by decide +kernel
theorem dX5_commitment_59 : decode cX5_commitment 59 = .ok (.iload_n 1, 1) := by decide +kernel
theorem dX5_commitment_60 : decode cX5_commitment 60 = .ok (.iaload, 1) := by decide +kernel
theorem dX5_commitment_61 : decode cX5_commitment 61 = .ok (.ireturn, 1) := by decide +kernel
theorem dX5_commitment_62 : decode cX5_commitment 62 = .ok (.aload_n 3, 1) := by decide +kernel
theorem dX5_commitment_63 : decode cX5_commitment 63 = .ok (.getfield 107, 3) := by decide +kernel
theorem dX5_commitment_66 : decode cX5_commitment 66 = .ok (.iload_n 1, 1) := by decide +kernel
theorem dX5_commitment_67 : decode cX5_commitment 67 = .ok (.iaload, 1) := by decide +kernel
theorem dX5_commitment_68 : decode cX5_commitment 68 = .ok (.ireturn, 1) := by decide +kernel
theorem dX5_commitment_69 : decode cX5_commitment 69 = .ok (.aload_n 3, 1) := by decide +kernel
theorem dX5_commitment_70 : decode cX5_commitment 70 = .ok (.getfield 214, 3) := by decide +kernel
theorem dX5_commitment_73 : decode cX5_commitment 73 = .ok (.iload_n 1, 1) := by decide +kernel
theorem dX5_commitment_74 : decode cX5_commitment 74 = .ok (.iaload, 1) := by decide +kernel
theorem dX5_commitment_75 : decode cX5_commitment 75 = .ok (.ireturn, 1) := by decide +kernel
theorem dX5_commitment_76 : decode cX5_commitment 76 = .ok (.iconst (-1), 1) := by decide +kernel
theorem dX5_commitment_77 : decode cX5_commitment 77 = .ok (.ireturn, 1) := by decide +kernel
set_option maxRecDepth 20000 in
theorem ggX5_deed_X4_recall : GoodIn wsX5_deed wsX4_recall := goodIn_r _ [7, 8, 9, 10, 11, 12, 13, 14, 23, 24, 25, 26] (by decide +kernel) (by decide +kernel)
set_option maxRecDepth 20000 in
theorem gX5_deed_X4_recall : GoodIn wsX5_deed (wsV RX5 147 RX4 yX4_recall wsX4_recall) := goodIn_app (goodIn_of _ (by decide +kernel)) ggX5_deed_X4_recall
theorem dX5_deed_0 : decode cX5_deed 0 = .ok (.iload_n 1, 1) := by decide +kernel
theorem dX5_deed_1 : decode cX5_deed 1 = .ok (.ifCond .ge 5, 3) := by decide +kernel
theorem dX5_deed_4 : decode cX5_deed 4 = .ok (.iconst (-1), 1) := by decide +kernel
theorem dX5_deed_5 : decode cX5_deed 5 = .ok (.ireturn, 1) := by decide +kernel
theorem dX5_deed_6 : decode cX5_deed 6 = .ok (.aload_n 0, 1) := by decide +kernel
theorem dX5_deed_7 : decode cX5_deed 7 = .ok (.getfield 19, 3) := by decide +kernel
theorem dX5_deed_10 : decode cX5_deed 10 = .ok (.iload_n 1, 1) := by decide +kernel
theorem dX5_deed_11 : decode cX5_deed 11 = .ok (.invokevirtual 147, 3) := by decide +kernel
theorem dX5_deed_14 : decode cX5_deed 14 = .ok (.astore_n 2, 1) := by decide +kernel
theorem dX5_deed_15 : decode cX5_deed 15 = .ok (.aload_n 2, 1) := by decide +kernel
theorem dX5_deed_16 : decode cX5_deed 16 = .ok (.ifnonnull 8, 3) := by decide +kernel
theorem dX5_deed_19 : decode cX5_deed 19 = .ok (.bipush (-9), 2) := by decide +kernel
theorem dX5_deed_21 : decode cX5_deed 21 = .ok (.goto 7, 3) := by decide +kernel
theorem dX5_deed_24 : decode cX5_deed 24 = .ok (.aload_n 2, 1) := by decide +kernel
theorem dX5_deed_25 : decode cX5_deed 25 = .ok (.getfield 169, 3) := by decide +kernel
theorem dX5_deed_28 : decode cX5_deed 28 = .ok (.ireturn, 1) := by decide +kernel
set_option maxRecDepth 20000 in
theorem ggX5_mostFrom_X3_hasBoth : GoodIn wsX5_mostFrom wsX3_hasBoth := goodIn_r _ [7, 8, 9, 10, 6, 11, 12, 63, 64, 65, 66, 67, 68, 69, 70, 71, 72, 73] (by decide +kernel) (by decide +kernel)
set_option maxRecDepth 20000 in
theorem gX5_mostFrom_X3_hasBoth : GoodIn wsX5_mostFrom (wsV RX5 122 RX3 yX3_hasBoth wsX3_hasBoth) := goodIn_app (goodIn_of _ (by decide +kernel)) ggX5_mostFrom_X3_hasBoth
set_option maxRecDepth 20000 in
theorem ggX5_mostFrom_X3_movable : GoodIn wsX5_mostFrom wsX3_movable := goodIn_r _ [16, 17, 18, 19, 20, 21, 22, 23, 24, 25, 26, 27, 28, 4, 5, 6, 7, 8, 9, 10, 11, 12, 29, 30, 31, 32, 33, 34, 35, 36, 37, 38, 39, 40, 41, 42, 43, 44, 45, 46, 47, 48, 49, 50, 51, 52, 53, 54, 63, 64, 65, 66, 67, 68, 69, 70, 71, 72, 73] (by decide +kernel) (by decide +kernel)
set_option maxRecDepth 20000 in
theorem gX5_mostFrom_X3_movable : GoodIn wsX5_mostFrom (wsV RX5 126 RX3 yX3_movable wsX3_movable) := goodIn_app (goodIn_of _ (by decide +kernel)) ggX5_mostFrom_X3_movable
theorem dX5_mostFrom_0 : decode cX5_mostFrom 0 = .ok (.aload_n 0, 1) := by decide +kernel
theorem dX5_mostFrom_1 : decode cX5_mostFrom 1 = .ok (.getfield 10, 3) := by decide +kernel
theorem dX5_mostFrom_4 : decode cX5_mostFrom 4 = .ok (.getfield 23, 3) := by decide +kernel
theorem dX5_mostFrom_7 : decode cX5_mostFrom 7 = .ok (.iload_n 1, 1) := by decide +kernel
theorem dX5_mostFrom_8 : decode cX5_mostFrom 8 = .ok (.iload_n 2, 1) := by decide +kernel
theorem dX5_mostFrom_9 : decode cX5_mostFrom 9 = .ok (.invokevirtual 122, 3) := by decide +kernel
theorem dX5_mostFrom_12 : decode cX5_mostFrom 12 = .ok (.ifCond .ne 5, 3) := by decide +kernel
theorem dX5_mostFrom_15 : decode cX5_mostFrom 15 = .ok (.iconst (-1), 1) := by decide +kernel
theorem dX5_mostFrom_16 : decode cX5_mostFrom 16 = .ok (.ireturn, 1) := by decide +kernel
theorem dX5_mostFrom_17 : decode cX5_mostFrom 17 = .ok (.aload_n 0, 1) := by decide +kernel
theorem dX5_mostFrom_18 : decode cX5_mostFrom 18 = .ok (.getfield 10, 3) := by decide +kernel
theorem dX5_mostFrom_21 : decode cX5_mostFrom 21 = .ok (.getfield 23, 3) := by decide +kernel
theorem dX5_mostFrom_24 : decode cX5_mostFrom 24 = .ok (.iload_n 1, 1) := by decide +kernel
theorem dX5_mostFrom_25 : decode cX5_mostFrom 25 = .ok (.iload_n 2, 1) := by decide +kernel
theorem dX5_mostFrom_26 : decode cX5_mostFrom 26 = .ok (.invokevirtual 126, 3) := by decide +kernel
theorem dX5_mostFrom_29 : decode cX5_mostFrom 29 = .ok (.ireturn, 1) := by decide +kernel
set_option maxRecDepth 20000 in
theorem ggX5_bestGiver_X3_has : GoodIn wsX5_bestGiver wsX3_has := goodIn_r _ [7, 8, 67, 68, 69, 70, 71, 72, 73, 74, 75, 76, 77] (by decide +kernel) (by decide +kernel)
set_option maxRecDepth 20000 in
theorem gX5_bestGiver_X3_has : GoodIn wsX5_bestGiver (wsV RX5 33 RX3 yX3_has wsX3_has) := goodIn_app (goodIn_of _ (by decide +kernel)) ggX5_bestGiver_X3_has
set_option maxRecDepth 20000 in
theorem ggX5_bestGiver_X3_giverOfMost : GoodIn wsX5_bestGiver wsX3_giverOfMost := goodIn_r _ [12, 13, 14, 15, 16, 6, 17, 18, 19, 20, 21, 22, 23, 24, 25, 26, 27, 28, 29, 30, 31, 32, 33, 4, 5, 7, 8, 34, 35, 36, 37, 38, 39, 40, 41, 42, 43, 44, 45, 46, 47, 48, 49, 50, 51, 52, 53, 54, 55, 56, 57, 58, 67, 68, 69, 70, 71, 72, 73, 74, 75, 76, 77] (by decide +kernel) (by decide +kernel)
set_option maxRecDepth 20000 in
theorem gX5_bestGiver_X3_giverOfMost : GoodIn wsX5_bestGiver (wsV RX5 216 RX3 yX3_giverOfMost wsX3_giverOfMost) := goodIn_app (goodIn_of _ (by decide +kernel)) ggX5_bestGiver_X3_giverOfMost
theorem dX5_bestGiver_0 : decode cX5_bestGiver 0 = .ok (.aload_n 0, 1) := by decide +kernel
theorem dX5_bestGiver_1 : decode cX5_bestGiver 1 = .ok (.getfield 10, 3) := by decide +kernel
theorem dX5_bestGiver_4 : decode cX5_bestGiver 4 = .ok (.getfield 23, 3) := by decide +kernel
theorem dX5_bestGiver_7 : decode cX5_bestGiver 7 = .ok (.iload_n 1, 1) := by decide +kernel
theorem dX5_bestGiver_8 : decode cX5_bestGiver 8 = .ok (.invokevirtual 33, 3) := by decide +kernel
theorem dX5_bestGiver_11 : decode cX5_bestGiver 11 = .ok (.ifCond .ne 5, 3) := by decide +kernel
theorem dX5_bestGiver_14 : decode cX5_bestGiver 14 = .ok (.iconst (-1), 1) := by decide +kernel
theorem dX5_bestGiver_15 : decode cX5_bestGiver 15 = .ok (.ireturn, 1) := by decide +kernel
theorem dX5_bestGiver_16 : decode cX5_bestGiver 16 = .ok (.aload_n 0, 1) := by decide +kernel
theorem dX5_bestGiver_17 : decode cX5_bestGiver 17 = .ok (.getfield 10, 3) := by decide +kernel
theorem dX5_bestGiver_20 : decode cX5_bestGiver 20 = .ok (.getfield 23, 3) := by decide +kernel
theorem dX5_bestGiver_23 : decode cX5_bestGiver 23 = .ok (.iload_n 1, 1) := by decide +kernel
theorem dX5_bestGiver_24 : decode cX5_bestGiver 24 = .ok (.invokevirtual 216, 3) := by decide +kernel
theorem dX5_bestGiver_27 : decode cX5_bestGiver 27 = .ok (.ireturn, 1) := by decide +kernel
set_option maxRecDepth 20000 in
theorem ggX5_wouldLapse_X3_has : GoodIn wsX5_wouldLapse wsX3_has := goodIn_r _ [8, 9, 39, 40, 41, 42, 43, 44, 45, 46, 47, 48, 49] (by decide +kernel) (by decide +kernel)
set_option maxRecDepth 20000 in
theorem gX5_wouldLapse_X3_has : GoodIn wsX5_wouldLapse (wsV RX5 33 RX3 yX3_has wsX3_has) := goodIn_app (goodIn_of _ (by decide +kernel)) ggX5_wouldLapse_X3_has
set_option maxRecDepth 20000 in
theorem ggX5_wouldLapse_X3_lapseWithin : GoodIn wsX5_wouldLapse wsX3_lapseWithin := goodIn_r _ [13, 14, 15, 16, 7, 17, 18, 19, 5, 6, 8, 9, 20, 21, 22, 23, 24, 25, 26, 27, 28, 29, 30, 39, 40, 41, 42, 43, 44, 45, 46, 47, 48, 49] (by decide +kernel) (by decide +kernel)
set_option maxRecDepth 20000 in
theorem gX5_wouldLapse_X3_lapseWithin : GoodIn wsX5_wouldLapse (wsV RX5 137 RX3 yX3_lapseWithin wsX3_lapseWithin) := goodIn_app (goodIn_of _ (by decide +kernel)) ggX5_wouldLapse_X3_lapseWithin
theorem dX5_wouldLapse_0 : decode cX5_wouldLapse 0 = .ok (.aload_n 0, 1) := by decide +kernel
theorem dX5_wouldLapse_1 : decode cX5_wouldLapse 1 = .ok (.getfield 10, 3) := by decide +kernel
theorem dX5_wouldLapse_4 : decode cX5_wouldLapse 4 = .ok (.getfield 23, 3) := by decide +kernel
theorem dX5_wouldLapse_7 : decode cX5_wouldLapse 7 = .ok (.iload_n 1, 1) := by decide +kernel
theorem dX5_wouldLapse_8 : decode cX5_wouldLapse 8 = .ok (.invokevirtual 33, 3) := by decide +kernel
theorem dX5_wouldLapse_11 : decode cX5_wouldLapse 11 = .ok (.ifCond .ne 5, 3) := by decide +kernel
theorem dX5_wouldLapse_14 : decode cX5_wouldLapse 14 = .ok (.iconst (-1), 1) := by decide +kernel
theorem dX5_wouldLapse_15 : decode cX5_wouldLapse 15 = .ok (.ireturn, 1) := by decide +kernel
theorem dX5_wouldLapse_16 : decode cX5_wouldLapse 16 = .ok (.aload_n 0, 1) := by decide +kernel
theorem dX5_wouldLapse_17 : decode cX5_wouldLapse 17 = .ok (.getfield 10, 3) := by decide +kernel
theorem dX5_wouldLapse_20 : decode cX5_wouldLapse 20 = .ok (.getfield 23, 3) := by decide +kernel
theorem dX5_wouldLapse_23 : decode cX5_wouldLapse 23 = .ok (.iload_n 1, 1) := by decide +kernel
theorem dX5_wouldLapse_24 : decode cX5_wouldLapse 24 = .ok (.aload_n 0, 1) := by decide +kernel
theorem dX5_wouldLapse_25 : decode cX5_wouldLapse 25 = .ok (.getfield 10, 3) := by decide +kernel
theorem dX5_wouldLapse_28 : decode cX5_wouldLapse 28 = .ok (.getfield 72, 3) := by decide +kernel
theorem dX5_wouldLapse_31 : decode cX5_wouldLapse 31 = .ok (.invokevirtual 137, 3) := by decide +kernel
theorem dX5_wouldLapse_34 : decode cX5_wouldLapse 34 = .ok (.ireturn, 1) := by decide +kernel
theorem dX5_isAmount_0 : decode cX5_isAmount 0 = .ok (.iload_n 0, 1) := by decide +kernel
theorem dX5_isAmount_1 : decode cX5_isAmount 1 = .ok (.iconst 1, 1) := by decide +kernel
theorem dX5_isAmount_2 : decode cX5_isAmount 2 = .ok (.if_icmp .lt 13, 3) := by decide +kernel
theorem dX5_isAmount_5 : decode cX5_isAmount 5 = .ok (.iload_n 0, 1) := by decide +kernel
theorem dX5_isAmount_6 : decode cX5_isAmount 6 = .ok (.ldc 222, 2) := by decide +kernel
theorem dX5_isAmount_8 : decode cX5_isAmount 8 = .ok (.if_icmp .gt 7, 3) := by decide +kernel
theorem dX5_isAmount_11 : decode cX5_isAmount 11 = .ok (.iconst 1, 1) := by decide +kernel
theorem dX5_isAmount_12 : decode cX5_isAmount 12 = .ok (.goto 4, 3) := by decide +kernel
theorem dX5_isAmount_15 : decode cX5_isAmount 15 = .ok (.iconst 0, 1) := by decide +kernel
theorem dX5_isAmount_16 : decode cX5_isAmount 16 = .ok (.ireturn, 1) := by decide +kernel
theorem dX5_isPercentage_0 : decode cX5_isPercentage 0 = .ok (.iload_n 0, 1) := by decide +kernel
theorem dX5_isPercentage_1 : decode cX5_isPercentage 1 = .ok (.ifCond .lt 13, 3) := by decide +kernel
theorem dX5_isPercentage_4 : decode cX5_isPercentage 4 = .ok (.iload_n 0, 1) := by decide +kernel
theorem dX5_isPercentage_5 : decode cX5_isPercentage 5 = .ok (.bipush 100, 2) := by decide +kernel
theorem dX5_isPercentage_7 : decode cX5_isPercentage 7 = .ok (.if_icmp .gt 7, 3) := by decide +kernel
theorem dX5_isPercentage_10 : decode cX5_isPercentage 10 = .ok (.iconst 1, 1) := by decide +kernel
theorem dX5_isPercentage_11 : decode cX5_isPercentage 11 = .ok (.goto 4, 3) := by decide +kernel
theorem dX5_isPercentage_14 : decode cX5_isPercentage 14 = .ok (.iconst 0, 1) := by decide +kernel
theorem dX5_isPercentage_15 : decode cX5_isPercentage 15 = .ok (.ireturn, 1) := by decide +kernel
theorem dX5_partOf_0 : decode cX5_partOf 0 = .ok (.iload_n 0, 1) := by decide +kernel
theorem dX5_partOf_1 : decode cX5_partOf 1 = .ok (.i2l, 1) := by decide +kernel
theorem dX5_partOf_2 : decode cX5_partOf 2 = .ok (.iload_n 1, 1) := by decide +kernel
theorem dX5_partOf_3 : decode cX5_partOf 3 = .ok (.i2l, 1) := by decide +kernel
theorem dX5_partOf_4 : decode cX5_partOf 4 = .ok (.lmul, 1) := by decide +kernel
theorem dX5_partOf_5 : decode cX5_partOf 5 = .ok (.ldc2_w 223, 3) := by decide +kernel
theorem dX5_partOf_8 : decode cX5_partOf 8 = .ok (.ldiv, 1) := by decide +kernel
theorem dX5_partOf_9 : decode cX5_partOf 9 = .ok (.l2i, 1) := by decide +kernel
theorem dX5_partOf_10 : decode cX5_partOf 10 = .ok (.ireturn, 1) := by decide +kernel
theorem dJ9_floorMod_7cf53_0 : decode cJ9_floorMod_7cf53 0 = .ok (.iload_n 0, 1) := by decide +kernel
theorem dJ9_floorMod_7cf53_1 : decode cJ9_floorMod_7cf53 1 = .ok (.iload_n 1, 1) := by decide +kernel
theorem dJ9_floorMod_7cf53_2 : decode cJ9_floorMod_7cf53 2 = .ok (.irem, 1) := by decide +kernel
theorem dJ9_floorMod_7cf53_3 : decode cJ9_floorMod_7cf53 3 = .ok (.istore_n 2, 1) := by decide +kernel
theorem dJ9_floorMod_7cf53_4 : decode cJ9_floorMod_7cf53 4 = .ok (.iload_n 0, 1) := by decide +kernel
theorem dJ9_floorMod_7cf53_5 : decode cJ9_floorMod_7cf53 5 = .ok (.iload_n 1, 1) := by decide +kernel
theorem dJ9_floorMod_7cf53_6 : decode cJ9_floorMod_7cf53 6 = .ok (.ixor, 1) := by decide +kernel
theorem dJ9_floorMod_7cf53_7 : decode cJ9_floorMod_7cf53 7 = .ok (.ifCond .ge 11, 3) := by decide +kernel
theorem dJ9_floorMod_7cf53_10 : decode cJ9_floorMod_7cf53 10 = .ok (.iload_n 2, 1) := by decide +kernel
theorem dJ9_floorMod_7cf53_11 : decode cJ9_floorMod_7cf53 11 = .ok (.ifCond .eq 7, 3) := by decide +kernel
theorem dJ9_floorMod_7cf53_14 : decode cJ9_floorMod_7cf53 14 = .ok (.iload_n 2, 1) := by decide +kernel
theorem dJ9_floorMod_7cf53_15 : decode cJ9_floorMod_7cf53 15 = .ok (.iload_n 1, 1) := by decide +kernel
theorem dJ9_floorMod_7cf53_16 : decode cJ9_floorMod_7cf53 16 = .ok (.iadd, 1) := by decide +kernel
theorem dJ9_floorMod_7cf53_17 : decode cJ9_floorMod_7cf53 17 = .ok (.ireturn, 1) := by decide +kernel
theorem dJ9_floorMod_7cf53_18 : decode cJ9_floorMod_7cf53 18 = .ok (.iload_n 2, 1) := by decide +kernel
theorem dJ9_floorMod_7cf53_19 : decode cJ9_floorMod_7cf53 19 = .ok (.ireturn, 1) := by decide +kernel
theorem dJ9_max_7cf53_0 : decode cJ9_max_7cf53 0 = .ok (.iload_n 0, 1) := by decide +kernel
theorem dJ9_max_7cf53_1 : decode cJ9_max_7cf53 1 = .ok (.iload_n 1, 1) := by decide +kernel
theorem dJ9_max_7cf53_2 : decode cJ9_max_7cf53 2 = .ok (.if_icmp .lt 7, 3) := by decide +kernel
theorem dJ9_max_7cf53_5 : decode cJ9_max_7cf53 5 = .ok (.iload_n 0, 1) := by decide +kernel
theorem dJ9_max_7cf53_6 : decode cJ9_max_7cf53 6 = .ok (.goto 4, 3) := by decide +kernel
theorem dJ9_max_7cf53_9 : decode cJ9_max_7cf53 9 = .ok (.iload_n 1, 1) := by decide +kernel
theorem dJ9_max_7cf53_10 : decode cJ9_max_7cf53 10 = .ok (.ireturn, 1) := by decide +kernel
theorem dJ9_min_7cf53_0 : decode cJ9_min_7cf53 0 = .ok (.iload_n 0, 1) := by decide +kernel
theorem dJ9_min_7cf53_1 : decode cJ9_min_7cf53 1 = .ok (.iload_n 1, 1) := by decide +kernel
theorem dJ9_min_7cf53_2 : decode cJ9_min_7cf53 2 = .ok (.if_icmp .gt 7, 3) := by decide +kernel
theorem dJ9_min_7cf53_5 : decode cJ9_min_7cf53 5 = .ok (.iload_n 0, 1) := by decide +kernel
theorem dJ9_min_7cf53_6 : decode cJ9_min_7cf53 6 = .ok (.goto 4, 3) := by decide +kernel
theorem dJ9_min_7cf53_9 : decode cJ9_min_7cf53 9 = .ok (.iload_n 1, 1) := by decide +kernel
theorem dJ9_min_7cf53_10 : decode cJ9_min_7cf53 10 = .ok (.ireturn, 1) := by decide +kernel
abbrev vwCl : List vw_C := [(RX0, TX0, 6), (RX1, TX1, 5), (RX2, TX2, 6), (RX3, TX3, 11), (RX4, TX4, 4), (RX5, TX5, 2)]
end
section
/-! THE WORLDS. A state of the class: X g f i (g 0..12 the books, now and before each of the 12 places; f 0..8 the heads' columns as the reference numbers them, 9 depths, 10..13 the commitments' columns, 14 the numbers: 0 year, 1 heads, 2 commitments, 3 carried, 4 lapsed, 5 spent; group 13: the deeds (f: 0 number 1 kind 2 subject 3 taker 4 amount, i the place); group 14: X 14 0: 0 oldest 1 held 2 latestNumber). A state of the reference: the same groups 0..12 (its row's parts), 13: its seven arrays, 14: deeds, deedNumber. -/
abbrev St : Type := Nat → Nat → Nat → Int32
abbrev Bk : Type := Nat → Nat → Int32
def b2 (r : Bk) (f i : Nat) (v : Int32) : Bk := fun b c => if b = f ∧ c = i then v else r b c
def u3 (X : St) (g f i : Nat) (v : Int32) : St := fun a => if a = g then b2 (X a) f i v else X a
/-- the book g becomes r -/
def sg (X : St) (g : Nat) (r : Bk) : St := fun a => if a = g then r else X a
def qv (r : Bk) (f : Nat) (h : Int32) : Int32 := r f h.toNatClampNeg
theorem u3_g (X : St) (g f i : Nat) (v : Int32) : u3 X g f i v g = b2 (X g) f i v := by simp [u3]
theorem u3_n (X : St) (g f i : Nat) (v : Int32) {a : Nat} (h : a ≠ g) : u3 X g f i v a = X a := by simp [u3, h]
theorem u3_sg (X : St) (g f i : Nat) (v : Int32) : u3 X g f i v = sg X g (b2 (X g) f i v) := by funext a; unfold u3 sg; by_cases h : a = g <;> simp [h]
theorem sg_g (X : St) (g : Nat) (r : Bk) : sg X g r g = r := by simp [sg]
theorem sg_n (X : St) (g : Nat) (r : Bk) {a : Nat} (h : a ≠ g) : sg X g r a = X a := by simp [sg, h]
theorem sg_sg (X : St) (g : Nat) (r r2 : Bk) : sg (sg X g r) g r2 = sg X g r2 := by funext a; unfold sg; by_cases h : a = g <;> simp [h]
theorem sg_self (X : St) (g : Nat) : sg X g (X g) = X := by funext a; unfold sg; by_cases h : a = g <;> simp [h]
theorem b2_s (r : Bk) (f i : Nat) (v : Int32) : b2 r f i v f i = v := by simp [b2]
theorem b2_nf (r : Bk) (f i : Nat) (v : Int32) {b c : Nat} (h : b ≠ f) : b2 r f i v b c = r b c := by simp [b2, h]
theorem b2_ni (r : Bk) (f i : Nat) (v : Int32) {b c : Nat} (h : c ≠ i) : b2 r f i v b c = r b c := by simp [b2, h]
theorem b2_col (r : Bk) (f i : Nat) (v : Int32) : b2 r f i v f = upd (r f) i v := by funext c; simp [b2, upd]
theorem b2_coln (r : Bk) (f i : Nat) (v : Int32) {b : Nat} (h : b ≠ f) : b2 r f i v b = r b := by funext c; simp [b2, h]

def bkE (cI : ClassId) (ad : Nat → Nat) (g : Nat) (r : Bk) (j : Nat) : va_E := match j with
  | 0 => .inr (0, [.ref (ad (17 * g + 1)), .ref (ad (17 * g + 12)), .int (r 14 0), .int (r 14 3), .int (r 14 4), .int (r 14 5)])
  | 1 => .inr (3, [.ref (ad (17 * g + 2)), .ref (ad (17 * g + 3)), .ref (ad (17 * g + 4)), .ref (ad (17 * g + 5)), .ref (ad (17 * g + 6)), .ref (ad (17 * g + 7)), .ref (ad (17 * g + 8)), .ref (ad (17 * g + 9)), .ref (ad (17 * g + 10)), .ref (ad (17 * g + 11)), .int (r 14 1)])
  | 2 => .inl (cI, 20, .inl (r 0))
  | 3 => .inl (cI, 20, .inl (r 9))
  | 4 => .inl (cI, 20, .inl (r 1))
  | 5 => .inl (cI, 20, .inl (r 2))
  | 6 => .inl (cI, 20, .inl (r 3))
  | 7 => .inl (cI, 20, .inl (r 4))
  | 8 => .inl (cI, 20, .inl (r 5))
  | 9 => .inl (cI, 20, .inl (r 6))
  | 10 => .inl (cI, 20, .inl (r 7))
  | 11 => .inl (cI, 20, .inl (r 8))
  | 12 => .inr (1, [.ref (ad (17 * g + 13)), .ref (ad (17 * g + 14)), .ref (ad (17 * g + 15)), .ref (ad (17 * g + 16)), .int (r 14 2)])
  | 13 => .inl (cI, 40, .inl (r 10))
  | 14 => .inl (cI, 40, .inl (r 11))
  | 15 => .inl (cI, 40, .inl (r 12))
  | _ => .inl (cI, 40, .inl (r 13))
def deE (ad : Nat → Nat) (d : Bk) (i : Nat) : va_E := .inr (2, [.ref (ad (17 * (i + 1))), .int (d 0 i), .int (d 1 i), .int (d 2 i), .int (d 3 i), .int (d 4 i)])
def cellC (cI cR : ClassId) (ad : Nat → Nat) (X : St) (g j : Nat) : va_E := if g < 13 then bkE cI ad g (X g) j else if j = 12 then .inr (5, [.ref (ad 0), .ref (ad 234)]) else if j = 13 then .inr (4, [.ref (ad 235), .int (X 14 0 0), .int (X 14 0 1), .int (X 14 0 2)]) else if j = 14 then .inl (cR, 12, .inr (.inr (.inr (.inr (fun i => some (ad (221 + i))))))) else deE ad (X 13) j
def wC (cI cR : ClassId) (ad : Nat → Nat) (X : St) : va_W := (List.range 236).map (fun k => (ad k, cellC cI cR ad X (k / 17) (k % 17)))
section
variable {cI cR : ClassId} {ad : Nat → Nat} {X : St}
theorem wC_get {g j k : Nat} (hk : k = 17 * g + j) (hj : j < 17) (h : k < 236) : (wC cI cR ad X)[k]? = some (ad k, cellC cI cR ad X g j) := by
  subst hk
  unfold wC
  rw [List.getElem?_map, List.getElem?_range h]
  show some (ad (17 * g + j), cellC cI cR ad X ((17 * g + j) / 17) ((17 * g + j) % 17)) = _
  rw [show (17 * g + j) / 17 = g by omega, show (17 * g + j) % 17 = j by omega]
theorem wC_bk {g j k : Nat} (hg : g < 13) (hk : k = 17 * g + j) (hj : j < 17) : (wC cI cR ad X)[k]? = some (ad k, bkE cI ad g (X g) j) := by
  rw [wC_get hk hj (by omega)]
  unfold cellC
  rw [if_pos hg]
theorem wC_de {i k : Nat} (hi : i < 12) (hk : k = 221 + i) : (wC cI cR ad X)[k]? = some (ad k, deE ad (X 13) i) := by
  rw [wC_get (g := 13) (j := i) (by omega) (by omega) (by omega)]
  unfold cellC
  rw [if_neg (by omega), if_neg (by omega), if_neg (by omega), if_neg (by omega)]
theorem wC_len : (wC cI cR ad X).length = 236 := by simp [wC]
theorem wC_set {g j k : Nat} {X' : St} {e : va_E} (hk : k = 17 * g + j) (hj : j < 17) (h : k < 236) (he : cellC cI cR ad X' g j = e) (ho : ∀ a b : Nat, b < 17 → 17 * a + b < 236 → ¬ (a = g ∧ b = j) → cellC cI cR ad X' a b = cellC cI cR ad X a b) : (wC cI cR ad X).set k (ad k, e) = wC cI cR ad X' := by
  apply List.ext_getElem?
  intro n
  rw [List.getElem?_set]
  by_cases e1 : k = n
  · rw [if_pos e1, ← e1, if_pos (by rw [wC_len]; exact h), wC_get (X := X') hk hj h, he]
  · rw [if_neg e1]
    unfold wC
    rw [List.getElem?_map, List.getElem?_map]
    by_cases e2 : n < 236
    · rw [List.getElem?_range e2]
      show some (ad n, _) = some (ad n, _)
      rw [ho (n / 17) (n % 17) (by omega) (by omega) (fun z => e1 (by omega))]
    · rw [List.getElem?_eq_none (by simp; omega)]
      rfl
/-- which column of a book a cell shows -/
def jc (j : Nat) : Nat := match j with
  | 0 => 14 | 1 => 14 | 2 => 0 | 3 => 9 | 4 => 1 | 5 => 2 | 6 => 3 | 7 => 4 | 8 => 5 | 9 => 6 | 10 => 7 | 11 => 8 | 12 => 14 | 13 => 10 | 14 => 11 | 15 => 12 | _ => 13
theorem bkE_same {g : Nat} {r r' : Bk} {j : Nat} (hj : j < 17) (h : r' (jc j) = r (jc j)) : bkE cI ad g r' j = bkE cI ad g r j := by
  rcases (show j = 0 ∨ j = 1 ∨ j = 2 ∨ j = 3 ∨ j = 4 ∨ j = 5 ∨ j = 6 ∨ j = 7 ∨ j = 8 ∨ j = 9 ∨ j = 10 ∨ j = 11 ∨ j = 12 ∨ j = 13 ∨ j = 14 ∨ j = 15 ∨ j = 16 by omega) with rfl | rfl | rfl | rfl | rfl | rfl | rfl | rfl | rfl | rfl | rfl | rfl | rfl | rfl | rfl | rfl | rfl <;> (simp only [jc] at h; simp only [bkE, h])
/-- a write into a books' column -/
theorem wC_col {g j k f i : Nat} {v : Int32} {n : Nat} (hg : g < 13) (hk : k = 17 * g + j) (hj : j < 17) (he : ∀ r : Bk, bkE cI ad g r j = .inl (cI, n, .inl (r f))) (ho : ∀ r r' : Bk, (∀ b, b ≠ f → r' b = r b) → ∀ b : Nat, b < 17 → b ≠ j → bkE cI ad g r' b = bkE cI ad g r b) : (wC cI cR ad X).set k (ad k, .inl (cI, n, .inl (upd (X g f) i v))) = wC cI cR ad (u3 X g f i v) := by
  refine wC_set hk hj (by omega) ?_ ?_
  · unfold cellC
    rw [if_pos hg, he, u3_g, b2_col]
  · intro a b hb hab hne
    unfold cellC
    by_cases ha : a = g
    · subst ha
      rw [if_pos hg, if_pos hg, u3_g]
      exact ho _ _ (fun c hc => b2_coln _ _ _ _ hc) b hb (fun z => hne ⟨rfl, z⟩)
    · by_cases ha2 : a < 13
      · rw [if_pos ha2, if_pos ha2, u3_n _ _ _ _ _ ha]
      · rw [if_neg ha2, if_neg ha2, u3_n X g f i v (a := 14) (by omega), u3_n X g f i v (a := 13) (by omega)]
/-- a write of a books' number -/
theorem wC_num {g j k i : Nat} {v : Int32} {e : va_E} (hg : g < 13) (hk : k = 17 * g + j) (hj : j < 17) (he : bkE cI ad g (b2 (X g) 14 i v) j = e) (ho : ∀ b : Nat, b < 17 → b ≠ j → bkE cI ad g (b2 (X g) 14 i v) b = bkE cI ad g (X g) b) : (wC cI cR ad X).set k (ad k, e) = wC cI cR ad (u3 X g 14 i v) := by
  refine wC_set hk hj (by omega) ?_ ?_
  · unfold cellC
    rw [if_pos hg, u3_g, he]
  · intro a b hb hab hne
    unfold cellC
    by_cases ha : a = g
    · subst ha
      rw [if_pos hg, if_pos hg, u3_g]
      exact ho b hb (fun z => hne ⟨rfl, z⟩)
    · by_cases ha2 : a < 13
      · rw [if_pos ha2, if_pos ha2, u3_n _ _ _ _ _ ha]
      · rw [if_neg ha2, if_neg ha2, u3_n X g 14 i v (a := 14) (by omega), u3_n X g 14 i v (a := 13) (by omega)]

theorem g0_0 : (wC cI cR ad X)[0]? = some (ad 0, .inr (0, [.ref (ad 1), .ref (ad 12), .int (X 0 14 0), .int (X 0 14 3), .int (X 0 14 4), .int (X 0 14 5)])) := wC_bk (g := 0) (j := 0) (by omega) rfl (by omega)
theorem gg_0 {g : Nat} (hg : g < 13) : (wC cI cR ad X)[17 * g + 0]? = some (ad (17 * g + 0), .inr (0, [.ref (ad (17 * g + 1)), .ref (ad (17 * g + 12)), .int (X g 14 0), .int (X g 14 3), .int (X g 14 4), .int (X g 14 5)])) := wC_bk hg rfl (by omega)
theorem g0_1 : (wC cI cR ad X)[1]? = some (ad 1, .inr (3, [.ref (ad 2), .ref (ad 3), .ref (ad 4), .ref (ad 5), .ref (ad 6), .ref (ad 7), .ref (ad 8), .ref (ad 9), .ref (ad 10), .ref (ad 11), .int (X 0 14 1)])) := wC_bk (g := 0) (j := 1) (by omega) rfl (by omega)
theorem gg_1 {g : Nat} (hg : g < 13) : (wC cI cR ad X)[17 * g + 1]? = some (ad (17 * g + 1), .inr (3, [.ref (ad (17 * g + 2)), .ref (ad (17 * g + 3)), .ref (ad (17 * g + 4)), .ref (ad (17 * g + 5)), .ref (ad (17 * g + 6)), .ref (ad (17 * g + 7)), .ref (ad (17 * g + 8)), .ref (ad (17 * g + 9)), .ref (ad (17 * g + 10)), .ref (ad (17 * g + 11)), .int (X g 14 1)])) := wC_bk hg rfl (by omega)
theorem g0_2 : (wC cI cR ad X)[2]? = some (ad 2, .inl (cI, 20, .inl (X 0 0))) := wC_bk (g := 0) (j := 2) (by omega) rfl (by omega)
theorem gg_2 {g : Nat} (hg : g < 13) : (wC cI cR ad X)[17 * g + 2]? = some (ad (17 * g + 2), .inl (cI, 20, .inl (X g 0))) := wC_bk hg rfl (by omega)
theorem g0_3 : (wC cI cR ad X)[3]? = some (ad 3, .inl (cI, 20, .inl (X 0 9))) := wC_bk (g := 0) (j := 3) (by omega) rfl (by omega)
theorem gg_3 {g : Nat} (hg : g < 13) : (wC cI cR ad X)[17 * g + 3]? = some (ad (17 * g + 3), .inl (cI, 20, .inl (X g 9))) := wC_bk hg rfl (by omega)
theorem g0_4 : (wC cI cR ad X)[4]? = some (ad 4, .inl (cI, 20, .inl (X 0 1))) := wC_bk (g := 0) (j := 4) (by omega) rfl (by omega)
theorem gg_4 {g : Nat} (hg : g < 13) : (wC cI cR ad X)[17 * g + 4]? = some (ad (17 * g + 4), .inl (cI, 20, .inl (X g 1))) := wC_bk hg rfl (by omega)
theorem g0_5 : (wC cI cR ad X)[5]? = some (ad 5, .inl (cI, 20, .inl (X 0 2))) := wC_bk (g := 0) (j := 5) (by omega) rfl (by omega)
theorem gg_5 {g : Nat} (hg : g < 13) : (wC cI cR ad X)[17 * g + 5]? = some (ad (17 * g + 5), .inl (cI, 20, .inl (X g 2))) := wC_bk hg rfl (by omega)
theorem g0_6 : (wC cI cR ad X)[6]? = some (ad 6, .inl (cI, 20, .inl (X 0 3))) := wC_bk (g := 0) (j := 6) (by omega) rfl (by omega)
theorem gg_6 {g : Nat} (hg : g < 13) : (wC cI cR ad X)[17 * g + 6]? = some (ad (17 * g + 6), .inl (cI, 20, .inl (X g 3))) := wC_bk hg rfl (by omega)
theorem g0_7 : (wC cI cR ad X)[7]? = some (ad 7, .inl (cI, 20, .inl (X 0 4))) := wC_bk (g := 0) (j := 7) (by omega) rfl (by omega)
theorem gg_7 {g : Nat} (hg : g < 13) : (wC cI cR ad X)[17 * g + 7]? = some (ad (17 * g + 7), .inl (cI, 20, .inl (X g 4))) := wC_bk hg rfl (by omega)
theorem g0_8 : (wC cI cR ad X)[8]? = some (ad 8, .inl (cI, 20, .inl (X 0 5))) := wC_bk (g := 0) (j := 8) (by omega) rfl (by omega)
theorem gg_8 {g : Nat} (hg : g < 13) : (wC cI cR ad X)[17 * g + 8]? = some (ad (17 * g + 8), .inl (cI, 20, .inl (X g 5))) := wC_bk hg rfl (by omega)
theorem g0_9 : (wC cI cR ad X)[9]? = some (ad 9, .inl (cI, 20, .inl (X 0 6))) := wC_bk (g := 0) (j := 9) (by omega) rfl (by omega)
theorem gg_9 {g : Nat} (hg : g < 13) : (wC cI cR ad X)[17 * g + 9]? = some (ad (17 * g + 9), .inl (cI, 20, .inl (X g 6))) := wC_bk hg rfl (by omega)
theorem g0_10 : (wC cI cR ad X)[10]? = some (ad 10, .inl (cI, 20, .inl (X 0 7))) := wC_bk (g := 0) (j := 10) (by omega) rfl (by omega)
theorem gg_10 {g : Nat} (hg : g < 13) : (wC cI cR ad X)[17 * g + 10]? = some (ad (17 * g + 10), .inl (cI, 20, .inl (X g 7))) := wC_bk hg rfl (by omega)
theorem g0_11 : (wC cI cR ad X)[11]? = some (ad 11, .inl (cI, 20, .inl (X 0 8))) := wC_bk (g := 0) (j := 11) (by omega) rfl (by omega)
theorem gg_11 {g : Nat} (hg : g < 13) : (wC cI cR ad X)[17 * g + 11]? = some (ad (17 * g + 11), .inl (cI, 20, .inl (X g 8))) := wC_bk hg rfl (by omega)
theorem g0_12 : (wC cI cR ad X)[12]? = some (ad 12, .inr (1, [.ref (ad 13), .ref (ad 14), .ref (ad 15), .ref (ad 16), .int (X 0 14 2)])) := wC_bk (g := 0) (j := 12) (by omega) rfl (by omega)
theorem gg_12 {g : Nat} (hg : g < 13) : (wC cI cR ad X)[17 * g + 12]? = some (ad (17 * g + 12), .inr (1, [.ref (ad (17 * g + 13)), .ref (ad (17 * g + 14)), .ref (ad (17 * g + 15)), .ref (ad (17 * g + 16)), .int (X g 14 2)])) := wC_bk hg rfl (by omega)
theorem g0_13 : (wC cI cR ad X)[13]? = some (ad 13, .inl (cI, 40, .inl (X 0 10))) := wC_bk (g := 0) (j := 13) (by omega) rfl (by omega)
theorem gg_13 {g : Nat} (hg : g < 13) : (wC cI cR ad X)[17 * g + 13]? = some (ad (17 * g + 13), .inl (cI, 40, .inl (X g 10))) := wC_bk hg rfl (by omega)
theorem g0_14 : (wC cI cR ad X)[14]? = some (ad 14, .inl (cI, 40, .inl (X 0 11))) := wC_bk (g := 0) (j := 14) (by omega) rfl (by omega)
theorem gg_14 {g : Nat} (hg : g < 13) : (wC cI cR ad X)[17 * g + 14]? = some (ad (17 * g + 14), .inl (cI, 40, .inl (X g 11))) := wC_bk hg rfl (by omega)
theorem g0_15 : (wC cI cR ad X)[15]? = some (ad 15, .inl (cI, 40, .inl (X 0 12))) := wC_bk (g := 0) (j := 15) (by omega) rfl (by omega)
theorem gg_15 {g : Nat} (hg : g < 13) : (wC cI cR ad X)[17 * g + 15]? = some (ad (17 * g + 15), .inl (cI, 40, .inl (X g 12))) := wC_bk hg rfl (by omega)
theorem g0_16 : (wC cI cR ad X)[16]? = some (ad 16, .inl (cI, 40, .inl (X 0 13))) := wC_bk (g := 0) (j := 16) (by omega) rfl (by omega)
theorem gg_16 {g : Nat} (hg : g < 13) : (wC cI cR ad X)[17 * g + 16]? = some (ad (17 * g + 16), .inl (cI, 40, .inl (X g 13))) := wC_bk hg rfl (by omega)
theorem g0_233 : (wC cI cR ad X)[233]? = some (ad 233, .inr (5, [.ref (ad 0), .ref (ad 234)])) := wC_get (g := 13) (j := 12) rfl (by omega) (by omega)
theorem g0_234 : (wC cI cR ad X)[234]? = some (ad 234, .inr (4, [.ref (ad 235), .int (X 14 0 0), .int (X 14 0 1), .int (X 14 0 2)])) := wC_get (g := 13) (j := 13) rfl (by omega) (by omega)
theorem g0_235 : (wC cI cR ad X)[235]? = some (ad 235, .inl (cR, 12, .inr (.inr (.inr (.inr (fun i => some (ad (221 + i)))))))) := wC_get (g := 13) (j := 14) rfl (by omega) (by omega)
theorem gd {i : Nat} (hi : i < 12) : (wC cI cR ad X)[221 + i]? = some (ad (221 + i), .inr (2, [.ref (ad (17 * (i + 1))), .int (X 13 0 i), .int (X 13 1 i), .int (X 13 2 i), .int (X 13 3 i), .int (X 13 4 i)])) := wC_de hi rfl
theorem sa_0 {g i : Nat} {v : Int32} (hg : g < 13) : (wC cI cR ad X).set (17 * g + 2) (ad (17 * g + 2), .inl (cI, 20, .inl (upd (X g 0) i v))) = wC cI cR ad (u3 X g 0 i v) := wC_col (j := 2) hg rfl (by omega) (fun _ => rfl) (fun r r2 h b hb hne => bkE_same hb (h _ (by
  rcases (show b = 0 ∨ b = 1 ∨ b = 2 ∨ b = 3 ∨ b = 4 ∨ b = 5 ∨ b = 6 ∨ b = 7 ∨ b = 8 ∨ b = 9 ∨ b = 10 ∨ b = 11 ∨ b = 12 ∨ b = 13 ∨ b = 14 ∨ b = 15 ∨ b = 16 by omega) with rfl | rfl | rfl | rfl | rfl | rfl | rfl | rfl | rfl | rfl | rfl | rfl | rfl | rfl | rfl | rfl | rfl <;> first | exact absurd rfl hne | decide)))
theorem s0_0 {i : Nat} {v : Int32} : (wC cI cR ad X).set 2 (ad 2, .inl (cI, 20, .inl (upd (X 0 0) i v))) = wC cI cR ad (u3 X 0 0 i v) := sa_0 (g := 0) (by omega)
theorem sa_1 {g i : Nat} {v : Int32} (hg : g < 13) : (wC cI cR ad X).set (17 * g + 4) (ad (17 * g + 4), .inl (cI, 20, .inl (upd (X g 1) i v))) = wC cI cR ad (u3 X g 1 i v) := wC_col (j := 4) hg rfl (by omega) (fun _ => rfl) (fun r r2 h b hb hne => bkE_same hb (h _ (by
  rcases (show b = 0 ∨ b = 1 ∨ b = 2 ∨ b = 3 ∨ b = 4 ∨ b = 5 ∨ b = 6 ∨ b = 7 ∨ b = 8 ∨ b = 9 ∨ b = 10 ∨ b = 11 ∨ b = 12 ∨ b = 13 ∨ b = 14 ∨ b = 15 ∨ b = 16 by omega) with rfl | rfl | rfl | rfl | rfl | rfl | rfl | rfl | rfl | rfl | rfl | rfl | rfl | rfl | rfl | rfl | rfl <;> first | exact absurd rfl hne | decide)))
theorem s0_1 {i : Nat} {v : Int32} : (wC cI cR ad X).set 4 (ad 4, .inl (cI, 20, .inl (upd (X 0 1) i v))) = wC cI cR ad (u3 X 0 1 i v) := sa_1 (g := 0) (by omega)
theorem sa_2 {g i : Nat} {v : Int32} (hg : g < 13) : (wC cI cR ad X).set (17 * g + 5) (ad (17 * g + 5), .inl (cI, 20, .inl (upd (X g 2) i v))) = wC cI cR ad (u3 X g 2 i v) := wC_col (j := 5) hg rfl (by omega) (fun _ => rfl) (fun r r2 h b hb hne => bkE_same hb (h _ (by
  rcases (show b = 0 ∨ b = 1 ∨ b = 2 ∨ b = 3 ∨ b = 4 ∨ b = 5 ∨ b = 6 ∨ b = 7 ∨ b = 8 ∨ b = 9 ∨ b = 10 ∨ b = 11 ∨ b = 12 ∨ b = 13 ∨ b = 14 ∨ b = 15 ∨ b = 16 by omega) with rfl | rfl | rfl | rfl | rfl | rfl | rfl | rfl | rfl | rfl | rfl | rfl | rfl | rfl | rfl | rfl | rfl <;> first | exact absurd rfl hne | decide)))
theorem s0_2 {i : Nat} {v : Int32} : (wC cI cR ad X).set 5 (ad 5, .inl (cI, 20, .inl (upd (X 0 2) i v))) = wC cI cR ad (u3 X 0 2 i v) := sa_2 (g := 0) (by omega)
theorem sa_3 {g i : Nat} {v : Int32} (hg : g < 13) : (wC cI cR ad X).set (17 * g + 6) (ad (17 * g + 6), .inl (cI, 20, .inl (upd (X g 3) i v))) = wC cI cR ad (u3 X g 3 i v) := wC_col (j := 6) hg rfl (by omega) (fun _ => rfl) (fun r r2 h b hb hne => bkE_same hb (h _ (by
  rcases (show b = 0 ∨ b = 1 ∨ b = 2 ∨ b = 3 ∨ b = 4 ∨ b = 5 ∨ b = 6 ∨ b = 7 ∨ b = 8 ∨ b = 9 ∨ b = 10 ∨ b = 11 ∨ b = 12 ∨ b = 13 ∨ b = 14 ∨ b = 15 ∨ b = 16 by omega) with rfl | rfl | rfl | rfl | rfl | rfl | rfl | rfl | rfl | rfl | rfl | rfl | rfl | rfl | rfl | rfl | rfl <;> first | exact absurd rfl hne | decide)))
theorem s0_3 {i : Nat} {v : Int32} : (wC cI cR ad X).set 6 (ad 6, .inl (cI, 20, .inl (upd (X 0 3) i v))) = wC cI cR ad (u3 X 0 3 i v) := sa_3 (g := 0) (by omega)
theorem sa_4 {g i : Nat} {v : Int32} (hg : g < 13) : (wC cI cR ad X).set (17 * g + 7) (ad (17 * g + 7), .inl (cI, 20, .inl (upd (X g 4) i v))) = wC cI cR ad (u3 X g 4 i v) := wC_col (j := 7) hg rfl (by omega) (fun _ => rfl) (fun r r2 h b hb hne => bkE_same hb (h _ (by
  rcases (show b = 0 ∨ b = 1 ∨ b = 2 ∨ b = 3 ∨ b = 4 ∨ b = 5 ∨ b = 6 ∨ b = 7 ∨ b = 8 ∨ b = 9 ∨ b = 10 ∨ b = 11 ∨ b = 12 ∨ b = 13 ∨ b = 14 ∨ b = 15 ∨ b = 16 by omega) with rfl | rfl | rfl | rfl | rfl | rfl | rfl | rfl | rfl | rfl | rfl | rfl | rfl | rfl | rfl | rfl | rfl <;> first | exact absurd rfl hne | decide)))
theorem s0_4 {i : Nat} {v : Int32} : (wC cI cR ad X).set 7 (ad 7, .inl (cI, 20, .inl (upd (X 0 4) i v))) = wC cI cR ad (u3 X 0 4 i v) := sa_4 (g := 0) (by omega)
theorem sa_5 {g i : Nat} {v : Int32} (hg : g < 13) : (wC cI cR ad X).set (17 * g + 8) (ad (17 * g + 8), .inl (cI, 20, .inl (upd (X g 5) i v))) = wC cI cR ad (u3 X g 5 i v) := wC_col (j := 8) hg rfl (by omega) (fun _ => rfl) (fun r r2 h b hb hne => bkE_same hb (h _ (by
  rcases (show b = 0 ∨ b = 1 ∨ b = 2 ∨ b = 3 ∨ b = 4 ∨ b = 5 ∨ b = 6 ∨ b = 7 ∨ b = 8 ∨ b = 9 ∨ b = 10 ∨ b = 11 ∨ b = 12 ∨ b = 13 ∨ b = 14 ∨ b = 15 ∨ b = 16 by omega) with rfl | rfl | rfl | rfl | rfl | rfl | rfl | rfl | rfl | rfl | rfl | rfl | rfl | rfl | rfl | rfl | rfl <;> first | exact absurd rfl hne | decide)))
theorem s0_5 {i : Nat} {v : Int32} : (wC cI cR ad X).set 8 (ad 8, .inl (cI, 20, .inl (upd (X 0 5) i v))) = wC cI cR ad (u3 X 0 5 i v) := sa_5 (g := 0) (by omega)
theorem sa_6 {g i : Nat} {v : Int32} (hg : g < 13) : (wC cI cR ad X).set (17 * g + 9) (ad (17 * g + 9), .inl (cI, 20, .inl (upd (X g 6) i v))) = wC cI cR ad (u3 X g 6 i v) := wC_col (j := 9) hg rfl (by omega) (fun _ => rfl) (fun r r2 h b hb hne => bkE_same hb (h _ (by
  rcases (show b = 0 ∨ b = 1 ∨ b = 2 ∨ b = 3 ∨ b = 4 ∨ b = 5 ∨ b = 6 ∨ b = 7 ∨ b = 8 ∨ b = 9 ∨ b = 10 ∨ b = 11 ∨ b = 12 ∨ b = 13 ∨ b = 14 ∨ b = 15 ∨ b = 16 by omega) with rfl | rfl | rfl | rfl | rfl | rfl | rfl | rfl | rfl | rfl | rfl | rfl | rfl | rfl | rfl | rfl | rfl <;> first | exact absurd rfl hne | decide)))
theorem s0_6 {i : Nat} {v : Int32} : (wC cI cR ad X).set 9 (ad 9, .inl (cI, 20, .inl (upd (X 0 6) i v))) = wC cI cR ad (u3 X 0 6 i v) := sa_6 (g := 0) (by omega)
theorem sa_7 {g i : Nat} {v : Int32} (hg : g < 13) : (wC cI cR ad X).set (17 * g + 10) (ad (17 * g + 10), .inl (cI, 20, .inl (upd (X g 7) i v))) = wC cI cR ad (u3 X g 7 i v) := wC_col (j := 10) hg rfl (by omega) (fun _ => rfl) (fun r r2 h b hb hne => bkE_same hb (h _ (by
  rcases (show b = 0 ∨ b = 1 ∨ b = 2 ∨ b = 3 ∨ b = 4 ∨ b = 5 ∨ b = 6 ∨ b = 7 ∨ b = 8 ∨ b = 9 ∨ b = 10 ∨ b = 11 ∨ b = 12 ∨ b = 13 ∨ b = 14 ∨ b = 15 ∨ b = 16 by omega) with rfl | rfl | rfl | rfl | rfl | rfl | rfl | rfl | rfl | rfl | rfl | rfl | rfl | rfl | rfl | rfl | rfl <;> first | exact absurd rfl hne | decide)))
theorem s0_7 {i : Nat} {v : Int32} : (wC cI cR ad X).set 10 (ad 10, .inl (cI, 20, .inl (upd (X 0 7) i v))) = wC cI cR ad (u3 X 0 7 i v) := sa_7 (g := 0) (by omega)
theorem sa_8 {g i : Nat} {v : Int32} (hg : g < 13) : (wC cI cR ad X).set (17 * g + 11) (ad (17 * g + 11), .inl (cI, 20, .inl (upd (X g 8) i v))) = wC cI cR ad (u3 X g 8 i v) := wC_col (j := 11) hg rfl (by omega) (fun _ => rfl) (fun r r2 h b hb hne => bkE_same hb (h _ (by
  rcases (show b = 0 ∨ b = 1 ∨ b = 2 ∨ b = 3 ∨ b = 4 ∨ b = 5 ∨ b = 6 ∨ b = 7 ∨ b = 8 ∨ b = 9 ∨ b = 10 ∨ b = 11 ∨ b = 12 ∨ b = 13 ∨ b = 14 ∨ b = 15 ∨ b = 16 by omega) with rfl | rfl | rfl | rfl | rfl | rfl | rfl | rfl | rfl | rfl | rfl | rfl | rfl | rfl | rfl | rfl | rfl <;> first | exact absurd rfl hne | decide)))
theorem s0_8 {i : Nat} {v : Int32} : (wC cI cR ad X).set 11 (ad 11, .inl (cI, 20, .inl (upd (X 0 8) i v))) = wC cI cR ad (u3 X 0 8 i v) := sa_8 (g := 0) (by omega)
theorem sa_9 {g i : Nat} {v : Int32} (hg : g < 13) : (wC cI cR ad X).set (17 * g + 3) (ad (17 * g + 3), .inl (cI, 20, .inl (upd (X g 9) i v))) = wC cI cR ad (u3 X g 9 i v) := wC_col (j := 3) hg rfl (by omega) (fun _ => rfl) (fun r r2 h b hb hne => bkE_same hb (h _ (by
  rcases (show b = 0 ∨ b = 1 ∨ b = 2 ∨ b = 3 ∨ b = 4 ∨ b = 5 ∨ b = 6 ∨ b = 7 ∨ b = 8 ∨ b = 9 ∨ b = 10 ∨ b = 11 ∨ b = 12 ∨ b = 13 ∨ b = 14 ∨ b = 15 ∨ b = 16 by omega) with rfl | rfl | rfl | rfl | rfl | rfl | rfl | rfl | rfl | rfl | rfl | rfl | rfl | rfl | rfl | rfl | rfl <;> first | exact absurd rfl hne | decide)))
theorem s0_9 {i : Nat} {v : Int32} : (wC cI cR ad X).set 3 (ad 3, .inl (cI, 20, .inl (upd (X 0 9) i v))) = wC cI cR ad (u3 X 0 9 i v) := sa_9 (g := 0) (by omega)
theorem sa_10 {g i : Nat} {v : Int32} (hg : g < 13) : (wC cI cR ad X).set (17 * g + 13) (ad (17 * g + 13), .inl (cI, 40, .inl (upd (X g 10) i v))) = wC cI cR ad (u3 X g 10 i v) := wC_col (j := 13) hg rfl (by omega) (fun _ => rfl) (fun r r2 h b hb hne => bkE_same hb (h _ (by
  rcases (show b = 0 ∨ b = 1 ∨ b = 2 ∨ b = 3 ∨ b = 4 ∨ b = 5 ∨ b = 6 ∨ b = 7 ∨ b = 8 ∨ b = 9 ∨ b = 10 ∨ b = 11 ∨ b = 12 ∨ b = 13 ∨ b = 14 ∨ b = 15 ∨ b = 16 by omega) with rfl | rfl | rfl | rfl | rfl | rfl | rfl | rfl | rfl | rfl | rfl | rfl | rfl | rfl | rfl | rfl | rfl <;> first | exact absurd rfl hne | decide)))
theorem s0_10 {i : Nat} {v : Int32} : (wC cI cR ad X).set 13 (ad 13, .inl (cI, 40, .inl (upd (X 0 10) i v))) = wC cI cR ad (u3 X 0 10 i v) := sa_10 (g := 0) (by omega)
theorem sa_11 {g i : Nat} {v : Int32} (hg : g < 13) : (wC cI cR ad X).set (17 * g + 14) (ad (17 * g + 14), .inl (cI, 40, .inl (upd (X g 11) i v))) = wC cI cR ad (u3 X g 11 i v) := wC_col (j := 14) hg rfl (by omega) (fun _ => rfl) (fun r r2 h b hb hne => bkE_same hb (h _ (by
  rcases (show b = 0 ∨ b = 1 ∨ b = 2 ∨ b = 3 ∨ b = 4 ∨ b = 5 ∨ b = 6 ∨ b = 7 ∨ b = 8 ∨ b = 9 ∨ b = 10 ∨ b = 11 ∨ b = 12 ∨ b = 13 ∨ b = 14 ∨ b = 15 ∨ b = 16 by omega) with rfl | rfl | rfl | rfl | rfl | rfl | rfl | rfl | rfl | rfl | rfl | rfl | rfl | rfl | rfl | rfl | rfl <;> first | exact absurd rfl hne | decide)))
theorem s0_11 {i : Nat} {v : Int32} : (wC cI cR ad X).set 14 (ad 14, .inl (cI, 40, .inl (upd (X 0 11) i v))) = wC cI cR ad (u3 X 0 11 i v) := sa_11 (g := 0) (by omega)
theorem sa_12 {g i : Nat} {v : Int32} (hg : g < 13) : (wC cI cR ad X).set (17 * g + 15) (ad (17 * g + 15), .inl (cI, 40, .inl (upd (X g 12) i v))) = wC cI cR ad (u3 X g 12 i v) := wC_col (j := 15) hg rfl (by omega) (fun _ => rfl) (fun r r2 h b hb hne => bkE_same hb (h _ (by
  rcases (show b = 0 ∨ b = 1 ∨ b = 2 ∨ b = 3 ∨ b = 4 ∨ b = 5 ∨ b = 6 ∨ b = 7 ∨ b = 8 ∨ b = 9 ∨ b = 10 ∨ b = 11 ∨ b = 12 ∨ b = 13 ∨ b = 14 ∨ b = 15 ∨ b = 16 by omega) with rfl | rfl | rfl | rfl | rfl | rfl | rfl | rfl | rfl | rfl | rfl | rfl | rfl | rfl | rfl | rfl | rfl <;> first | exact absurd rfl hne | decide)))
theorem s0_12 {i : Nat} {v : Int32} : (wC cI cR ad X).set 15 (ad 15, .inl (cI, 40, .inl (upd (X 0 12) i v))) = wC cI cR ad (u3 X 0 12 i v) := sa_12 (g := 0) (by omega)
theorem sa_13 {g i : Nat} {v : Int32} (hg : g < 13) : (wC cI cR ad X).set (17 * g + 16) (ad (17 * g + 16), .inl (cI, 40, .inl (upd (X g 13) i v))) = wC cI cR ad (u3 X g 13 i v) := wC_col (j := 16) hg rfl (by omega) (fun _ => rfl) (fun r r2 h b hb hne => bkE_same hb (h _ (by
  rcases (show b = 0 ∨ b = 1 ∨ b = 2 ∨ b = 3 ∨ b = 4 ∨ b = 5 ∨ b = 6 ∨ b = 7 ∨ b = 8 ∨ b = 9 ∨ b = 10 ∨ b = 11 ∨ b = 12 ∨ b = 13 ∨ b = 14 ∨ b = 15 ∨ b = 16 by omega) with rfl | rfl | rfl | rfl | rfl | rfl | rfl | rfl | rfl | rfl | rfl | rfl | rfl | rfl | rfl | rfl | rfl <;> first | exact absurd rfl hne | decide)))
theorem s0_13 {i : Nat} {v : Int32} : (wC cI cR ad X).set 16 (ad 16, .inl (cI, 40, .inl (upd (X 0 13) i v))) = wC cI cR ad (u3 X 0 13 i v) := sa_13 (g := 0) (by omega)
theorem sn_year {g : Nat} {v : Int32} (hg : g < 13) : (wC cI cR ad X).set (17 * g + 0) (ad (17 * g + 0), .inr (0, [.ref (ad (17 * g + 1)), .ref (ad (17 * g + 12)), .int v, .int (X g 14 3), .int (X g 14 4), .int (X g 14 5)])) = wC cI cR ad (u3 X g 14 0 v) := by
  refine wC_num (j := 0) hg rfl (by omega) ?_ ?_
  · simp [bkE, b2]
  · intro b hb hne
    rcases (show b = 0 ∨ b = 1 ∨ b = 2 ∨ b = 3 ∨ b = 4 ∨ b = 5 ∨ b = 6 ∨ b = 7 ∨ b = 8 ∨ b = 9 ∨ b = 10 ∨ b = 11 ∨ b = 12 ∨ b = 13 ∨ b = 14 ∨ b = 15 ∨ b = 16 by omega) with rfl | rfl | rfl | rfl | rfl | rfl | rfl | rfl | rfl | rfl | rfl | rfl | rfl | rfl | rfl | rfl | rfl <;> first | exact absurd rfl hne | simp [bkE, b2, b2_coln]
theorem s0_year {v : Int32} : (wC cI cR ad X).set 0 (ad 0, .inr (0, [.ref (ad 1), .ref (ad 12), .int v, .int (X 0 14 3), .int (X 0 14 4), .int (X 0 14 5)])) = wC cI cR ad (u3 X 0 14 0 v) := sn_year (g := 0) (by omega)
theorem sn_heads {g : Nat} {v : Int32} (hg : g < 13) : (wC cI cR ad X).set (17 * g + 1) (ad (17 * g + 1), .inr (3, [.ref (ad (17 * g + 2)), .ref (ad (17 * g + 3)), .ref (ad (17 * g + 4)), .ref (ad (17 * g + 5)), .ref (ad (17 * g + 6)), .ref (ad (17 * g + 7)), .ref (ad (17 * g + 8)), .ref (ad (17 * g + 9)), .ref (ad (17 * g + 10)), .ref (ad (17 * g + 11)), .int v])) = wC cI cR ad (u3 X g 14 1 v) := by
  refine wC_num (j := 1) hg rfl (by omega) ?_ ?_
  · simp [bkE, b2]
  · intro b hb hne
    rcases (show b = 0 ∨ b = 1 ∨ b = 2 ∨ b = 3 ∨ b = 4 ∨ b = 5 ∨ b = 6 ∨ b = 7 ∨ b = 8 ∨ b = 9 ∨ b = 10 ∨ b = 11 ∨ b = 12 ∨ b = 13 ∨ b = 14 ∨ b = 15 ∨ b = 16 by omega) with rfl | rfl | rfl | rfl | rfl | rfl | rfl | rfl | rfl | rfl | rfl | rfl | rfl | rfl | rfl | rfl | rfl <;> first | exact absurd rfl hne | simp [bkE, b2, b2_coln]
theorem s0_heads {v : Int32} : (wC cI cR ad X).set 1 (ad 1, .inr (3, [.ref (ad 2), .ref (ad 3), .ref (ad 4), .ref (ad 5), .ref (ad 6), .ref (ad 7), .ref (ad 8), .ref (ad 9), .ref (ad 10), .ref (ad 11), .int v])) = wC cI cR ad (u3 X 0 14 1 v) := sn_heads (g := 0) (by omega)
theorem sn_comms {g : Nat} {v : Int32} (hg : g < 13) : (wC cI cR ad X).set (17 * g + 12) (ad (17 * g + 12), .inr (1, [.ref (ad (17 * g + 13)), .ref (ad (17 * g + 14)), .ref (ad (17 * g + 15)), .ref (ad (17 * g + 16)), .int v])) = wC cI cR ad (u3 X g 14 2 v) := by
  refine wC_num (j := 12) hg rfl (by omega) ?_ ?_
  · simp [bkE, b2]
  · intro b hb hne
    rcases (show b = 0 ∨ b = 1 ∨ b = 2 ∨ b = 3 ∨ b = 4 ∨ b = 5 ∨ b = 6 ∨ b = 7 ∨ b = 8 ∨ b = 9 ∨ b = 10 ∨ b = 11 ∨ b = 12 ∨ b = 13 ∨ b = 14 ∨ b = 15 ∨ b = 16 by omega) with rfl | rfl | rfl | rfl | rfl | rfl | rfl | rfl | rfl | rfl | rfl | rfl | rfl | rfl | rfl | rfl | rfl <;> first | exact absurd rfl hne | simp [bkE, b2, b2_coln]
theorem s0_comms {v : Int32} : (wC cI cR ad X).set 12 (ad 12, .inr (1, [.ref (ad 13), .ref (ad 14), .ref (ad 15), .ref (ad 16), .int v])) = wC cI cR ad (u3 X 0 14 2 v) := sn_comms (g := 0) (by omega)
theorem sn_carried {g : Nat} {v : Int32} (hg : g < 13) : (wC cI cR ad X).set (17 * g + 0) (ad (17 * g + 0), .inr (0, [.ref (ad (17 * g + 1)), .ref (ad (17 * g + 12)), .int (X g 14 0), .int v, .int (X g 14 4), .int (X g 14 5)])) = wC cI cR ad (u3 X g 14 3 v) := by
  refine wC_num (j := 0) hg rfl (by omega) ?_ ?_
  · simp [bkE, b2]
  · intro b hb hne
    rcases (show b = 0 ∨ b = 1 ∨ b = 2 ∨ b = 3 ∨ b = 4 ∨ b = 5 ∨ b = 6 ∨ b = 7 ∨ b = 8 ∨ b = 9 ∨ b = 10 ∨ b = 11 ∨ b = 12 ∨ b = 13 ∨ b = 14 ∨ b = 15 ∨ b = 16 by omega) with rfl | rfl | rfl | rfl | rfl | rfl | rfl | rfl | rfl | rfl | rfl | rfl | rfl | rfl | rfl | rfl | rfl <;> first | exact absurd rfl hne | simp [bkE, b2, b2_coln]
theorem s0_carried {v : Int32} : (wC cI cR ad X).set 0 (ad 0, .inr (0, [.ref (ad 1), .ref (ad 12), .int (X 0 14 0), .int v, .int (X 0 14 4), .int (X 0 14 5)])) = wC cI cR ad (u3 X 0 14 3 v) := sn_carried (g := 0) (by omega)
theorem sn_lapsed {g : Nat} {v : Int32} (hg : g < 13) : (wC cI cR ad X).set (17 * g + 0) (ad (17 * g + 0), .inr (0, [.ref (ad (17 * g + 1)), .ref (ad (17 * g + 12)), .int (X g 14 0), .int (X g 14 3), .int v, .int (X g 14 5)])) = wC cI cR ad (u3 X g 14 4 v) := by
  refine wC_num (j := 0) hg rfl (by omega) ?_ ?_
  · simp [bkE, b2]
  · intro b hb hne
    rcases (show b = 0 ∨ b = 1 ∨ b = 2 ∨ b = 3 ∨ b = 4 ∨ b = 5 ∨ b = 6 ∨ b = 7 ∨ b = 8 ∨ b = 9 ∨ b = 10 ∨ b = 11 ∨ b = 12 ∨ b = 13 ∨ b = 14 ∨ b = 15 ∨ b = 16 by omega) with rfl | rfl | rfl | rfl | rfl | rfl | rfl | rfl | rfl | rfl | rfl | rfl | rfl | rfl | rfl | rfl | rfl <;> first | exact absurd rfl hne | simp [bkE, b2, b2_coln]
theorem s0_lapsed {v : Int32} : (wC cI cR ad X).set 0 (ad 0, .inr (0, [.ref (ad 1), .ref (ad 12), .int (X 0 14 0), .int (X 0 14 3), .int v, .int (X 0 14 5)])) = wC cI cR ad (u3 X 0 14 4 v) := sn_lapsed (g := 0) (by omega)
theorem sn_spent {g : Nat} {v : Int32} (hg : g < 13) : (wC cI cR ad X).set (17 * g + 0) (ad (17 * g + 0), .inr (0, [.ref (ad (17 * g + 1)), .ref (ad (17 * g + 12)), .int (X g 14 0), .int (X g 14 3), .int (X g 14 4), .int v])) = wC cI cR ad (u3 X g 14 5 v) := by
  refine wC_num (j := 0) hg rfl (by omega) ?_ ?_
  · simp [bkE, b2]
  · intro b hb hne
    rcases (show b = 0 ∨ b = 1 ∨ b = 2 ∨ b = 3 ∨ b = 4 ∨ b = 5 ∨ b = 6 ∨ b = 7 ∨ b = 8 ∨ b = 9 ∨ b = 10 ∨ b = 11 ∨ b = 12 ∨ b = 13 ∨ b = 14 ∨ b = 15 ∨ b = 16 by omega) with rfl | rfl | rfl | rfl | rfl | rfl | rfl | rfl | rfl | rfl | rfl | rfl | rfl | rfl | rfl | rfl | rfl <;> first | exact absurd rfl hne | simp [bkE, b2, b2_coln]
theorem s0_spent {v : Int32} : (wC cI cR ad X).set 0 (ad 0, .inr (0, [.ref (ad 1), .ref (ad 12), .int (X 0 14 0), .int (X 0 14 3), .int (X 0 14 4), .int v])) = wC cI cR ad (u3 X 0 14 5 v) := sn_spent (g := 0) (by omega)
theorem sd_0 {i : Nat} {v : Int32} (hi : i < 12) : (wC cI cR ad X).set (221 + i) (ad (221 + i), .inr (2, [.ref (ad (17 * (i + 1))), .int v, .int (X 13 1 i), .int (X 13 2 i), .int (X 13 3 i), .int (X 13 4 i)])) = wC cI cR ad (u3 X 13 0 i v) := by
  refine wC_set (g := 13) (j := i) (by omega) (by omega) (by omega) ?_ ?_
  · unfold cellC
    rw [if_neg (by omega), if_neg (by omega), if_neg (by omega), if_neg (by omega), u3_g]
    simp [deE, b2]
  · intro a b hb hab hne
    unfold cellC
    by_cases ha2 : a < 13
    · rw [if_pos ha2, if_pos ha2, u3_n _ _ _ _ _ (by omega)]
    · rw [if_neg ha2, if_neg ha2, u3_n X 13 0 i v (a := 14) (by omega), u3_g]
      by_cases hb1 : b < 12
      · have hb2 : ¬ b = i := fun z => hne ⟨by omega, z⟩
        rw [if_neg (by omega), if_neg (by omega), if_neg (by omega), if_neg (by omega), if_neg (by omega), if_neg (by omega)]
        simp [deE, b2, hb2]
      · by_cases h12 : b = 12
        · rw [if_pos h12, if_pos h12]
        · by_cases h13 : b = 13
          · rw [if_neg h12, if_neg h12, if_pos h13, if_pos h13]
          · by_cases h14 : b = 14
            · rw [if_neg h12, if_neg h12, if_neg h13, if_neg h13, if_pos h14, if_pos h14]
            · exact absurd hab (by omega)
theorem sd_1 {i : Nat} {v : Int32} (hi : i < 12) : (wC cI cR ad X).set (221 + i) (ad (221 + i), .inr (2, [.ref (ad (17 * (i + 1))), .int (X 13 0 i), .int v, .int (X 13 2 i), .int (X 13 3 i), .int (X 13 4 i)])) = wC cI cR ad (u3 X 13 1 i v) := by
  refine wC_set (g := 13) (j := i) (by omega) (by omega) (by omega) ?_ ?_
  · unfold cellC
    rw [if_neg (by omega), if_neg (by omega), if_neg (by omega), if_neg (by omega), u3_g]
    simp [deE, b2]
  · intro a b hb hab hne
    unfold cellC
    by_cases ha2 : a < 13
    · rw [if_pos ha2, if_pos ha2, u3_n _ _ _ _ _ (by omega)]
    · rw [if_neg ha2, if_neg ha2, u3_n X 13 1 i v (a := 14) (by omega), u3_g]
      by_cases hb1 : b < 12
      · have hb2 : ¬ b = i := fun z => hne ⟨by omega, z⟩
        rw [if_neg (by omega), if_neg (by omega), if_neg (by omega), if_neg (by omega), if_neg (by omega), if_neg (by omega)]
        simp [deE, b2, hb2]
      · by_cases h12 : b = 12
        · rw [if_pos h12, if_pos h12]
        · by_cases h13 : b = 13
          · rw [if_neg h12, if_neg h12, if_pos h13, if_pos h13]
          · by_cases h14 : b = 14
            · rw [if_neg h12, if_neg h12, if_neg h13, if_neg h13, if_pos h14, if_pos h14]
            · exact absurd hab (by omega)
theorem sd_2 {i : Nat} {v : Int32} (hi : i < 12) : (wC cI cR ad X).set (221 + i) (ad (221 + i), .inr (2, [.ref (ad (17 * (i + 1))), .int (X 13 0 i), .int (X 13 1 i), .int v, .int (X 13 3 i), .int (X 13 4 i)])) = wC cI cR ad (u3 X 13 2 i v) := by
  refine wC_set (g := 13) (j := i) (by omega) (by omega) (by omega) ?_ ?_
  · unfold cellC
    rw [if_neg (by omega), if_neg (by omega), if_neg (by omega), if_neg (by omega), u3_g]
    simp [deE, b2]
  · intro a b hb hab hne
    unfold cellC
    by_cases ha2 : a < 13
    · rw [if_pos ha2, if_pos ha2, u3_n _ _ _ _ _ (by omega)]
    · rw [if_neg ha2, if_neg ha2, u3_n X 13 2 i v (a := 14) (by omega), u3_g]
      by_cases hb1 : b < 12
      · have hb2 : ¬ b = i := fun z => hne ⟨by omega, z⟩
        rw [if_neg (by omega), if_neg (by omega), if_neg (by omega), if_neg (by omega), if_neg (by omega), if_neg (by omega)]
        simp [deE, b2, hb2]
      · by_cases h12 : b = 12
        · rw [if_pos h12, if_pos h12]
        · by_cases h13 : b = 13
          · rw [if_neg h12, if_neg h12, if_pos h13, if_pos h13]
          · by_cases h14 : b = 14
            · rw [if_neg h12, if_neg h12, if_neg h13, if_neg h13, if_pos h14, if_pos h14]
            · exact absurd hab (by omega)
theorem sd_3 {i : Nat} {v : Int32} (hi : i < 12) : (wC cI cR ad X).set (221 + i) (ad (221 + i), .inr (2, [.ref (ad (17 * (i + 1))), .int (X 13 0 i), .int (X 13 1 i), .int (X 13 2 i), .int v, .int (X 13 4 i)])) = wC cI cR ad (u3 X 13 3 i v) := by
  refine wC_set (g := 13) (j := i) (by omega) (by omega) (by omega) ?_ ?_
  · unfold cellC
    rw [if_neg (by omega), if_neg (by omega), if_neg (by omega), if_neg (by omega), u3_g]
    simp [deE, b2]
  · intro a b hb hab hne
    unfold cellC
    by_cases ha2 : a < 13
    · rw [if_pos ha2, if_pos ha2, u3_n _ _ _ _ _ (by omega)]
    · rw [if_neg ha2, if_neg ha2, u3_n X 13 3 i v (a := 14) (by omega), u3_g]
      by_cases hb1 : b < 12
      · have hb2 : ¬ b = i := fun z => hne ⟨by omega, z⟩
        rw [if_neg (by omega), if_neg (by omega), if_neg (by omega), if_neg (by omega), if_neg (by omega), if_neg (by omega)]
        simp [deE, b2, hb2]
      · by_cases h12 : b = 12
        · rw [if_pos h12, if_pos h12]
        · by_cases h13 : b = 13
          · rw [if_neg h12, if_neg h12, if_pos h13, if_pos h13]
          · by_cases h14 : b = 14
            · rw [if_neg h12, if_neg h12, if_neg h13, if_neg h13, if_pos h14, if_pos h14]
            · exact absurd hab (by omega)
theorem sd_4 {i : Nat} {v : Int32} (hi : i < 12) : (wC cI cR ad X).set (221 + i) (ad (221 + i), .inr (2, [.ref (ad (17 * (i + 1))), .int (X 13 0 i), .int (X 13 1 i), .int (X 13 2 i), .int (X 13 3 i), .int v])) = wC cI cR ad (u3 X 13 4 i v) := by
  refine wC_set (g := 13) (j := i) (by omega) (by omega) (by omega) ?_ ?_
  · unfold cellC
    rw [if_neg (by omega), if_neg (by omega), if_neg (by omega), if_neg (by omega), u3_g]
    simp [deE, b2]
  · intro a b hb hab hne
    unfold cellC
    by_cases ha2 : a < 13
    · rw [if_pos ha2, if_pos ha2, u3_n _ _ _ _ _ (by omega)]
    · rw [if_neg ha2, if_neg ha2, u3_n X 13 4 i v (a := 14) (by omega), u3_g]
      by_cases hb1 : b < 12
      · have hb2 : ¬ b = i := fun z => hne ⟨by omega, z⟩
        rw [if_neg (by omega), if_neg (by omega), if_neg (by omega), if_neg (by omega), if_neg (by omega), if_neg (by omega)]
        simp [deE, b2, hb2]
      · by_cases h12 : b = 12
        · rw [if_pos h12, if_pos h12]
        · by_cases h13 : b = 13
          · rw [if_neg h12, if_neg h12, if_pos h13, if_pos h13]
          · by_cases h14 : b = 14
            · rw [if_neg h12, if_neg h12, if_neg h13, if_neg h13, if_pos h14, if_pos h14]
            · exact absurd hab (by omega)
theorem s0_m0 {v : Int32} : (wC cI cR ad X).set 234 (ad 234, .inr (4, [.ref (ad 235), .int v, .int (X 14 0 1), .int (X 14 0 2)])) = wC cI cR ad (u3 X 14 0 0 v) := by
  refine wC_set (g := 13) (j := 13) (by omega) (by omega) (by omega) ?_ ?_
  · unfold cellC
    rw [if_neg (by omega), if_neg (by omega), if_pos rfl, u3_g]
    simp [b2]
  · intro a b hb hab hne
    unfold cellC
    by_cases ha2 : a < 13
    · rw [if_pos ha2, if_pos ha2, u3_n _ _ _ _ _ (by omega)]
    · have h13 : ¬ b = 13 := fun z => hne ⟨by omega, z⟩
      rw [if_neg ha2, if_neg ha2, if_neg h13, if_neg h13, u3_n X 14 0 0 v (a := 13) (by omega)]
theorem s0_m1 {v : Int32} : (wC cI cR ad X).set 234 (ad 234, .inr (4, [.ref (ad 235), .int (X 14 0 0), .int v, .int (X 14 0 2)])) = wC cI cR ad (u3 X 14 0 1 v) := by
  refine wC_set (g := 13) (j := 13) (by omega) (by omega) (by omega) ?_ ?_
  · unfold cellC
    rw [if_neg (by omega), if_neg (by omega), if_pos rfl, u3_g]
    simp [b2]
  · intro a b hb hab hne
    unfold cellC
    by_cases ha2 : a < 13
    · rw [if_pos ha2, if_pos ha2, u3_n _ _ _ _ _ (by omega)]
    · have h13 : ¬ b = 13 := fun z => hne ⟨by omega, z⟩
      rw [if_neg ha2, if_neg ha2, if_neg h13, if_neg h13, u3_n X 14 0 1 v (a := 13) (by omega)]
theorem s0_m2 {v : Int32} : (wC cI cR ad X).set 234 (ad 234, .inr (4, [.ref (ad 235), .int (X 14 0 0), .int (X 14 0 1), .int v])) = wC cI cR ad (u3 X 14 0 2 v) := by
  refine wC_set (g := 13) (j := 13) (by omega) (by omega) (by omega) ?_ ?_
  · unfold cellC
    rw [if_neg (by omega), if_neg (by omega), if_pos rfl, u3_g]
    simp [b2]
  · intro a b hb hab hne
    unfold cellC
    by_cases ha2 : a < 13
    · rw [if_pos ha2, if_pos ha2, u3_n _ _ _ _ _ (by omega)]
    · have h13 : ¬ b = 13 := fun z => hne ⟨by omega, z⟩
      rw [if_neg ha2, if_neg ha2, if_neg h13, if_neg h13, u3_n X 14 0 2 v (a := 13) (by omega)]
end
/-- which cells the class may write: its own -/
def Aw (n : Nat) (ad : Nat → Nat) : Nat → Prop := fun q => ∃ k, k < n ∧ q = ad k
/-- the cells lie apart -/
def Dj (n : Nat) (ad : Nat → Nat) : Prop := ∀ i j : Nat, i < n → j < n → ad i = ad j → i = j
theorem wC_at {cI cR : ClassId} {ad : Nat → Nat} {X : St} {k : Nat} {q : Nat × va_E} (h : (wC cI cR ad X)[k]? = some q) : k < 236 ∧ q = (ad k, cellC cI cR ad X (k / 17) (k % 17)) := by
  have hk : k < 236 := by
    have := (List.getElem?_eq_some_iff.mp h).1
    rwa [wC_len] at this
  rw [wC_get (g := k / 17) (j := k % 17) (by omega) (by omega) hk] at h
  exact ⟨hk, (Option.some.inj h).symm⟩
theorem wC_D {cI cR : ClassId} {ad : Nat → Nat} {X : St} (h : Dj 236 ad) : va_D (Aw 236 ad) (wC cI cR ad X) := by
  refine ⟨fun i j p q hp hq e => ?_, fun k q hq => ?_⟩
  · obtain ⟨hi, rfl⟩ := wC_at hp
    obtain ⟨hj, rfl⟩ := wC_at hq
    exact h i j hi hj e
  · obtain ⟨hk, rfl⟩ := wC_at hq
    exact ⟨k, hk, rfl⟩
theorem vp_cell_ext {cA : ClassId} {n : Nat} {f f' : Nat → Int32} (h : ∀ j, j < n → f' j = f j) : vp_cell cA (n, .inl f') = vp_cell cA (n, .inl f) := by
  rw [vp_cell_i, vp_cell_i]
  unfold arrV
  congr 1
  apply Array.ext
  · simp
  · intro i h1 h2
    simp at h1
    simp [h i h1]
/-- what cannot be seen in the cells may change -/
theorem wC_ext {D : va_G} {cl : List vw_C} {cI cR : ClassId} {ad : Nat → Nat} {X X' : St} {H : Heap} (h : va_P D cl (wC cI cR ad X) H) (hc : ∀ g f i : Nat, (g < 13 → f < 10 → i < 20 → X' g f i = X g f i)) (hc2 : ∀ g f i : Nat, (g < 13 → 10 ≤ f → f < 14 → i < 40 → X' g f i = X g f i)) (hn : ∀ g i : Nat, g < 13 → i < 6 → X' g 14 i = X g 14 i) (hd : ∀ f i : Nat, f < 5 → i < 12 → X' 13 f i = X 13 f i) (hm : ∀ i : Nat, i < 3 → X' 14 0 i = X 14 0 i) : va_P D cl (wC cI cR ad X') H := by
  intro k q hq
  obtain ⟨hk, rfl⟩ := wC_at hq
  have hP := h k _ (wC_get (g := k / 17) (j := k % 17) (by omega) (by omega) hk)
  have hj : k % 17 < 17 := by omega
  have hkk : k = 17 * (k / 17) + k % 17 := by omega
  revert hP
  generalize k / 17 = g at hkk ⊢
  generalize k % 17 = j at hj hkk ⊢
  intro hP
  unfold cellC at hP ⊢
  by_cases hg : g < 13
  · rw [if_pos hg] at hP ⊢
    rcases (show j = 0 ∨ j = 1 ∨ j = 2 ∨ j = 3 ∨ j = 4 ∨ j = 5 ∨ j = 6 ∨ j = 7 ∨ j = 8 ∨ j = 9 ∨ j = 10 ∨ j = 11 ∨ j = 12 ∨ j = 13 ∨ j = 14 ∨ j = 15 ∨ j = 16 by omega) with rfl | rfl | rfl | rfl | rfl | rfl | rfl | rfl | rfl | rfl | rfl | rfl | rfl | rfl | rfl | rfl | rfl
    · simp only [bkE, hn g _ hg (show 0 < 6 by omega), hn g _ hg (show 3 < 6 by omega), hn g _ hg (show 4 < 6 by omega), hn g _ hg (show 5 < 6 by omega)] at hP ⊢
      exact hP
    · simp only [bkE, hn g _ hg (show 1 < 6 by omega)] at hP ⊢
      exact hP
    · exact (show H[_]? = some (vp_cell _ _) from by rw [vp_cell_ext (fun j hj => hc g 0 j hg (by omega) hj)]; exact hP)
    · exact (show H[_]? = some (vp_cell _ _) from by rw [vp_cell_ext (fun j hj => hc g 9 j hg (by omega) hj)]; exact hP)
    · exact (show H[_]? = some (vp_cell _ _) from by rw [vp_cell_ext (fun j hj => hc g 1 j hg (by omega) hj)]; exact hP)
    · exact (show H[_]? = some (vp_cell _ _) from by rw [vp_cell_ext (fun j hj => hc g 2 j hg (by omega) hj)]; exact hP)
    · exact (show H[_]? = some (vp_cell _ _) from by rw [vp_cell_ext (fun j hj => hc g 3 j hg (by omega) hj)]; exact hP)
    · exact (show H[_]? = some (vp_cell _ _) from by rw [vp_cell_ext (fun j hj => hc g 4 j hg (by omega) hj)]; exact hP)
    · exact (show H[_]? = some (vp_cell _ _) from by rw [vp_cell_ext (fun j hj => hc g 5 j hg (by omega) hj)]; exact hP)
    · exact (show H[_]? = some (vp_cell _ _) from by rw [vp_cell_ext (fun j hj => hc g 6 j hg (by omega) hj)]; exact hP)
    · exact (show H[_]? = some (vp_cell _ _) from by rw [vp_cell_ext (fun j hj => hc g 7 j hg (by omega) hj)]; exact hP)
    · exact (show H[_]? = some (vp_cell _ _) from by rw [vp_cell_ext (fun j hj => hc g 8 j hg (by omega) hj)]; exact hP)
    · simp only [bkE, hn g _ hg (show 2 < 6 by omega)] at hP ⊢
      exact hP
    · exact (show H[_]? = some (vp_cell _ _) from by rw [vp_cell_ext (fun j hj => hc2 g 10 j hg (by omega) (by omega) hj)]; exact hP)
    · exact (show H[_]? = some (vp_cell _ _) from by rw [vp_cell_ext (fun j hj => hc2 g 11 j hg (by omega) (by omega) hj)]; exact hP)
    · exact (show H[_]? = some (vp_cell _ _) from by rw [vp_cell_ext (fun j hj => hc2 g 12 j hg (by omega) (by omega) hj)]; exact hP)
    · exact (show H[_]? = some (vp_cell _ _) from by rw [vp_cell_ext (fun j hj => hc2 g 13 j hg (by omega) (by omega) hj)]; exact hP)
  · rw [if_neg hg] at hP ⊢
    by_cases h12 : j = 12
    · rw [if_pos h12] at hP ⊢
      exact hP
    · rw [if_neg h12] at hP ⊢
      by_cases h13 : j = 13
      · rw [if_pos h13] at hP ⊢
        rw [hm 0 (by omega), hm 1 (by omega), hm 2 (by omega)]
        exact hP
      · rw [if_neg h13] at hP ⊢
        by_cases h14 : j = 14
        · rw [if_pos h14] at hP ⊢
          exact hP
        · rw [if_neg h14] at hP ⊢
          unfold deE at hP ⊢
          rw [hd 0 j (by omega) (by omega), hd 1 j (by omega) (by omega), hd 2 j (by omega) (by omega), hd 3 j (by omega) (by omega), hd 4 j (by omega) (by omega)]
          exact hP
end
section
/-! THE ROWS OF THIS CLAIM over the kit's: the contracts' forms (Ro..: nothing is written; Wo..: the world ws becomes ws'), a method's begin, its ends, its calls. -/
def tysC (cI cR : ClassId) : List (ClassId × FieldType) := [(cI, .int), (cR, .object "HeadBudgets$Deed")]
def Nst (U : State) : Prop := va_Nw (.methodLinkNest RX5 9 yX0_init RX5) U ∧ va_Nw (.methodLinkNest RX0 11 yX3_init RX5) U ∧ va_Nw (.methodLinkNest RX0 20 yX1_init RX5) U ∧ va_Nw (.methodLinkNest RX4 17 yX2_init RX5) U ∧ va_Nw (.methodLinkNest RX2 9 yX0_init RX5) U ∧ va_Nw (.methodLinkNest RX3 77 yX5_partOf RX5) U
theorem Nst.warm {s U : State} (hW : s.WarmedH U.vm) (h : Nst s) : Nst U := ⟨va_Nw.warmM hW h.1, va_Nw.warmM hW h.2.1, va_Nw.warmM hW h.2.2.1, va_Nw.warmM hW h.2.2.2.1, va_Nw.warmM hW h.2.2.2.2.1, va_Nw.warmM hW h.2.2.2.2.2⟩
theorem Nst.same {u U : State} (e : u.vm = U.vm) (h : Nst u) : Nst U := ⟨va_Nw.same rfl e h.1, va_Nw.same rfl e h.2.1, va_Nw.same rfl e h.2.2.1, va_Nw.same rfl e h.2.2.2.1, va_Nw.same rfl e h.2.2.2.2.1, va_Nw.same rfl e h.2.2.2.2.2⟩
def Pw (D : va_G) (cI cR : ClassId) (ws : va_W) (av : List Value) : Array Value → State → Prop := va_Pc av (fun U => va_P D vwCl ws U.heap ∧ va_K D vwCl (tysC cI cR) U ∧ Nst U)
theorem Pw.blind {D : va_G} {cI cR : ClassId} {ws : va_W} {av : List Value} : FrameBlind (Pw D cI cR ws av) := fun a U g mk q => by
  obtain ⟨q0, qP, qK, qN⟩ := q
  exact ⟨q0, qP, va_K.moved (u := U) (U := U.calling g mk a) (Vm.Alike.refl U.vm) qK, Nst.same (u := U) (U := U.calling g mk a) rfl qN⟩
theorem Pw.at {D : va_G} {cI cR : ClassId} {ws : va_W} {av : List Value} {s : State} {H : Heap} (hP : va_P D vwCl ws H) (hK : va_K D vwCl (tysC cI cR) s) (hN : Nst s) : ∀ U : State, U.heap = H → s.WarmedH U.vm → Pw D cI cR ws av av.toArray U := fun U hU hW => ⟨rfl, by rw [hU]; exact hP, va_K.moved hW.alike hK, hN.warm hW⟩
theorem nilP {D : va_G} {cl : List vw_C} {H : Heap} : va_P D cl [] H := fun k q h => by simp at h
def RoE (l : Launch) (D : va_G) (cI cR : ClassId) (ws : va_W) (y : MethodName) (wds : List Cond) (rm : Room) (av : List Value) (v : Int32) : Prop := Met l y wds rm (Pw D cI cR ws av) (vp_Si (fun r => r = v)) 0 0 (fun _ => False)
def RoB (l : Launch) (D : va_G) (cI cR : ClassId) (ws : va_W) (y : MethodName) (wds : List Cond) (rm : Room) (av : List Value) (P : Prop) : Prop := Met l y wds rm (Pw D cI cR ws av) (vp_Si (fun r => (r = 1 ∧ P) ∨ (r = 0 ∧ ¬ P))) 0 0 (fun _ => False)
def RoQ (l : Launch) (D : va_G) (cI cR : ClassId) (ws : va_W) (y : MethodName) (wds : List Cond) (rm : Room) (av : List Value) (v : Option Nat) : Prop := Met l y wds rm (Pw D cI cR ws av) (va_Sq (fun r => r = v)) 0 0 (fun _ => False)
def WoE (l : Launch) (D : va_G) (cI cR : ClassId) (A : Nat → Prop) (ws ws' : va_W) (y : MethodName) (wds : List Cond) (rm : Room) (av : List Value) (v : Int32) : Prop := Met l y wds rm (Pw D cI cR ws av) (va_Qi (S := Unit) (fun r _ => r = v) (fun _ t => va_P D vwCl ws' t.heap) A) 0 0 A
def WoV (l : Launch) (D : va_G) (cI cR : ClassId) (A : Nat → Prop) (ws ws' : va_W) (y : MethodName) (wds : List Cond) (rm : Room) (av : List Value) : Prop := Met l y wds rm (Pw D cI cR ws av) (va_Qv (S := Unit) (fun _ => True) (fun _ t => va_P D vwCl ws' t.heap) A) 0 0 A
/-- a method's begin -/
theorem OfW {l : Launch} {D : va_G} {cI cR : ClassId} {ws : va_W} {y : MethodName} {wds wds' : List Cond} {rm : Room} {av : List Value} {Qc : Array Value → State → Outcome → State → Prop} {mc ms : Nat} {free : Addr → Prop} {cc : ByteArray} {maxL : Nat} {ret : Option FieldType}
    (hy : plainName y.cls = true) (hw : wds = Cond.code y cc maxL ret :: wds') (hlen : (lg_sl av).length ≤ maxL)
    (body : ∀ (p : Program) (e : Env) (s : State) (m : MethodId) (below : List Frame) (meth : Method) (c : Code), p.tables.exec = Jvm.exec → c.code = cc → meth.sig.returnType = ret → (∀ w ∈ wds, w.before av.toArray s = true) → s.vm.findClass y.cls = some m.cls → meth.locks = false → c.maxLocals = maxL → meth.name = y.name → va_P D vwCl ws s.heap → va_K D vwCl (tysC cI cR) s → Nst s → ∀ ls : Array Slot, lv_has ls maxL (lv_args 0 av) →
      W p l e rm s m av.toArray below meth c s.heap [] 0 0 (MQ below Qc av.toArray s mc ms free) (F0 m 0 ls [])) : Met l y wds rm (Pw D cI cR ws av) Qc mc ms free := by
  refine Met.ofW (cc := cc) (maxL := maxL) (ret := ret) hy hw ?_
  intro p e s m args below meth c s₁ B hml hv
  obtain ⟨rfl, hP, hK, hN⟩ := hv
  have hl := lv_entry av (n := maxL) hlen
  rw [lg_entry_eq]
  exact body p e s m below meth c B.exec B.bytes B.returns (atoms_spec (ws := wds) B.pre) (findClass_of_methodNamed B.named) B.notSynchronized hml (name_of_methodNamed B.named B.method).1 hP hK hN _ hl
/-- the same, of a method of a class that has natives (java/lang/Math) -/
theorem OfWF {l : Launch} {D : va_G} {cI cR : ClassId} {ws : va_W} {y : MethodName} {wds wds' : List Cond} {rm : Room} {av : List Value} {Qc : Array Value → State → Outcome → State → Prop} {mc ms : Nat} {free : Addr → Prop} {cc : ByteArray} {maxL : Nat} {ret : Option FieldType}
    (hy : plainFor y = true) (hw : wds = Cond.code y cc maxL ret :: wds') (hlen : (lg_sl av).length ≤ maxL)
    (body : ∀ (p : Program) (e : Env) (s : State) (m : MethodId) (below : List Frame) (meth : Method) (c : Code), p.tables.exec = Jvm.exec → c.code = cc → meth.sig.returnType = ret → (∀ w ∈ wds, w.before av.toArray s = true) → s.vm.findClass y.cls = some m.cls → meth.locks = false → c.maxLocals = maxL → meth.name = y.name → va_P D vwCl ws s.heap → va_K D vwCl (tysC cI cR) s → Nst s → ∀ ls : Array Slot, lv_has ls maxL (lv_args 0 av) →
      W p l e rm s m av.toArray below meth c s.heap [] 0 0 (MQ below Qc av.toArray s mc ms free) (F0 m 0 ls [])) : Met l y wds rm (Pw D cI cR ws av) Qc mc ms free := by
  refine MetFree.of_bodySF (code := cc) (maxLocals := maxL) (ret := ret) hy ?_ ?_
  · intro args s m h hn
    obtain ⟨meth, c, h1, h2, h3, h4, h5, h6, -, -⟩ := Cond.code_spec hn (atoms_spec (ws := wds) h _ (by rw [hw]; exact List.mem_cons_self))
    exact ⟨meth, c, h1, h2, h3, h4, h5, h6⟩
  · intro p e s m args below meth c s₁ B hml hv _
    have hh0 : s₁.heap = s.heap := by rw [B.state]; rfl
    obtain ⟨rfl, hP, hK, hN⟩ := hv
    have hl := lv_entry av (n := maxL) hlen
    have W0 := body p e s m below meth c B.exec B.bytes B.returns (atoms_spec (ws := wds) B.pre) (findClass_of_methodNamed B.named) B.notSynchronized hml (name_of_methodNamed B.named B.method).1 hP hK hN _ hl
    rw [← lg_entry_eq] at W0
    obtain ⟨t, a1, o, b1, b2, b3⟩ := W0 s₁ hh0 (Stand.of_body B)
    exact ⟨t, o, a1, b1, b2, ⟨b3.1, b3.2⟩⟩
section
variable {p : Program} {l : Launch} {e : Env} {R : Room} {s : State} {m : MethodId} {args : Array Value} {below : List Frame} {meth : Method} {c : Code} {H H0 : Heap} {locs : List Loc} {cells slots : Nat} {Q : State → Prop}
variable {cc bytes : ByteArray} {pc nL maxL index n : Nat} {ls : Array Slot} {rest st0 As : List Value} {D : va_G} {cI cR : ClassId} {ws ws' : va_W} {A : Nat → Prop} {a b : Nat} {own C : String} {y : MethodName} {ret : Option FieldType} {wds Ts : List Cond} {rm : Room} {v x : Int32} {P : Prop}
/-- ends -/
theorem retE (hx : p.tables.exec = Jvm.exec) (hb : c.code = cc) (hr : meth.sig.returnType = some .int) (hlocks : meth.locks = false) (hdg : decode cc pc = .ok (.ireturn, 1)) (hv : x = v) : W p l e R s m args below meth c s.heap [] 0 0 (MQ below (vp_Si (fun r => r = v)) args s 0 0 (fun _ => False)) (F0 m pc ls [.int x]) :=
  W.iret hx hb hr (fun t ht _ => ⟨x, rfl, hv, ht⟩) (fun q h => by cases h) hdg hlocks
theorem retB1 (hx : p.tables.exec = Jvm.exec) (hb : c.code = cc) (hr : meth.sig.returnType = some .boolean) (hlocks : meth.locks = false) (hdg : decode cc pc = .ok (.ireturn, 1)) (hv : P) : W p l e R s m args below meth c s.heap [] 0 0 (MQ below (vp_Si (fun r => (r = 1 ∧ P) ∨ (r = 0 ∧ ¬ P))) args s 0 0 (fun _ => False)) (F0 m pc ls [.int 1]) :=
  W.zret hx hb hr rfl (fun t ht _ => ⟨1, rfl, Or.inl ⟨rfl, hv⟩, ht⟩) (fun q h => by cases h) hdg hlocks
theorem retB0 (hx : p.tables.exec = Jvm.exec) (hb : c.code = cc) (hr : meth.sig.returnType = some .boolean) (hlocks : meth.locks = false) (hdg : decode cc pc = .ok (.ireturn, 1)) (hv : ¬ P) : W p l e R s m args below meth c s.heap [] 0 0 (MQ below (vp_Si (fun r => (r = 1 ∧ P) ∨ (r = 0 ∧ ¬ P))) args s 0 0 (fun _ => False)) (F0 m pc ls [.int 0]) :=
  W.zret hx hb hr rfl (fun t ht _ => ⟨0, rfl, Or.inr ⟨rfl, hv⟩, ht⟩) (fun q h => by cases h) hdg hlocks
theorem retQ {q v : Option Nat} {nm : String} {val : Value} (hx : p.tables.exec = Jvm.exec) (hb : c.code = cc) (hr : meth.sig.returnType = some (.object nm)) (hlocks : meth.locks = false) (hdg : decode cc pc = .ok (.areturn, 1)) (hq : val = va_rf q) (hv : q = v) : W p l e R s m args below meth c s.heap [] 0 0 (MQ below (va_Sq (fun r => r = v)) args s 0 0 (fun _ => False)) (F0 m pc ls [val]) := by
  subst hq
  exact W.aret hx hb hr (Or.inl ⟨nm, rfl⟩) (va_rf_or q) (fun t ht _ => ⟨q, rfl, hv, ht⟩) (fun q h => by cases h) hdg hlocks
theorem retWE (hx : p.tables.exec = Jvm.exec) (hb : c.code = cc) (hr : meth.sig.returnType = some .int) (hlocks : meth.locks = false) (hP : va_P D vwCl ws' H) (hS : va_S A s.heap H locs) (hdg : decode cc pc = .ok (.ireturn, 1)) (hv : x = v) : W p l e R s m args below meth c H locs 0 0 (MQ below (va_Qi (S := Unit) (fun r _ => r = v) (fun _ t => va_P D vwCl ws' t.heap) A) args s 0 0 A) (F0 m pc ls [.int x]) :=
  W.iret hx hb hr (fun t ht _ => ⟨⟨x, (), rfl, hv, by show va_P D vwCl ws' t.heap; rw [ht]; exact hP⟩, hS.F ht⟩) hS.2.2 hdg hlocks
theorem retWV (hx : p.tables.exec = Jvm.exec) (hb : c.code = cc) (hr : meth.sig.returnType = none) (hlocks : meth.locks = false) (hP : va_P D vwCl ws' H) (hS : va_S A s.heap H locs) (hdg : decode cc pc = .ok (.return_, 1)) : W p l e R s m args below meth c H locs 0 0 (MQ below (va_Qv (S := Unit) (fun _ => True) (fun _ t => va_P D vwCl ws' t.heap) A) args s 0 0 A) (F0 m pc ls []) :=
  W.vret hx hb hr (fun t ht _ => ⟨⟨(), rfl, trivial, by show va_P D vwCl ws' t.heap; rw [ht]; exact hP⟩, hS.F ht⟩) hS.2.2 hdg hlocks
/-- calls of methods of objects -/
theorem callE {ci N : Nat} {fs : List Value} {T : u_T} (S : CallFix p m c cc nL s args Ts own) (hM : RoE l D cI cR ws y wds rm (.ref b :: As) v) (cw : CallW R s args own C index y bytes maxL ret wds rm 0 0 n) (hK : va_K D vwCl (tysC cI cR) s) (hN : Nst s) (hP : va_P D vwCl ws H) (q0 : Nat) (he : ws[q0]? = some (b, .inr (ci, fs))) (hc : vwCl[ci]? = some (C, T, N)) (hn : As.length = n) (hsize : ls.size = nL) (hstack : st0 = As.reverse ++ .ref b :: rest) (hW : (rest.map fun v => v.category).sum ≤ 8) (hdg : decode cc pc = .ok (.invokevirtual index, 3)) (hf : cells ≤ R.cells ∧ slots ≤ R.slots)
    (kk : W p l e R s m args below meth c H locs cells slots Q (F0 m (pc + 3) ls (.int v :: rest))) : W p l e R s m args below meth c H locs cells slots Q (F0 m pc ls st0) :=
  vp_callSi (va_Run.run (va_runV S hM cw ⟨Pw.blind, va_recv hK hP hc he, Pw.at hP hK hN⟩ rfl hn hsize hstack (lv_room hW) hdg hf)) (fun r hr => by rw [show r = v from hr]; exact kk)
theorem callB {ci N : Nat} {fs : List Value} {T : u_T} (S : CallFix p m c cc nL s args Ts own) (hM : RoB l D cI cR ws y wds rm (.ref b :: As) P) (cw : CallW R s args own C index y bytes maxL ret wds rm 0 0 n) (hK : va_K D vwCl (tysC cI cR) s) (hN : Nst s) (hP : va_P D vwCl ws H) (q0 : Nat) (he : ws[q0]? = some (b, .inr (ci, fs))) (hc : vwCl[ci]? = some (C, T, N)) (hn : As.length = n) (hsize : ls.size = nL) (hstack : st0 = As.reverse ++ .ref b :: rest) (hW : (rest.map fun v => v.category).sum ≤ 8) (hdg : decode cc pc = .ok (.invokevirtual index, 3)) (hf : cells ≤ R.cells ∧ slots ≤ R.slots)
    (k1 : P → W p l e R s m args below meth c H locs cells slots Q (F0 m (pc + 3) ls (.int 1 :: rest))) (k0 : ¬ P → W p l e R s m args below meth c H locs cells slots Q (F0 m (pc + 3) ls (.int 0 :: rest))) : W p l e R s m args below meth c H locs cells slots Q (F0 m pc ls st0) :=
  vp_callSi (va_Run.run (va_runV S hM cw ⟨Pw.blind, va_recv hK hP hc he, Pw.at hP hK hN⟩ rfl hn hsize hstack (lv_room hW) hdg hf)) (fun r hr => by
    rcases hr with ⟨e1, h⟩ | ⟨e1, h⟩ <;> rw [e1]
    · exact k1 h
    · exact k0 h)
theorem callQ {ci N : Nat} {fs : List Value} {T : u_T} {v : Option Nat} (S : CallFix p m c cc nL s args Ts own) (hM : RoQ l D cI cR ws y wds rm (.ref b :: As) v) (cw : CallW R s args own C index y bytes maxL ret wds rm 0 0 n) (hK : va_K D vwCl (tysC cI cR) s) (hN : Nst s) (hP : va_P D vwCl ws H) (q0 : Nat) (he : ws[q0]? = some (b, .inr (ci, fs))) (hc : vwCl[ci]? = some (C, T, N)) (hn : As.length = n) (hsize : ls.size = nL) (hstack : st0 = As.reverse ++ .ref b :: rest) (hW : (rest.map fun v => v.category).sum ≤ 8) (hdg : decode cc pc = .ok (.invokevirtual index, 3)) (hf : cells ≤ R.cells ∧ slots ≤ R.slots)
    (kk : W p l e R s m args below meth c H locs cells slots Q (F0 m (pc + 3) ls (va_rf v :: rest))) : W p l e R s m args below meth c H locs cells slots Q (F0 m pc ls st0) :=
  va_csq (va_Run.run (va_runV S hM cw ⟨Pw.blind, va_recv hK hP hc he, Pw.at hP hK hN⟩ rfl hn hsize hstack (lv_room hW) hdg hf)) (fun r hr => by rw [show r = v from hr]; exact kk)
theorem callWE {ci N : Nat} {fs : List Value} {T : u_T} {A0 : Nat → Prop} (S : CallFix p m c cc nL s args Ts own) (hM : WoE l D cI cR A ws ws' y wds rm (.ref b :: As) v) (cw : CallW R s args own C index y bytes maxL ret wds rm 0 0 n) (hK : va_K D vwCl (tysC cI cR) s) (hN : Nst s) (hP : va_P D vwCl ws H) (q0 : Nat) (he : ws[q0]? = some (b, .inr (ci, fs))) (hc : vwCl[ci]? = some (C, T, N)) (hn : As.length = n) (hsize : ls.size = nL) (hstack : st0 = As.reverse ++ .ref b :: rest) (hW : (rest.map fun v => v.category).sum ≤ 8) (hdg : decode cc pc = .ok (.invokevirtual index, 3)) (hf : cells ≤ R.cells ∧ slots ≤ R.slots) (hS : va_S A0 H0 H locs) (hA : ∀ q, A q → A0 q)
    (kk : ∀ (H1 : Heap) (locs1 : List Loc), va_P D vwCl ws' H1 → va_S A0 H0 H1 locs1 → H.size ≤ H1.size → (∀ q : Nat, q < H.size → ¬ A q → H1[q]? = H[q]?) → W p l e R s m args below meth c H1 locs1 cells slots Q (F0 m (pc + 3) ls (.int v :: rest))) : W p l e R s m args below meth c H locs cells slots Q (F0 m pc ls st0) :=
  va_calli (va_runV S hM cw ⟨Pw.blind, va_recv hK hP hc he, Pw.at hP hK hN⟩ rfl hn hsize hstack (lv_room hW) hdg hf) hS (fun q _ h => hA q h) hA (fun r u t H1 locs1 ht _ hr hB hz hk hS1 => by rw [show r = v from hr]; rw [ht] at hB; exact kk H1 locs1 hB hS1 hz hk)
theorem callWV {ci N : Nat} {fs : List Value} {T : u_T} {A0 : Nat → Prop} (S : CallFix p m c cc nL s args Ts own) (hM : WoV l D cI cR A ws ws' y wds rm (.ref b :: As)) (cw : CallW R s args own C index y bytes maxL ret wds rm 0 0 n) (hK : va_K D vwCl (tysC cI cR) s) (hN : Nst s) (hP : va_P D vwCl ws H) (q0 : Nat) (he : ws[q0]? = some (b, .inr (ci, fs))) (hc : vwCl[ci]? = some (C, T, N)) (hn : As.length = n) (hsize : ls.size = nL) (hstack : st0 = As.reverse ++ .ref b :: rest) (hW : (rest.map fun v => v.category).sum ≤ 8) (hdg : decode cc pc = .ok (.invokevirtual index, 3)) (hf : cells ≤ R.cells ∧ slots ≤ R.slots) (hS : va_S A0 H0 H locs) (hA : ∀ q, A q → A0 q)
    (kk : ∀ (H1 : Heap) (locs1 : List Loc), va_P D vwCl ws' H1 → va_S A0 H0 H1 locs1 → W p l e R s m args below meth c H1 locs1 cells slots Q (F0 m (pc + 3) ls rest)) : W p l e R s m args below meth c H locs cells slots Q (F0 m pc ls st0) :=
  va_callv (va_runV S hM cw ⟨Pw.blind, va_recv hK hP hc he, Pw.at hP hK hN⟩ rfl hn hsize hstack (lv_room hW) hdg hf) hS (fun q _ h => hA q h) hA (fun u t H1 locs1 ht _ hr hB hz hk hS1 => by rw [ht] at hB; exact kk H1 locs1 hB hS1)
/-- calls of static methods -/
theorem callSE (S : CallFix p m c cc nL s args Ts own) (hM : RoE l D cI cR [] y wds rm As v) (cw : CallB R s args own index y bytes maxL ret wds rm 0 0 n ∧ (Cond.static y).before args s = true) (hK : va_K D vwCl (tysC cI cR) s) (hN : Nst s) (hn : As.length = n) (hsize : ls.size = nL) (hstack : st0 = As.reverse ++ rest) (hW : (rest.map fun v => v.category).sum ≤ 8) (hdg : decode cc pc = .ok (.invokestatic index, 3)) (hf : cells ≤ R.cells ∧ slots ≤ R.slots)
    (kk : W p l e R s m args below meth c H locs cells slots Q (F0 m (pc + 3) ls (.int v :: rest))) : W p l e R s m args below meth c H locs cells slots Q (F0 m pc ls st0) :=
  vp_callSi (va_Run.run (va_runS S hM cw ⟨Pw.blind, Pw.at nilP hK hN⟩ rfl hn hsize hstack (lv_room hW) hdg hf)) (fun r hr => by rw [show r = v from hr]; exact kk)
theorem callSB (S : CallFix p m c cc nL s args Ts own) (hM : RoB l D cI cR [] y wds rm As P) (cw : CallB R s args own index y bytes maxL ret wds rm 0 0 n ∧ (Cond.static y).before args s = true) (hK : va_K D vwCl (tysC cI cR) s) (hN : Nst s) (hn : As.length = n) (hsize : ls.size = nL) (hstack : st0 = As.reverse ++ rest) (hW : (rest.map fun v => v.category).sum ≤ 8) (hdg : decode cc pc = .ok (.invokestatic index, 3)) (hf : cells ≤ R.cells ∧ slots ≤ R.slots)
    (k1 : P → W p l e R s m args below meth c H locs cells slots Q (F0 m (pc + 3) ls (.int 1 :: rest))) (k0 : ¬ P → W p l e R s m args below meth c H locs cells slots Q (F0 m (pc + 3) ls (.int 0 :: rest))) : W p l e R s m args below meth c H locs cells slots Q (F0 m pc ls st0) :=
  vp_callSi (va_Run.run (va_runS S hM cw ⟨Pw.blind, Pw.at nilP hK hN⟩ rfl hn hsize hstack (lv_room hW) hdg hf)) (fun r hr => by
    rcases hr with ⟨e1, h⟩ | ⟨e1, h⟩ <;> rw [e1]
    · exact k1 h
    · exact k0 h)
/-- a static method of the nest's host -/
theorem callNE {host : String} (S : CallFix p m c cc nL s args Ts own) (hM : RoE l D cI cR [] y wds rm As v) (cw : va_CN R s args own index y host bytes maxL ret wds rm 0 0 n ∧ (Cond.static y).before args s = true ∧ True) (hK : va_K D vwCl (tysC cI cR) s) (hN : Nst s) (hn : As.length = n) (hsize : ls.size = nL) (hstack : st0 = As.reverse ++ rest) (hW : (rest.map fun v => v.category).sum ≤ 8) (hdg : decode cc pc = .ok (.invokestatic index, 3)) (hf : cells ≤ R.cells ∧ slots ≤ R.slots)
    (kk : W p l e R s m args below meth c H locs cells slots Q (F0 m (pc + 3) ls (.int v :: rest))) : W p l e R s m args below meth c H locs cells slots Q (F0 m pc ls st0) :=
  vp_callSi (va_Run.run (va_runSN S hM cw ⟨Pw.blind, Pw.at nilP hK hN⟩ rfl hn hsize hstack (lv_room hW) hdg hf)) (fun r hr => by rw [show r = v from hr]; exact kk)
/-- reads and writes -/
theorem xget {T : u_T} {N ci : Nat} {fs : List Value} {w : Value} (hx : p.tables.exec = Jvm.exec) (hb : c.code = cc) (hts : ∀ w ∈ Ts, w.before args s = true) (hin : ∀ w ∈ u_ws C T N, w ∈ Ts) (hown : s.vm.findClass own = some m.cls) (hK : va_K D vwCl (tysC cI cR) s) (hP : va_P D vwCl ws H) (q0 : Nat) (he : ws[q0]? = some (a, .inr (ci, fs))) (hc : vwCl[ci]? = some (C, T, N)) (k : Nat) (hk : k < N) (hlink : (Cond.fieldLink own index (T k).1 (T k).2.1 (T k).2.2.1).before args s = true) (hv : fs[k]? = some w) (hdg : decode cc pc = .ok (.getfield index, 3))
    (kk : W p l e R s m args below meth c H locs cells slots Q (F0 m (pc + 3) ls (w :: rest))) : W p l e R s m args below meth c H locs cells slots Q (F0 m pc ls (.ref a :: rest)) :=
  va_get hx hb hts hin hown hK hP q0 he hc k hk hlink (fun _ h9 => h9) hv hdg kk
theorem xput {T : u_T} {N ci : Nat} {fs : List Value} {A0 : Nat → Prop} (hx : p.tables.exec = Jvm.exec) (hb : c.code = cc) (hts : ∀ w ∈ Ts, w.before args s = true) (hin : ∀ w ∈ u_ws C T N, w ∈ Ts) (ty0 : Nat → FieldType) (hty : ∀ k, k < N → parseFieldDescriptor (T k).2.2.1 = some (ty0 k)) (hnm : ∀ a, a < N → ∀ b, b < N → a ≠ b → (T a).2.1 ≠ (T b).2.1) (hown : s.vm.findClass own = some m.cls) (hK : va_K D vwCl (tysC cI cR) s) (hP : va_P D vwCl ws H) (hD : va_D A0 ws) (hS : va_S A0 H0 H locs) (q0 : Nat) (he : ws[q0]? = some (a, .inr (ci, fs))) (hc : vwCl[ci]? = some (C, T, N)) (k : Nat) (hk : k < N) (hlink : (Cond.fieldLink own index (T k).1 (T k).2.1 (T k).2.2.1).before args s = true) (hfin : (T k).2.2.2 = false) (hd : parseFieldDescriptor (T k).2.2.1 = some .int) (hl : k < fs.length) (hset : ws.set q0 (a, .inr (ci, fs.set k (.int x))) = ws') (hdg : decode cc pc = .ok (.putfield index, 3))
    (kk : ∀ (H1 : Heap) (locs1 : List Loc), va_P D vwCl ws' H1 → va_S A0 H0 H1 locs1 → W p l e R s m args below meth c H1 locs1 cells slots Q (F0 m (pc + 3) ls rest)) : W p l e R s m args below meth c H locs cells slots Q (F0 m pc ls (.int x :: .ref a :: rest)) :=
  va_put hx hb hts hin ty0 hty hnm hown hK hP hD hS q0 he hc k hk hlink (fun _ h9 => h9) hfin hd rfl rfl hl hdg (fun H1 locs1 h1 _ h3 => kk H1 locs1 (by rw [← hset]; exact h1) h3)
theorem xald {k : Nat} {f : Nat → Int32} {i : Int32} (hx : p.tables.exec = Jvm.exec) (hb : c.code = cc) (hK : va_K D vwCl (tysC cI cR) s) (hP : va_P D vwCl ws H) (q0 : Nat) (ha : ws[q0]? = some (a, .inl (cI, k, .inl f))) (hin : vp_in i k) (hv : f i.toNatClampNeg = x) (hdg : decode cc pc = .ok (.iaload, 1))
    (kk : W p l e R s m args below meth c H locs cells slots Q (F0 m (pc + 1) ls (.int x :: rest))) : W p l e R s m args below meth c H locs cells slots Q (F0 m pc ls (.int i :: .ref a :: rest)) :=
  va_iald hx hb hK hP q0 0 ha rfl hin hdg (by rw [hv]; exact kk)
theorem xast {k : Nat} {f : Nat → Int32} {i : Int32} {A0 : Nat → Prop} (hx : p.tables.exec = Jvm.exec) (hb : c.code = cc) (hK : va_K D vwCl (tysC cI cR) s) (hP : va_P D vwCl ws H) (hD : va_D A0 ws) (hS : va_S A0 H0 H locs) (q0 : Nat) (ha : ws[q0]? = some (a, .inl (cI, k, .inl f))) (hin : vp_in i k) (hset : ws.set q0 (a, .inl (cI, k, .inl (upd f i.toNatClampNeg x))) = ws') (hdg : decode cc pc = .ok (.iastore, 1))
    (kk : ∀ (H1 : Heap) (locs1 : List Loc), va_P D vwCl ws' H1 → va_S A0 H0 H1 locs1 → W p l e R s m args below meth c H1 locs1 cells slots Q (F0 m (pc + 1) ls rest)) : W p l e R s m args below meth c H locs cells slots Q (F0 m pc ls (.int x :: .int i :: .ref a :: rest)) :=
  va_iast hx hb hK hP hD hS q0 0 ha rfl hin hdg (fun H1 locs1 h1 _ h3 => kk H1 locs1 (by rw [← hset]; exact h1) h3)
end
end
section
/-! THE BOOK's numbers: what a head is, its free money, who is barred, who is within whom .. as functions of a book r; the class and the reference are both held against them. -/
noncomputable def ci {α : Type} (P : Prop) (a b : α) : α := @ite _ P (Classical.propDecidable P) a b
theorem ci_t {α : Type} {P : Prop} {a b : α} (h : P) : ci P a b = a := by simp [ci, h]
theorem ci_f {α : Type} {P : Prop} {a b : α} (h : ¬ P) : ci P a b = b := by simp [ci, h]
theorem ci_T {α : Type} {a b : α} : ci True a b = a := ci_t trivial
theorem ci_F {α : Type} {a b : α} : ci False a b = b := ci_f not_false
def hin (h : Int32) : Prop := 0 ≤ h.toInt ∧ h.toInt < 20
def cin (c : Int32) : Prop := 0 ≤ c.toInt ∧ c.toInt < 40
def p_has (r : Bk) (h : Int32) : Prop := 0 ≤ h.toInt ∧ h.toInt < (r 14 1).toInt ∧ h.toInt < 20
def p_hasC (r : Bk) (c : Int32) : Prop := 0 ≤ c.toInt ∧ c.toInt < (r 14 2).toInt ∧ c.toInt < 40
theorem hin_has {r : Bk} {h : Int32} (p : p_has r h) : hin h := ⟨p.1, p.2.2⟩
theorem cin_has {r : Bk} {c : Int32} (p : p_hasC r c) : cin c := ⟨p.1, p.2.2⟩
theorem in20 {h : Int32} (p : hin h) : vp_in h 20 := vp_in_iff.mpr ⟨p.1, by have := p.2; omega⟩
theorem in40 {c : Int32} (p : cin c) : vp_in c 40 := vp_in_iff.mpr ⟨p.1, by have := p.2; omega⟩
theorem in20h {r : Bk} {h : Int32} (p : p_has r h) : vp_in h 20 := in20 (hin_has p)
theorem in40h {r : Bk} {h : Int32} (p : p_hasC r h) : vp_in h 40 := in40 (cin_has p)
theorem i3_lt {a b : Int32} : a < b ↔ a.toInt < b.toInt := Int32.lt_iff_toInt_lt
theorem i3_le {a b : Int32} : a ≤ b ↔ a.toInt ≤ b.toInt := Int32.le_iff_toInt_le
theorem i3_eq {a b : Int32} : a = b ↔ a.toInt = b.toInt := Int32.toInt_inj.symm
theorem t_0 : (0 : Int32).toInt = 0 := by decide
theorem t_1 : (1 : Int32).toInt = 1 := by decide
theorem t_2 : (2 : Int32).toInt = 2 := by decide
theorem t_4 : (4 : Int32).toInt = 4 := by decide
theorem t_9 : (9 : Int32).toInt = 9 := by decide
theorem t_m9 : (-9 : Int32).toInt = -9 := by decide
theorem t_12 : (12 : Int32).toInt = 12 := by decide
theorem t_20 : (20 : Int32).toInt = 20 := by decide
theorem t_40 : (40 : Int32).toInt = 40 := by decide
theorem t_99 : (99 : Int32).toInt = 99 := by decide
theorem t_100 : (100 : Int32).toInt = 100 := by decide
theorem t_h : (100000 : Int32).toInt = 100000 := by decide
theorem t_m : (1000000 : Int32).toInt = 1000000 := by decide
def p_amt (a : Int32) : Prop := 1 ≤ a.toInt ∧ a.toInt ≤ 100000
def p_pct (v : Int32) : Prop := 0 ≤ v.toInt ∧ v.toInt ≤ 100
noncomputable def p_free (r : Bk) (h : Int32) : Int32 := ci (p_has r h) (qv r 3 h - qv r 4 h - qv r 5 h) 0
def p_bar (r : Bk) : Nat → Int32 → Prop
  | 0, _ => False
  | n + 1, h => p_has r h ∧ (qv r 2 h = 1 ∨ p_bar r n (qv r 0 h))
def p_wit (r : Bk) : Nat → Int32 → Int32 → Prop
  | 0, _, _ => False
  | n + 1, h, top => p_has r h ∧ (h = top ∨ p_wit r n (qv r 0 h) top)
def sumI (f : Nat → Int32) : Nat → Int32
  | 0 => 0
  | n + 1 => sumI f n + f n
def p_part (a b : Int32) : Int32 := (a.toInt64 * b.toInt64 / 100).toInt32
noncomputable def p_cntb (r : Bk) (n : Nat) : Int32 := sumI (fun h => ci (p_bar r 5 (nI h)) 1 0) n
noncomputable def p_smd (r : Bk) (h w : Int32) : Int32 := ci (p_has r h) (ci (w = 0) (qv r 3 h) (ci (w = 1) (qv r 4 h) (ci (w = 2) (qv r 5 h) (ci (w = 3) (p_free r h) 1)))) 0
noncomputable def p_sum (r : Bk) (top w : Int32) (n : Nat) : Int32 := sumI (fun h => ci (p_wit r 5 (nI h) top) (p_smd r (nI h) w) 0) n
def p_lv (r : Bk) (h : Int32) : Int32 := p_part (qv r 6 h) (qv r 8 h) - qv r 7 h
def p_may (r : Bk) (a b : Int32) : Prop := p_has r a ∧ p_has r b ∧ a ≠ b ∧ ¬ p_bar r 5 a ∧ ¬ p_bar r 5 b ∧ (p_wit r 5 a b ∨ p_wit r 5 b a ∨ qv r 0 a = qv r 0 b ∨ qv r 1 a ≤ qv r 1 b)
def i3min (x y : Int32) : Int32 := if y < x then y else x
def i3max (x y : Int32) : Int32 := if x < y then y else x
noncomputable def p_mov (r : Bk) (a b : Int32) : Int32 := ci (p_may r a b) (i3max 0 (i3min 100000 (i3min (p_free r a) (p_lv r a)))) 0
noncomputable def p_lapse (r : Bk) (top p : Int32) (n : Nat) : Int32 := sumI (fun h => ci (p_wit r 5 (nI h) top) (p_free r (nI h) - p_part (p_free r (nI h)) p) 0) n
def p_rich (r : Bk) (a b : Int32) : Prop := p_has r a ∧ p_has r b ∧ a ≠ b ∧ (p_free r b < p_free r a ∨ (p_free r a = p_free r b ∧ (qv r 1 b < qv r 1 a ∨ (qv r 1 a = qv r 1 b ∧ a < b))))
noncomputable def p_ahead (r : Bk) (h top : Int32) (n : Nat) : Int32 := sumI (fun k => ci (nI k ≠ top ∧ p_wit r 5 (nI k) top ∧ p_rich r (nI k) h) 1 0) n
/-- the first n heads looked through for a place: the head found, or NONE -/
noncomputable def p_place (r : Bk) (top w : Int32) : Nat → Int32
  | 0 => -9
  | n + 1 => ci (p_place r top w n ≠ -9) (p_place r top w n) (ci (nI n ≠ top ∧ p_wit r 5 (nI n) top ∧ p_ahead r (nI n) top 20 = w) (nI n) (-9))
/-- the first n heads looked through for the best giver: the head, and how much -/
noncomputable def p_best (r : Bk) (b : Int32) : Nat → Int32 × Int32
  | 0 => (-9, 0)
  | n + 1 => ci ((p_best r b n).2 < p_mov r (nI n) b ∨ (p_mov r (nI n) b = (p_best r b n).2 ∧ p_has r (p_best r b n).1 ∧ qv r 1 (p_best r b n).1 < qv r 1 (nI n))) (nI n, p_mov r (nI n) b) (p_best r b n)
noncomputable def p_open (r : Bk) (n : Nat) : Int32 := sumI (fun c => ci (0 < r 11 c) 1 0) n
theorem sumI_ci {P : Prop} {f : Nat → Int32} {k : Nat} {x : Int32} (h : P) (e : f k = ci P x 0) : sumI f (k + 1) = sumI f k + x := by
  show sumI f k + f k = _
  rw [e, ci_t h]
theorem sumI_c0 {P : Prop} {f : Nat → Int32} {k : Nat} {x : Int32} (h : ¬ P) (e : f k = ci P x 0) : sumI f (k + 1) = sumI f k := by
  show sumI f k + f k = _
  rw [e, ci_f h]
  exact Int32.add_zero _
theorem nI_t {k : Nat} (h : k ≤ 40) : (nI k).toInt = k := nI_toInt (by omega)
theorem nI_lt20 {k : Nat} (h : k ≤ 40) (c : ¬ (20 : Int32) ≤ nI k) : k < 20 := by
  rw [i3_le, nI_t h, t_20] at c
  omega
theorem nI_ge20 {k : Nat} (h : k ≤ 20) (c : (20 : Int32) ≤ nI k) : k = 20 := by
  rw [i3_le, nI_t (by omega), t_20] at c
  omega
theorem nI_lt40 {k : Nat} (h : k ≤ 40) (c : ¬ (40 : Int32) ≤ nI k) : k < 40 := by
  rw [i3_le, nI_t h, t_40] at c
  omega
theorem nI_ge40 {k : Nat} (h : k ≤ 40) (c : (40 : Int32) ≤ nI k) : k = 40 := by
  rw [i3_le, nI_t h, t_40] at c
  omega
theorem nI_hin {k : Nat} (h : k < 20) : hin (nI k) := ⟨by rw [nI_t (by omega)]; omega, by rw [nI_t (by omega)]; omega⟩
theorem nI_cin {k : Nat} (h : k < 40) : cin (nI k) := ⟨by rw [nI_t (by omega)]; omega, by rw [nI_t (by omega)]; omega⟩
theorem nI_c {k : Nat} (h : k ≤ 40) : (nI k).toNatClampNeg = k := nI_clamp (by omega)
theorem place_no {r : Bk} {t w : Int32} {k : Nat} (e : p_place r t w k = -9) (h : ¬ (nI k ≠ t ∧ p_wit r 5 (nI k) t ∧ p_ahead r (nI k) t 20 = w)) : p_place r t w (k + 1) = -9 := by
  show ci _ _ _ = _
  rw [ci_f (fun q => q e), ci_f h]
theorem nI_ne9 {k : Nat} (h : k < 20) : nI k ≠ -9 := by
  intro e
  have := i3_eq.mp e
  rw [nI_t (by omega), t_m9] at this
  omega
theorem place_yes {r : Bk} {t w : Int32} {k : Nat} (e : p_place r t w k = -9) (h : nI k ≠ t ∧ p_wit r 5 (nI k) t ∧ p_ahead r (nI k) t 20 = w) (hk : k < 20) : p_place r t w 20 = nI k := by
  have h1 : p_place r t w (k + 1) = nI k := by
    show ci _ _ _ = _
    rw [ci_f (fun q => q e), ci_t h]
  have h2 : ∀ j, p_place r t w (k + 1 + j) = nI k := by
    intro j
    induction j with
    | zero => exact h1
    | succ j ih =>
      show ci (p_place r t w (k + 1 + j) ≠ -9) (p_place r t w (k + 1 + j)) _ = _
      rw [ih, ci_t (nI_ne9 hk)]
  have := h2 (19 - k)
  rwa [show k + 1 + (19 - k) = 20 by omega] at this
theorem best_yes {r : Bk} {t b m xk : Int32} {k : Nat} (e : p_best r t k = (b, m)) (ek : xk = nI k) (h : m < p_mov r xk t ∨ (p_mov r xk t = m ∧ p_has r b ∧ qv r 1 b < qv r 1 xk)) : p_best r t (k + 1) = (xk, p_mov r xk t) := by
  subst ek
  show ci _ _ _ = _
  rw [e, ci_t h]
theorem best_no {r : Bk} {t b m xk : Int32} {k : Nat} (e : p_best r t k = (b, m)) (ek : xk = nI k) (h : ¬ (m < p_mov r xk t ∨ (p_mov r xk t = m ∧ p_has r b ∧ qv r 1 b < qv r 1 xk))) : p_best r t (k + 1) = (b, m) := by
  subst ek
  show ci _ _ _ = _
  rw [e, ci_f h]
noncomputable def p_fm (a q : Int32) : Int32 := ci (0 ≤ a ^^^ q) (a - a / q * q) (ci (a - a / q * q = 0) (a - a / q * q) (a - a / q * q + q))
end
section
set_option maxHeartbeats 4000000 in
set_option maxRecDepth 100000 in
theorem c_X5_isAmount {l : Launch} {D : va_G} {cI cR : ClassId} (a : Int32) : RoB l D cI cR ([]) yX5_isAmount wsX5_isAmount ({ frames := 0, cells := 0, slots := 0, locals := 0 } : Room) [.int a] (p_amt a) := by
  refine OfW (cc := cX5_isAmount) (maxL := 1) (ret := (some .boolean)) (by decide +kernel) rfl (Nat.le_of_ble_eq_true rfl) (fun p e s m below meth c hx hb hr hts hown hlocks hml hnm hP hK hN ls hl => ?_)
  have hl : lv_has ls 1 [(0, .int a)] := hl
  refine lv_iload_n hx hb dX5_isAmount_0 rfl (lv_at hl 0 rfl) ?_
  refine lv_iconst (v := 1) hx hb dX5_isAmount_1 (by decide) ?_
  refine lv_icmp_lt (tgt := 15) hx hb dX5_isAmount_2 (by decide) (fun c_2 => ?_) (fun c_2 => ?_)
  · refine lv_iconst (v := 0) hx hb dX5_isAmount_15 (by decide) ?_
    exact retB0 hx hb hr hlocks dX5_isAmount_16 (by simp only [i3_lt, i3_le, t_0, t_1, t_9, t_20, t_40, t_100, t_h, t_m] at c_2; intro q; have q1 := q.1; have q2 := q.2; omega)
  · refine lv_iload_n hx hb dX5_isAmount_5 rfl (lv_at hl 0 rfl) ?_
    refine lv_ldc (v := 100000) hx hb hown (hts (.constant RX5 222 100000) (by decide +kernel)) dX5_isAmount_6 ?_
    refine lv_icmp_gt (tgt := 15) hx hb dX5_isAmount_8 (by decide) (fun c_8 => ?_) (fun c_8 => ?_)
    · refine lv_iconst (v := 0) hx hb dX5_isAmount_15 (by decide) ?_
      exact retB0 hx hb hr hlocks dX5_isAmount_16 (by simp only [i3_lt, i3_le, t_0, t_1, t_9, t_20, t_40, t_100, t_h, t_m] at c_2 c_8; intro q; have q1 := q.1; have q2 := q.2; omega)
    · refine lv_iconst (v := 1) hx hb dX5_isAmount_11 (by decide) ?_
      refine lv_goto (tgt := 16) hx hb dX5_isAmount_12 (by decide) ?_
      exact retB1 hx hb hr hlocks dX5_isAmount_16 (by simp only [i3_lt, i3_le, t_0, t_1, t_9, t_20, t_40, t_100, t_h, t_m] at c_2 c_8; exact ⟨by omega, by omega⟩)
set_option maxHeartbeats 4000000 in
set_option maxRecDepth 100000 in
theorem c_X5_isPercentage {l : Launch} {D : va_G} {cI cR : ClassId} (a : Int32) : RoB l D cI cR ([]) yX5_isPercentage wsX5_isPercentage ({ frames := 0, cells := 0, slots := 0, locals := 0 } : Room) [.int a] (p_pct a) := by
  refine OfW (cc := cX5_isPercentage) (maxL := 1) (ret := (some .boolean)) (by decide +kernel) rfl (Nat.le_of_ble_eq_true rfl) (fun p e s m below meth c hx hb hr hts hown hlocks hml hnm hP hK hN ls hl => ?_)
  have hl : lv_has ls 1 [(0, .int a)] := hl
  refine lv_iload_n hx hb dX5_isPercentage_0 rfl (lv_at hl 0 rfl) ?_
  refine lv_if_lt (tgt := 14) hx hb dX5_isPercentage_1 (by decide) (fun c_1 => ?_) (fun c_1 => ?_)
  · refine lv_iconst (v := 0) hx hb dX5_isPercentage_14 (by decide) ?_
    exact retB0 hx hb hr hlocks dX5_isPercentage_15 (by simp only [i3_lt, i3_le, t_0, t_1, t_9, t_20, t_40, t_100, t_h, t_m] at c_1; intro q; have q1 := q.1; have q2 := q.2; omega)
  · refine lv_iload_n hx hb dX5_isPercentage_4 rfl (lv_at hl 0 rfl) ?_
    refine lv_bipush (v := 100) hx hb dX5_isPercentage_5 (by decide) ?_
    refine lv_icmp_gt (tgt := 14) hx hb dX5_isPercentage_7 (by decide) (fun c_7 => ?_) (fun c_7 => ?_)
    · refine lv_iconst (v := 0) hx hb dX5_isPercentage_14 (by decide) ?_
      exact retB0 hx hb hr hlocks dX5_isPercentage_15 (by simp only [i3_lt, i3_le, t_0, t_1, t_9, t_20, t_40, t_100, t_h, t_m] at c_1 c_7; intro q; have q1 := q.1; have q2 := q.2; omega)
    · refine lv_iconst (v := 1) hx hb dX5_isPercentage_10 (by decide) ?_
      refine lv_goto (tgt := 15) hx hb dX5_isPercentage_11 (by decide) ?_
      exact retB1 hx hb hr hlocks dX5_isPercentage_15 (by simp only [i3_lt, i3_le, t_0, t_1, t_9, t_20, t_40, t_100, t_h, t_m] at c_1 c_7; exact ⟨by omega, by omega⟩)
set_option maxHeartbeats 4000000 in
set_option maxRecDepth 100000 in
theorem c_X5_partOf {l : Launch} {D : va_G} {cI cR : ClassId} (a : Int32) (q : Int32) : RoE l D cI cR ([]) yX5_partOf wsX5_partOf ({ frames := 0, cells := 0, slots := 0, locals := 0 } : Room) [.int a, .int q] (p_part a q) := by
  refine OfW (cc := cX5_partOf) (maxL := 2) (ret := (some .int)) (by decide +kernel) rfl (Nat.le_of_ble_eq_true rfl) (fun p e s m below meth c hx hb hr hts hown hlocks hml hnm hP hK hN ls hl => ?_)
  have hl : lv_has ls 2 [(0, .int a), (1, .int q)] := hl
  refine lv_iload_n hx hb dX5_partOf_0 rfl (lv_at hl 0 rfl) ?_
  refine lv_i2l (v := a.toInt64) hx hb dX5_partOf_1 rfl ?_
  refine lv_iload_n hx hb dX5_partOf_2 rfl (lv_at hl 1 rfl) ?_
  refine lv_i2l (v := q.toInt64) hx hb dX5_partOf_3 rfl ?_
  refine lv_lmul hx hb dX5_partOf_4 ?_
  refine lv_ldc2 (v := 100) hx hb hown (hts (.constantLong RX5 223 100) (by decide +kernel)) dX5_partOf_5 ?_
  refine lv_ldiv hx hb dX5_partOf_8 (by decide) ?_
  refine lv_l2i (v := ((a.toInt64 * q.toInt64) / 100).toInt32) hx hb dX5_partOf_9 rfl ?_
  exact retE hx hb hr hlocks dX5_partOf_10 rfl
set_option maxHeartbeats 4000000 in
set_option maxRecDepth 100000 in
theorem c_J9_floorMod_7cf53 {l : Launch} {D : va_G} {cI cR : ClassId} (a : Int32) (q : Int32) (hq : ¬ q = 0) : RoE l D cI cR ([]) yJ9_floorMod_7cf53 wsJ9_floorMod_7cf53 ({ frames := 0, cells := 0, slots := 0, locals := 0 } : Room) [.int a, .int q] (p_fm a q) := by
  refine OfWF (cc := cJ9_floorMod_7cf53) (maxL := 3) (ret := (some .int)) (by decide +kernel) rfl (Nat.le_of_ble_eq_true rfl) (fun p e s m below meth c hx hb hr hts hown hlocks hml hnm hP hK hN ls hl => ?_)
  have hl : lv_has ls 3 [(0, .int a), (1, .int q)] := hl
  refine lv_iload_n hx hb dJ9_floorMod_7cf53_0 rfl (lv_at hl 0 rfl) ?_
  refine lv_iload_n hx hb dJ9_floorMod_7cf53_1 rfl (lv_at hl 1 rfl) ?_
  refine lv_irem hx hb dJ9_floorMod_7cf53_2 hq ?_
  refine lv_istore_n (lv' := [(2, .int (a - a / q * q)), (0, .int a), (1, .int q)]) hx hb dJ9_floorMod_7cf53_3 rfl hl (by decide) rfl (fun ls hl => ?_)
  refine lv_iload_n hx hb dJ9_floorMod_7cf53_4 rfl (lv_at hl 1 rfl) ?_
  refine lv_iload_n hx hb dJ9_floorMod_7cf53_5 rfl (lv_at hl 2 rfl) ?_
  refine lv_ixor hx hb dJ9_floorMod_7cf53_6 ?_
  refine lv_if_ge (tgt := 18) hx hb dJ9_floorMod_7cf53_7 (by decide) (fun c_7 => ?_) (fun c_7 => ?_)
  · refine lv_iload_n hx hb dJ9_floorMod_7cf53_18 rfl (lv_at hl 0 rfl) ?_
    exact retE hx hb hr hlocks dJ9_floorMod_7cf53_19 (by first | rfl | (unfold p_fm; repeat (first | rw [ci_t c_7] | rw [ci_f c_7])))
  · refine lv_iload_n hx hb dJ9_floorMod_7cf53_10 rfl (lv_at hl 0 rfl) ?_
    refine lv_if_eq (tgt := 18) hx hb dJ9_floorMod_7cf53_11 (by decide) (fun c_11 => ?_) (fun c_11 => ?_)
    · refine lv_iload_n hx hb dJ9_floorMod_7cf53_18 rfl (lv_at hl 0 rfl) ?_
      exact retE hx hb hr hlocks dJ9_floorMod_7cf53_19 (by first | rfl | (unfold p_fm; repeat (first | rw [ci_t c_7] | rw [ci_f c_7] | rw [ci_t c_11] | rw [ci_f c_11])))
    · refine lv_iload_n hx hb dJ9_floorMod_7cf53_14 rfl (lv_at hl 0 rfl) ?_
      refine lv_iload_n hx hb dJ9_floorMod_7cf53_15 rfl (lv_at hl 2 rfl) ?_
      refine lv_iadd hx hb dJ9_floorMod_7cf53_16 ?_
      exact retE hx hb hr hlocks dJ9_floorMod_7cf53_17 (by first | rfl | (unfold p_fm; repeat (first | rw [ci_t c_7] | rw [ci_f c_7] | rw [ci_t c_11] | rw [ci_f c_11])))
set_option maxHeartbeats 4000000 in
set_option maxRecDepth 100000 in
theorem c_X3_has {l : Launch} {D : va_G} {cI cR : ClassId} {ad : Nat → Nat} (X : St) (h : Int32) : RoB l D cI cR (wC cI cR ad X) yX3_has wsX3_has ({ frames := 0, cells := 0, slots := 0, locals := 0 } : Room) [.ref (ad 1), .int h] (p_has (X 0) h) := by
  refine OfW (cc := cX3_has) (maxL := 2) (ret := (some .boolean)) (by decide +kernel) rfl (Nat.le_of_ble_eq_true rfl) (fun p e s m below meth c hx hb hr hts hown hlocks hml hnm hP hK hN ls hl => ?_)
  have hl : lv_has ls 2 [(0, .ref (ad 1)), (1, .int h)] := hl
  have lk_48 := hts (.fieldLink RX3 48 "HeadBudgets$Heads" "made" "I") (by decide +kernel)
  have hi_X3 : ∀ w ∈ wsX30, w ∈ wsX3_has := by decide +kernel
  refine lv_iload_n hx hb dX3_has_0 rfl (lv_at hl 1 rfl) ?_
  refine lv_if_lt (tgt := 22) hx hb dX3_has_1 (by decide) (fun c_1 => ?_) (fun c_1 => ?_)
  · refine lv_iconst (v := 0) hx hb dX3_has_22 (by decide) ?_
    exact retB0 hx hb hr hlocks dX3_has_23 (by simp only [i3_lt, i3_le, t_0, t_1, t_9, t_20, t_40, t_100, t_h, t_m] at c_1; intro q; have q1 := q.1; have q2 := q.2.1; have q3 := q.2.2; omega)
  · refine lv_iload_n hx hb dX3_has_4 rfl (lv_at hl 1 rfl) ?_
    refine lv_aload_n hx hb dX3_has_5 rfl (lv_at hl 0 rfl) ?_
    refine xget (C := RX3) (T := TX3) (N := 11) (ci := 3) (w := .int (X 0 14 1)) hx hb hts hi_X3 hown hK hP 1 g0_1 rfl 10 (by decide) lk_48 rfl dX3_has_6 ?_
    refine lv_icmp_ge (tgt := 22) hx hb dX3_has_9 (by decide) (fun c_9 => ?_) (fun c_9 => ?_)
    · refine lv_iconst (v := 0) hx hb dX3_has_22 (by decide) ?_
      exact retB0 hx hb hr hlocks dX3_has_23 (by simp only [i3_lt, i3_le, t_0, t_1, t_9, t_20, t_40, t_100, t_h, t_m] at c_1 c_9; intro q; have q1 := q.1; have q2 := q.2.1; have q3 := q.2.2; omega)
    · refine lv_iload_n hx hb dX3_has_12 rfl (lv_at hl 1 rfl) ?_
      refine lv_bipush (v := 20) hx hb dX3_has_13 (by decide) ?_
      refine lv_icmp_ge (tgt := 22) hx hb dX3_has_15 (by decide) (fun c_15 => ?_) (fun c_15 => ?_)
      · refine lv_iconst (v := 0) hx hb dX3_has_22 (by decide) ?_
        exact retB0 hx hb hr hlocks dX3_has_23 (by simp only [i3_lt, i3_le, t_0, t_1, t_9, t_20, t_40, t_100, t_h, t_m] at c_1 c_9 c_15; intro q; have q1 := q.1; have q2 := q.2.1; have q3 := q.2.2; omega)
      · refine lv_iconst (v := 1) hx hb dX3_has_18 (by decide) ?_
        refine lv_goto (tgt := 23) hx hb dX3_has_19 (by decide) ?_
        exact retB1 hx hb hr hlocks dX3_has_23 (by simp only [i3_lt, i3_le, t_0, t_1, t_9, t_20, t_40, t_100, t_h, t_m] at c_1 c_9 c_15; exact ⟨by omega, by omega, by omega⟩)
set_option maxHeartbeats 4000000 in
set_option maxRecDepth 100000 in
theorem c_X1_has {l : Launch} {D : va_G} {cI cR : ClassId} {ad : Nat → Nat} (X : St) (h : Int32) : RoB l D cI cR (wC cI cR ad X) yX1_has wsX1_has ({ frames := 0, cells := 0, slots := 0, locals := 0 } : Room) [.ref (ad 12), .int h] (p_hasC (X 0) h) := by
  refine OfW (cc := cX1_has) (maxL := 2) (ret := (some .boolean)) (by decide +kernel) rfl (Nat.le_of_ble_eq_true rfl) (fun p e s m below meth c hx hb hr hts hown hlocks hml hnm hP hK hN ls hl => ?_)
  have hl : lv_has ls 2 [(0, .ref (ad 12)), (1, .int h)] := hl
  have lk_30 := hts (.fieldLink RX1 30 "HeadBudgets$Commitments" "made" "I") (by decide +kernel)
  have hi_X1 : ∀ w ∈ wsX10, w ∈ wsX1_has := by decide +kernel
  refine lv_iload_n hx hb dX1_has_0 rfl (lv_at hl 1 rfl) ?_
  refine lv_if_lt (tgt := 22) hx hb dX1_has_1 (by decide) (fun c_1 => ?_) (fun c_1 => ?_)
  · refine lv_iconst (v := 0) hx hb dX1_has_22 (by decide) ?_
    exact retB0 hx hb hr hlocks dX1_has_23 (by simp only [i3_lt, i3_le, t_0, t_1, t_9, t_20, t_40, t_100, t_h, t_m] at c_1; intro q; have q1 := q.1; have q2 := q.2.1; have q3 := q.2.2; omega)
  · refine lv_iload_n hx hb dX1_has_4 rfl (lv_at hl 1 rfl) ?_
    refine lv_aload_n hx hb dX1_has_5 rfl (lv_at hl 0 rfl) ?_
    refine xget (C := RX1) (T := TX1) (N := 5) (ci := 1) (w := .int (X 0 14 2)) hx hb hts hi_X1 hown hK hP 12 g0_12 rfl 4 (by decide) lk_30 rfl dX1_has_6 ?_
    refine lv_icmp_ge (tgt := 22) hx hb dX1_has_9 (by decide) (fun c_9 => ?_) (fun c_9 => ?_)
    · refine lv_iconst (v := 0) hx hb dX1_has_22 (by decide) ?_
      exact retB0 hx hb hr hlocks dX1_has_23 (by simp only [i3_lt, i3_le, t_0, t_1, t_9, t_20, t_40, t_100, t_h, t_m] at c_1 c_9; intro q; have q1 := q.1; have q2 := q.2.1; have q3 := q.2.2; omega)
    · refine lv_iload_n hx hb dX1_has_12 rfl (lv_at hl 1 rfl) ?_
      refine lv_bipush (v := 40) hx hb dX1_has_13 (by decide) ?_
      refine lv_icmp_ge (tgt := 22) hx hb dX1_has_15 (by decide) (fun c_15 => ?_) (fun c_15 => ?_)
      · refine lv_iconst (v := 0) hx hb dX1_has_22 (by decide) ?_
        exact retB0 hx hb hr hlocks dX1_has_23 (by simp only [i3_lt, i3_le, t_0, t_1, t_9, t_20, t_40, t_100, t_h, t_m] at c_1 c_9 c_15; intro q; have q1 := q.1; have q2 := q.2.1; have q3 := q.2.2; omega)
      · refine lv_iconst (v := 1) hx hb dX1_has_18 (by decide) ?_
        refine lv_goto (tgt := 23) hx hb dX1_has_19 (by decide) ?_
        exact retB1 hx hb hr hlocks dX1_has_23 (by simp only [i3_lt, i3_le, t_0, t_1, t_9, t_20, t_40, t_100, t_h, t_m] at c_1 c_9 c_15; exact ⟨by omega, by omega, by omega⟩)
set_option maxHeartbeats 4000000 in
set_option maxRecDepth 100000 in
theorem c_X3_hasBoth {l : Launch} {D : va_G} {cI cR : ClassId} {ad : Nat → Nat} (X : St) (h : Int32) (k : Int32) : RoB l D cI cR (wC cI cR ad X) yX3_hasBoth wsX3_hasBoth ({ frames := 1, cells := 0, slots := 0, locals := 21 } : Room) [.ref (ad 1), .int h, .int k] (p_has (X 0) h ∧ p_has (X 0) k ∧ h ≠ k) := by
  refine OfW (cc := cX3_hasBoth) (maxL := 3) (ret := (some .boolean)) (by decide +kernel) rfl (Nat.le_of_ble_eq_true rfl) (fun p e s m below meth c hx hb hr hts hown hlocks hml hnm hP hK hN ls hl => ?_)
  have hl : lv_has ls 3 [(0, .ref (ad 1)), (1, .int h), (2, .int k)] := hl
  refine lv_aload_n hx hb dX3_hasBoth_0 rfl (lv_at hl 0 rfl) ?_
  refine lv_iload_n hx hb dX3_hasBoth_1 rfl (lv_at hl 1 rfl) ?_
  refine callB (As := [.int h]) (rest := []) ⟨hx, hb, hml, hown, hts⟩ (c_X3_has X h) (cwV 1 hts gX3_hasBoth_X3_has rfl rfl rfl (by decide +kernel) ⟨Nat.le_of_ble_eq_true rfl, Nat.le_of_ble_eq_true rfl⟩) hK hN hP 1 g0_1 rfl rfl hl.1 rfl (Nat.le_of_ble_eq_true rfl) dX3_hasBoth_2 ⟨Nat.zero_le _, Nat.zero_le _⟩ (fun c_2 => ?_) (fun c_2 => ?_)
  · refine lv_if_eq (tgt := 25) hx hb dX3_hasBoth_5 (by decide) (fun h9 => absurd h9 (by decide)) (fun _ => ?_)
    refine lv_aload_n hx hb dX3_hasBoth_8 rfl (lv_at hl 0 rfl) ?_
    refine lv_iload_n hx hb dX3_hasBoth_9 rfl (lv_at hl 2 rfl) ?_
    refine callB (As := [.int k]) (rest := []) ⟨hx, hb, hml, hown, hts⟩ (c_X3_has X k) (cwV 1 hts gX3_hasBoth_X3_has rfl rfl rfl (by decide +kernel) ⟨Nat.le_of_ble_eq_true rfl, Nat.le_of_ble_eq_true rfl⟩) hK hN hP 1 g0_1 rfl rfl hl.1 rfl (Nat.le_of_ble_eq_true rfl) dX3_hasBoth_10 ⟨Nat.zero_le _, Nat.zero_le _⟩ (fun c_10 => ?_) (fun c_10 => ?_)
    · refine lv_if_eq (tgt := 25) hx hb dX3_hasBoth_13 (by decide) (fun h9 => absurd h9 (by decide)) (fun _ => ?_)
      refine lv_iload_n hx hb dX3_hasBoth_16 rfl (lv_at hl 1 rfl) ?_
      refine lv_iload_n hx hb dX3_hasBoth_17 rfl (lv_at hl 2 rfl) ?_
      refine lv_icmp_eq (tgt := 25) hx hb dX3_hasBoth_18 (by decide) (fun c_18 => ?_) (fun c_18 => ?_)
      · refine lv_iconst (v := 0) hx hb dX3_hasBoth_25 (by decide) ?_
        exact retB0 hx hb hr hlocks dX3_hasBoth_26 (by grind)
      · refine lv_iconst (v := 1) hx hb dX3_hasBoth_21 (by decide) ?_
        refine lv_goto (tgt := 26) hx hb dX3_hasBoth_22 (by decide) ?_
        exact retB1 hx hb hr hlocks dX3_hasBoth_26 (by grind)
    · refine lv_if_eq (tgt := 25) hx hb dX3_hasBoth_13 (by decide) (fun _ => ?_) (fun h9 => absurd (by decide) h9)
      refine lv_iconst (v := 0) hx hb dX3_hasBoth_25 (by decide) ?_
      exact retB0 hx hb hr hlocks dX3_hasBoth_26 (by grind)
  · refine lv_if_eq (tgt := 25) hx hb dX3_hasBoth_5 (by decide) (fun _ => ?_) (fun h9 => absurd (by decide) h9)
    refine lv_iconst (v := 0) hx hb dX3_hasBoth_25 (by decide) ?_
    exact retB0 hx hb hr hlocks dX3_hasBoth_26 (by grind)
set_option maxHeartbeats 4000000 in
set_option maxRecDepth 100000 in
theorem c_X3_freeOf {l : Launch} {D : va_G} {cI cR : ClassId} {ad : Nat → Nat} (X : St) (h : Int32) : RoE l D cI cR (wC cI cR ad X) yX3_freeOf wsX3_freeOf ({ frames := 1, cells := 0, slots := 0, locals := 21 } : Room) [.ref (ad 1), .int h] (p_free (X 0) h) := by
  refine OfW (cc := cX3_freeOf) (maxL := 2) (ret := (some .int)) (by decide +kernel) rfl (Nat.le_of_ble_eq_true rfl) (fun p e s m below meth c hx hb hr hts hown hlocks hml hnm hP hK hN ls hl => ?_)
  have hl : lv_has ls 2 [(0, .ref (ad 1)), (1, .int h)] := hl
  have lk_24 := hts (.fieldLink RX3 24 "HeadBudgets$Heads" "allotment" "[I") (by decide +kernel)
  have lk_27 := hts (.fieldLink RX3 27 "HeadBudgets$Heads" "committed" "[I") (by decide +kernel)
  have lk_30 := hts (.fieldLink RX3 30 "HeadBudgets$Heads" "spent" "[I") (by decide +kernel)
  have hi_X3 : ∀ w ∈ wsX30, w ∈ wsX3_freeOf := by decide +kernel
  refine lv_aload_n hx hb dX3_freeOf_0 rfl (lv_at hl 0 rfl) ?_
  refine lv_iload_n hx hb dX3_freeOf_1 rfl (lv_at hl 1 rfl) ?_
  refine callB (As := [.int h]) (rest := []) ⟨hx, hb, hml, hown, hts⟩ (c_X3_has X h) (cwV 1 hts gX3_freeOf_X3_has rfl rfl rfl (by decide +kernel) ⟨Nat.le_of_ble_eq_true rfl, Nat.le_of_ble_eq_true rfl⟩) hK hN hP 1 g0_1 rfl rfl hl.1 rfl (Nat.le_of_ble_eq_true rfl) dX3_freeOf_2 ⟨Nat.zero_le _, Nat.zero_le _⟩ (fun c_2 => ?_) (fun c_2 => ?_)
  · refine lv_if_eq (tgt := 31) hx hb dX3_freeOf_5 (by decide) (fun h9 => absurd h9 (by decide)) (fun _ => ?_)
    refine lv_aload_n hx hb dX3_freeOf_8 rfl (lv_at hl 0 rfl) ?_
    refine xget (C := RX3) (T := TX3) (N := 11) (ci := 3) (w := .ref (ad 6)) hx hb hts hi_X3 hown hK hP 1 g0_1 rfl 4 (by decide) lk_24 rfl dX3_freeOf_9 ?_
    refine lv_iload_n hx hb dX3_freeOf_12 rfl (lv_at hl 1 rfl) ?_
    refine xald (x := qv (X 0) 3 h) hx hb hK hP 6 g0_6 (in20h c_2) rfl dX3_freeOf_13 ?_
    refine lv_aload_n hx hb dX3_freeOf_14 rfl (lv_at hl 0 rfl) ?_
    refine xget (C := RX3) (T := TX3) (N := 11) (ci := 3) (w := .ref (ad 7)) hx hb hts hi_X3 hown hK hP 1 g0_1 rfl 5 (by decide) lk_27 rfl dX3_freeOf_15 ?_
    refine lv_iload_n hx hb dX3_freeOf_18 rfl (lv_at hl 1 rfl) ?_
    refine xald (x := qv (X 0) 4 h) hx hb hK hP 7 g0_7 (in20h c_2) rfl dX3_freeOf_19 ?_
    refine lv_isub hx hb dX3_freeOf_20 ?_
    refine lv_aload_n hx hb dX3_freeOf_21 rfl (lv_at hl 0 rfl) ?_
    refine xget (C := RX3) (T := TX3) (N := 11) (ci := 3) (w := .ref (ad 8)) hx hb hts hi_X3 hown hK hP 1 g0_1 rfl 6 (by decide) lk_30 rfl dX3_freeOf_22 ?_
    refine lv_iload_n hx hb dX3_freeOf_25 rfl (lv_at hl 1 rfl) ?_
    refine xald (x := qv (X 0) 5 h) hx hb hK hP 8 g0_8 (in20h c_2) rfl dX3_freeOf_26 ?_
    refine lv_isub hx hb dX3_freeOf_27 ?_
    refine lv_goto (tgt := 32) hx hb dX3_freeOf_28 (by decide) ?_
    exact retE hx hb hr hlocks dX3_freeOf_32 (by first | rfl | (unfold p_free; repeat (first | rw [ci_t c_2] | rw [ci_f c_2])))
  · refine lv_if_eq (tgt := 31) hx hb dX3_freeOf_5 (by decide) (fun _ => ?_) (fun h9 => absurd (by decide) h9)
    refine lv_iconst (v := 0) hx hb dX3_freeOf_31 (by decide) ?_
    exact retE hx hb hr hlocks dX3_freeOf_32 (by first | rfl | (unfold p_free; repeat (first | rw [ci_t c_2] | rw [ci_f c_2])))
set_option maxHeartbeats 4000000 in
set_option maxRecDepth 100000 in
theorem c_X3_isBarred {l : Launch} {D : va_G} {cI cR : ClassId} {ad : Nat → Nat} (X : St) (h : Int32) : RoB l D cI cR (wC cI cR ad X) yX3_isBarred wsX3_isBarred ({ frames := 1, cells := 0, slots := 0, locals := 21 } : Room) [.ref (ad 1), .int h] (p_bar (X 0) 5 h) := by
  refine OfW (cc := cX3_isBarred) (maxL := 4) (ret := (some .boolean)) (by decide +kernel) rfl (Nat.le_of_ble_eq_true rfl) (fun p e s m below meth c hx hb hr hts hown hlocks hml hnm hP hK hN ls hl => ?_)
  have hl : lv_has ls 4 [(0, .ref (ad 1)), (1, .int h)] := hl
  have lk_21 := hts (.fieldLink RX3 21 "HeadBudgets$Heads" "frozen" "[I") (by decide +kernel)
  have lk_9 := hts (.fieldLink RX3 9 "HeadBudgets$Heads" "above" "[I") (by decide +kernel)
  have hi_X3 : ∀ w ∈ wsX30, w ∈ wsX3_isBarred := by decide +kernel
  refine lv_iload_n hx hb dX3_isBarred_0 rfl (lv_at hl 1 rfl) ?_
  refine lv_istore_n (lv' := [(2, .int h), (0, .ref (ad 1)), (1, .int h)]) hx hb dX3_isBarred_1 rfl hl (by decide) rfl (fun ls hl => ?_)
  refine lv_iconst (v := 0) hx hb dX3_isBarred_2 (by decide) ?_
  refine lv_istore_n (lv' := [(3, .int 0), (2, .int h), (0, .ref (ad 1)), (1, .int h)]) hx hb dX3_isBarred_3 rfl hl (by decide) rfl (fun ls hl => ?_)
  have hloop_4 : ∀ (n_4 : Nat) (k : Nat) (x2 x3 : Int32), k ≤ 5 → 5 < k + n_4 → x3 = nI k → (p_bar (X 0) (5 - k) x2 ↔ p_bar (X 0) 5 h) → ∀ ls : Array Slot, lv_has ls 4 [(0, .ref (ad 1)), (1, .int h), (2, .int x2), (3, .int x3)] → W p l e ({ frames := 1, cells := 0, slots := 0, locals := 21 } : Room) s m ([.ref (ad 1), .int h]).toArray below meth c s.heap [] 0 0 (MQ below (vp_Si (fun r => (r = 1 ∧ (p_bar (X 0) 5 h)) ∨ (r = 0 ∧ ¬ (p_bar (X 0) 5 h)))) ([.ref (ad 1), .int h]).toArray s 0 0 (fun _ => False)) (F0 m 4 ls []) := by
    intro n_4
    induction n_4 with
    | zero =>
      intro k x2 x3 hk hn e3 hb5 ls hl
      exfalso; omega
    | succ n_4 ih_4 =>
      intro k x2 x3 hk hn e3 hb5 ls hl
      refine lv_iload_n hx hb dX3_isBarred_4 rfl (lv_at hl 3 rfl) ?_
      refine lv_iconst (v := 4) hx hb dX3_isBarred_5 (by decide) ?_
      refine lv_icmp_gt (tgt := 42) hx hb dX3_isBarred_6 (by decide) (fun c_6 => ?_) (fun c_6 => ?_)
      · have hk5 : k = 5 := by
          rw [e3, i3_lt, nI_t (by omega), t_4] at c_6
          omega
        subst hk5
        refine lv_iconst (v := 0) hx hb dX3_isBarred_42 (by decide) ?_
        exact retB0 hx hb hr hlocks dX3_isBarred_43 (fun q => hb5.mpr q)
      · have hk4 : k + 1 ≤ 5 := by
          rw [e3, i3_lt, nI_t (by omega), t_4] at c_6
          omega
        rw [show 5 - k = (5 - (k + 1)) + 1 by omega] at hb5
        refine lv_aload_n hx hb dX3_isBarred_9 rfl (lv_at hl 0 rfl) ?_
        refine lv_iload_n hx hb dX3_isBarred_10 rfl (lv_at hl 2 rfl) ?_
        refine callB (As := [.int x2]) (rest := []) ⟨hx, hb, hml, hown, hts⟩ (c_X3_has X x2) (cwV 1 hts gX3_isBarred_X3_has rfl rfl rfl (by decide +kernel) ⟨Nat.le_of_ble_eq_true rfl, Nat.le_of_ble_eq_true rfl⟩) hK hN hP 1 g0_1 rfl rfl hl.1 rfl (Nat.le_of_ble_eq_true rfl) dX3_isBarred_11 ⟨Nat.zero_le _, Nat.zero_le _⟩ (fun c_11 => ?_) (fun c_11 => ?_)
        · refine lv_if_eq (tgt := 42) hx hb dX3_isBarred_14 (by decide) (fun h9 => absurd h9 (by decide)) (fun _ => ?_)
          refine lv_aload_n hx hb dX3_isBarred_17 rfl (lv_at hl 0 rfl) ?_
          refine xget (C := RX3) (T := TX3) (N := 11) (ci := 3) (w := .ref (ad 5)) hx hb hts hi_X3 hown hK hP 1 g0_1 rfl 3 (by decide) lk_21 rfl dX3_isBarred_18 ?_
          refine lv_iload_n hx hb dX3_isBarred_21 rfl (lv_at hl 2 rfl) ?_
          refine xald (x := qv (X 0) 2 x2) hx hb hK hP 5 g0_5 (in20h c_11) rfl dX3_isBarred_22 ?_
          refine lv_iconst (v := 1) hx hb dX3_isBarred_23 (by decide) ?_
          refine lv_icmp_ne (tgt := 29) hx hb dX3_isBarred_24 (by decide) (fun c_24 => ?_) (fun c_24 => ?_)
          · have hb6 : p_bar (X 0) (5 - (k + 1)) (qv (X 0) 0 x2) ↔ p_bar (X 0) 5 h := by
              rw [← hb5]
              exact ⟨fun q => ⟨c_11, Or.inr q⟩, fun q => q.2.elim (fun z => absurd z c_24) id⟩
            refine lv_aload_n hx hb dX3_isBarred_29 rfl (lv_at hl 0 rfl) ?_
            refine xget (C := RX3) (T := TX3) (N := 11) (ci := 3) (w := .ref (ad 2)) hx hb hts hi_X3 hown hK hP 1 g0_1 rfl 0 (by decide) lk_9 rfl dX3_isBarred_30 ?_
            refine lv_iload_n hx hb dX3_isBarred_33 rfl (lv_at hl 2 rfl) ?_
            refine xald (x := qv (X 0) 0 x2) hx hb hK hP 2 g0_2 (in20h c_11) rfl dX3_isBarred_34 ?_
            refine lv_istore_n (lv' := [(2, .int (qv (X 0) 0 x2)), (0, .ref (ad 1)), (1, .int h), (3, .int x3)]) hx hb dX3_isBarred_35 rfl hl (by decide) rfl (fun ls hl => ?_)
            refine lv_iinc (v := x3 + 1) (lv' := [(3, .int (x3 + 1)), (2, .int (qv (X 0) 0 x2)), (0, .ref (ad 1)), (1, .int h)]) hx hb dX3_isBarred_36 hl (k := 3) rfl rfl (by decide) rfl (fun ls hl => ?_)
            refine lv_goto (tgt := 4) hx hb dX3_isBarred_39 (by decide) ?_
            exact ih_4  (k + 1) _ _ hk4 (by omega) (by rw [e3]; exact nI_1 k) hb6 _ (lv_sub hl [2, 3, 1, 0] rfl)
          · refine lv_iconst (v := 1) hx hb dX3_isBarred_27 (by decide) ?_
            exact retB1 hx hb hr hlocks dX3_isBarred_28 (hb5.mp ⟨c_11, Or.inl c_24⟩)
        · refine lv_if_eq (tgt := 42) hx hb dX3_isBarred_14 (by decide) (fun _ => ?_) (fun h9 => absurd (by decide) h9)
          refine lv_iconst (v := 0) hx hb dX3_isBarred_42 (by decide) ?_
          exact retB0 hx hb hr hlocks dX3_isBarred_43 (fun q => c_11 (hb5.mpr q).1)
  exact hloop_4  6 0 h 0 (by omega) (by omega) rfl Iff.rfl _ (lv_sub hl [2, 3, 1, 0] rfl)
set_option maxHeartbeats 4000000 in
set_option maxRecDepth 100000 in
theorem c_X3_countBarred {l : Launch} {D : va_G} {cI cR : ClassId} {ad : Nat → Nat} (X : St) : RoE l D cI cR (wC cI cR ad X) yX3_countBarred wsX3_countBarred ({ frames := 2, cells := 0, slots := 0, locals := 44 } : Room) [.ref (ad 1)] (p_cntb (X 0) 20) := by
  refine OfW (cc := cX3_countBarred) (maxL := 3) (ret := (some .int)) (by decide +kernel) rfl (Nat.le_of_ble_eq_true rfl) (fun p e s m below meth c hx hb hr hts hown hlocks hml hnm hP hK hN ls hl => ?_)
  have hl : lv_has ls 3 [(0, .ref (ad 1))] := hl
  refine lv_iconst (v := 0) hx hb dX3_countBarred_0 (by decide) ?_
  refine lv_istore_n (lv' := [(1, .int 0), (0, .ref (ad 1))]) hx hb dX3_countBarred_1 rfl hl (by decide) rfl (fun ls hl => ?_)
  refine lv_iconst (v := 0) hx hb dX3_countBarred_2 (by decide) ?_
  refine lv_istore_n (lv' := [(2, .int 0), (1, .int 0), (0, .ref (ad 1))]) hx hb dX3_countBarred_3 rfl hl (by decide) rfl (fun ls hl => ?_)
  have hloop_4 : ∀ (n_4 : Nat) (k : Nat) (xa xk : Int32), k ≤ 20 → 20 < k + n_4 → xk = nI k → xa = p_cntb (X 0) k → ∀ ls : Array Slot, lv_has ls 3 [(0, .ref (ad 1)), (1, .int xa), (2, .int xk)] → W p l e ({ frames := 2, cells := 0, slots := 0, locals := 44 } : Room) s m ([.ref (ad 1)]).toArray below meth c s.heap [] 0 0 (MQ below (vp_Si (fun r => r = p_cntb (X 0) 20)) ([.ref (ad 1)]).toArray s 0 0 (fun _ => False)) (F0 m 4 ls []) := by
    intro n_4
    induction n_4 with
    | zero =>
      intro k xa xk hk hn ek ea ls hl
      exfalso; omega
    | succ n_4 ih_4 =>
      intro k xa xk hk hn ek ea ls hl
      refine lv_iload_n hx hb dX3_countBarred_4 rfl (lv_at hl 2 rfl) ?_
      refine lv_bipush (v := 20) hx hb dX3_countBarred_5 (by decide) ?_
      refine lv_icmp_ge (tgt := 27) hx hb dX3_countBarred_7 (by decide) (fun c_7 => ?_) (fun c_7 => ?_)
      · have hk2 : k = 20 := nI_ge20 hk (by rw [← ek]; exact c_7)
        subst hk2
        refine lv_iload_n hx hb dX3_countBarred_27 rfl (lv_at hl 1 rfl) ?_
        exact retE hx hb hr hlocks dX3_countBarred_28 ea
      · have hlt : k < 20 := nI_lt20 (by omega) (by rw [← ek]; exact c_7)
        refine lv_aload_n hx hb dX3_countBarred_10 rfl (lv_at hl 0 rfl) ?_
        refine lv_iload_n hx hb dX3_countBarred_11 rfl (lv_at hl 2 rfl) ?_
        refine callB (As := [.int xk]) (rest := []) ⟨hx, hb, hml, hown, hts⟩ (c_X3_isBarred X xk) (cwV 1 hts gX3_countBarred_X3_isBarred rfl rfl rfl (by decide +kernel) ⟨Nat.le_of_ble_eq_true rfl, Nat.le_of_ble_eq_true rfl⟩) hK hN hP 1 g0_1 rfl rfl hl.1 rfl (Nat.le_of_ble_eq_true rfl) dX3_countBarred_12 ⟨Nat.zero_le _, Nat.zero_le _⟩ (fun c_12 => ?_) (fun c_12 => ?_)
        · refine lv_if_eq (tgt := 21) hx hb dX3_countBarred_15 (by decide) (fun h9 => absurd h9 (by decide)) (fun _ => ?_)
          refine lv_iinc (v := xa + 1) (lv' := [(1, .int (xa + 1)), (0, .ref (ad 1)), (2, .int xk)]) hx hb dX3_countBarred_18 hl (k := 1) rfl rfl (by decide) rfl (fun ls hl => ?_)
          refine lv_iinc (v := xk + 1) (lv' := [(2, .int (xk + 1)), (1, .int (xa + 1)), (0, .ref (ad 1))]) hx hb dX3_countBarred_21 hl (k := 2) rfl rfl (by decide) rfl (fun ls hl => ?_)
          refine lv_goto (tgt := 4) hx hb dX3_countBarred_24 (by decide) ?_
          exact ih_4  (k + 1) _ _ (by omega) (by omega) (by rw [ek]; exact nI_1 k) (by rw [ea]; exact (sumI_ci (by rw [← ek]; exact c_12) rfl).symm) _ (lv_sub hl [2, 1, 0] rfl)
        · refine lv_if_eq (tgt := 21) hx hb dX3_countBarred_15 (by decide) (fun _ => ?_) (fun h9 => absurd (by decide) h9)
          refine lv_iinc (v := xk + 1) (lv' := [(2, .int (xk + 1)), (0, .ref (ad 1)), (1, .int xa)]) hx hb dX3_countBarred_21 hl (k := 2) rfl rfl (by decide) rfl (fun ls hl => ?_)
          refine lv_goto (tgt := 4) hx hb dX3_countBarred_24 (by decide) ?_
          exact ih_4  (k + 1) _ _ (by omega) (by omega) (by rw [ek]; exact nI_1 k) (by rw [ea]; exact (sumI_c0 (by rw [← ek]; exact c_12) rfl).symm) _ (lv_sub hl [1, 2, 0] rfl)
  exact hloop_4  21 0 0 0 (by omega) (by omega) rfl rfl _ (lv_sub hl [2, 1, 0] rfl)
set_option maxHeartbeats 4000000 in
set_option maxRecDepth 100000 in
theorem c_X3_isWithin {l : Launch} {D : va_G} {cI cR : ClassId} {ad : Nat → Nat} (X : St) (h : Int32) (t : Int32) : RoB l D cI cR (wC cI cR ad X) yX3_isWithin wsX3_isWithin ({ frames := 1, cells := 0, slots := 0, locals := 21 } : Room) [.ref (ad 1), .int h, .int t] (p_wit (X 0) 5 h t) := by
  refine OfW (cc := cX3_isWithin) (maxL := 5) (ret := (some .boolean)) (by decide +kernel) rfl (Nat.le_of_ble_eq_true rfl) (fun p e s m below meth c hx hb hr hts hown hlocks hml hnm hP hK hN ls hl => ?_)
  have hl : lv_has ls 5 [(0, .ref (ad 1)), (1, .int h), (2, .int t)] := hl
  have lk_9 := hts (.fieldLink RX3 9 "HeadBudgets$Heads" "above" "[I") (by decide +kernel)
  have hi_X3 : ∀ w ∈ wsX30, w ∈ wsX3_isWithin := by decide +kernel
  refine lv_iload_n hx hb dX3_isWithin_0 rfl (lv_at hl 1 rfl) ?_
  refine lv_istore_n (lv' := [(3, .int h), (0, .ref (ad 1)), (1, .int h), (2, .int t)]) hx hb dX3_isWithin_1 rfl hl (by decide) rfl (fun ls hl => ?_)
  refine lv_iconst (v := 0) hx hb dX3_isWithin_2 (by decide) ?_
  refine lv_istore (lv' := [(4, .int 0), (3, .int h), (0, .ref (ad 1)), (1, .int h), (2, .int t)]) hx hb dX3_isWithin_3 hl (by decide) rfl (fun ls hl => ?_)
  have hloop_5 : ∀ (n_5 : Nat) (k : Nat) (x2 x3 : Int32), k ≤ 5 → 5 < k + n_5 → x3 = nI k → (p_wit (X 0) (5 - k) x2 t ↔ p_wit (X 0) 5 h t) → ∀ ls : Array Slot, lv_has ls 5 [(0, .ref (ad 1)), (1, .int h), (2, .int t), (3, .int x2), (4, .int x3)] → W p l e ({ frames := 1, cells := 0, slots := 0, locals := 21 } : Room) s m ([.ref (ad 1), .int h, .int t]).toArray below meth c s.heap [] 0 0 (MQ below (vp_Si (fun r => (r = 1 ∧ (p_wit (X 0) 5 h t)) ∨ (r = 0 ∧ ¬ (p_wit (X 0) 5 h t)))) ([.ref (ad 1), .int h, .int t]).toArray s 0 0 (fun _ => False)) (F0 m 5 ls []) := by
    intro n_5
    induction n_5 with
    | zero =>
      intro k x2 x3 hk hn e3 hb5 ls hl
      exfalso; omega
    | succ n_5 ih_5 =>
      intro k x2 x3 hk hn e3 hb5 ls hl
      refine lv_iload hx hb dX3_isWithin_5 (lv_at hl 4 rfl) ?_
      refine lv_iconst (v := 4) hx hb dX3_isWithin_7 (by decide) ?_
      refine lv_icmp_gt (tgt := 39) hx hb dX3_isWithin_8 (by decide) (fun c_8 => ?_) (fun c_8 => ?_)
      · have hk5 : k = 5 := by
          rw [e3, i3_lt, nI_t (by omega), t_4] at c_8
          omega
        subst hk5
        refine lv_iconst (v := 0) hx hb dX3_isWithin_39 (by decide) ?_
        exact retB0 hx hb hr hlocks dX3_isWithin_40 (fun q => hb5.mpr q)
      · have hk4 : k + 1 ≤ 5 := by
          rw [e3, i3_lt, nI_t (by omega), t_4] at c_8
          omega
        rw [show 5 - k = (5 - (k + 1)) + 1 by omega] at hb5
        refine lv_aload_n hx hb dX3_isWithin_11 rfl (lv_at hl 0 rfl) ?_
        refine lv_iload_n hx hb dX3_isWithin_12 rfl (lv_at hl 3 rfl) ?_
        refine callB (As := [.int x2]) (rest := []) ⟨hx, hb, hml, hown, hts⟩ (c_X3_has X x2) (cwV 1 hts gX3_isWithin_X3_has rfl rfl rfl (by decide +kernel) ⟨Nat.le_of_ble_eq_true rfl, Nat.le_of_ble_eq_true rfl⟩) hK hN hP 1 g0_1 rfl rfl hl.1 rfl (Nat.le_of_ble_eq_true rfl) dX3_isWithin_13 ⟨Nat.zero_le _, Nat.zero_le _⟩ (fun c_13 => ?_) (fun c_13 => ?_)
        · refine lv_if_eq (tgt := 39) hx hb dX3_isWithin_16 (by decide) (fun h9 => absurd h9 (by decide)) (fun _ => ?_)
          refine lv_iload_n hx hb dX3_isWithin_19 rfl (lv_at hl 3 rfl) ?_
          refine lv_iload_n hx hb dX3_isWithin_20 rfl (lv_at hl 2 rfl) ?_
          refine lv_icmp_ne (tgt := 26) hx hb dX3_isWithin_21 (by decide) (fun c_21 => ?_) (fun c_21 => ?_)
          · have hb6 : p_wit (X 0) (5 - (k + 1)) (qv (X 0) 0 x2) t ↔ p_wit (X 0) 5 h t := by
              rw [← hb5]
              exact ⟨fun q => ⟨c_13, Or.inr q⟩, fun q => q.2.elim (fun z => absurd z c_21) id⟩
            refine lv_aload_n hx hb dX3_isWithin_26 rfl (lv_at hl 0 rfl) ?_
            refine xget (C := RX3) (T := TX3) (N := 11) (ci := 3) (w := .ref (ad 2)) hx hb hts hi_X3 hown hK hP 1 g0_1 rfl 0 (by decide) lk_9 rfl dX3_isWithin_27 ?_
            refine lv_iload_n hx hb dX3_isWithin_30 rfl (lv_at hl 3 rfl) ?_
            refine xald (x := qv (X 0) 0 x2) hx hb hK hP 2 g0_2 (in20h c_13) rfl dX3_isWithin_31 ?_
            refine lv_istore_n (lv' := [(3, .int (qv (X 0) 0 x2)), (0, .ref (ad 1)), (1, .int h), (2, .int t), (4, .int x3)]) hx hb dX3_isWithin_32 rfl hl (by decide) rfl (fun ls hl => ?_)
            refine lv_iinc (v := x3 + 1) (lv' := [(4, .int (x3 + 1)), (3, .int (qv (X 0) 0 x2)), (0, .ref (ad 1)), (1, .int h), (2, .int t)]) hx hb dX3_isWithin_33 hl (k := 4) rfl rfl (by decide) rfl (fun ls hl => ?_)
            refine lv_goto (tgt := 5) hx hb dX3_isWithin_36 (by decide) ?_
            exact ih_5  (k + 1) _ _ hk4 (by omega) (by rw [e3]; exact nI_1 k) hb6 _ (lv_sub hl [2, 3, 4, 1, 0] rfl)
          · refine lv_iconst (v := 1) hx hb dX3_isWithin_24 (by decide) ?_
            exact retB1 hx hb hr hlocks dX3_isWithin_25 (hb5.mp ⟨c_13, Or.inl c_21⟩)
        · refine lv_if_eq (tgt := 39) hx hb dX3_isWithin_16 (by decide) (fun _ => ?_) (fun h9 => absurd (by decide) h9)
          refine lv_iconst (v := 0) hx hb dX3_isWithin_39 (by decide) ?_
          exact retB0 hx hb hr hlocks dX3_isWithin_40 (fun q => c_13 (hb5.mpr q).1)
  exact hloop_5  6 0 h 0 (by omega) (by omega) rfl Iff.rfl _ (lv_sub hl [2, 3, 4, 1, 0] rfl)
set_option maxHeartbeats 4000000 in
set_option maxRecDepth 100000 in
theorem c_X3_summand {l : Launch} {D : va_G} {cI cR : ClassId} {ad : Nat → Nat} (X : St) (h : Int32) (wh : Int32) : RoE l D cI cR (wC cI cR ad X) yX3_summand wsX3_summand ({ frames := 2, cells := 0, slots := 0, locals := 42 } : Room) [.ref (ad 1), .int h, .int wh] (p_smd (X 0) h wh) := by
  refine OfW (cc := cX3_summand) (maxL := 3) (ret := (some .int)) (by decide +kernel) rfl (Nat.le_of_ble_eq_true rfl) (fun p e s m below meth c hx hb hr hts hown hlocks hml hnm hP hK hN ls hl => ?_)
  have hl : lv_has ls 3 [(0, .ref (ad 1)), (1, .int h), (2, .int wh)] := hl
  have lk_24 := hts (.fieldLink RX3 24 "HeadBudgets$Heads" "allotment" "[I") (by decide +kernel)
  have lk_27 := hts (.fieldLink RX3 27 "HeadBudgets$Heads" "committed" "[I") (by decide +kernel)
  have lk_30 := hts (.fieldLink RX3 30 "HeadBudgets$Heads" "spent" "[I") (by decide +kernel)
  have hi_X3 : ∀ w ∈ wsX30, w ∈ wsX3_summand := by decide +kernel
  refine lv_aload_n hx hb dX3_summand_0 rfl (lv_at hl 0 rfl) ?_
  refine lv_iload_n hx hb dX3_summand_1 rfl (lv_at hl 1 rfl) ?_
  refine callB (As := [.int h]) (rest := []) ⟨hx, hb, hml, hown, hts⟩ (c_X3_has X h) (cwV 1 hts gX3_summand_X3_has rfl rfl rfl (by decide +kernel) ⟨Nat.le_of_ble_eq_true rfl, Nat.le_of_ble_eq_true rfl⟩) hK hN hP 1 g0_1 rfl rfl hl.1 rfl (Nat.le_of_ble_eq_true rfl) dX3_summand_2 ⟨Nat.zero_le _, Nat.zero_le _⟩ (fun c_2 => ?_) (fun c_2 => ?_)
  · refine lv_if_ne (tgt := 10) hx hb dX3_summand_5 (by decide) (fun _ => ?_) (fun h9 => absurd h9 (by decide))
    refine lv_iload_n hx hb dX3_summand_10 rfl (lv_at hl 2 rfl) ?_
    by_cases s_11_0 : wh = 0
    · refine lv_tableIn (off := 29) (tgt := 40) hx hb dX3_summand_11 (by rw [s_11_0]; decide) (by rw [s_11_0]; decide) (by rw [s_11_0]; rfl) (by decide) ?_
      refine lv_aload_n hx hb dX3_summand_40 rfl (lv_at hl 0 rfl) ?_
      refine xget (C := RX3) (T := TX3) (N := 11) (ci := 3) (w := .ref (ad 6)) hx hb hts hi_X3 hown hK hP 1 g0_1 rfl 4 (by decide) lk_24 rfl dX3_summand_41 ?_
      refine lv_iload_n hx hb dX3_summand_44 rfl (lv_at hl 1 rfl) ?_
      refine xald (x := qv (X 0) 3 h) hx hb hK hP 6 g0_6 (in20h c_2) rfl dX3_summand_45 ?_
      exact retE hx hb hr hlocks dX3_summand_46 (by first | rfl | (unfold p_smd; repeat (first | rw [ci_t c_2] | rw [ci_f c_2] | rw [ci_t s_11_0] | rw [ci_f s_11_0])))
    by_cases s_11_1 : wh = 1
    · refine lv_tableIn (off := 36) (tgt := 47) hx hb dX3_summand_11 (by rw [s_11_1]; decide) (by rw [s_11_1]; decide) (by rw [s_11_1]; rfl) (by decide) ?_
      refine lv_aload_n hx hb dX3_summand_47 rfl (lv_at hl 0 rfl) ?_
      refine xget (C := RX3) (T := TX3) (N := 11) (ci := 3) (w := .ref (ad 7)) hx hb hts hi_X3 hown hK hP 1 g0_1 rfl 5 (by decide) lk_27 rfl dX3_summand_48 ?_
      refine lv_iload_n hx hb dX3_summand_51 rfl (lv_at hl 1 rfl) ?_
      refine xald (x := qv (X 0) 4 h) hx hb hK hP 7 g0_7 (in20h c_2) rfl dX3_summand_52 ?_
      exact retE hx hb hr hlocks dX3_summand_53 (by first | rfl | (unfold p_smd; repeat (first | rw [ci_t c_2] | rw [ci_f c_2] | rw [ci_t s_11_1] | rw [ci_f s_11_1] | rw [ci_t s_11_0] | rw [ci_f s_11_0])))
    by_cases s_11_2 : wh = 2
    · refine lv_tableIn (off := 43) (tgt := 54) hx hb dX3_summand_11 (by rw [s_11_2]; decide) (by rw [s_11_2]; decide) (by rw [s_11_2]; rfl) (by decide) ?_
      refine lv_aload_n hx hb dX3_summand_54 rfl (lv_at hl 0 rfl) ?_
      refine xget (C := RX3) (T := TX3) (N := 11) (ci := 3) (w := .ref (ad 8)) hx hb hts hi_X3 hown hK hP 1 g0_1 rfl 6 (by decide) lk_30 rfl dX3_summand_55 ?_
      refine lv_iload_n hx hb dX3_summand_58 rfl (lv_at hl 1 rfl) ?_
      refine xald (x := qv (X 0) 5 h) hx hb hK hP 8 g0_8 (in20h c_2) rfl dX3_summand_59 ?_
      exact retE hx hb hr hlocks dX3_summand_60 (by first | rfl | (unfold p_smd; repeat (first | rw [ci_t c_2] | rw [ci_f c_2] | rw [ci_t s_11_2] | rw [ci_f s_11_2] | rw [ci_t s_11_0] | rw [ci_f s_11_0] | rw [ci_t s_11_1] | rw [ci_f s_11_1])))
    by_cases s_11_3 : wh = 3
    · refine lv_tableIn (off := 50) (tgt := 61) hx hb dX3_summand_11 (by rw [s_11_3]; decide) (by rw [s_11_3]; decide) (by rw [s_11_3]; rfl) (by decide) ?_
      refine lv_aload_n hx hb dX3_summand_61 rfl (lv_at hl 0 rfl) ?_
      refine lv_iload_n hx hb dX3_summand_62 rfl (lv_at hl 1 rfl) ?_
      refine callE (As := [.int h]) (rest := []) ⟨hx, hb, hml, hown, hts⟩ (c_X3_freeOf X h) (cwV 1 hts gX3_summand_X3_freeOf rfl rfl rfl (by decide +kernel) ⟨Nat.le_of_ble_eq_true rfl, Nat.le_of_ble_eq_true rfl⟩) hK hN hP 1 g0_1 rfl rfl hl.1 rfl (Nat.le_of_ble_eq_true rfl) dX3_summand_63 ⟨Nat.zero_le _, Nat.zero_le _⟩ ?_
      exact retE hx hb hr hlocks dX3_summand_66 (by first | rfl | (unfold p_smd; repeat (first | rw [ci_t c_2] | rw [ci_f c_2] | rw [ci_t s_11_3] | rw [ci_f s_11_3] | rw [ci_t s_11_0] | rw [ci_f s_11_0] | rw [ci_t s_11_1] | rw [ci_f s_11_1] | rw [ci_t s_11_2] | rw [ci_f s_11_2])))
    have h9 : (wh).toInt < 0 ∨ 3 < (wh).toInt := by
      have q_0 := lv_neT (a := 0) s_11_0 rfl
      have q_1 := lv_neT (a := 1) s_11_1 rfl
      have q_2 := lv_neT (a := 2) s_11_2 rfl
      have q_3 := lv_neT (a := 3) s_11_3 rfl
      omega
    refine lv_tableOut (tgt := 67) hx hb dX3_summand_11 h9 (by decide) ?_
    refine lv_iconst (v := 1) hx hb dX3_summand_67 (by decide) ?_
    exact retE hx hb hr hlocks dX3_summand_68 (by first | rfl | (unfold p_smd; repeat (first | rw [ci_t c_2] | rw [ci_f c_2] | rw [ci_t s_11_0] | rw [ci_f s_11_0] | rw [ci_t s_11_1] | rw [ci_f s_11_1] | rw [ci_t s_11_2] | rw [ci_f s_11_2] | rw [ci_t s_11_3] | rw [ci_f s_11_3])))
  · refine lv_if_ne (tgt := 10) hx hb dX3_summand_5 (by decide) (fun h9 => absurd (by decide) h9) (fun _ => ?_)
    refine lv_iconst (v := 0) hx hb dX3_summand_8 (by decide) ?_
    exact retE hx hb hr hlocks dX3_summand_9 (by first | rfl | (unfold p_smd; repeat (first | rw [ci_t c_2] | rw [ci_f c_2])))
set_option maxHeartbeats 4000000 in
set_option maxRecDepth 100000 in
theorem c_X3_sumWithin {l : Launch} {D : va_G} {cI cR : ClassId} {ad : Nat → Nat} (X : St) (t : Int32) (wh : Int32) : RoE l D cI cR (wC cI cR ad X) yX3_sumWithin wsX3_sumWithin ({ frames := 3, cells := 0, slots := 0, locals := 64 } : Room) [.ref (ad 1), .int t, .int wh] (p_sum (X 0) t wh 20) := by
  refine OfW (cc := cX3_sumWithin) (maxL := 5) (ret := (some .int)) (by decide +kernel) rfl (Nat.le_of_ble_eq_true rfl) (fun p e s m below meth c hx hb hr hts hown hlocks hml hnm hP hK hN ls hl => ?_)
  have hl : lv_has ls 5 [(0, .ref (ad 1)), (1, .int t), (2, .int wh)] := hl
  refine lv_iconst (v := 0) hx hb dX3_sumWithin_0 (by decide) ?_
  refine lv_istore_n (lv' := [(3, .int 0), (0, .ref (ad 1)), (1, .int t), (2, .int wh)]) hx hb dX3_sumWithin_1 rfl hl (by decide) rfl (fun ls hl => ?_)
  refine lv_iconst (v := 0) hx hb dX3_sumWithin_2 (by decide) ?_
  refine lv_istore (lv' := [(4, .int 0), (3, .int 0), (0, .ref (ad 1)), (1, .int t), (2, .int wh)]) hx hb dX3_sumWithin_3 hl (by decide) rfl (fun ls hl => ?_)
  have hloop_5 : ∀ (n_5 : Nat) (k : Nat) (xa xk : Int32), k ≤ 20 → 20 < k + n_5 → xk = nI k → xa = p_sum (X 0) t wh k → ∀ ls : Array Slot, lv_has ls 5 [(0, .ref (ad 1)), (1, .int t), (2, .int wh), (3, .int xa), (4, .int xk)] → W p l e ({ frames := 3, cells := 0, slots := 0, locals := 64 } : Room) s m ([.ref (ad 1), .int t, .int wh]).toArray below meth c s.heap [] 0 0 (MQ below (vp_Si (fun r => r = p_sum (X 0) t wh 20)) ([.ref (ad 1), .int t, .int wh]).toArray s 0 0 (fun _ => False)) (F0 m 5 ls []) := by
    intro n_5
    induction n_5 with
    | zero =>
      intro k xa xk hk hn ek ea ls hl
      exfalso; omega
    | succ n_5 ih_5 =>
      intro k xa xk hk hn ek ea ls hl
      refine lv_iload hx hb dX3_sumWithin_5 (lv_at hl 4 rfl) ?_
      refine lv_bipush (v := 20) hx hb dX3_sumWithin_7 (by decide) ?_
      refine lv_icmp_ge (tgt := 38) hx hb dX3_sumWithin_9 (by decide) (fun c_9 => ?_) (fun c_9 => ?_)
      · have hk2 : k = 20 := nI_ge20 hk (by rw [← ek]; exact c_9)
        subst hk2
        refine lv_iload_n hx hb dX3_sumWithin_38 rfl (lv_at hl 3 rfl) ?_
        exact retE hx hb hr hlocks dX3_sumWithin_39 ea
      · have hlt : k < 20 := nI_lt20 (by omega) (by rw [← ek]; exact c_9)
        refine lv_aload_n hx hb dX3_sumWithin_12 rfl (lv_at hl 0 rfl) ?_
        refine lv_iload hx hb dX3_sumWithin_13 (lv_at hl 4 rfl) ?_
        refine lv_iload_n hx hb dX3_sumWithin_15 rfl (lv_at hl 1 rfl) ?_
        refine callB (As := [.int xk, .int t]) (rest := []) ⟨hx, hb, hml, hown, hts⟩ (c_X3_isWithin X xk t) (cwV 2 hts gX3_sumWithin_X3_isWithin rfl rfl rfl (by decide +kernel) ⟨Nat.le_of_ble_eq_true rfl, Nat.le_of_ble_eq_true rfl⟩) hK hN hP 1 g0_1 rfl rfl hl.1 rfl (Nat.le_of_ble_eq_true rfl) dX3_sumWithin_16 ⟨Nat.zero_le _, Nat.zero_le _⟩ (fun c_16 => ?_) (fun c_16 => ?_)
        · refine lv_if_eq (tgt := 32) hx hb dX3_sumWithin_19 (by decide) (fun h9 => absurd h9 (by decide)) (fun _ => ?_)
          refine lv_iload_n hx hb dX3_sumWithin_22 rfl (lv_at hl 3 rfl) ?_
          refine lv_aload_n hx hb dX3_sumWithin_23 rfl (lv_at hl 0 rfl) ?_
          refine lv_iload hx hb dX3_sumWithin_24 (lv_at hl 4 rfl) ?_
          refine lv_iload_n hx hb dX3_sumWithin_26 rfl (lv_at hl 2 rfl) ?_
          refine callE (As := [.int xk, .int wh]) (rest := [.int xa]) ⟨hx, hb, hml, hown, hts⟩ (c_X3_summand X xk wh) (cwV 2 hts gX3_sumWithin_X3_summand rfl rfl rfl (by decide +kernel) ⟨Nat.le_of_ble_eq_true rfl, Nat.le_of_ble_eq_true rfl⟩) hK hN hP 1 g0_1 rfl rfl hl.1 rfl (Nat.le_of_ble_eq_true rfl) dX3_sumWithin_27 ⟨Nat.zero_le _, Nat.zero_le _⟩ ?_
          refine lv_iadd hx hb dX3_sumWithin_30 ?_
          refine lv_istore_n (lv' := [(3, .int (xa + (p_smd (X 0) xk wh))), (0, .ref (ad 1)), (1, .int t), (2, .int wh), (4, .int xk)]) hx hb dX3_sumWithin_31 rfl hl (by decide) rfl (fun ls hl => ?_)
          refine lv_iinc (v := xk + 1) (lv' := [(4, .int (xk + 1)), (3, .int (xa + (p_smd (X 0) xk wh))), (0, .ref (ad 1)), (1, .int t), (2, .int wh)]) hx hb dX3_sumWithin_32 hl (k := 4) rfl rfl (by decide) rfl (fun ls hl => ?_)
          refine lv_goto (tgt := 5) hx hb dX3_sumWithin_35 (by decide) ?_
          exact ih_5  (k + 1) _ _ (by omega) (by omega) (by rw [ek]; exact nI_1 k) (by rw [ea, ek]; exact (sumI_ci (by rw [← ek]; exact c_16) rfl).symm) _ (lv_sub hl [2, 3, 4, 1, 0] rfl)
        · refine lv_if_eq (tgt := 32) hx hb dX3_sumWithin_19 (by decide) (fun _ => ?_) (fun h9 => absurd (by decide) h9)
          refine lv_iinc (v := xk + 1) (lv' := [(4, .int (xk + 1)), (0, .ref (ad 1)), (1, .int t), (2, .int wh), (3, .int xa)]) hx hb dX3_sumWithin_32 hl (k := 4) rfl rfl (by decide) rfl (fun ls hl => ?_)
          refine lv_goto (tgt := 5) hx hb dX3_sumWithin_35 (by decide) ?_
          exact ih_5  (k + 1) _ _ (by omega) (by omega) (by rw [ek]; exact nI_1 k) (by rw [ea]; exact (sumI_c0 (by rw [← ek]; exact c_16) rfl).symm) _ (lv_sub hl [1, 2, 3, 4, 0] rfl)
  exact hloop_5  21 0 0 0 (by omega) (by omega) rfl rfl _ (lv_sub hl [2, 3, 4, 1, 0] rfl)
set_option maxHeartbeats 4000000 in
set_option maxRecDepth 100000 in
theorem c_X3_mayGive {l : Launch} {D : va_G} {cI cR : ClassId} {ad : Nat → Nat} (X : St) (h : Int32) (k : Int32) : RoB l D cI cR (wC cI cR ad X) yX3_mayGive wsX3_mayGive ({ frames := 2, cells := 0, slots := 0, locals := 45 } : Room) [.ref (ad 1), .int h, .int k] (p_may (X 0) h k) := by
  refine OfW (cc := cX3_mayGive) (maxL := 4) (ret := (some .boolean)) (by decide +kernel) rfl (Nat.le_of_ble_eq_true rfl) (fun p e s m below meth c hx hb hr hts hown hlocks hml hnm hP hK hN ls hl => ?_)
  have hl : lv_has ls 4 [(0, .ref (ad 1)), (1, .int h), (2, .int k)] := hl
  have lk_9 := hts (.fieldLink RX3 9 "HeadBudgets$Heads" "above" "[I") (by decide +kernel)
  have lk_18 := hts (.fieldLink RX3 18 "HeadBudgets$Heads" "rank" "[I") (by decide +kernel)
  have hi_X3 : ∀ w ∈ wsX30, w ∈ wsX3_mayGive := by decide +kernel
  refine lv_aload_n hx hb dX3_mayGive_0 rfl (lv_at hl 0 rfl) ?_
  refine lv_iload_n hx hb dX3_mayGive_1 rfl (lv_at hl 1 rfl) ?_
  refine lv_iload_n hx hb dX3_mayGive_2 rfl (lv_at hl 2 rfl) ?_
  refine callB (As := [.int h, .int k]) (rest := []) ⟨hx, hb, hml, hown, hts⟩ (c_X3_hasBoth X h k) (cwV 2 hts gX3_mayGive_X3_hasBoth rfl rfl rfl (by decide +kernel) ⟨Nat.le_of_ble_eq_true rfl, Nat.le_of_ble_eq_true rfl⟩) hK hN hP 1 g0_1 rfl rfl hl.1 rfl (Nat.le_of_ble_eq_true rfl) dX3_mayGive_3 ⟨Nat.zero_le _, Nat.zero_le _⟩ (fun c_3 => ?_) (fun c_3 => ?_)
  · have q1 := in20h c_3.1
    have q2 := in20h c_3.2.1
    refine lv_if_eq (tgt := 25) hx hb dX3_mayGive_6 (by decide) (fun h9 => absurd h9 (by decide)) (fun _ => ?_)
    refine lv_aload_n hx hb dX3_mayGive_9 rfl (lv_at hl 0 rfl) ?_
    refine lv_iload_n hx hb dX3_mayGive_10 rfl (lv_at hl 1 rfl) ?_
    refine callB (As := [.int h]) (rest := []) ⟨hx, hb, hml, hown, hts⟩ (c_X3_isBarred X h) (cwV 1 hts gX3_mayGive_X3_isBarred rfl rfl rfl (by decide +kernel) ⟨Nat.le_of_ble_eq_true rfl, Nat.le_of_ble_eq_true rfl⟩) hK hN hP 1 g0_1 rfl rfl hl.1 rfl (Nat.le_of_ble_eq_true rfl) dX3_mayGive_11 ⟨Nat.zero_le _, Nat.zero_le _⟩ (fun c_11 => ?_) (fun c_11 => ?_)
    · refine lv_if_ne (tgt := 25) hx hb dX3_mayGive_14 (by decide) (fun _ => ?_) (fun h9 => absurd h9 (by decide))
      refine lv_iconst (v := 0) hx hb dX3_mayGive_25 (by decide) ?_
      exact retB0 hx hb hr hlocks dX3_mayGive_26 (by first | exact fun q => c_3 ⟨q.1, q.2.1, q.2.2.1⟩ | exact fun q => q.2.2.2.1 c_11 | exact fun q => q.2.2.2.2.1 c_19 | exact fun q => q.2.2.2.2.2.elim c_30 (fun q => q.elim c_39 (fun q => q.elim c_57 (fun q => Int32.not_le.mpr c_82 q))))
    · refine lv_if_ne (tgt := 25) hx hb dX3_mayGive_14 (by decide) (fun h9 => absurd (by decide) h9) (fun _ => ?_)
      refine lv_aload_n hx hb dX3_mayGive_17 rfl (lv_at hl 0 rfl) ?_
      refine lv_iload_n hx hb dX3_mayGive_18 rfl (lv_at hl 2 rfl) ?_
      refine callB (As := [.int k]) (rest := []) ⟨hx, hb, hml, hown, hts⟩ (c_X3_isBarred X k) (cwV 1 hts gX3_mayGive_X3_isBarred rfl rfl rfl (by decide +kernel) ⟨Nat.le_of_ble_eq_true rfl, Nat.le_of_ble_eq_true rfl⟩) hK hN hP 1 g0_1 rfl rfl hl.1 rfl (Nat.le_of_ble_eq_true rfl) dX3_mayGive_19 ⟨Nat.zero_le _, Nat.zero_le _⟩ (fun c_19 => ?_) (fun c_19 => ?_)
      · refine lv_if_eq (tgt := 27) hx hb dX3_mayGive_22 (by decide) (fun h9 => absurd h9 (by decide)) (fun _ => ?_)
        refine lv_iconst (v := 0) hx hb dX3_mayGive_25 (by decide) ?_
        exact retB0 hx hb hr hlocks dX3_mayGive_26 (by first | exact fun q => c_3 ⟨q.1, q.2.1, q.2.2.1⟩ | exact fun q => q.2.2.2.1 c_11 | exact fun q => q.2.2.2.2.1 c_19 | exact fun q => q.2.2.2.2.2.elim c_30 (fun q => q.elim c_39 (fun q => q.elim c_57 (fun q => Int32.not_le.mpr c_82 q))))
      · refine lv_if_eq (tgt := 27) hx hb dX3_mayGive_22 (by decide) (fun _ => ?_) (fun h9 => absurd (by decide) h9)
        refine lv_aload_n hx hb dX3_mayGive_27 rfl (lv_at hl 0 rfl) ?_
        refine lv_iload_n hx hb dX3_mayGive_28 rfl (lv_at hl 1 rfl) ?_
        refine lv_iload_n hx hb dX3_mayGive_29 rfl (lv_at hl 2 rfl) ?_
        refine callB (As := [.int h, .int k]) (rest := []) ⟨hx, hb, hml, hown, hts⟩ (c_X3_isWithin X h k) (cwV 2 hts gX3_mayGive_X3_isWithin rfl rfl rfl (by decide +kernel) ⟨Nat.le_of_ble_eq_true rfl, Nat.le_of_ble_eq_true rfl⟩) hK hN hP 1 g0_1 rfl rfl hl.1 rfl (Nat.le_of_ble_eq_true rfl) dX3_mayGive_30 ⟨Nat.zero_le _, Nat.zero_le _⟩ (fun c_30 => ?_) (fun c_30 => ?_)
        · refine lv_if_ne (tgt := 60) hx hb dX3_mayGive_33 (by decide) (fun _ => ?_) (fun h9 => absurd h9 (by decide))
          refine lv_iconst (v := 1) hx hb dX3_mayGive_60 (by decide) ?_
          refine lv_goto (tgt := 65) hx hb dX3_mayGive_61 (by decide) ?_
          refine lv_istore_n (lv' := [(3, .int 1), (0, .ref (ad 1)), (1, .int h), (2, .int k)]) hx hb dX3_mayGive_65 rfl hl (by decide) rfl (fun ls hl => ?_)
          refine lv_iload_n hx hb dX3_mayGive_66 rfl (lv_at hl 0 rfl) ?_
          refine lv_if_ne (tgt := 85) hx hb dX3_mayGive_67 (by decide) (fun _ => ?_) (fun h9 => absurd h9 (by decide))
          refine lv_iconst (v := 1) hx hb dX3_mayGive_85 (by decide) ?_
          refine lv_goto (tgt := 90) hx hb dX3_mayGive_86 (by decide) ?_
          exact retB1 hx hb hr hlocks dX3_mayGive_90 (by first | exact ⟨c_3.1, c_3.2.1, c_3.2.2, c_11, c_19, Or.inl c_30⟩ | exact ⟨c_3.1, c_3.2.1, c_3.2.2, c_11, c_19, Or.inr (Or.inl c_39)⟩ | exact ⟨c_3.1, c_3.2.1, c_3.2.2, c_11, c_19, Or.inr (Or.inr (Or.inl c_57))⟩ | exact ⟨c_3.1, c_3.2.1, c_3.2.2, c_11, c_19, Or.inr (Or.inr (Or.inr (Int32.not_lt.mp c_82)))⟩)
        · refine lv_if_ne (tgt := 60) hx hb dX3_mayGive_33 (by decide) (fun h9 => absurd (by decide) h9) (fun _ => ?_)
          refine lv_aload_n hx hb dX3_mayGive_36 rfl (lv_at hl 0 rfl) ?_
          refine lv_iload_n hx hb dX3_mayGive_37 rfl (lv_at hl 2 rfl) ?_
          refine lv_iload_n hx hb dX3_mayGive_38 rfl (lv_at hl 1 rfl) ?_
          refine callB (As := [.int k, .int h]) (rest := []) ⟨hx, hb, hml, hown, hts⟩ (c_X3_isWithin X k h) (cwV 2 hts gX3_mayGive_X3_isWithin rfl rfl rfl (by decide +kernel) ⟨Nat.le_of_ble_eq_true rfl, Nat.le_of_ble_eq_true rfl⟩) hK hN hP 1 g0_1 rfl rfl hl.1 rfl (Nat.le_of_ble_eq_true rfl) dX3_mayGive_39 ⟨Nat.zero_le _, Nat.zero_le _⟩ (fun c_39 => ?_) (fun c_39 => ?_)
          · refine lv_if_ne (tgt := 60) hx hb dX3_mayGive_42 (by decide) (fun _ => ?_) (fun h9 => absurd h9 (by decide))
            refine lv_iconst (v := 1) hx hb dX3_mayGive_60 (by decide) ?_
            refine lv_goto (tgt := 65) hx hb dX3_mayGive_61 (by decide) ?_
            refine lv_istore_n (lv' := [(3, .int 1), (0, .ref (ad 1)), (1, .int h), (2, .int k)]) hx hb dX3_mayGive_65 rfl hl (by decide) rfl (fun ls hl => ?_)
            refine lv_iload_n hx hb dX3_mayGive_66 rfl (lv_at hl 0 rfl) ?_
            refine lv_if_ne (tgt := 85) hx hb dX3_mayGive_67 (by decide) (fun _ => ?_) (fun h9 => absurd h9 (by decide))
            refine lv_iconst (v := 1) hx hb dX3_mayGive_85 (by decide) ?_
            refine lv_goto (tgt := 90) hx hb dX3_mayGive_86 (by decide) ?_
            exact retB1 hx hb hr hlocks dX3_mayGive_90 (by first | exact ⟨c_3.1, c_3.2.1, c_3.2.2, c_11, c_19, Or.inl c_30⟩ | exact ⟨c_3.1, c_3.2.1, c_3.2.2, c_11, c_19, Or.inr (Or.inl c_39)⟩ | exact ⟨c_3.1, c_3.2.1, c_3.2.2, c_11, c_19, Or.inr (Or.inr (Or.inl c_57))⟩ | exact ⟨c_3.1, c_3.2.1, c_3.2.2, c_11, c_19, Or.inr (Or.inr (Or.inr (Int32.not_lt.mp c_82)))⟩)
          · refine lv_if_ne (tgt := 60) hx hb dX3_mayGive_42 (by decide) (fun h9 => absurd (by decide) h9) (fun _ => ?_)
            refine lv_aload_n hx hb dX3_mayGive_45 rfl (lv_at hl 0 rfl) ?_
            refine xget (C := RX3) (T := TX3) (N := 11) (ci := 3) (w := .ref (ad 2)) hx hb hts hi_X3 hown hK hP 1 g0_1 rfl 0 (by decide) lk_9 rfl dX3_mayGive_46 ?_
            refine lv_iload_n hx hb dX3_mayGive_49 rfl (lv_at hl 1 rfl) ?_
            refine xald (x := qv (X 0) 0 h) hx hb hK hP 2 g0_2 (by assumption) rfl dX3_mayGive_50 ?_
            refine lv_aload_n hx hb dX3_mayGive_51 rfl (lv_at hl 0 rfl) ?_
            refine xget (C := RX3) (T := TX3) (N := 11) (ci := 3) (w := .ref (ad 2)) hx hb hts hi_X3 hown hK hP 1 g0_1 rfl 0 (by decide) lk_9 rfl dX3_mayGive_52 ?_
            refine lv_iload_n hx hb dX3_mayGive_55 rfl (lv_at hl 2 rfl) ?_
            refine xald (x := qv (X 0) 0 k) hx hb hK hP 2 g0_2 (by assumption) rfl dX3_mayGive_56 ?_
            refine lv_icmp_ne (tgt := 64) hx hb dX3_mayGive_57 (by decide) (fun c_57 => ?_) (fun c_57 => ?_)
            · refine lv_iconst (v := 0) hx hb dX3_mayGive_64 (by decide) ?_
              refine lv_istore_n (lv' := [(3, .int 0), (0, .ref (ad 1)), (1, .int h), (2, .int k)]) hx hb dX3_mayGive_65 rfl hl (by decide) rfl (fun ls hl => ?_)
              refine lv_iload_n hx hb dX3_mayGive_66 rfl (lv_at hl 0 rfl) ?_
              refine lv_if_ne (tgt := 85) hx hb dX3_mayGive_67 (by decide) (fun h9 => absurd (by decide) h9) (fun _ => ?_)
              refine lv_aload_n hx hb dX3_mayGive_70 rfl (lv_at hl 1 rfl) ?_
              refine xget (C := RX3) (T := TX3) (N := 11) (ci := 3) (w := .ref (ad 4)) hx hb hts hi_X3 hown hK hP 1 g0_1 rfl 2 (by decide) lk_18 rfl dX3_mayGive_71 ?_
              refine lv_iload_n hx hb dX3_mayGive_74 rfl (lv_at hl 2 rfl) ?_
              refine xald (x := qv (X 0) 1 h) hx hb hK hP 4 g0_4 (by assumption) rfl dX3_mayGive_75 ?_
              refine lv_aload_n hx hb dX3_mayGive_76 rfl (lv_at hl 1 rfl) ?_
              refine xget (C := RX3) (T := TX3) (N := 11) (ci := 3) (w := .ref (ad 4)) hx hb hts hi_X3 hown hK hP 1 g0_1 rfl 2 (by decide) lk_18 rfl dX3_mayGive_77 ?_
              refine lv_iload_n hx hb dX3_mayGive_80 rfl (lv_at hl 3 rfl) ?_
              refine xald (x := qv (X 0) 1 k) hx hb hK hP 4 g0_4 (by assumption) rfl dX3_mayGive_81 ?_
              refine lv_icmp_gt (tgt := 89) hx hb dX3_mayGive_82 (by decide) (fun c_82 => ?_) (fun c_82 => ?_)
              · refine lv_iconst (v := 0) hx hb dX3_mayGive_89 (by decide) ?_
                exact retB0 hx hb hr hlocks dX3_mayGive_90 (by first | exact fun q => c_3 ⟨q.1, q.2.1, q.2.2.1⟩ | exact fun q => q.2.2.2.1 c_11 | exact fun q => q.2.2.2.2.1 c_19 | exact fun q => q.2.2.2.2.2.elim c_30 (fun q => q.elim c_39 (fun q => q.elim c_57 (fun q => Int32.not_le.mpr c_82 q))))
              · refine lv_iconst (v := 1) hx hb dX3_mayGive_85 (by decide) ?_
                refine lv_goto (tgt := 90) hx hb dX3_mayGive_86 (by decide) ?_
                exact retB1 hx hb hr hlocks dX3_mayGive_90 (by first | exact ⟨c_3.1, c_3.2.1, c_3.2.2, c_11, c_19, Or.inl c_30⟩ | exact ⟨c_3.1, c_3.2.1, c_3.2.2, c_11, c_19, Or.inr (Or.inl c_39)⟩ | exact ⟨c_3.1, c_3.2.1, c_3.2.2, c_11, c_19, Or.inr (Or.inr (Or.inl c_57))⟩ | exact ⟨c_3.1, c_3.2.1, c_3.2.2, c_11, c_19, Or.inr (Or.inr (Or.inr (Int32.not_lt.mp c_82)))⟩)
            · refine lv_iconst (v := 1) hx hb dX3_mayGive_60 (by decide) ?_
              refine lv_goto (tgt := 65) hx hb dX3_mayGive_61 (by decide) ?_
              refine lv_istore_n (lv' := [(3, .int 1), (0, .ref (ad 1)), (1, .int h), (2, .int k)]) hx hb dX3_mayGive_65 rfl hl (by decide) rfl (fun ls hl => ?_)
              refine lv_iload_n hx hb dX3_mayGive_66 rfl (lv_at hl 0 rfl) ?_
              refine lv_if_ne (tgt := 85) hx hb dX3_mayGive_67 (by decide) (fun _ => ?_) (fun h9 => absurd h9 (by decide))
              refine lv_iconst (v := 1) hx hb dX3_mayGive_85 (by decide) ?_
              refine lv_goto (tgt := 90) hx hb dX3_mayGive_86 (by decide) ?_
              exact retB1 hx hb hr hlocks dX3_mayGive_90 (by first | exact ⟨c_3.1, c_3.2.1, c_3.2.2, c_11, c_19, Or.inl c_30⟩ | exact ⟨c_3.1, c_3.2.1, c_3.2.2, c_11, c_19, Or.inr (Or.inl c_39)⟩ | exact ⟨c_3.1, c_3.2.1, c_3.2.2, c_11, c_19, Or.inr (Or.inr (Or.inl c_57))⟩ | exact ⟨c_3.1, c_3.2.1, c_3.2.2, c_11, c_19, Or.inr (Or.inr (Or.inr (Int32.not_lt.mp c_82)))⟩)
  · refine lv_if_eq (tgt := 25) hx hb dX3_mayGive_6 (by decide) (fun _ => ?_) (fun h9 => absurd (by decide) h9)
    refine lv_iconst (v := 0) hx hb dX3_mayGive_25 (by decide) ?_
    exact retB0 hx hb hr hlocks dX3_mayGive_26 (by first | exact fun q => c_3 ⟨q.1, q.2.1, q.2.2.1⟩ | exact fun q => q.2.2.2.1 c_11 | exact fun q => q.2.2.2.2.1 c_19 | exact fun q => q.2.2.2.2.2.elim c_30 (fun q => q.elim c_39 (fun q => q.elim c_57 (fun q => Int32.not_le.mpr c_82 q))))
set_option maxHeartbeats 4000000 in
set_option maxRecDepth 100000 in
theorem c_X3_movable {l : Launch} {D : va_G} {cI cR : ClassId} {ad : Nat → Nat} (X : St) (h : Int32) (k : Int32) : RoE l D cI cR (wC cI cR ad X) yX3_movable wsX3_movable ({ frames := 3, cells := 0, slots := 0, locals := 68 } : Room) [.ref (ad 1), .int h, .int k] (p_mov (X 0) h k) := by
  refine OfW (cc := cX3_movable) (maxL := 5) (ret := (some .int)) (by decide +kernel) rfl (Nat.le_of_ble_eq_true rfl) (fun p e s m below meth c hx hb hr hts hown hlocks hml hnm hP hK hN ls hl => ?_)
  have hl : lv_has ls 5 [(0, .ref (ad 1)), (1, .int h), (2, .int k)] := hl
  have lk_33 := hts (.fieldLink RX3 33 "HeadBudgets$Heads" "allotted" "[I") (by decide +kernel)
  have lk_39 := hts (.fieldLink RX3 39 "HeadBudgets$Heads" "share" "[I") (by decide +kernel)
  have lk_36 := hts (.fieldLink RX3 36 "HeadBudgets$Heads" "left" "[I") (by decide +kernel)
  have hi_X3 : ∀ w ∈ wsX30, w ∈ wsX3_movable := by decide +kernel
  refine lv_aload_n hx hb dX3_movable_0 rfl (lv_at hl 0 rfl) ?_
  refine lv_iload_n hx hb dX3_movable_1 rfl (lv_at hl 1 rfl) ?_
  refine lv_iload_n hx hb dX3_movable_2 rfl (lv_at hl 2 rfl) ?_
  refine callB (As := [.int h, .int k]) (rest := []) ⟨hx, hb, hml, hown, hts⟩ (c_X3_hasBoth X h k) (cwV 2 hts gX3_movable_X3_hasBoth rfl rfl rfl (by decide +kernel) ⟨Nat.le_of_ble_eq_true rfl, Nat.le_of_ble_eq_true rfl⟩) hK hN hP 1 g0_1 rfl rfl hl.1 rfl (Nat.le_of_ble_eq_true rfl) dX3_movable_3 ⟨Nat.zero_le _, Nat.zero_le _⟩ (fun c_3 => ?_) (fun c_3 => ?_)
  · refine lv_if_eq (tgt := 18) hx hb dX3_movable_6 (by decide) (fun h9 => absurd h9 (by decide)) (fun _ => ?_)
    refine lv_aload_n hx hb dX3_movable_9 rfl (lv_at hl 0 rfl) ?_
    refine lv_iload_n hx hb dX3_movable_10 rfl (lv_at hl 1 rfl) ?_
    refine lv_iload_n hx hb dX3_movable_11 rfl (lv_at hl 2 rfl) ?_
    refine callB (As := [.int h, .int k]) (rest := []) ⟨hx, hb, hml, hown, hts⟩ (c_X3_mayGive X h k) (cwV 2 hts gX3_movable_X3_mayGive rfl rfl rfl (by decide +kernel) ⟨Nat.le_of_ble_eq_true rfl, Nat.le_of_ble_eq_true rfl⟩) hK hN hP 1 g0_1 rfl rfl hl.1 rfl (Nat.le_of_ble_eq_true rfl) dX3_movable_12 ⟨Nat.zero_le _, Nat.zero_le _⟩ (fun c_12 => ?_) (fun c_12 => ?_)
    · have q1 := in20h c_3.1
      refine lv_if_ne (tgt := 20) hx hb dX3_movable_15 (by decide) (fun _ => ?_) (fun h9 => absurd h9 (by decide))
      refine lv_aload_n hx hb dX3_movable_20 rfl (lv_at hl 0 rfl) ?_
      refine xget (C := RX3) (T := TX3) (N := 11) (ci := 3) (w := .ref (ad 9)) hx hb hts hi_X3 hown hK hP 1 g0_1 rfl 7 (by decide) lk_33 rfl dX3_movable_21 ?_
      refine lv_iload_n hx hb dX3_movable_24 rfl (lv_at hl 1 rfl) ?_
      refine xald (x := qv (X 0) 6 h) hx hb hK hP 9 g0_9 q1 rfl dX3_movable_25 ?_
      refine lv_aload_n hx hb dX3_movable_26 rfl (lv_at hl 0 rfl) ?_
      refine xget (C := RX3) (T := TX3) (N := 11) (ci := 3) (w := .ref (ad 11)) hx hb hts hi_X3 hown hK hP 1 g0_1 rfl 9 (by decide) lk_39 rfl dX3_movable_27 ?_
      refine lv_iload_n hx hb dX3_movable_30 rfl (lv_at hl 1 rfl) ?_
      refine xald (x := qv (X 0) 8 h) hx hb hK hP 11 g0_11 q1 rfl dX3_movable_31 ?_
      refine callNE (As := [.int (qv (X 0) 6 h), .int (qv (X 0) 8 h)]) (rest := []) ⟨hx, hb, hml, hown, hts⟩ (c_X5_partOf (qv (X 0) 6 h) (qv (X 0) 8 h)) ⟨va_cnB 2 hts gX3_movable_X5_partOf_n77 rfl rfl rfl hN.2.2.2.2.2 (hts (.initialized RX5) (by decide +kernel)) (by decide +kernel) ⟨Nat.le_of_ble_eq_true rfl, Nat.le_of_ble_eq_true rfl⟩, hts (.static yX5_partOf) (by decide +kernel), trivial⟩ hK hN rfl hl.1 rfl (Nat.le_of_ble_eq_true rfl) dX3_movable_32 ⟨Nat.zero_le _, Nat.zero_le _⟩ ?_
      refine lv_aload_n hx hb dX3_movable_35 rfl (lv_at hl 0 rfl) ?_
      refine xget (C := RX3) (T := TX3) (N := 11) (ci := 3) (w := .ref (ad 10)) hx hb hts hi_X3 hown hK hP 1 g0_1 rfl 8 (by decide) lk_36 rfl dX3_movable_36 ?_
      refine lv_iload_n hx hb dX3_movable_39 rfl (lv_at hl 1 rfl) ?_
      refine xald (x := qv (X 0) 7 h) hx hb hK hP 10 g0_10 q1 rfl dX3_movable_40 ?_
      refine lv_isub hx hb dX3_movable_41 ?_
      refine lv_istore_n (lv' := [(3, .int ((p_part (qv (X 0) 6 h) (qv (X 0) 8 h)) - (qv (X 0) 7 h))), (0, .ref (ad 1)), (1, .int h), (2, .int k)]) hx hb dX3_movable_42 rfl hl (by decide) rfl (fun ls hl => ?_)
      refine lv_ldc (v := 100000) hx hb hown (hts (.constant RX3 80 100000) (by decide +kernel)) dX3_movable_43 ?_
      refine lv_aload_n hx hb dX3_movable_45 rfl (lv_at hl 1 rfl) ?_
      refine lv_iload_n hx hb dX3_movable_46 rfl (lv_at hl 2 rfl) ?_
      refine callE (As := [.int h]) (rest := [.int 100000]) ⟨hx, hb, hml, hown, hts⟩ (c_X3_freeOf X h) (cwV 1 hts gX3_movable_X3_freeOf rfl rfl rfl (by decide +kernel) ⟨Nat.le_of_ble_eq_true rfl, Nat.le_of_ble_eq_true rfl⟩) hK hN hP 1 g0_1 rfl rfl hl.1 rfl (Nat.le_of_ble_eq_true rfl) dX3_movable_47 ⟨Nat.zero_le _, Nat.zero_le _⟩ ?_
      refine lv_iload_n hx hb dX3_movable_50 rfl (lv_at hl 0 rfl) ?_
      refine va_mmin hx hb (by rw [hml]; exact hl.1.symm) hown (hts (.methodLink RX3 81 Lib.Math.min.name) (by decide +kernel)) (hts (.static Lib.Math.min.name) (by decide +kernel)) (hts (.initialized "java/lang/Math") (by decide +kernel)) (hts (.code Lib.Math.min.name Lib.Math.min.code 2 (some .int)) (by decide +kernel)) (Nat.le_of_ble_eq_true rfl) (Nat.le_of_ble_eq_true rfl) (Nat.zero_le _) (Nat.zero_le _) dX3_movable_51 ?_
      refine va_mmin hx hb (by rw [hml]; exact hl.1.symm) hown (hts (.methodLink RX3 81 Lib.Math.min.name) (by decide +kernel)) (hts (.static Lib.Math.min.name) (by decide +kernel)) (hts (.initialized "java/lang/Math") (by decide +kernel)) (hts (.code Lib.Math.min.name Lib.Math.min.code 2 (some .int)) (by decide +kernel)) (Nat.le_of_ble_eq_true rfl) (Nat.le_of_ble_eq_true rfl) (Nat.zero_le _) (Nat.zero_le _) dX3_movable_54 ?_
      refine lv_istore (lv' := [(4, .int (if (if ((p_part (qv (X 0) 6 h) (qv (X 0) 8 h)) - (qv (X 0) 7 h)) < (p_free (X 0) h) then ((p_part (qv (X 0) 6 h) (qv (X 0) 8 h)) - (qv (X 0) 7 h)) else (p_free (X 0) h)) < 100000 then (if ((p_part (qv (X 0) 6 h) (qv (X 0) 8 h)) - (qv (X 0) 7 h)) < (p_free (X 0) h) then ((p_part (qv (X 0) 6 h) (qv (X 0) 8 h)) - (qv (X 0) 7 h)) else (p_free (X 0) h)) else 100000)), (3, .int ((p_part (qv (X 0) 6 h) (qv (X 0) 8 h)) - (qv (X 0) 7 h))), (0, .ref (ad 1)), (1, .int h), (2, .int k)]) hx hb dX3_movable_57 hl (by decide) rfl (fun ls hl => ?_)
      refine lv_iconst (v := 0) hx hb dX3_movable_59 (by decide) ?_
      refine lv_iload hx hb dX3_movable_60 (lv_at hl 0 rfl) ?_
      refine va_mmax hx hb (by rw [hml]; exact hl.1.symm) hown (hts (.methodLink RX3 86 Lib.Math.max.name) (by decide +kernel)) (hts (.static Lib.Math.max.name) (by decide +kernel)) (hts (.initialized "java/lang/Math") (by decide +kernel)) (hts (.code Lib.Math.max.name Lib.Math.max.code 2 (some .int)) (by decide +kernel)) (Nat.le_of_ble_eq_true rfl) (Nat.le_of_ble_eq_true rfl) (Nat.zero_le _) (Nat.zero_le _) dX3_movable_62 ?_
      exact retE hx hb hr hlocks dX3_movable_65 (ci_t c_12).symm
    · refine lv_if_ne (tgt := 20) hx hb dX3_movable_15 (by decide) (fun h9 => absurd (by decide) h9) (fun _ => ?_)
      refine lv_iconst (v := 0) hx hb dX3_movable_18 (by decide) ?_
      exact retE hx hb hr hlocks dX3_movable_19 (ci_f c_12).symm
  · refine lv_if_eq (tgt := 18) hx hb dX3_movable_6 (by decide) (fun _ => ?_) (fun h9 => absurd (by decide) h9)
    refine lv_iconst (v := 0) hx hb dX3_movable_18 (by decide) ?_
    exact retE hx hb hr hlocks dX3_movable_19 (ci_f (fun q => c_3 ⟨q.1, q.2.1, q.2.2.1⟩)).symm
set_option maxHeartbeats 4000000 in
set_option maxRecDepth 100000 in
theorem c_X3_lapseWithin {l : Launch} {D : va_G} {cI cR : ClassId} {ad : Nat → Nat} (X : St) (t : Int32) (q : Int32) : RoE l D cI cR (wC cI cR ad X) yX3_lapseWithin wsX3_lapseWithin ({ frames := 2, cells := 0, slots := 0, locals := 45 } : Room) [.ref (ad 1), .int t, .int q] (p_lapse (X 0) t q 20) := by
  refine OfW (cc := cX3_lapseWithin) (maxL := 6) (ret := (some .int)) (by decide +kernel) rfl (Nat.le_of_ble_eq_true rfl) (fun p e s m below meth c hx hb hr hts hown hlocks hml hnm hP hK hN ls hl => ?_)
  have hl : lv_has ls 6 [(0, .ref (ad 1)), (1, .int t), (2, .int q)] := hl
  refine lv_iconst (v := 0) hx hb dX3_lapseWithin_0 (by decide) ?_
  refine lv_istore_n (lv' := [(3, .int 0), (0, .ref (ad 1)), (1, .int t), (2, .int q)]) hx hb dX3_lapseWithin_1 rfl hl (by decide) rfl (fun ls hl => ?_)
  refine lv_iconst (v := 0) hx hb dX3_lapseWithin_2 (by decide) ?_
  refine lv_istore (lv' := [(4, .int 0), (3, .int 0), (0, .ref (ad 1)), (1, .int t), (2, .int q)]) hx hb dX3_lapseWithin_3 hl (by decide) rfl (fun ls hl => ?_)
  have hloop_5 : ∀ (n_5 : Nat) (k : Nat) (xa xk : Int32), k ≤ 20 → 20 < k + n_5 → xk = nI k → xa = p_lapse (X 0) t q k → ∀ ls : Array Slot, lv_has ls 6 [(0, .ref (ad 1)), (1, .int t), (2, .int q), (3, .int xa), (4, .int xk)] → W p l e ({ frames := 2, cells := 0, slots := 0, locals := 45 } : Room) s m ([.ref (ad 1), .int t, .int q]).toArray below meth c s.heap [] 0 0 (MQ below (vp_Si (fun r => r = p_lapse (X 0) t q 20)) ([.ref (ad 1), .int t, .int q]).toArray s 0 0 (fun _ => False)) (F0 m 5 ls []) := by
    intro n_5
    induction n_5 with
    | zero =>
      intro k xa xk hk hn ek ea ls hl
      exfalso; omega
    | succ n_5 ih_5 =>
      intro k xa xk hk hn ek ea ls hl
      refine lv_iload hx hb dX3_lapseWithin_5 (lv_at hl 4 rfl) ?_
      refine lv_bipush (v := 20) hx hb dX3_lapseWithin_7 (by decide) ?_
      refine lv_icmp_ge (tgt := 48) hx hb dX3_lapseWithin_9 (by decide) (fun c_9 => ?_) (fun c_9 => ?_)
      · have hk2 : k = 20 := nI_ge20 hk (by rw [← ek]; exact c_9)
        subst hk2
        refine lv_iload_n hx hb dX3_lapseWithin_48 rfl (lv_at hl 3 rfl) ?_
        exact retE hx hb hr hlocks dX3_lapseWithin_49 ea
      · have hlt : k < 20 := nI_lt20 (by omega) (by rw [← ek]; exact c_9)
        refine lv_aload_n hx hb dX3_lapseWithin_12 rfl (lv_at hl 0 rfl) ?_
        refine lv_iload hx hb dX3_lapseWithin_13 (lv_at hl 4 rfl) ?_
        refine lv_iload_n hx hb dX3_lapseWithin_15 rfl (lv_at hl 1 rfl) ?_
        refine callB (As := [.int xk, .int t]) (rest := []) ⟨hx, hb, hml, hown, hts⟩ (c_X3_isWithin X xk t) (cwV 2 hts gX3_lapseWithin_X3_isWithin rfl rfl rfl (by decide +kernel) ⟨Nat.le_of_ble_eq_true rfl, Nat.le_of_ble_eq_true rfl⟩) hK hN hP 1 g0_1 rfl rfl hl.1 rfl (Nat.le_of_ble_eq_true rfl) dX3_lapseWithin_16 ⟨Nat.zero_le _, Nat.zero_le _⟩ (fun c_16 => ?_) (fun c_16 => ?_)
        · refine lv_if_eq (tgt := 42) hx hb dX3_lapseWithin_19 (by decide) (fun h9 => absurd h9 (by decide)) (fun _ => ?_)
          refine lv_aload_n hx hb dX3_lapseWithin_22 rfl (lv_at hl 0 rfl) ?_
          refine lv_iload hx hb dX3_lapseWithin_23 (lv_at hl 4 rfl) ?_
          refine callE (As := [.int xk]) (rest := []) ⟨hx, hb, hml, hown, hts⟩ (c_X3_freeOf X xk) (cwV 1 hts gX3_lapseWithin_X3_freeOf rfl rfl rfl (by decide +kernel) ⟨Nat.le_of_ble_eq_true rfl, Nat.le_of_ble_eq_true rfl⟩) hK hN hP 1 g0_1 rfl rfl hl.1 rfl (Nat.le_of_ble_eq_true rfl) dX3_lapseWithin_25 ⟨Nat.zero_le _, Nat.zero_le _⟩ ?_
          refine lv_istore (lv' := [(5, .int (p_free (X 0) xk)), (0, .ref (ad 1)), (1, .int t), (2, .int q), (3, .int xa), (4, .int xk)]) hx hb dX3_lapseWithin_28 hl (by decide) rfl (fun ls hl => ?_)
          refine lv_iload_n hx hb dX3_lapseWithin_30 rfl (lv_at hl 4 rfl) ?_
          refine lv_iload hx hb dX3_lapseWithin_31 (lv_at hl 0 rfl) ?_
          refine lv_iload hx hb dX3_lapseWithin_33 (lv_at hl 0 rfl) ?_
          refine lv_iload_n hx hb dX3_lapseWithin_35 rfl (lv_at hl 3 rfl) ?_
          refine callNE (As := [.int (p_free (X 0) xk), .int q]) (rest := [.int (p_free (X 0) xk), .int xa]) ⟨hx, hb, hml, hown, hts⟩ (c_X5_partOf (p_free (X 0) xk) q) ⟨va_cnB 2 hts gX3_lapseWithin_X5_partOf_n77 rfl rfl rfl hN.2.2.2.2.2 (hts (.initialized RX5) (by decide +kernel)) (by decide +kernel) ⟨Nat.le_of_ble_eq_true rfl, Nat.le_of_ble_eq_true rfl⟩, hts (.static yX5_partOf) (by decide +kernel), trivial⟩ hK hN rfl hl.1 rfl (Nat.le_of_ble_eq_true rfl) dX3_lapseWithin_36 ⟨Nat.zero_le _, Nat.zero_le _⟩ ?_
          refine lv_isub hx hb dX3_lapseWithin_39 ?_
          refine lv_iadd hx hb dX3_lapseWithin_40 ?_
          refine lv_istore_n (lv' := [(3, .int (xa + ((p_free (X 0) xk) - (p_part (p_free (X 0) xk) q)))), (5, .int (p_free (X 0) xk)), (0, .ref (ad 1)), (1, .int t), (2, .int q), (4, .int xk)]) hx hb dX3_lapseWithin_41 rfl hl (by decide) rfl (fun ls hl => ?_)
          refine lv_iinc (v := xk + 1) (lv' := [(4, .int (xk + 1)), (3, .int (xa + ((p_free (X 0) xk) - (p_part (p_free (X 0) xk) q)))), (5, .int (p_free (X 0) xk)), (0, .ref (ad 1)), (1, .int t), (2, .int q)]) hx hb dX3_lapseWithin_42 hl (k := 5) rfl rfl (by decide) rfl (fun ls hl => ?_)
          refine lv_goto (tgt := 5) hx hb dX3_lapseWithin_45 (by decide) ?_
          exact ih_5  (k + 1) _ _ (by omega) (by omega) (by rw [ek]; exact nI_1 k) (by rw [ea, ek]; exact (sumI_ci (by rw [← ek]; exact c_16) rfl).symm) _ (lv_sub hl [3, 4, 5, 1, 0] rfl)
        · refine lv_if_eq (tgt := 42) hx hb dX3_lapseWithin_19 (by decide) (fun _ => ?_) (fun h9 => absurd (by decide) h9)
          refine lv_iinc (v := xk + 1) (lv' := [(4, .int (xk + 1)), (0, .ref (ad 1)), (1, .int t), (2, .int q), (3, .int xa)]) hx hb dX3_lapseWithin_42 hl (k := 4) rfl rfl (by decide) rfl (fun ls hl => ?_)
          refine lv_goto (tgt := 5) hx hb dX3_lapseWithin_45 (by decide) ?_
          exact ih_5  (k + 1) _ _ (by omega) (by omega) (by rw [ek]; exact nI_1 k) (by rw [ea]; exact (sumI_c0 (by rw [← ek]; exact c_16) rfl).symm) _ (lv_sub hl [1, 2, 3, 4, 0] rfl)
  exact hloop_5  21 0 0 0 (by omega) (by omega) rfl rfl _ (lv_sub hl [2, 3, 4, 1, 0] rfl)
set_option maxHeartbeats 4000000 in
set_option maxRecDepth 100000 in
theorem c_X1_countOpen {l : Launch} {D : va_G} {cI cR : ClassId} {ad : Nat → Nat} (X : St) : RoE l D cI cR (wC cI cR ad X) yX1_countOpen wsX1_countOpen ({ frames := 0, cells := 0, slots := 0, locals := 0 } : Room) [.ref (ad 12)] (p_open (X 0) 40) := by
  refine OfW (cc := cX1_countOpen) (maxL := 3) (ret := (some .int)) (by decide +kernel) rfl (Nat.le_of_ble_eq_true rfl) (fun p e s m below meth c hx hb hr hts hown hlocks hml hnm hP hK hN ls hl => ?_)
  have hl : lv_has ls 3 [(0, .ref (ad 12))] := hl
  have lk_15 := hts (.fieldLink RX1 15 "HeadBudgets$Commitments" "open" "[I") (by decide +kernel)
  have hi_X1 : ∀ w ∈ wsX10, w ∈ wsX1_countOpen := by decide +kernel
  refine lv_iconst (v := 0) hx hb dX1_countOpen_0 (by decide) ?_
  refine lv_istore_n (lv' := [(1, .int 0), (0, .ref (ad 12))]) hx hb dX1_countOpen_1 rfl hl (by decide) rfl (fun ls hl => ?_)
  refine lv_iconst (v := 0) hx hb dX1_countOpen_2 (by decide) ?_
  refine lv_istore_n (lv' := [(2, .int 0), (1, .int 0), (0, .ref (ad 12))]) hx hb dX1_countOpen_3 rfl hl (by decide) rfl (fun ls hl => ?_)
  have hloop_4 : ∀ (n_4 : Nat) (k : Nat) (xa xk : Int32), k ≤ 40 → 40 < k + n_4 → xk = nI k → xa = p_open (X 0) k → ∀ ls : Array Slot, lv_has ls 3 [(0, .ref (ad 12)), (1, .int xa), (2, .int xk)] → W p l e ({ frames := 0, cells := 0, slots := 0, locals := 0 } : Room) s m ([.ref (ad 12)]).toArray below meth c s.heap [] 0 0 (MQ below (vp_Si (fun r => r = p_open (X 0) 40)) ([.ref (ad 12)]).toArray s 0 0 (fun _ => False)) (F0 m 4 ls []) := by
    intro n_4
    induction n_4 with
    | zero =>
      intro k xa xk hk hn ek ea ls hl
      exfalso; omega
    | succ n_4 ih_4 =>
      intro k xa xk hk hn ek ea ls hl
      refine lv_iload_n hx hb dX1_countOpen_4 rfl (lv_at hl 2 rfl) ?_
      refine lv_bipush (v := 40) hx hb dX1_countOpen_5 (by decide) ?_
      refine lv_icmp_ge (tgt := 28) hx hb dX1_countOpen_7 (by decide) (fun c_7 => ?_) (fun c_7 => ?_)
      · have hk2 : k = 40 := nI_ge40 hk (by rw [← ek]; exact c_7)
        subst hk2
        refine lv_iload_n hx hb dX1_countOpen_28 rfl (lv_at hl 1 rfl) ?_
        exact retE hx hb hr hlocks dX1_countOpen_29 ea
      · have hlt : k < 40 := nI_lt40 (by omega) (by rw [← ek]; exact c_7)
        refine lv_aload_n hx hb dX1_countOpen_10 rfl (lv_at hl 0 rfl) ?_
        refine xget (C := RX1) (T := TX1) (N := 5) (ci := 1) (w := .ref (ad 14)) hx hb hts hi_X1 hown hK hP 12 g0_12 rfl 1 (by decide) lk_15 rfl dX1_countOpen_11 ?_
        refine lv_iload_n hx hb dX1_countOpen_14 rfl (lv_at hl 2 rfl) ?_
        refine xald (x := qv (X 0) 11 xk) hx hb hK hP 14 g0_14 (by rw [ek]; exact in40 (nI_cin hlt)) rfl dX1_countOpen_15 ?_
        refine lv_if_le (tgt := 22) hx hb dX1_countOpen_16 (by decide) (fun c_16 => ?_) (fun c_16 => ?_)
        · refine lv_iinc (v := xk + 1) (lv' := [(2, .int (xk + 1)), (0, .ref (ad 12)), (1, .int xa)]) hx hb dX1_countOpen_22 hl (k := 2) rfl rfl (by decide) rfl (fun ls hl => ?_)
          refine lv_goto (tgt := 4) hx hb dX1_countOpen_25 (by decide) ?_
          exact ih_4  (k + 1) _ _ (by omega) (by omega) (by rw [ek]; exact nI_1 k) (by rw [ea]; exact (sumI_c0 (by rw [ek, qv, nI_c hk] at c_16; exact Int32.not_lt.mpr c_16) rfl).symm) _ (lv_sub hl [1, 2, 0] rfl)
        · refine lv_iinc (v := xa + 1) (lv' := [(1, .int (xa + 1)), (0, .ref (ad 12)), (2, .int xk)]) hx hb dX1_countOpen_19 hl (k := 1) rfl rfl (by decide) rfl (fun ls hl => ?_)
          refine lv_iinc (v := xk + 1) (lv' := [(2, .int (xk + 1)), (1, .int (xa + 1)), (0, .ref (ad 12))]) hx hb dX1_countOpen_22 hl (k := 2) rfl rfl (by decide) rfl (fun ls hl => ?_)
          refine lv_goto (tgt := 4) hx hb dX1_countOpen_25 (by decide) ?_
          exact ih_4  (k + 1) _ _ (by omega) (by omega) (by rw [ek]; exact nI_1 k) (by rw [ea]; exact (sumI_ci (by rw [ek, qv, nI_c hk] at c_16; exact Int32.not_le.mp c_16) rfl).symm) _ (lv_sub hl [2, 1, 0] rfl)
  exact hloop_4  41 0 0 0 (by omega) (by omega) rfl rfl _ (lv_sub hl [2, 1, 0] rfl)
set_option maxHeartbeats 4000000 in
set_option maxRecDepth 100000 in
theorem c_X3_giverOfMost {l : Launch} {D : va_G} {cI cR : ClassId} {ad : Nat → Nat} (X : St) (t : Int32) : RoE l D cI cR (wC cI cR ad X) yX3_giverOfMost wsX3_giverOfMost ({ frames := 4, cells := 0, slots := 0, locals := 92 } : Room) [.ref (ad 1), .int t] ((p_best (X 0) t 20).1) := by
  refine OfW (cc := cX3_giverOfMost) (maxL := 6) (ret := (some .int)) (by decide +kernel) rfl (Nat.le_of_ble_eq_true rfl) (fun p e s m below meth c hx hb hr hts hown hlocks hml hnm hP hK hN ls hl => ?_)
  have hl : lv_has ls 6 [(0, .ref (ad 1)), (1, .int t)] := hl
  have lk_18 := hts (.fieldLink RX3 18 "HeadBudgets$Heads" "rank" "[I") (by decide +kernel)
  have hi_X3 : ∀ w ∈ wsX30, w ∈ wsX3_giverOfMost := by decide +kernel
  refine lv_bipush (v := (-9)) hx hb dX3_giverOfMost_0 (by decide) ?_
  refine lv_istore_n (lv' := [(2, .int ((-9))), (0, .ref (ad 1)), (1, .int t)]) hx hb dX3_giverOfMost_2 rfl hl (by decide) rfl (fun ls hl => ?_)
  refine lv_iconst (v := 0) hx hb dX3_giverOfMost_3 (by decide) ?_
  refine lv_istore_n (lv' := [(3, .int 0), (2, .int ((-9))), (0, .ref (ad 1)), (1, .int t)]) hx hb dX3_giverOfMost_4 rfl hl (by decide) rfl (fun ls hl => ?_)
  refine lv_iconst (v := 0) hx hb dX3_giverOfMost_5 (by decide) ?_
  refine lv_istore (lv' := [(4, .int 0), (3, .int 0), (2, .int ((-9))), (0, .ref (ad 1)), (1, .int t)]) hx hb dX3_giverOfMost_6 hl (by decide) rfl (fun ls hl => ?_)
  have hloop_8 : ∀ (n_8 : Nat) (k : Nat) (xb xm xk : Int32), k ≤ 20 → 20 < k + n_8 → xk = nI k → p_best (X 0) t k = (xb, xm) → ∀ ls : Array Slot, lv_has ls 6 [(0, .ref (ad 1)), (1, .int t), (2, .int xb), (3, .int xm), (4, .int xk)] → W p l e ({ frames := 4, cells := 0, slots := 0, locals := 92 } : Room) s m ([.ref (ad 1), .int t]).toArray below meth c s.heap [] 0 0 (MQ below (vp_Si (fun r => r = (p_best (X 0) t 20).1)) ([.ref (ad 1), .int t]).toArray s 0 0 (fun _ => False)) (F0 m 8 ls []) := by
    intro n_8
    induction n_8 with
    | zero =>
      intro k xb xm xk hk hn ek ea ls hl
      exfalso; omega
    | succ n_8 ih_8 =>
      intro k xb xm xk hk hn ek ea ls hl
      refine lv_iload hx hb dX3_giverOfMost_8 (lv_at hl 4 rfl) ?_
      refine lv_bipush (v := 20) hx hb dX3_giverOfMost_10 (by decide) ?_
      refine lv_icmp_ge (tgt := 72) hx hb dX3_giverOfMost_12 (by decide) (fun c_12 => ?_) (fun c_12 => ?_)
      · have hk2 : k = 20 := nI_ge20 hk (by rw [← ek]; exact c_12)
        subst hk2
        refine lv_iload_n hx hb dX3_giverOfMost_72 rfl (lv_at hl 2 rfl) ?_
        exact retE hx hb hr hlocks dX3_giverOfMost_73 (by rw [ea])
      · have hlt : k < 20 := nI_lt20 (by omega) (by rw [← ek]; exact c_12)
        have q1 := in20 (nI_hin hlt)
        rw [← ek] at q1
        refine lv_aload_n hx hb dX3_giverOfMost_15 rfl (lv_at hl 0 rfl) ?_
        refine lv_iload hx hb dX3_giverOfMost_16 (lv_at hl 4 rfl) ?_
        refine lv_iload_n hx hb dX3_giverOfMost_18 rfl (lv_at hl 1 rfl) ?_
        refine callE (As := [.int xk, .int t]) (rest := []) ⟨hx, hb, hml, hown, hts⟩ (c_X3_movable X xk t) (cwV 2 hts gX3_giverOfMost_X3_movable rfl rfl rfl (by decide +kernel) ⟨Nat.le_of_ble_eq_true rfl, Nat.le_of_ble_eq_true rfl⟩) hK hN hP 1 g0_1 rfl rfl hl.1 rfl (Nat.le_of_ble_eq_true rfl) dX3_giverOfMost_19 ⟨Nat.zero_le _, Nat.zero_le _⟩ ?_
        refine lv_istore (lv' := [(5, .int (p_mov (X 0) xk t)), (0, .ref (ad 1)), (1, .int t), (2, .int xb), (3, .int xm), (4, .int xk)]) hx hb dX3_giverOfMost_22 hl (by decide) rfl (fun ls hl => ?_)
        refine lv_iload hx hb dX3_giverOfMost_24 (lv_at hl 0 rfl) ?_
        refine lv_iload_n hx hb dX3_giverOfMost_26 rfl (lv_at hl 4 rfl) ?_
        refine lv_icmp_gt (tgt := 60) hx hb dX3_giverOfMost_27 (by decide) (fun c_27 => ?_) (fun c_27 => ?_)
        · refine lv_iload hx hb dX3_giverOfMost_60 (lv_at hl 5 rfl) ?_
          refine lv_istore_n (lv' := [(2, .int xk), (5, .int (p_mov (X 0) xk t)), (0, .ref (ad 1)), (1, .int t), (3, .int xm), (4, .int xk)]) hx hb dX3_giverOfMost_62 rfl hl (by decide) rfl (fun ls hl => ?_)
          refine lv_iload hx hb dX3_giverOfMost_63 (lv_at hl 1 rfl) ?_
          refine lv_istore_n (lv' := [(3, .int (p_mov (X 0) xk t)), (2, .int xk), (5, .int (p_mov (X 0) xk t)), (0, .ref (ad 1)), (1, .int t), (4, .int xk)]) hx hb dX3_giverOfMost_65 rfl hl (by decide) rfl (fun ls hl => ?_)
          refine lv_iinc (v := xk + 1) (lv' := [(4, .int (xk + 1)), (3, .int (p_mov (X 0) xk t)), (2, .int xk), (5, .int (p_mov (X 0) xk t)), (0, .ref (ad 1)), (1, .int t)]) hx hb dX3_giverOfMost_66 hl (k := 5) rfl rfl (by decide) rfl (fun ls hl => ?_)
          refine lv_goto (tgt := 8) hx hb dX3_giverOfMost_69 (by decide) ?_
          exact ih_8  (k + 1) _ _ _ (by omega) (by omega) (by rw [ek]; exact nI_1 k) (best_yes ea ek (by first | exact Or.inl c_27 | exact Or.inr ⟨c_33, c_38, Int32.not_le.mp c_57⟩)) _ (lv_sub hl [4, 5, 2, 1, 0] rfl)
        · refine lv_iload hx hb dX3_giverOfMost_30 (lv_at hl 0 rfl) ?_
          refine lv_iload_n hx hb dX3_giverOfMost_32 rfl (lv_at hl 4 rfl) ?_
          refine lv_icmp_ne (tgt := 66) hx hb dX3_giverOfMost_33 (by decide) (fun c_33 => ?_) (fun c_33 => ?_)
          · refine lv_iinc (v := xk + 1) (lv' := [(4, .int (xk + 1)), (5, .int (p_mov (X 0) xk t)), (0, .ref (ad 1)), (1, .int t), (2, .int xb), (3, .int xm)]) hx hb dX3_giverOfMost_66 hl (k := 5) rfl rfl (by decide) rfl (fun ls hl => ?_)
            refine lv_goto (tgt := 8) hx hb dX3_giverOfMost_69 (by decide) ?_
            exact ih_8  (k + 1) _ _ _ (by omega) (by omega) (by rw [ek]; exact nI_1 k) (best_no ea ek (by first | exact fun q => q.elim c_27 (fun q => c_33 q.1) | exact fun q => q.elim c_27 (fun q => c_38 q.2.1) | exact fun q => q.elim c_27 (fun q => Int32.not_le.mpr q.2.2 c_57))) _ (lv_sub hl [2, 3, 4, 5, 0] rfl)
          · refine lv_aload_n hx hb dX3_giverOfMost_36 rfl (lv_at hl 1 rfl) ?_
            refine lv_iload_n hx hb dX3_giverOfMost_37 rfl (lv_at hl 3 rfl) ?_
            refine callB (As := [.int xb]) (rest := []) ⟨hx, hb, hml, hown, hts⟩ (c_X3_has X xb) (cwV 1 hts gX3_giverOfMost_X3_has rfl rfl rfl (by decide +kernel) ⟨Nat.le_of_ble_eq_true rfl, Nat.le_of_ble_eq_true rfl⟩) hK hN hP 1 g0_1 rfl rfl hl.1 rfl (Nat.le_of_ble_eq_true rfl) dX3_giverOfMost_38 ⟨Nat.zero_le _, Nat.zero_le _⟩ (fun c_38 => ?_) (fun c_38 => ?_)
            · have q2 := in20h c_38
              refine lv_if_eq (tgt := 66) hx hb dX3_giverOfMost_41 (by decide) (fun h9 => absurd h9 (by decide)) (fun _ => ?_)
              refine lv_aload_n hx hb dX3_giverOfMost_44 rfl (lv_at hl 1 rfl) ?_
              refine xget (C := RX3) (T := TX3) (N := 11) (ci := 3) (w := .ref (ad 4)) hx hb hts hi_X3 hown hK hP 1 g0_1 rfl 2 (by decide) lk_18 rfl dX3_giverOfMost_45 ?_
              refine lv_iload hx hb dX3_giverOfMost_48 (lv_at hl 5 rfl) ?_
              refine xald (x := qv (X 0) 1 xk) hx hb hK hP 4 g0_4 (by assumption) rfl dX3_giverOfMost_50 ?_
              refine lv_aload_n hx hb dX3_giverOfMost_51 rfl (lv_at hl 1 rfl) ?_
              refine xget (C := RX3) (T := TX3) (N := 11) (ci := 3) (w := .ref (ad 4)) hx hb hts hi_X3 hown hK hP 1 g0_1 rfl 2 (by decide) lk_18 rfl dX3_giverOfMost_52 ?_
              refine lv_iload_n hx hb dX3_giverOfMost_55 rfl (lv_at hl 3 rfl) ?_
              refine xald (x := qv (X 0) 1 xb) hx hb hK hP 4 g0_4 (by assumption) rfl dX3_giverOfMost_56 ?_
              refine lv_icmp_le (tgt := 66) hx hb dX3_giverOfMost_57 (by decide) (fun c_57 => ?_) (fun c_57 => ?_)
              · refine lv_iinc (v := xk + 1) (lv' := [(4, .int (xk + 1)), (5, .int (p_mov (X 0) xk t)), (0, .ref (ad 1)), (1, .int t), (2, .int xb), (3, .int xm)]) hx hb dX3_giverOfMost_66 hl (k := 5) rfl rfl (by decide) rfl (fun ls hl => ?_)
                refine lv_goto (tgt := 8) hx hb dX3_giverOfMost_69 (by decide) ?_
                exact ih_8  (k + 1) _ _ _ (by omega) (by omega) (by rw [ek]; exact nI_1 k) (best_no ea ek (by first | exact fun q => q.elim c_27 (fun q => c_33 q.1) | exact fun q => q.elim c_27 (fun q => c_38 q.2.1) | exact fun q => q.elim c_27 (fun q => Int32.not_le.mpr q.2.2 c_57))) _ (lv_sub hl [2, 3, 4, 5, 0] rfl)
              · refine lv_iload hx hb dX3_giverOfMost_60 (lv_at hl 5 rfl) ?_
                refine lv_istore_n (lv' := [(2, .int xk), (5, .int (p_mov (X 0) xk t)), (0, .ref (ad 1)), (1, .int t), (3, .int xm), (4, .int xk)]) hx hb dX3_giverOfMost_62 rfl hl (by decide) rfl (fun ls hl => ?_)
                refine lv_iload hx hb dX3_giverOfMost_63 (lv_at hl 1 rfl) ?_
                refine lv_istore_n (lv' := [(3, .int (p_mov (X 0) xk t)), (2, .int xk), (5, .int (p_mov (X 0) xk t)), (0, .ref (ad 1)), (1, .int t), (4, .int xk)]) hx hb dX3_giverOfMost_65 rfl hl (by decide) rfl (fun ls hl => ?_)
                refine lv_iinc (v := xk + 1) (lv' := [(4, .int (xk + 1)), (3, .int (p_mov (X 0) xk t)), (2, .int xk), (5, .int (p_mov (X 0) xk t)), (0, .ref (ad 1)), (1, .int t)]) hx hb dX3_giverOfMost_66 hl (k := 5) rfl rfl (by decide) rfl (fun ls hl => ?_)
                refine lv_goto (tgt := 8) hx hb dX3_giverOfMost_69 (by decide) ?_
                exact ih_8  (k + 1) _ _ _ (by omega) (by omega) (by rw [ek]; exact nI_1 k) (best_yes ea ek (by first | exact Or.inl c_27 | exact Or.inr ⟨c_33, c_38, Int32.not_le.mp c_57⟩)) _ (lv_sub hl [4, 5, 2, 1, 0] rfl)
            · refine lv_if_eq (tgt := 66) hx hb dX3_giverOfMost_41 (by decide) (fun _ => ?_) (fun h9 => absurd (by decide) h9)
              refine lv_iinc (v := xk + 1) (lv' := [(4, .int (xk + 1)), (5, .int (p_mov (X 0) xk t)), (0, .ref (ad 1)), (1, .int t), (2, .int xb), (3, .int xm)]) hx hb dX3_giverOfMost_66 hl (k := 5) rfl rfl (by decide) rfl (fun ls hl => ?_)
              refine lv_goto (tgt := 8) hx hb dX3_giverOfMost_69 (by decide) ?_
              exact ih_8  (k + 1) _ _ _ (by omega) (by omega) (by rw [ek]; exact nI_1 k) (best_no ea ek (by first | exact fun q => q.elim c_27 (fun q => c_33 q.1) | exact fun q => q.elim c_27 (fun q => c_38 q.2.1) | exact fun q => q.elim c_27 (fun q => Int32.not_le.mpr q.2.2 c_57))) _ (lv_sub hl [2, 3, 4, 5, 0] rfl)
  exact hloop_8  21 0 (-9) 0 0 (by omega) (by omega) rfl rfl _ (lv_sub hl [3, 4, 2, 1, 0] rfl)
end
section
/-! WHAT THE DEEDS DO: to a book (b_ .., n_ ..), to the class's state (N_ ..); guards g_ .. (0: it goes); answers a_ .., v_ .. -/
def uc (X : St) (g f : Nat) (col : Nat → Int32) : St := fun a => if a = g then (fun b => if b = f then col else X a b) else X a
theorem wC_uc {cI cR : ClassId} {ad : Nat → Nat} {X : St} {g j f n : Nat} {col : Nat → Int32} (hg : g < 13) (hj : j < 17) (he : ∀ r : Bk, bkE cI ad g r j = .inl (cI, n, .inl (r f))) (ho : ∀ b : Nat, b < 17 → b ≠ j → jc b ≠ f) : (wC cI cR ad X).set (17 * g + j) (ad (17 * g + j), .inl (cI, n, .inl col)) = wC cI cR ad (uc X g f col) := by
  refine wC_set (j := j) rfl hj (by omega) ?_ ?_
  · unfold cellC
    rw [if_pos hg, he]
    simp [uc]
  · intro a b hb hab hne
    unfold cellC
    by_cases ha : a = g
    · subst ha
      rw [if_pos hg, if_pos hg]
      exact bkE_same hb (by simp [uc, ho b hb (fun z => hne ⟨rfl, z⟩)])
    · by_cases ha2 : a < 13
      · rw [if_pos ha2, if_pos ha2]
        simp [uc, ha]
      · rw [if_neg ha2, if_neg ha2]
        simp [uc, show ¬ (14 : Nat) = g by omega, show ¬ (13 : Nat) = g by omega]
theorem sc_0 {cI cR : ClassId} {ad : Nat → Nat} {X : St} {g : Nat} {col : Nat → Int32} (hg : g < 13) : (wC cI cR ad X).set (17 * g + 2) (ad (17 * g + 2), .inl (cI, 20, .inl col)) = wC cI cR ad (uc X g 0 col) := wC_uc hg (by omega) (fun _ => rfl) (fun b hb hne => by
  rcases (show b = 0 ∨ b = 1 ∨ b = 2 ∨ b = 3 ∨ b = 4 ∨ b = 5 ∨ b = 6 ∨ b = 7 ∨ b = 8 ∨ b = 9 ∨ b = 10 ∨ b = 11 ∨ b = 12 ∨ b = 13 ∨ b = 14 ∨ b = 15 ∨ b = 16 by omega) with rfl | rfl | rfl | rfl | rfl | rfl | rfl | rfl | rfl | rfl | rfl | rfl | rfl | rfl | rfl | rfl | rfl <;> first | exact absurd rfl hne | decide)
theorem sc_1 {cI cR : ClassId} {ad : Nat → Nat} {X : St} {g : Nat} {col : Nat → Int32} (hg : g < 13) : (wC cI cR ad X).set (17 * g + 4) (ad (17 * g + 4), .inl (cI, 20, .inl col)) = wC cI cR ad (uc X g 1 col) := wC_uc hg (by omega) (fun _ => rfl) (fun b hb hne => by
  rcases (show b = 0 ∨ b = 1 ∨ b = 2 ∨ b = 3 ∨ b = 4 ∨ b = 5 ∨ b = 6 ∨ b = 7 ∨ b = 8 ∨ b = 9 ∨ b = 10 ∨ b = 11 ∨ b = 12 ∨ b = 13 ∨ b = 14 ∨ b = 15 ∨ b = 16 by omega) with rfl | rfl | rfl | rfl | rfl | rfl | rfl | rfl | rfl | rfl | rfl | rfl | rfl | rfl | rfl | rfl | rfl <;> first | exact absurd rfl hne | decide)
theorem sc_2 {cI cR : ClassId} {ad : Nat → Nat} {X : St} {g : Nat} {col : Nat → Int32} (hg : g < 13) : (wC cI cR ad X).set (17 * g + 5) (ad (17 * g + 5), .inl (cI, 20, .inl col)) = wC cI cR ad (uc X g 2 col) := wC_uc hg (by omega) (fun _ => rfl) (fun b hb hne => by
  rcases (show b = 0 ∨ b = 1 ∨ b = 2 ∨ b = 3 ∨ b = 4 ∨ b = 5 ∨ b = 6 ∨ b = 7 ∨ b = 8 ∨ b = 9 ∨ b = 10 ∨ b = 11 ∨ b = 12 ∨ b = 13 ∨ b = 14 ∨ b = 15 ∨ b = 16 by omega) with rfl | rfl | rfl | rfl | rfl | rfl | rfl | rfl | rfl | rfl | rfl | rfl | rfl | rfl | rfl | rfl | rfl <;> first | exact absurd rfl hne | decide)
theorem sc_3 {cI cR : ClassId} {ad : Nat → Nat} {X : St} {g : Nat} {col : Nat → Int32} (hg : g < 13) : (wC cI cR ad X).set (17 * g + 6) (ad (17 * g + 6), .inl (cI, 20, .inl col)) = wC cI cR ad (uc X g 3 col) := wC_uc hg (by omega) (fun _ => rfl) (fun b hb hne => by
  rcases (show b = 0 ∨ b = 1 ∨ b = 2 ∨ b = 3 ∨ b = 4 ∨ b = 5 ∨ b = 6 ∨ b = 7 ∨ b = 8 ∨ b = 9 ∨ b = 10 ∨ b = 11 ∨ b = 12 ∨ b = 13 ∨ b = 14 ∨ b = 15 ∨ b = 16 by omega) with rfl | rfl | rfl | rfl | rfl | rfl | rfl | rfl | rfl | rfl | rfl | rfl | rfl | rfl | rfl | rfl | rfl <;> first | exact absurd rfl hne | decide)
theorem sc_4 {cI cR : ClassId} {ad : Nat → Nat} {X : St} {g : Nat} {col : Nat → Int32} (hg : g < 13) : (wC cI cR ad X).set (17 * g + 7) (ad (17 * g + 7), .inl (cI, 20, .inl col)) = wC cI cR ad (uc X g 4 col) := wC_uc hg (by omega) (fun _ => rfl) (fun b hb hne => by
  rcases (show b = 0 ∨ b = 1 ∨ b = 2 ∨ b = 3 ∨ b = 4 ∨ b = 5 ∨ b = 6 ∨ b = 7 ∨ b = 8 ∨ b = 9 ∨ b = 10 ∨ b = 11 ∨ b = 12 ∨ b = 13 ∨ b = 14 ∨ b = 15 ∨ b = 16 by omega) with rfl | rfl | rfl | rfl | rfl | rfl | rfl | rfl | rfl | rfl | rfl | rfl | rfl | rfl | rfl | rfl | rfl <;> first | exact absurd rfl hne | decide)
theorem sc_5 {cI cR : ClassId} {ad : Nat → Nat} {X : St} {g : Nat} {col : Nat → Int32} (hg : g < 13) : (wC cI cR ad X).set (17 * g + 8) (ad (17 * g + 8), .inl (cI, 20, .inl col)) = wC cI cR ad (uc X g 5 col) := wC_uc hg (by omega) (fun _ => rfl) (fun b hb hne => by
  rcases (show b = 0 ∨ b = 1 ∨ b = 2 ∨ b = 3 ∨ b = 4 ∨ b = 5 ∨ b = 6 ∨ b = 7 ∨ b = 8 ∨ b = 9 ∨ b = 10 ∨ b = 11 ∨ b = 12 ∨ b = 13 ∨ b = 14 ∨ b = 15 ∨ b = 16 by omega) with rfl | rfl | rfl | rfl | rfl | rfl | rfl | rfl | rfl | rfl | rfl | rfl | rfl | rfl | rfl | rfl | rfl <;> first | exact absurd rfl hne | decide)
theorem sc_6 {cI cR : ClassId} {ad : Nat → Nat} {X : St} {g : Nat} {col : Nat → Int32} (hg : g < 13) : (wC cI cR ad X).set (17 * g + 9) (ad (17 * g + 9), .inl (cI, 20, .inl col)) = wC cI cR ad (uc X g 6 col) := wC_uc hg (by omega) (fun _ => rfl) (fun b hb hne => by
  rcases (show b = 0 ∨ b = 1 ∨ b = 2 ∨ b = 3 ∨ b = 4 ∨ b = 5 ∨ b = 6 ∨ b = 7 ∨ b = 8 ∨ b = 9 ∨ b = 10 ∨ b = 11 ∨ b = 12 ∨ b = 13 ∨ b = 14 ∨ b = 15 ∨ b = 16 by omega) with rfl | rfl | rfl | rfl | rfl | rfl | rfl | rfl | rfl | rfl | rfl | rfl | rfl | rfl | rfl | rfl | rfl <;> first | exact absurd rfl hne | decide)
theorem sc_7 {cI cR : ClassId} {ad : Nat → Nat} {X : St} {g : Nat} {col : Nat → Int32} (hg : g < 13) : (wC cI cR ad X).set (17 * g + 10) (ad (17 * g + 10), .inl (cI, 20, .inl col)) = wC cI cR ad (uc X g 7 col) := wC_uc hg (by omega) (fun _ => rfl) (fun b hb hne => by
  rcases (show b = 0 ∨ b = 1 ∨ b = 2 ∨ b = 3 ∨ b = 4 ∨ b = 5 ∨ b = 6 ∨ b = 7 ∨ b = 8 ∨ b = 9 ∨ b = 10 ∨ b = 11 ∨ b = 12 ∨ b = 13 ∨ b = 14 ∨ b = 15 ∨ b = 16 by omega) with rfl | rfl | rfl | rfl | rfl | rfl | rfl | rfl | rfl | rfl | rfl | rfl | rfl | rfl | rfl | rfl | rfl <;> first | exact absurd rfl hne | decide)
theorem sc_8 {cI cR : ClassId} {ad : Nat → Nat} {X : St} {g : Nat} {col : Nat → Int32} (hg : g < 13) : (wC cI cR ad X).set (17 * g + 11) (ad (17 * g + 11), .inl (cI, 20, .inl col)) = wC cI cR ad (uc X g 8 col) := wC_uc hg (by omega) (fun _ => rfl) (fun b hb hne => by
  rcases (show b = 0 ∨ b = 1 ∨ b = 2 ∨ b = 3 ∨ b = 4 ∨ b = 5 ∨ b = 6 ∨ b = 7 ∨ b = 8 ∨ b = 9 ∨ b = 10 ∨ b = 11 ∨ b = 12 ∨ b = 13 ∨ b = 14 ∨ b = 15 ∨ b = 16 by omega) with rfl | rfl | rfl | rfl | rfl | rfl | rfl | rfl | rfl | rfl | rfl | rfl | rfl | rfl | rfl | rfl | rfl <;> first | exact absurd rfl hne | decide)
theorem sc_9 {cI cR : ClassId} {ad : Nat → Nat} {X : St} {g : Nat} {col : Nat → Int32} (hg : g < 13) : (wC cI cR ad X).set (17 * g + 3) (ad (17 * g + 3), .inl (cI, 20, .inl col)) = wC cI cR ad (uc X g 9 col) := wC_uc hg (by omega) (fun _ => rfl) (fun b hb hne => by
  rcases (show b = 0 ∨ b = 1 ∨ b = 2 ∨ b = 3 ∨ b = 4 ∨ b = 5 ∨ b = 6 ∨ b = 7 ∨ b = 8 ∨ b = 9 ∨ b = 10 ∨ b = 11 ∨ b = 12 ∨ b = 13 ∨ b = 14 ∨ b = 15 ∨ b = 16 by omega) with rfl | rfl | rfl | rfl | rfl | rfl | rfl | rfl | rfl | rfl | rfl | rfl | rfl | rfl | rfl | rfl | rfl <;> first | exact absurd rfl hne | decide)
theorem sc_10 {cI cR : ClassId} {ad : Nat → Nat} {X : St} {g : Nat} {col : Nat → Int32} (hg : g < 13) : (wC cI cR ad X).set (17 * g + 13) (ad (17 * g + 13), .inl (cI, 40, .inl col)) = wC cI cR ad (uc X g 10 col) := wC_uc hg (by omega) (fun _ => rfl) (fun b hb hne => by
  rcases (show b = 0 ∨ b = 1 ∨ b = 2 ∨ b = 3 ∨ b = 4 ∨ b = 5 ∨ b = 6 ∨ b = 7 ∨ b = 8 ∨ b = 9 ∨ b = 10 ∨ b = 11 ∨ b = 12 ∨ b = 13 ∨ b = 14 ∨ b = 15 ∨ b = 16 by omega) with rfl | rfl | rfl | rfl | rfl | rfl | rfl | rfl | rfl | rfl | rfl | rfl | rfl | rfl | rfl | rfl | rfl <;> first | exact absurd rfl hne | decide)
theorem sc_11 {cI cR : ClassId} {ad : Nat → Nat} {X : St} {g : Nat} {col : Nat → Int32} (hg : g < 13) : (wC cI cR ad X).set (17 * g + 14) (ad (17 * g + 14), .inl (cI, 40, .inl col)) = wC cI cR ad (uc X g 11 col) := wC_uc hg (by omega) (fun _ => rfl) (fun b hb hne => by
  rcases (show b = 0 ∨ b = 1 ∨ b = 2 ∨ b = 3 ∨ b = 4 ∨ b = 5 ∨ b = 6 ∨ b = 7 ∨ b = 8 ∨ b = 9 ∨ b = 10 ∨ b = 11 ∨ b = 12 ∨ b = 13 ∨ b = 14 ∨ b = 15 ∨ b = 16 by omega) with rfl | rfl | rfl | rfl | rfl | rfl | rfl | rfl | rfl | rfl | rfl | rfl | rfl | rfl | rfl | rfl | rfl <;> first | exact absurd rfl hne | decide)
theorem sc_12 {cI cR : ClassId} {ad : Nat → Nat} {X : St} {g : Nat} {col : Nat → Int32} (hg : g < 13) : (wC cI cR ad X).set (17 * g + 15) (ad (17 * g + 15), .inl (cI, 40, .inl col)) = wC cI cR ad (uc X g 12 col) := wC_uc hg (by omega) (fun _ => rfl) (fun b hb hne => by
  rcases (show b = 0 ∨ b = 1 ∨ b = 2 ∨ b = 3 ∨ b = 4 ∨ b = 5 ∨ b = 6 ∨ b = 7 ∨ b = 8 ∨ b = 9 ∨ b = 10 ∨ b = 11 ∨ b = 12 ∨ b = 13 ∨ b = 14 ∨ b = 15 ∨ b = 16 by omega) with rfl | rfl | rfl | rfl | rfl | rfl | rfl | rfl | rfl | rfl | rfl | rfl | rfl | rfl | rfl | rfl | rfl <;> first | exact absurd rfl hne | decide)
theorem sc_13 {cI cR : ClassId} {ad : Nat → Nat} {X : St} {g : Nat} {col : Nat → Int32} (hg : g < 13) : (wC cI cR ad X).set (17 * g + 16) (ad (17 * g + 16), .inl (cI, 40, .inl col)) = wC cI cR ad (uc X g 13 col) := wC_uc hg (by omega) (fun _ => rfl) (fun b hb hne => by
  rcases (show b = 0 ∨ b = 1 ∨ b = 2 ∨ b = 3 ∨ b = 4 ∨ b = 5 ∨ b = 6 ∨ b = 7 ∨ b = 8 ∨ b = 9 ∨ b = 10 ∨ b = 11 ∨ b = 12 ∨ b = 13 ∨ b = 14 ∨ b = 15 ∨ b = 16 by omega) with rfl | rfl | rfl | rfl | rfl | rfl | rfl | rfl | rfl | rfl | rfl | rfl | rfl | rfl | rfl | rfl | rfl <;> first | exact absurd rfl hne | decide)
def cpH (X : St) (g g2 : Nat) : St := fun a => if a = g then (fun f i => if f < 10 ∨ (f = 14 ∧ i = 1) then X g2 f i else X g f i) else X a
def cpC (X : St) (g g2 : Nat) : St := fun a => if a = g then (fun f i => if (10 ≤ f ∧ f < 14) ∨ (f = 14 ∧ i = 2) then X g2 f i else X g f i) else X a
-- books
noncomputable def b_cc (r : Bk) (h a : Int32) : Bk := ci (p_has r h) (b2 r 4 h.toNatClampNeg (qv r 4 h + a)) r
noncomputable def b_sc (r : Bk) (h a : Int32) : Bk := ci (p_has r h) (b2 (b2 r 4 h.toNatClampNeg (qv r 4 h - a)) 5 h.toNatClampNeg (qv (b2 r 4 h.toNatClampNeg (qv r 4 h - a)) 5 h + a)) r
def n_mv (r : Bk) (g t a : Int32) : Bk :=
  let r1 := b2 r 3 g.toNatClampNeg (qv r 3 g - a)
  let r2 := b2 r1 7 g.toNatClampNeg (qv r1 7 g + a)
  b2 r2 3 t.toNatClampNeg (qv r2 3 t + a)
noncomputable def b_mv (r : Bk) (g t a : Int32) : Bk := ci (p_has r g ∧ p_has r t ∧ g ≠ t) (n_mv r g t a) r
noncomputable def n_add (r : Bk) (a k : Int32) : Bk :=
  let i := (r 14 1).toNatClampNeg
  let r1 := b2 r 0 i a
  let r2 := b2 r1 9 i (ci (p_has r1 a) (qv r1 9 a + 1) 0)
  let r3 := b2 r2 1 i k
  let r4 := b2 r3 8 i 50
  b2 r4 14 1 (r4 14 1 + 1)
noncomputable def b_add (r : Bk) (a k : Int32) : Bk := ci (r 14 1 < 0) r (ci (r 14 1 < 20) (n_add r a k) r)
noncomputable def a_add (r : Bk) : Int32 := ci (r 14 1 < 0) (-3) (ci (r 14 1 < 20) (r 14 1) (-3))
def n_addC (r : Bk) (h a y : Int32) : Bk :=
  let i := (r 14 2).toNatClampNeg
  let r1 := b2 r 10 i h
  let r2 := b2 r1 11 i a
  let r3 := b2 r2 13 i y
  b2 r3 14 2 (r3 14 2 + 1)
noncomputable def b_addC (r : Bk) (h a y : Int32) : Bk := ci (r 14 2 < 0) r (ci (r 14 2 < 40) (n_addC r h a y) r)
noncomputable def a_addC (r : Bk) : Int32 := ci (r 14 2 < 0) (-3) (ci (r 14 2 < 40) (r 14 2) (-3))
noncomputable def b_free0 (r : Bk) (c : Int32) : Bk := ci (p_hasC r c) (b_cc (b2 r 11 c.toNatClampNeg 0) (qv (b2 r 11 c.toNatClampNeg 0) 10 c) (-(qv r 11 c))) r
noncomputable def a_free0 (r : Bk) (c : Int32) : Int32 := ci (p_hasC r c) (qv r 11 c) 0
/-- the end of a year for one head -/
noncomputable def cf1 (r : Bk) (q h : Int32) : Bk :=
  let car := p_part (p_free r h) q
  let r1 := b2 r 3 h.toNatClampNeg (qv r 4 h + car)
  let r2 := b2 r1 6 h.toNatClampNeg car
  let r3 := b2 r2 5 h.toNatClampNeg 0
  b2 r3 7 h.toNatClampNeg 0
noncomputable def b_cf (r : Bk) (q : Int32) : Nat → Bk
  | 0 => r
  | n + 1 => cf1 (b_cf r q n) q (nI n)
noncomputable def n_make (r : Bk) (a k : Int32) : Bk := b_add r a k
def n_allot (r : Bk) (h a : Int32) : Bk :=
  let r1 := b2 r 3 h.toNatClampNeg (qv r 3 h + a)
  b2 r1 6 h.toNatClampNeg (qv r1 6 h + a)
def n_freeze (r : Bk) (h i : Int32) : Bk := b2 r 2 h.toNatClampNeg i
def n_setShare (r : Bk) (h x : Int32) : Bk := b2 r 8 h.toNatClampNeg x
def n_setCarried (r : Bk) (q : Int32) : Bk := b2 r 14 3 q
noncomputable def n_commit (r : Bk) (h a : Int32) : Bk := b_addC (b_cc r h a) h a (b_cc r h a 14 0)
noncomputable def n_pay (r : Bk) (c a : Int32) : Bk :=
  let r1 := b2 r 11 c.toNatClampNeg (qv r 11 c - a)
  let r2 := b2 r1 12 c.toNatClampNeg (qv r1 12 c + a)
  let r3 := b_sc r2 (qv r2 10 c) a
  b2 r3 14 5 (r3 14 5 + a)
noncomputable def n_endYear (r : Bk) : Bk :=
  let L := p_lapse r 0 (r 14 3) 20
  let r1 := b_cf r (r 14 3) 20
  let r2 := b2 r1 14 4 (r1 14 4 + L)
  b2 r2 14 0 (r2 14 0 + 1)
-- guards
noncomputable def g_make (r : Bk) (a k : Int32) : Int32 := ci (p_has r a) (ci (k < 0) (-1) (ci (k ≤ 9) (ci (qv r 9 a < 4) (ci (r 14 1 < 20) 0 (-3)) (-2)) (-1))) (-1)
noncomputable def g_allot (r : Bk) (h a : Int32) : Int32 := ci (p_has r h) (ci (p_amt a) (ci (qv r 3 h ≤ 1000000 - a) 0 (-3)) (-1)) (-1)
noncomputable def g_freeze (r : Bk) (h i : Int32) : Int32 := ci (p_has r h) (ci (i < 0) (-1) (ci (i ≤ 1) (ci (qv r 2 h = i) (-2) 0) (-1))) (-1)
noncomputable def g_setShare (r : Bk) (h x : Int32) : Int32 := ci (p_has r h) (ci (p_pct x) 0 (-1)) (-1)
noncomputable def g_setCarried (q : Int32) : Int32 := ci (p_pct q) 0 (-1)
noncomputable def g_commit (r : Bk) (h a : Int32) : Int32 := ci (p_has r h) (ci (p_amt a) (ci (p_bar r 5 h) (-2) (ci (a ≤ p_free r h) (ci (r 14 2 < 40) 0 (-3)) (-2))) (-1)) (-1)
noncomputable def g_pay (r : Bk) (c a : Int32) : Int32 := ci (p_hasC r c) (ci (p_amt a) (ci (a ≤ qv r 11 c) 0 (-2)) (-1)) (-1)
noncomputable def g_release (r : Bk) (c : Int32) : Int32 := ci (p_hasC r c) (ci (qv r 11 c = 0) (-2) 0) (-1)
noncomputable def g_vire (r : Bk) (f t a : Int32) : Int32 := ci (p_has r f ∧ p_has r t ∧ f ≠ t) (ci (p_amt a) (ci (a ≤ p_mov r f t) 0 (-2)) (-1)) (-1)
noncomputable def g_endYear (r : Bk) : Int32 := ci (r 14 0 < 99) 0 (-2)
noncomputable def g_rv (r : Bk) (t a : Int32) : Int32 := ci (a ≤ p_free r t) 0 (-2)
noncomputable def g_rc (r : Bk) (c : Int32) : Int32 := ci (p_hasC r c) (ci (qv r 11 c = 0) (-2) 0) (-2)
-- looks
noncomputable def v_count (r : Bk) (n w : Int32) : Int32 := ci (w = 0) (r 14 0) (ci (w = 1) (r 14 1) (ci (w = 2) (r 14 2) (ci (w = 3) (p_open r 40) (ci (w = 4) (p_cntb r 20) (ci (w = 5) (r 14 3) (ci (w = 6) (p_sum r 0 0 20) (ci (w = 7) (r 14 4) (ci (w = 8) (r 14 5) (ci (w = 9) n (-1))))))))))
noncomputable def v_head (r : Bk) (h w : Int32) : Int32 := ci (p_has r h) (ci (w = 0) (qv r 0 h) (ci (w = 1) (qv r 9 h) (ci (w = 2) (qv r 1 h) (ci (w = 3) (qv r 2 h) (ci (w = 4) (ci (p_bar r 5 h) 1 0) (ci (w = 5) (qv r 3 h) (ci (w = 6) (qv r 4 h) (ci (w = 7) (qv r 5 h) (ci (w = 8) (p_free r h) (ci (w = 9) (qv r 6 h) (ci (w = 10) (qv r 7 h) (ci (w = 11) (qv r 8 h) (-1))))))))))))) (-1)
noncomputable def v_total (r : Bk) (h w : Int32) : Int32 := ci (p_has r h) (ci (w < 0) (-1) (ci (w ≤ 4) (p_sum r h w 20) (-1))) (-1)
noncomputable def v_comm (r : Bk) (c w : Int32) : Int32 := ci (p_hasC r c) (ci (w = 0) (qv r 10 c) (ci (w = 1) (qv r 11 c) (ci (w = 2) (qv r 12 c) (ci (w = 3) (qv r 13 c) (-1))))) (-1)
noncomputable def v_most (r : Bk) (a b : Int32) : Int32 := ci (p_has r a ∧ p_has r b ∧ a ≠ b) (p_mov r a b) (-1)
noncomputable def v_giver (r : Bk) (b : Int32) : Int32 := ci (p_has r b) (p_best r b 20).1 (-1)
noncomputable def v_rich (r : Bk) (h i : Int32) : Int32 := ci (p_has r h) (ci (0 ≤ i) (p_place r h i 20) (-1)) (-1)
noncomputable def v_lapse (r : Bk) (h : Int32) : Int32 := ci (p_has r h) (p_lapse r h (r 14 3) 20) (-1)
-- the class's memory
noncomputable def p_slot (X : St) (i : Int32) : Int32 := p_fm (X 14 0 0 + X 14 0 1 - 1 - i) 12
def p_norec (X : St) (i : Int32) : Prop := i < 0 ∨ ¬ i < X 14 0 1
noncomputable def p_rec (ad : Nat → Nat) (X : St) (i : Int32) : Option Nat := ci (p_norec X i) none (some (ad (221 + (p_slot X i).toNatClampNeg)))
theorem p_rec_none {ad : Nat → Nat} {X : St} {i : Int32} (h : p_norec X i) : p_rec ad X i = none := ci_t h
theorem p_rec_some {ad : Nat → Nat} {X : St} {i : Int32} (h : ¬ p_norec X i) : p_rec ad X i = some (ad (221 + (p_slot X i).toNatClampNeg)) := ci_f h
theorem i3_tdiv (z : Int) : (0 ≤ z ∧ Int.tdiv z 12 = z / 12) ∨ (z < 0 ∧ Int.tdiv z 12 = -((-z) / 12)) := by
  by_cases h : 0 ≤ z
  · exact Or.inl ⟨h, Int.tdiv_eq_ediv_of_nonneg h⟩
  · refine Or.inr ⟨by omega, ?_⟩
    have e : Int.tdiv z 12 = -(Int.tdiv (-z) 12) := by rw [Int.neg_tdiv, Int.neg_neg]
    rw [e, Int.tdiv_eq_ediv_of_nonneg (by omega)]
theorem i3_12 (x : Int32) : (0 ≤ x.toInt ∧ 0 ≤ (x - x / 12 * 12).toInt ∧ (x - x / 12 * 12).toInt < 12) ∨ (x.toInt < 0 ∧ -12 < (x - x / 12 * 12).toInt ∧ (x - x / 12 * 12).toInt ≤ 0) := by
  have h1 := Int32.toInt_lt x
  have h2 := Int32.le_toInt x
  have h3 : (x / 12).toInt = x.toInt.tdiv 12 := by
    rw [Int32.toInt_div_of_ne_right _ _ (by decide), t_12]
  have h4 : (x / 12 * 12).toInt = x.toInt.tdiv 12 * 12 := by
    rw [Int32.toInt_mul, h3, t_12]
    rcases i3_tdiv x.toInt with ⟨a, b⟩ | ⟨a, b⟩ <;> rw [b] <;> exact Int.bmod_eq_of_le (by omega) (by omega)
  have h5 : (x - x / 12 * 12).toInt = x.toInt - x.toInt.tdiv 12 * 12 := by
    rw [Int32.toInt_sub, h4]
    rcases i3_tdiv x.toInt with ⟨a, b⟩ | ⟨a, b⟩ <;> rw [b] <;> exact Int.bmod_eq_of_le (by omega) (by omega)
  rw [h5]
  rcases i3_tdiv x.toInt with ⟨a, b⟩ | ⟨a, b⟩ <;> rw [b]
  · exact Or.inl ⟨a, by omega, by omega⟩
  · exact Or.inr ⟨a, by omega, by omega⟩
theorem i3_neg (x : Int32) : (x.toInt < 0) ↔ x.toBitVec.msb = true := by
  rw [BitVec.msb_eq_toInt]
  simp [Int32.toInt_toBitVec]
theorem i3_xor (x : Int32) : 0 ≤ x ^^^ 12 ↔ 0 ≤ x.toInt := by
  rw [i3_le, t_0]
  have h1 := i3_neg x
  have h2 := i3_neg (x ^^^ 12)
  rw [Int32.toBitVec_xor, BitVec.msb_xor, show (12 : Int32).toBitVec.msb = false from rfl, Bool.xor_false] at h2
  constructor <;> intro h
  · refine Int.not_lt.mp (fun q => ?_)
    exact absurd (h2.mpr (h1.mp q)) (by omega)
  · refine Int.not_lt.mp (fun q => ?_)
    exact absurd (h1.mpr (h2.mp q)) (by omega)
theorem fm12 (x : Int32) : 0 ≤ (p_fm x 12).toInt ∧ (p_fm x 12).toInt < 12 := by
  unfold p_fm
  by_cases h : 0 ≤ x ^^^ 12
  · rw [ci_t h]
    rcases i3_12 x with q | q
    · exact q.2
    · exact absurd ((i3_xor x).mp h) (by omega)
  · rw [ci_f h]
    have hx : x.toInt < 0 := Int.not_le.mp (fun q => h ((i3_xor x).mpr q))
    rcases i3_12 x with q | q
    · omega
    · by_cases e : x - x / 12 * 12 = 0
      · rw [ci_t e, e]
        decide
      · rw [ci_f e]
        have e2 : (x - x / 12 * 12).toInt ≠ 0 := fun z => e (i3_eq.mpr (by rw [z, t_0]))
        rw [Int32.toInt_add, t_12, Int.bmod_eq_of_le (by omega) (by omega)]
        omega
theorem fm12n {n : Nat} (h : n < 2 ^ 31) : p_fm (nI n) 12 = nI (n % 12) := by
  unfold p_fm
  rw [ci_t ((i3_xor _).mpr (by rw [nI_toInt h]; omega))]
  exact pk_rem h (by decide) (by decide)
theorem fm_in (x : Int32) : vp_in (p_fm x 12) 12 := vp_in_iff.mpr (fm12 x)
theorem fm_lt (x : Int32) : (p_fm x 12).toNatClampNeg < 12 := by
  have h := fm12 x
  show (p_fm x 12).toInt.toNat < 12
  omega
theorem slot_lt (X : St) (i : Int32) : (p_slot X i).toNatClampNeg < 12 := fm_lt _
noncomputable def m_held (X : St) : St := ci (12 ≤ X 14 0 1) (u3 X 14 0 0 (p_fm (X 14 0 0 + 1) 12)) (u3 X 14 0 1 (X 14 0 1 + 1))
noncomputable def m_num (X : St) : St := u3 (m_held X) 14 0 2 (m_held X 14 0 2 + 1)
/-- the place z takes a deed: the book as it is, and the deed's words -/
def m_put (X : St) (z : Nat) (k s t a : Int32) : St :=
  let X1 := sg X (z + 1) (X 0)
  let X2 := u3 X1 13 0 z (X1 14 0 2)
  let X3 := u3 X2 13 1 z k
  let X4 := u3 X3 13 2 z s
  let X5 := u3 X4 13 3 z t
  u3 X5 13 4 z a
noncomputable def N_rem (X : St) (k s t a : Int32) : St := ci (p_norec (m_num X) 0) (m_num X) (m_put (m_num X) (p_slot (m_num X) 0).toNatClampNeg k s t a)
theorem nI_lt12 {k : Nat} (h : k ≤ 40) (c : ¬ (12 : Int32) ≤ nI k) : k < 12 := by
  rw [i3_le, nI_t h, t_12] at c
  omega
theorem nI_ge12 {k : Nat} (h : k ≤ 12) (c : (12 : Int32) ≤ nI k) : k = 12 := by
  rw [i3_le, nI_t (by omega), t_12] at c
  omega
theorem m_nil (X : St) : sg X 0 (X 0) = X := sg_self X 0
def p_hit (X : St) (n : Int32) (i : Nat) : Prop := ¬ p_norec X (nI i) ∧ X 13 1 (p_slot X (nI i)).toNatClampNeg = 10 ∧ X 13 2 (p_slot X (nI i)).toNatClampNeg = n
def p_rev (X : St) (n : Int32) : Prop := ∃ i : Nat, i < 12 ∧ p_hit X n i
noncomputable def N_fl (X : St) : St := ci (X 14 0 1 ≤ 0) X (u3 X 14 0 1 (X 14 0 1 - 1))
noncomputable def a_fl (X : St) : Int32 := ci (X 14 0 1 ≤ 0) (X 14 0 1) (X 14 0 1 - 1)
theorem m_held_0 (X : St) {g : Nat} (h : g ≠ 14) : m_held X g = X g := by
  unfold m_held
  by_cases c : (12 : Int32) ≤ X 14 0 1
  · rw [ci_t c, u3_n _ _ _ _ _ h]
  · rw [ci_f c, u3_n _ _ _ _ _ h]
theorem m_num_0 (X : St) {g : Nat} (h : g ≠ 14) : m_num X g = X g := by
  unfold m_num
  rw [u3_n _ _ _ _ _ h, m_held_0 X h]
theorem N_rem_0 (X : St) (k s t a : Int32) : N_rem X k s t a 0 = X 0 := by
  unfold N_rem
  by_cases c : p_norec (m_num X) 0
  · rw [ci_t c, m_num_0 X (by omega)]
  · rw [ci_f c]
    unfold m_put
    rw [u3_n _ _ _ _ _ (by omega), u3_n _ _ _ _ _ (by omega), u3_n _ _ _ _ _ (by omega), u3_n _ _ _ _ _ (by omega), u3_n _ _ _ _ _ (by omega), sg_n _ _ _ (by omega), m_num_0 X (by omega)]
/-- a public deed of the class: its guard g, its kind and words, its book behind it -/
noncomputable def opX (X : St) (g k s t a : Int32) (r : Bk) : St := ci (g = 0) (sg (N_rem X k s t a) 0 r) X
noncomputable def opV (g v : Int32) : Int32 := ci (g = 0) v g
theorem opX_e {X : St} {g k s t a e : Int32} {r : Bk} (h : g = e) (he : e ≠ 0) : opX X g k s t a r = X := ci_f (by rw [h]; exact he)
theorem opX_0 {X : St} {g k s t a : Int32} {r : Bk} (h : g = 0) : opX X g k s t a r = sg (N_rem X k s t a) 0 r := ci_t h
theorem opV_e {g v e : Int32} (h : g = e) (he : e ≠ 0) : e = opV g v := by
  unfold opV
  rw [ci_f (by rw [h]; exact he), h]
theorem opV_0 {g v : Int32} (h : g = 0) : opV g v = v := ci_t h
theorem in_made {x : Int32} (h0 : ¬ x < 0) (h1 : x < 20) : vp_in x 20 := vp_in_iff.mpr (by rw [i3_lt, t_0] at h0; rw [i3_lt, t_20] at h1; exact ⟨by omega, by omega⟩)
theorem in_madeC {x : Int32} (h0 : ¬ x < 0) (h1 : x < 40) : vp_in x 40 := vp_in_iff.mpr (by rw [i3_lt, t_0] at h0; rw [i3_lt, t_40] at h1; exact ⟨by omega, by omega⟩)
/-- the class's other looks and deeds -/
noncomputable def V_deed (X : St) (i : Int32) : Int32 := ci (0 ≤ i) (ci (p_norec X i) (-9) (X 13 1 (p_slot X i).toNatClampNeg)) (-1)
noncomputable def N_undo (X : St) : St := ci (p_norec X 0) X (N_fl (sg X 0 (X ((p_slot X 0).toNatClampNeg + 1))))
noncomputable def R_undo (X : St) : Int32 := ci (p_norec X 0) (-2) (a_fl (sg X 0 (X ((p_slot X 0).toNatClampNeg + 1))))
noncomputable def N_rv (X : St) (n f t a : Int32) : St := opX X (g_rv (X 0) t a) 10 n (-9) 0 (b_mv (X 0) f t (-a))
noncomputable def R_rv (X : St) (t a : Int32) : Int32 := opV (g_rv (X 0) t a) a
noncomputable def N_rc (X : St) (n c : Int32) : St := opX X (g_rc (X 0) c) 10 n (-9) 0 (b_free0 (X 0) c)
noncomputable def R_rc (X : St) (c : Int32) : Int32 := opV (g_rc (X 0) c) (a_free0 (X 0) c)
noncomputable def N_rk (X : St) (z : Nat) : St := ci (X (z + 1) 14 0 = X 0 14 0) (ci (p_rev X (X 13 0 z)) X (ci (X 13 1 z = 8) (N_rv X (X 13 0 z) (X 13 2 z) (X 13 3 z) (X 13 4 z)) (ci (X 13 1 z = 5) (N_rc X (X 13 0 z) (X 13 2 z)) X))) X
noncomputable def R_rk (X : St) (z : Nat) : Int32 := ci (X (z + 1) 14 0 = X 0 14 0) (ci (p_rev X (X 13 0 z)) (-2) (ci (X 13 1 z = 8) (R_rv X (X 13 3 z) (X 13 4 z)) (ci (X 13 1 z = 5) (R_rc X (X 13 2 z)) (-2)))) (-2)
noncomputable def N_revoke (X : St) (i : Int32) : St := ci (0 ≤ i) (ci (p_norec X i) X (N_rk X (p_slot X i).toNatClampNeg)) X
noncomputable def R_revoke (X : St) (i : Int32) : Int32 := ci (0 ≤ i) (ci (p_norec X i) (-2) (R_rk X (p_slot X i).toNatClampNeg)) (-1)
end
section
set_option maxHeartbeats 4000000 in
set_option maxRecDepth 100000 in
theorem c_X3_changeCommitted {l : Launch} {D : va_G} {cI cR : ClassId} {ad : Nat → Nat} (hdj : Dj 236 ad) (X : St) (h : Int32) (a : Int32) : WoV l D cI cR (Aw 236 ad) (wC cI cR ad X) (wC cI cR ad (sg X 0 (b_cc (X 0) h a))) yX3_changeCommitted wsX3_changeCommitted ({ frames := 1, cells := 0, slots := 0, locals := 21 } : Room) [.ref (ad 1), .int h, .int a] := by
  refine OfW (cc := cX3_changeCommitted) (maxL := 3) (ret := none) (by decide +kernel) rfl (Nat.le_of_ble_eq_true rfl) (fun p e s m below meth c hx hb hr hts hown hlocks hml hnm hP hK hN ls hl => ?_)
  have hl : lv_has ls 3 [(0, .ref (ad 1)), (1, .int h), (2, .int a)] := hl
  have lk_27 := hts (.fieldLink RX3 27 "HeadBudgets$Heads" "committed" "[I") (by decide +kernel)
  have hi_X3 : ∀ w ∈ wsX30, w ∈ wsX3_changeCommitted := by decide +kernel
  have hS : va_S (Aw 236 ad) s.heap s.heap [] := va_S.rf
  have hP : va_P D vwCl (wC cI cR ad X) s.heap := hP
  refine lv_aload_n hx hb dX3_changeCommitted_0 rfl (lv_at hl 0 rfl) ?_
  refine lv_iload_n hx hb dX3_changeCommitted_1 rfl (lv_at hl 1 rfl) ?_
  refine callB (As := [.int h]) (rest := []) ⟨hx, hb, hml, hown, hts⟩ (c_X3_has X h) (cwV 1 hts gX3_changeCommitted_X3_has rfl rfl rfl (by decide +kernel) ⟨Nat.le_of_ble_eq_true rfl, Nat.le_of_ble_eq_true rfl⟩) hK hN hP 1 g0_1 rfl rfl hl.1 rfl (Nat.le_of_ble_eq_true rfl) dX3_changeCommitted_2 ⟨Nat.zero_le _, Nat.zero_le _⟩ (fun c_2 => ?_) (fun c_2 => ?_)
  · refine lv_if_eq (tgt := 18) hx hb dX3_changeCommitted_5 (by decide) (fun h9 => absurd h9 (by decide)) (fun _ => ?_)
    refine lv_aload_n hx hb dX3_changeCommitted_8 rfl (lv_at hl 0 rfl) ?_
    refine xget (C := RX3) (T := TX3) (N := 11) (ci := 3) (w := .ref (ad 7)) hx hb hts hi_X3 hown hK hP 1 g0_1 rfl 5 (by decide) lk_27 rfl dX3_changeCommitted_9 ?_
    refine lv_iload_n hx hb dX3_changeCommitted_12 rfl (lv_at hl 1 rfl) ?_
    refine lv_dup2_11 hx hb dX3_changeCommitted_13 rfl rfl ?_
    refine xald (x := qv (X 0) 4 h) hx hb hK hP 7 g0_7 (in20h c_2) rfl dX3_changeCommitted_14 ?_
    refine lv_iload_n hx hb dX3_changeCommitted_15 rfl (lv_at hl 2 rfl) ?_
    refine lv_iadd hx hb dX3_changeCommitted_16 ?_
    refine xast hx hb hK hP (wC_D hdj) hS 7 g0_7 (in20h c_2) s0_4 dX3_changeCommitted_17 (fun H locs hP hS => ?_)
    obtain ⟨X_1, eX_1⟩ : ∃ Z : St, Z = u3 X 0 4 h.toNatClampNeg ((qv (X 0) 4 h) + a) := ⟨_, rfl⟩
    rw [← eX_1] at hP
    have hZ : X_1 = sg X 0 (b_cc (X 0) h a) := by
      subst eX_1
      try simp only [u3_sg, sg_sg, sg_g]
      try unfold b_cc
      try dsimp only
      all_goals repeat (first | rw [ci_t c_2] | rw [ci_f c_2])
      all_goals (first | rfl | (rw [sg_self]) | (simp only [u3_sg, sg_sg, sg_g]; done) | (simp only [u3_sg, sg_sg, sg_g]; rfl))
    exact retWV hx hb hr hlocks (by rw [← hZ]; exact hP) hS dX3_changeCommitted_18
  · refine lv_if_eq (tgt := 18) hx hb dX3_changeCommitted_5 (by decide) (fun _ => ?_) (fun h9 => absurd (by decide) h9)
    have hZ : X = sg X 0 (b_cc (X 0) h a) := by
      try simp only [u3_sg, sg_sg, sg_g]
      try unfold b_cc
      try dsimp only
      all_goals repeat (first | rw [ci_t c_2] | rw [ci_f c_2])
      all_goals (first | rfl | (rw [sg_self]) | (simp only [u3_sg, sg_sg, sg_g]; done) | (simp only [u3_sg, sg_sg, sg_g]; rfl))
    exact retWV hx hb hr hlocks (by rw [← hZ]; exact hP) hS dX3_changeCommitted_18
set_option maxHeartbeats 4000000 in
set_option maxRecDepth 100000 in
theorem c_X3_spendCommitted {l : Launch} {D : va_G} {cI cR : ClassId} {ad : Nat → Nat} (hdj : Dj 236 ad) (X : St) (h : Int32) (a : Int32) : WoV l D cI cR (Aw 236 ad) (wC cI cR ad X) (wC cI cR ad (sg X 0 (b_sc (X 0) h a))) yX3_spendCommitted wsX3_spendCommitted ({ frames := 1, cells := 0, slots := 0, locals := 21 } : Room) [.ref (ad 1), .int h, .int a] := by
  refine OfW (cc := cX3_spendCommitted) (maxL := 3) (ret := none) (by decide +kernel) rfl (Nat.le_of_ble_eq_true rfl) (fun p e s m below meth c hx hb hr hts hown hlocks hml hnm hP hK hN ls hl => ?_)
  have hl : lv_has ls 3 [(0, .ref (ad 1)), (1, .int h), (2, .int a)] := hl
  have lk_27 := hts (.fieldLink RX3 27 "HeadBudgets$Heads" "committed" "[I") (by decide +kernel)
  have lk_30 := hts (.fieldLink RX3 30 "HeadBudgets$Heads" "spent" "[I") (by decide +kernel)
  have hi_X3 : ∀ w ∈ wsX30, w ∈ wsX3_spendCommitted := by decide +kernel
  have hS : va_S (Aw 236 ad) s.heap s.heap [] := va_S.rf
  have hP : va_P D vwCl (wC cI cR ad X) s.heap := hP
  refine lv_aload_n hx hb dX3_spendCommitted_0 rfl (lv_at hl 0 rfl) ?_
  refine lv_iload_n hx hb dX3_spendCommitted_1 rfl (lv_at hl 1 rfl) ?_
  refine callB (As := [.int h]) (rest := []) ⟨hx, hb, hml, hown, hts⟩ (c_X3_has X h) (cwV 1 hts gX3_spendCommitted_X3_has rfl rfl rfl (by decide +kernel) ⟨Nat.le_of_ble_eq_true rfl, Nat.le_of_ble_eq_true rfl⟩) hK hN hP 1 g0_1 rfl rfl hl.1 rfl (Nat.le_of_ble_eq_true rfl) dX3_spendCommitted_2 ⟨Nat.zero_le _, Nat.zero_le _⟩ (fun c_2 => ?_) (fun c_2 => ?_)
  · refine lv_if_eq (tgt := 28) hx hb dX3_spendCommitted_5 (by decide) (fun h9 => absurd h9 (by decide)) (fun _ => ?_)
    refine lv_aload_n hx hb dX3_spendCommitted_8 rfl (lv_at hl 0 rfl) ?_
    refine xget (C := RX3) (T := TX3) (N := 11) (ci := 3) (w := .ref (ad 7)) hx hb hts hi_X3 hown hK hP 1 g0_1 rfl 5 (by decide) lk_27 rfl dX3_spendCommitted_9 ?_
    refine lv_iload_n hx hb dX3_spendCommitted_12 rfl (lv_at hl 1 rfl) ?_
    refine lv_dup2_11 hx hb dX3_spendCommitted_13 rfl rfl ?_
    refine xald (x := qv (X 0) 4 h) hx hb hK hP 7 g0_7 (in20h c_2) rfl dX3_spendCommitted_14 ?_
    refine lv_iload_n hx hb dX3_spendCommitted_15 rfl (lv_at hl 2 rfl) ?_
    refine lv_isub hx hb dX3_spendCommitted_16 ?_
    refine xast hx hb hK hP (wC_D hdj) hS 7 g0_7 (in20h c_2) s0_4 dX3_spendCommitted_17 (fun H locs hP hS => ?_)
    obtain ⟨X_1, eX_1⟩ : ∃ Z : St, Z = u3 X 0 4 h.toNatClampNeg ((qv (X 0) 4 h) - a) := ⟨_, rfl⟩
    rw [← eX_1] at hP
    refine lv_aload_n hx hb dX3_spendCommitted_18 rfl (lv_at hl 0 rfl) ?_
    refine xget (C := RX3) (T := TX3) (N := 11) (ci := 3) (w := .ref (ad 8)) hx hb hts hi_X3 hown hK hP 1 g0_1 rfl 6 (by decide) lk_30 rfl dX3_spendCommitted_19 ?_
    refine lv_iload_n hx hb dX3_spendCommitted_22 rfl (lv_at hl 1 rfl) ?_
    refine lv_dup2_11 hx hb dX3_spendCommitted_23 rfl rfl ?_
    refine xald (x := qv (X_1 0) 5 h) hx hb hK hP 8 g0_8 (in20h c_2) rfl dX3_spendCommitted_24 ?_
    refine lv_iload_n hx hb dX3_spendCommitted_25 rfl (lv_at hl 2 rfl) ?_
    refine lv_iadd hx hb dX3_spendCommitted_26 ?_
    refine xast hx hb hK hP (wC_D hdj) hS 8 g0_8 (in20h c_2) s0_5 dX3_spendCommitted_27 (fun H locs hP hS => ?_)
    obtain ⟨X_2, eX_2⟩ : ∃ Z : St, Z = u3 X_1 0 5 h.toNatClampNeg ((qv (X_1 0) 5 h) + a) := ⟨_, rfl⟩
    rw [← eX_2] at hP
    have hZ : X_2 = sg X 0 (b_sc (X 0) h a) := by
      subst eX_2 eX_1
      try simp only [u3_sg, sg_sg, sg_g]
      try unfold b_sc
      try dsimp only
      all_goals repeat (first | rw [ci_t c_2] | rw [ci_f c_2])
      all_goals (first | rfl | (rw [sg_self]) | (simp only [u3_sg, sg_sg, sg_g]; done) | (simp only [u3_sg, sg_sg, sg_g]; rfl))
    exact retWV hx hb hr hlocks (by rw [← hZ]; exact hP) hS dX3_spendCommitted_28
  · refine lv_if_eq (tgt := 28) hx hb dX3_spendCommitted_5 (by decide) (fun _ => ?_) (fun h9 => absurd (by decide) h9)
    have hZ : X = sg X 0 (b_sc (X 0) h a) := by
      try simp only [u3_sg, sg_sg, sg_g]
      try unfold b_sc
      try dsimp only
      all_goals repeat (first | rw [ci_t c_2] | rw [ci_f c_2])
      all_goals (first | rfl | (rw [sg_self]) | (simp only [u3_sg, sg_sg, sg_g]; done) | (simp only [u3_sg, sg_sg, sg_g]; rfl))
    exact retWV hx hb hr hlocks (by rw [← hZ]; exact hP) hS dX3_spendCommitted_28
set_option maxHeartbeats 4000000 in
set_option maxRecDepth 100000 in
theorem c_X3_moveByVirement {l : Launch} {D : va_G} {cI cR : ClassId} {ad : Nat → Nat} (hdj : Dj 236 ad) (X : St) (f : Int32) (t : Int32) (a : Int32) : WoV l D cI cR (Aw 236 ad) (wC cI cR ad X) (wC cI cR ad (sg X 0 (b_mv (X 0) f t a))) yX3_moveByVirement wsX3_moveByVirement ({ frames := 2, cells := 0, slots := 0, locals := 43 } : Room) [.ref (ad 1), .int f, .int t, .int a] := by
  refine OfW (cc := cX3_moveByVirement) (maxL := 4) (ret := none) (by decide +kernel) rfl (Nat.le_of_ble_eq_true rfl) (fun p e s m below meth c hx hb hr hts hown hlocks hml hnm hP hK hN ls hl => ?_)
  have hl : lv_has ls 4 [(0, .ref (ad 1)), (1, .int f), (2, .int t), (3, .int a)] := hl
  have lk_24 := hts (.fieldLink RX3 24 "HeadBudgets$Heads" "allotment" "[I") (by decide +kernel)
  have lk_36 := hts (.fieldLink RX3 36 "HeadBudgets$Heads" "left" "[I") (by decide +kernel)
  have hi_X3 : ∀ w ∈ wsX30, w ∈ wsX3_moveByVirement := by decide +kernel
  have hS : va_S (Aw 236 ad) s.heap s.heap [] := va_S.rf
  have hP : va_P D vwCl (wC cI cR ad X) s.heap := hP
  refine lv_aload_n hx hb dX3_moveByVirement_0 rfl (lv_at hl 0 rfl) ?_
  refine lv_iload_n hx hb dX3_moveByVirement_1 rfl (lv_at hl 1 rfl) ?_
  refine lv_iload_n hx hb dX3_moveByVirement_2 rfl (lv_at hl 2 rfl) ?_
  refine callB (As := [.int f, .int t]) (rest := []) ⟨hx, hb, hml, hown, hts⟩ (c_X3_hasBoth X f t) (cwV 2 hts gX3_moveByVirement_X3_hasBoth rfl rfl rfl (by decide +kernel) ⟨Nat.le_of_ble_eq_true rfl, Nat.le_of_ble_eq_true rfl⟩) hK hN hP 1 g0_1 rfl rfl hl.1 rfl (Nat.le_of_ble_eq_true rfl) dX3_moveByVirement_3 ⟨Nat.zero_le _, Nat.zero_le _⟩ (fun c_3 => ?_) (fun c_3 => ?_)
  · have q1 := in20h c_3.1
    have q2 := in20h c_3.2.1
    refine lv_if_eq (tgt := 39) hx hb dX3_moveByVirement_6 (by decide) (fun h9 => absurd h9 (by decide)) (fun _ => ?_)
    refine lv_aload_n hx hb dX3_moveByVirement_9 rfl (lv_at hl 0 rfl) ?_
    refine xget (C := RX3) (T := TX3) (N := 11) (ci := 3) (w := .ref (ad 6)) hx hb hts hi_X3 hown hK hP 1 g0_1 rfl 4 (by decide) lk_24 rfl dX3_moveByVirement_10 ?_
    refine lv_iload_n hx hb dX3_moveByVirement_13 rfl (lv_at hl 1 rfl) ?_
    refine lv_dup2_11 hx hb dX3_moveByVirement_14 rfl rfl ?_
    refine xald (x := qv (X 0) 3 f) hx hb hK hP 6 g0_6 (by assumption) rfl dX3_moveByVirement_15 ?_
    refine lv_iload_n hx hb dX3_moveByVirement_16 rfl (lv_at hl 3 rfl) ?_
    refine lv_isub hx hb dX3_moveByVirement_17 ?_
    refine xast hx hb hK hP (wC_D hdj) hS 6 g0_6 (by assumption) s0_3 dX3_moveByVirement_18 (fun H locs hP hS => ?_)
    obtain ⟨X_1, eX_1⟩ : ∃ Z : St, Z = u3 X 0 3 f.toNatClampNeg ((qv (X 0) 3 f) - a) := ⟨_, rfl⟩
    rw [← eX_1] at hP
    refine lv_aload_n hx hb dX3_moveByVirement_19 rfl (lv_at hl 0 rfl) ?_
    refine xget (C := RX3) (T := TX3) (N := 11) (ci := 3) (w := .ref (ad 10)) hx hb hts hi_X3 hown hK hP 1 g0_1 rfl 8 (by decide) lk_36 rfl dX3_moveByVirement_20 ?_
    refine lv_iload_n hx hb dX3_moveByVirement_23 rfl (lv_at hl 1 rfl) ?_
    refine lv_dup2_11 hx hb dX3_moveByVirement_24 rfl rfl ?_
    refine xald (x := qv (X_1 0) 7 f) hx hb hK hP 10 g0_10 (by assumption) rfl dX3_moveByVirement_25 ?_
    refine lv_iload_n hx hb dX3_moveByVirement_26 rfl (lv_at hl 3 rfl) ?_
    refine lv_iadd hx hb dX3_moveByVirement_27 ?_
    refine xast hx hb hK hP (wC_D hdj) hS 10 g0_10 (by assumption) s0_7 dX3_moveByVirement_28 (fun H locs hP hS => ?_)
    obtain ⟨X_2, eX_2⟩ : ∃ Z : St, Z = u3 X_1 0 7 f.toNatClampNeg ((qv (X_1 0) 7 f) + a) := ⟨_, rfl⟩
    rw [← eX_2] at hP
    refine lv_aload_n hx hb dX3_moveByVirement_29 rfl (lv_at hl 0 rfl) ?_
    refine xget (C := RX3) (T := TX3) (N := 11) (ci := 3) (w := .ref (ad 6)) hx hb hts hi_X3 hown hK hP 1 g0_1 rfl 4 (by decide) lk_24 rfl dX3_moveByVirement_30 ?_
    refine lv_iload_n hx hb dX3_moveByVirement_33 rfl (lv_at hl 2 rfl) ?_
    refine lv_dup2_11 hx hb dX3_moveByVirement_34 rfl rfl ?_
    refine xald (x := qv (X_2 0) 3 t) hx hb hK hP 6 g0_6 (by assumption) rfl dX3_moveByVirement_35 ?_
    refine lv_iload_n hx hb dX3_moveByVirement_36 rfl (lv_at hl 3 rfl) ?_
    refine lv_iadd hx hb dX3_moveByVirement_37 ?_
    refine xast hx hb hK hP (wC_D hdj) hS 6 g0_6 (by assumption) s0_3 dX3_moveByVirement_38 (fun H locs hP hS => ?_)
    obtain ⟨X_3, eX_3⟩ : ∃ Z : St, Z = u3 X_2 0 3 t.toNatClampNeg ((qv (X_2 0) 3 t) + a) := ⟨_, rfl⟩
    rw [← eX_3] at hP
    have hZ : X_3 = sg X 0 (b_mv (X 0) f t a) := by
      subst eX_3 eX_2 eX_1
      try simp only [u3_sg, sg_sg, sg_g]
      try unfold b_mv n_mv
      try dsimp only
      all_goals repeat (first | rw [ci_t c_3] | rw [ci_f c_3])
      all_goals (first | rfl | (rw [sg_self]) | (simp only [u3_sg, sg_sg, sg_g]; done) | (simp only [u3_sg, sg_sg, sg_g]; rfl))
    exact retWV hx hb hr hlocks (by rw [← hZ]; exact hP) hS dX3_moveByVirement_39
  · refine lv_if_eq (tgt := 39) hx hb dX3_moveByVirement_6 (by decide) (fun _ => ?_) (fun h9 => absurd (by decide) h9)
    have hZ : X = sg X 0 (b_mv (X 0) f t a) := by
      try simp only [u3_sg, sg_sg, sg_g]
      try unfold b_mv n_mv
      try dsimp only
      all_goals repeat (first | rw [ci_t c_3] | rw [ci_f c_3])
      all_goals (first | rfl | (rw [sg_self]) | (simp only [u3_sg, sg_sg, sg_g]; done) | (simp only [u3_sg, sg_sg, sg_g]; rfl))
    exact retWV hx hb hr hlocks (by rw [← hZ]; exact hP) hS dX3_moveByVirement_39
set_option maxHeartbeats 4000000 in
set_option maxRecDepth 100000 in
theorem c_X3_add {l : Launch} {D : va_G} {cI cR : ClassId} {ad : Nat → Nat} (hdj : Dj 236 ad) (X : St) (a : Int32) (k : Int32) : WoE l D cI cR (Aw 236 ad) (wC cI cR ad X) (wC cI cR ad (sg X 0 (b_add (X 0) a k))) yX3_add wsX3_add ({ frames := 1, cells := 0, slots := 0, locals := 21 } : Room) [.ref (ad 1), .int a, .int k] (a_add (X 0)) := by
  refine OfW (cc := cX3_add) (maxL := 4) (ret := (some .int)) (by decide +kernel) rfl (Nat.le_of_ble_eq_true rfl) (fun p e s m below meth c hx hb hr hts hown hlocks hml hnm hP hK hN ls hl => ?_)
  have hl : lv_has ls 4 [(0, .ref (ad 1)), (1, .int a), (2, .int k)] := hl
  have lk_48 := hts (.fieldLink RX3 48 "HeadBudgets$Heads" "made" "I") (by decide +kernel)
  have lk_9 := hts (.fieldLink RX3 9 "HeadBudgets$Heads" "above" "[I") (by decide +kernel)
  have lk_15 := hts (.fieldLink RX3 15 "HeadBudgets$Heads" "depth" "[I") (by decide +kernel)
  have lk_18 := hts (.fieldLink RX3 18 "HeadBudgets$Heads" "rank" "[I") (by decide +kernel)
  have lk_39 := hts (.fieldLink RX3 39 "HeadBudgets$Heads" "share" "[I") (by decide +kernel)
  have hi_X3 : ∀ w ∈ wsX30, w ∈ wsX3_add := by decide +kernel
  have hS : va_S (Aw 236 ad) s.heap s.heap [] := va_S.rf
  have hP : va_P D vwCl (wC cI cR ad X) s.heap := hP
  refine lv_aload_n hx hb dX3_add_0 rfl (lv_at hl 0 rfl) ?_
  refine xget (C := RX3) (T := TX3) (N := 11) (ci := 3) (w := .int (X 0 14 1)) hx hb hts hi_X3 hown hK hP 1 g0_1 rfl 10 (by decide) lk_48 rfl dX3_add_1 ?_
  refine lv_istore_n (lv' := [(3, .int (X 0 14 1)), (0, .ref (ad 1)), (1, .int a), (2, .int k)]) hx hb dX3_add_4 rfl hl (by decide) rfl (fun ls hl => ?_)
  refine lv_iload_n hx hb dX3_add_5 rfl (lv_at hl 0 rfl) ?_
  refine lv_if_lt (tgt := 15) hx hb dX3_add_6 (by decide) (fun c_6 => ?_) (fun c_6 => ?_)
  · refine lv_bipush (v := (-3)) hx hb dX3_add_15 (by decide) ?_
    have hZ : X = sg X 0 (b_add (X 0) a k) := by
      try simp only [u3_sg, sg_sg, sg_g]
      try unfold b_add n_add
      try dsimp only
      all_goals repeat (first | rw [ci_t c_6] | rw [ci_f c_6])
      all_goals (first | rfl | (rw [sg_self]) | (simp only [u3_sg, sg_sg, sg_g]; done) | (simp only [u3_sg, sg_sg, sg_g]; rfl))
    have hV : (-3) = a_add (X 0) := by
      try simp only [u3_sg, sg_sg, sg_g]
      try unfold a_add
      try dsimp only
      all_goals repeat (first | rw [ci_t c_6] | rw [ci_f c_6])
      all_goals (first | rfl | (rw [sg_self]) | (simp only [u3_sg, sg_sg, sg_g]; done) | (simp only [u3_sg, sg_sg, sg_g]; rfl))
    exact retWE hx hb hr hlocks (by rw [← hZ]; exact hP) hS dX3_add_17 hV
  · refine lv_iload_n hx hb dX3_add_9 rfl (lv_at hl 0 rfl) ?_
    refine lv_bipush (v := 20) hx hb dX3_add_10 (by decide) ?_
    refine lv_icmp_lt (tgt := 18) hx hb dX3_add_12 (by decide) (fun c_12 => ?_) (fun c_12 => ?_)
    · refine lv_aload_n hx hb dX3_add_18 rfl (lv_at hl 1 rfl) ?_
      refine xget (C := RX3) (T := TX3) (N := 11) (ci := 3) (w := .ref (ad 2)) hx hb hts hi_X3 hown hK hP 1 g0_1 rfl 0 (by decide) lk_9 rfl dX3_add_19 ?_
      refine lv_iload_n hx hb dX3_add_22 rfl (lv_at hl 0 rfl) ?_
      refine lv_iload_n hx hb dX3_add_23 rfl (lv_at hl 2 rfl) ?_
      refine xast hx hb hK hP (wC_D hdj) hS 2 g0_2 (in_made c_6 c_12) s0_0 dX3_add_24 (fun H locs hP hS => ?_)
      obtain ⟨X_1, eX_1⟩ : ∃ Z : St, Z = u3 X 0 0 (X 0 14 1).toNatClampNeg a := ⟨_, rfl⟩
      rw [← eX_1] at hP
      refine lv_aload_n hx hb dX3_add_25 rfl (lv_at hl 1 rfl) ?_
      refine xget (C := RX3) (T := TX3) (N := 11) (ci := 3) (w := .ref (ad 3)) hx hb hts hi_X3 hown hK hP 1 g0_1 rfl 1 (by decide) lk_15 rfl dX3_add_26 ?_
      refine lv_iload_n hx hb dX3_add_29 rfl (lv_at hl 0 rfl) ?_
      refine lv_aload_n hx hb dX3_add_30 rfl (lv_at hl 1 rfl) ?_
      refine lv_iload_n hx hb dX3_add_31 rfl (lv_at hl 2 rfl) ?_
      refine callB (As := [.int a]) (rest := [.int (X 0 14 1), .ref (ad 3)]) ⟨hx, hb, hml, hown, hts⟩ (c_X3_has X_1 a) (cwV 1 hts gX3_add_X3_has rfl rfl rfl (by decide +kernel) ⟨Nat.le_of_ble_eq_true rfl, Nat.le_of_ble_eq_true rfl⟩) hK hN hP 1 g0_1 rfl rfl hl.1 rfl (Nat.le_of_ble_eq_true rfl) dX3_add_32 ⟨Nat.zero_le _, Nat.zero_le _⟩ (fun c_32 => ?_) (fun c_32 => ?_)
      · refine lv_if_eq (tgt := 49) hx hb dX3_add_35 (by decide) (fun h9 => absurd h9 (by decide)) (fun _ => ?_)
        refine lv_aload_n hx hb dX3_add_38 rfl (lv_at hl 1 rfl) ?_
        refine xget (C := RX3) (T := TX3) (N := 11) (ci := 3) (w := .ref (ad 3)) hx hb hts hi_X3 hown hK hP 1 g0_1 rfl 1 (by decide) lk_15 rfl dX3_add_39 ?_
        refine lv_iload_n hx hb dX3_add_42 rfl (lv_at hl 2 rfl) ?_
        refine xald (x := qv (X_1 0) 9 a) hx hb hK hP 3 g0_3 (in20h c_32) rfl dX3_add_43 ?_
        refine lv_iconst (v := 1) hx hb dX3_add_44 (by decide) ?_
        refine lv_iadd hx hb dX3_add_45 ?_
        refine lv_goto (tgt := 50) hx hb dX3_add_46 (by decide) ?_
        refine xast hx hb hK hP (wC_D hdj) hS 3 g0_3 (in_made c_6 c_12) s0_9 dX3_add_50 (fun H locs hP hS => ?_)
        obtain ⟨X_2, eX_2⟩ : ∃ Z : St, Z = u3 X_1 0 9 (X 0 14 1).toNatClampNeg ((qv (X_1 0) 9 a) + 1) := ⟨_, rfl⟩
        rw [← eX_2] at hP
        refine lv_aload_n hx hb dX3_add_51 rfl (lv_at hl 1 rfl) ?_
        refine xget (C := RX3) (T := TX3) (N := 11) (ci := 3) (w := .ref (ad 4)) hx hb hts hi_X3 hown hK hP 1 g0_1 rfl 2 (by decide) lk_18 rfl dX3_add_52 ?_
        refine lv_iload_n hx hb dX3_add_55 rfl (lv_at hl 0 rfl) ?_
        refine lv_iload_n hx hb dX3_add_56 rfl (lv_at hl 3 rfl) ?_
        refine xast hx hb hK hP (wC_D hdj) hS 4 g0_4 (in_made c_6 c_12) s0_1 dX3_add_57 (fun H locs hP hS => ?_)
        obtain ⟨X_3, eX_3⟩ : ∃ Z : St, Z = u3 X_2 0 1 (X 0 14 1).toNatClampNeg k := ⟨_, rfl⟩
        rw [← eX_3] at hP
        refine lv_aload_n hx hb dX3_add_58 rfl (lv_at hl 1 rfl) ?_
        refine xget (C := RX3) (T := TX3) (N := 11) (ci := 3) (w := .ref (ad 11)) hx hb hts hi_X3 hown hK hP 1 g0_1 rfl 9 (by decide) lk_39 rfl dX3_add_59 ?_
        refine lv_iload_n hx hb dX3_add_62 rfl (lv_at hl 0 rfl) ?_
        refine lv_bipush (v := 50) hx hb dX3_add_63 (by decide) ?_
        refine xast hx hb hK hP (wC_D hdj) hS 11 g0_11 (in_made c_6 c_12) s0_8 dX3_add_65 (fun H locs hP hS => ?_)
        obtain ⟨X_4, eX_4⟩ : ∃ Z : St, Z = u3 X_3 0 8 (X 0 14 1).toNatClampNeg 50 := ⟨_, rfl⟩
        rw [← eX_4] at hP
        refine lv_aload_n hx hb dX3_add_66 rfl (lv_at hl 1 rfl) ?_
        refine lv_dup hx hb dX3_add_67 rfl ?_
        refine xget (C := RX3) (T := TX3) (N := 11) (ci := 3) (w := .int (X_4 0 14 1)) hx hb hts hi_X3 hown hK hP 1 g0_1 rfl 10 (by decide) lk_48 rfl dX3_add_68 ?_
        refine lv_iconst (v := 1) hx hb dX3_add_71 (by decide) ?_
        refine lv_iadd hx hb dX3_add_72 ?_
        refine xput (C := RX3) (T := TX3) (N := 11) (ci := 3) hx hb hts hi_X3 tyX3 tyX3_ok nmX3 hown hK hP (wC_D hdj) hS 1 g0_1 rfl 10 (by decide) lk_48 rfl (by decide +kernel) (Nat.le_of_ble_eq_true rfl) s0_heads dX3_add_73 (fun H locs hP hS => ?_)
        obtain ⟨X_5, eX_5⟩ : ∃ Z : St, Z = u3 X_4 0 14 1 ((X_4 0 14 1) + 1) := ⟨_, rfl⟩
        rw [← eX_5] at hP
        refine lv_iload_n hx hb dX3_add_76 rfl (lv_at hl 0 rfl) ?_
        have hZ : X_5 = sg X 0 (b_add (X 0) a k) := by
          subst eX_5 eX_4 eX_3 eX_2 eX_1
          try simp only [u3_sg, sg_sg, sg_g] at c_32
          try simp only [u3_sg, sg_sg, sg_g]
          try unfold b_add n_add
          try dsimp only
          all_goals repeat (first | rw [ci_t c_6] | rw [ci_f c_6] | rw [ci_t c_12] | rw [ci_f c_12] | rw [ci_t c_32] | rw [ci_f c_32])
          all_goals (first | rfl | (rw [sg_self]) | (simp only [u3_sg, sg_sg, sg_g]; done) | (simp only [u3_sg, sg_sg, sg_g]; rfl))
        have hV : X 0 14 1 = a_add (X 0) := by
          subst eX_5 eX_4 eX_3 eX_2 eX_1
          try simp only [u3_sg, sg_sg, sg_g] at c_32
          try simp only [u3_sg, sg_sg, sg_g]
          try unfold a_add
          try dsimp only
          all_goals repeat (first | rw [ci_t c_6] | rw [ci_f c_6] | rw [ci_t c_12] | rw [ci_f c_12] | rw [ci_t c_32] | rw [ci_f c_32])
          all_goals (first | rfl | (rw [sg_self]) | (simp only [u3_sg, sg_sg, sg_g]; done) | (simp only [u3_sg, sg_sg, sg_g]; rfl))
        exact retWE hx hb hr hlocks (by rw [← hZ]; exact hP) hS dX3_add_77 hV
      · refine lv_if_eq (tgt := 49) hx hb dX3_add_35 (by decide) (fun _ => ?_) (fun h9 => absurd (by decide) h9)
        refine lv_iconst (v := 0) hx hb dX3_add_49 (by decide) ?_
        refine xast hx hb hK hP (wC_D hdj) hS 3 g0_3 (in_made c_6 c_12) s0_9 dX3_add_50 (fun H locs hP hS => ?_)
        obtain ⟨X_6, eX_6⟩ : ∃ Z : St, Z = u3 X_1 0 9 (X 0 14 1).toNatClampNeg 0 := ⟨_, rfl⟩
        rw [← eX_6] at hP
        refine lv_aload_n hx hb dX3_add_51 rfl (lv_at hl 1 rfl) ?_
        refine xget (C := RX3) (T := TX3) (N := 11) (ci := 3) (w := .ref (ad 4)) hx hb hts hi_X3 hown hK hP 1 g0_1 rfl 2 (by decide) lk_18 rfl dX3_add_52 ?_
        refine lv_iload_n hx hb dX3_add_55 rfl (lv_at hl 0 rfl) ?_
        refine lv_iload_n hx hb dX3_add_56 rfl (lv_at hl 3 rfl) ?_
        refine xast hx hb hK hP (wC_D hdj) hS 4 g0_4 (in_made c_6 c_12) s0_1 dX3_add_57 (fun H locs hP hS => ?_)
        obtain ⟨X_7, eX_7⟩ : ∃ Z : St, Z = u3 X_6 0 1 (X 0 14 1).toNatClampNeg k := ⟨_, rfl⟩
        rw [← eX_7] at hP
        refine lv_aload_n hx hb dX3_add_58 rfl (lv_at hl 1 rfl) ?_
        refine xget (C := RX3) (T := TX3) (N := 11) (ci := 3) (w := .ref (ad 11)) hx hb hts hi_X3 hown hK hP 1 g0_1 rfl 9 (by decide) lk_39 rfl dX3_add_59 ?_
        refine lv_iload_n hx hb dX3_add_62 rfl (lv_at hl 0 rfl) ?_
        refine lv_bipush (v := 50) hx hb dX3_add_63 (by decide) ?_
        refine xast hx hb hK hP (wC_D hdj) hS 11 g0_11 (in_made c_6 c_12) s0_8 dX3_add_65 (fun H locs hP hS => ?_)
        obtain ⟨X_8, eX_8⟩ : ∃ Z : St, Z = u3 X_7 0 8 (X 0 14 1).toNatClampNeg 50 := ⟨_, rfl⟩
        rw [← eX_8] at hP
        refine lv_aload_n hx hb dX3_add_66 rfl (lv_at hl 1 rfl) ?_
        refine lv_dup hx hb dX3_add_67 rfl ?_
        refine xget (C := RX3) (T := TX3) (N := 11) (ci := 3) (w := .int (X_8 0 14 1)) hx hb hts hi_X3 hown hK hP 1 g0_1 rfl 10 (by decide) lk_48 rfl dX3_add_68 ?_
        refine lv_iconst (v := 1) hx hb dX3_add_71 (by decide) ?_
        refine lv_iadd hx hb dX3_add_72 ?_
        refine xput (C := RX3) (T := TX3) (N := 11) (ci := 3) hx hb hts hi_X3 tyX3 tyX3_ok nmX3 hown hK hP (wC_D hdj) hS 1 g0_1 rfl 10 (by decide) lk_48 rfl (by decide +kernel) (Nat.le_of_ble_eq_true rfl) s0_heads dX3_add_73 (fun H locs hP hS => ?_)
        obtain ⟨X_9, eX_9⟩ : ∃ Z : St, Z = u3 X_8 0 14 1 ((X_8 0 14 1) + 1) := ⟨_, rfl⟩
        rw [← eX_9] at hP
        refine lv_iload_n hx hb dX3_add_76 rfl (lv_at hl 0 rfl) ?_
        have hZ : X_9 = sg X 0 (b_add (X 0) a k) := by
          subst eX_9 eX_8 eX_7 eX_6 eX_1
          try simp only [u3_sg, sg_sg, sg_g] at c_32
          try simp only [u3_sg, sg_sg, sg_g]
          try unfold b_add n_add
          try dsimp only
          all_goals repeat (first | rw [ci_t c_6] | rw [ci_f c_6] | rw [ci_t c_12] | rw [ci_f c_12] | rw [ci_t c_32] | rw [ci_f c_32])
          all_goals (first | rfl | (rw [sg_self]) | (simp only [u3_sg, sg_sg, sg_g]; done) | (simp only [u3_sg, sg_sg, sg_g]; rfl))
        have hV : X 0 14 1 = a_add (X 0) := by
          subst eX_9 eX_8 eX_7 eX_6 eX_1
          try simp only [u3_sg, sg_sg, sg_g] at c_32
          try simp only [u3_sg, sg_sg, sg_g]
          try unfold a_add
          try dsimp only
          all_goals repeat (first | rw [ci_t c_6] | rw [ci_f c_6] | rw [ci_t c_12] | rw [ci_f c_12] | rw [ci_t c_32] | rw [ci_f c_32])
          all_goals (first | rfl | (rw [sg_self]) | (simp only [u3_sg, sg_sg, sg_g]; done) | (simp only [u3_sg, sg_sg, sg_g]; rfl))
        exact retWE hx hb hr hlocks (by rw [← hZ]; exact hP) hS dX3_add_77 hV
    · refine lv_bipush (v := (-3)) hx hb dX3_add_15 (by decide) ?_
      have hZ : X = sg X 0 (b_add (X 0) a k) := by
        try simp only [u3_sg, sg_sg, sg_g]
        try unfold b_add n_add
        try dsimp only
        all_goals repeat (first | rw [ci_t c_6] | rw [ci_f c_6] | rw [ci_t c_12] | rw [ci_f c_12])
        all_goals (first | rfl | (rw [sg_self]) | (simp only [u3_sg, sg_sg, sg_g]; done) | (simp only [u3_sg, sg_sg, sg_g]; rfl))
      have hV : (-3) = a_add (X 0) := by
        try simp only [u3_sg, sg_sg, sg_g]
        try unfold a_add
        try dsimp only
        all_goals repeat (first | rw [ci_t c_6] | rw [ci_f c_6] | rw [ci_t c_12] | rw [ci_f c_12])
        all_goals (first | rfl | (rw [sg_self]) | (simp only [u3_sg, sg_sg, sg_g]; done) | (simp only [u3_sg, sg_sg, sg_g]; rfl))
      exact retWE hx hb hr hlocks (by rw [← hZ]; exact hP) hS dX3_add_17 hV
set_option maxHeartbeats 4000000 in
set_option maxRecDepth 100000 in
theorem c_X1_add {l : Launch} {D : va_G} {cI cR : ClassId} {ad : Nat → Nat} (hdj : Dj 236 ad) (X : St) (h : Int32) (a : Int32) (y : Int32) : WoE l D cI cR (Aw 236 ad) (wC cI cR ad X) (wC cI cR ad (sg X 0 (b_addC (X 0) h a y))) yX1_add wsX1_add ({ frames := 0, cells := 0, slots := 0, locals := 0 } : Room) [.ref (ad 12), .int h, .int a, .int y] (a_addC (X 0)) := by
  refine OfW (cc := cX1_add) (maxL := 5) (ret := (some .int)) (by decide +kernel) rfl (Nat.le_of_ble_eq_true rfl) (fun p e s m below meth c hx hb hr hts hown hlocks hml hnm hP hK hN ls hl => ?_)
  have hl : lv_has ls 5 [(0, .ref (ad 12)), (1, .int h), (2, .int a), (3, .int y)] := hl
  have lk_30 := hts (.fieldLink RX1 30 "HeadBudgets$Commitments" "made" "I") (by decide +kernel)
  have lk_9 := hts (.fieldLink RX1 9 "HeadBudgets$Commitments" "head" "[I") (by decide +kernel)
  have lk_15 := hts (.fieldLink RX1 15 "HeadBudgets$Commitments" "open" "[I") (by decide +kernel)
  have lk_21 := hts (.fieldLink RX1 21 "HeadBudgets$Commitments" "year" "[I") (by decide +kernel)
  have hi_X1 : ∀ w ∈ wsX10, w ∈ wsX1_add := by decide +kernel
  have hS : va_S (Aw 236 ad) s.heap s.heap [] := va_S.rf
  have hP : va_P D vwCl (wC cI cR ad X) s.heap := hP
  refine lv_aload_n hx hb dX1_add_0 rfl (lv_at hl 0 rfl) ?_
  refine xget (C := RX1) (T := TX1) (N := 5) (ci := 1) (w := .int (X 0 14 2)) hx hb hts hi_X1 hown hK hP 12 g0_12 rfl 4 (by decide) lk_30 rfl dX1_add_1 ?_
  refine lv_istore (lv' := [(4, .int (X 0 14 2)), (0, .ref (ad 12)), (1, .int h), (2, .int a), (3, .int y)]) hx hb dX1_add_4 hl (by decide) rfl (fun ls hl => ?_)
  refine lv_iload hx hb dX1_add_6 (lv_at hl 0 rfl) ?_
  refine lv_if_lt (tgt := 18) hx hb dX1_add_8 (by decide) (fun c_8 => ?_) (fun c_8 => ?_)
  · refine lv_bipush (v := (-3)) hx hb dX1_add_18 (by decide) ?_
    have hZ : X = sg X 0 (b_addC (X 0) h a y) := by
      try simp only [u3_sg, sg_sg, sg_g]
      try unfold b_addC n_addC
      try dsimp only
      all_goals repeat (first | rw [ci_t c_8] | rw [ci_f c_8])
      all_goals (first | rfl | (rw [sg_self]) | (simp only [u3_sg, sg_sg, sg_g]; done) | (simp only [u3_sg, sg_sg, sg_g]; rfl))
    have hV : (-3) = a_addC (X 0) := by
      try simp only [u3_sg, sg_sg, sg_g]
      try unfold a_addC
      try dsimp only
      all_goals repeat (first | rw [ci_t c_8] | rw [ci_f c_8])
      all_goals (first | rfl | (rw [sg_self]) | (simp only [u3_sg, sg_sg, sg_g]; done) | (simp only [u3_sg, sg_sg, sg_g]; rfl))
    exact retWE hx hb hr hlocks (by rw [← hZ]; exact hP) hS dX1_add_20 hV
  · refine lv_iload hx hb dX1_add_11 (lv_at hl 0 rfl) ?_
    refine lv_bipush (v := 40) hx hb dX1_add_13 (by decide) ?_
    refine lv_icmp_lt (tgt := 21) hx hb dX1_add_15 (by decide) (fun c_15 => ?_) (fun c_15 => ?_)
    · refine lv_aload_n hx hb dX1_add_21 rfl (lv_at hl 1 rfl) ?_
      refine xget (C := RX1) (T := TX1) (N := 5) (ci := 1) (w := .ref (ad 13)) hx hb hts hi_X1 hown hK hP 12 g0_12 rfl 0 (by decide) lk_9 rfl dX1_add_22 ?_
      refine lv_iload hx hb dX1_add_25 (lv_at hl 0 rfl) ?_
      refine lv_iload_n hx hb dX1_add_27 rfl (lv_at hl 2 rfl) ?_
      refine xast hx hb hK hP (wC_D hdj) hS 13 g0_13 (in_madeC c_8 c_15) s0_10 dX1_add_28 (fun H locs hP hS => ?_)
      obtain ⟨X_1, eX_1⟩ : ∃ Z : St, Z = u3 X 0 10 (X 0 14 2).toNatClampNeg h := ⟨_, rfl⟩
      rw [← eX_1] at hP
      refine lv_aload_n hx hb dX1_add_29 rfl (lv_at hl 1 rfl) ?_
      refine xget (C := RX1) (T := TX1) (N := 5) (ci := 1) (w := .ref (ad 14)) hx hb hts hi_X1 hown hK hP 12 g0_12 rfl 1 (by decide) lk_15 rfl dX1_add_30 ?_
      refine lv_iload hx hb dX1_add_33 (lv_at hl 0 rfl) ?_
      refine lv_iload_n hx hb dX1_add_35 rfl (lv_at hl 3 rfl) ?_
      refine xast hx hb hK hP (wC_D hdj) hS 14 g0_14 (in_madeC c_8 c_15) s0_11 dX1_add_36 (fun H locs hP hS => ?_)
      obtain ⟨X_2, eX_2⟩ : ∃ Z : St, Z = u3 X_1 0 11 (X 0 14 2).toNatClampNeg a := ⟨_, rfl⟩
      rw [← eX_2] at hP
      refine lv_aload_n hx hb dX1_add_37 rfl (lv_at hl 1 rfl) ?_
      refine xget (C := RX1) (T := TX1) (N := 5) (ci := 1) (w := .ref (ad 16)) hx hb hts hi_X1 hown hK hP 12 g0_12 rfl 3 (by decide) lk_21 rfl dX1_add_38 ?_
      refine lv_iload hx hb dX1_add_41 (lv_at hl 0 rfl) ?_
      refine lv_iload_n hx hb dX1_add_43 rfl (lv_at hl 4 rfl) ?_
      refine xast hx hb hK hP (wC_D hdj) hS 16 g0_16 (in_madeC c_8 c_15) s0_13 dX1_add_44 (fun H locs hP hS => ?_)
      obtain ⟨X_3, eX_3⟩ : ∃ Z : St, Z = u3 X_2 0 13 (X 0 14 2).toNatClampNeg y := ⟨_, rfl⟩
      rw [← eX_3] at hP
      refine lv_aload_n hx hb dX1_add_45 rfl (lv_at hl 1 rfl) ?_
      refine lv_dup hx hb dX1_add_46 rfl ?_
      refine xget (C := RX1) (T := TX1) (N := 5) (ci := 1) (w := .int (X_3 0 14 2)) hx hb hts hi_X1 hown hK hP 12 g0_12 rfl 4 (by decide) lk_30 rfl dX1_add_47 ?_
      refine lv_iconst (v := 1) hx hb dX1_add_50 (by decide) ?_
      refine lv_iadd hx hb dX1_add_51 ?_
      refine xput (C := RX1) (T := TX1) (N := 5) (ci := 1) hx hb hts hi_X1 tyX1 tyX1_ok nmX1 hown hK hP (wC_D hdj) hS 12 g0_12 rfl 4 (by decide) lk_30 rfl (by decide +kernel) (Nat.le_of_ble_eq_true rfl) s0_comms dX1_add_52 (fun H locs hP hS => ?_)
      obtain ⟨X_4, eX_4⟩ : ∃ Z : St, Z = u3 X_3 0 14 2 ((X_3 0 14 2) + 1) := ⟨_, rfl⟩
      rw [← eX_4] at hP
      refine lv_iload hx hb dX1_add_55 (lv_at hl 0 rfl) ?_
      have hZ : X_4 = sg X 0 (b_addC (X 0) h a y) := by
        subst eX_4 eX_3 eX_2 eX_1
        try simp only [u3_sg, sg_sg, sg_g]
        try unfold b_addC n_addC
        try dsimp only
        all_goals repeat (first | rw [ci_t c_8] | rw [ci_f c_8] | rw [ci_t c_15] | rw [ci_f c_15])
        all_goals (first | rfl | (rw [sg_self]) | (simp only [u3_sg, sg_sg, sg_g]; done) | (simp only [u3_sg, sg_sg, sg_g]; rfl))
      have hV : X 0 14 2 = a_addC (X 0) := by
        subst eX_4 eX_3 eX_2 eX_1
        try simp only [u3_sg, sg_sg, sg_g]
        try unfold a_addC
        try dsimp only
        all_goals repeat (first | rw [ci_t c_8] | rw [ci_f c_8] | rw [ci_t c_15] | rw [ci_f c_15])
        all_goals (first | rfl | (rw [sg_self]) | (simp only [u3_sg, sg_sg, sg_g]; done) | (simp only [u3_sg, sg_sg, sg_g]; rfl))
      exact retWE hx hb hr hlocks (by rw [← hZ]; exact hP) hS dX1_add_57 hV
    · refine lv_bipush (v := (-3)) hx hb dX1_add_18 (by decide) ?_
      have hZ : X = sg X 0 (b_addC (X 0) h a y) := by
        try simp only [u3_sg, sg_sg, sg_g]
        try unfold b_addC n_addC
        try dsimp only
        all_goals repeat (first | rw [ci_t c_8] | rw [ci_f c_8] | rw [ci_t c_15] | rw [ci_f c_15])
        all_goals (first | rfl | (rw [sg_self]) | (simp only [u3_sg, sg_sg, sg_g]; done) | (simp only [u3_sg, sg_sg, sg_g]; rfl))
      have hV : (-3) = a_addC (X 0) := by
        try simp only [u3_sg, sg_sg, sg_g]
        try unfold a_addC
        try dsimp only
        all_goals repeat (first | rw [ci_t c_8] | rw [ci_f c_8] | rw [ci_t c_15] | rw [ci_f c_15])
        all_goals (first | rfl | (rw [sg_self]) | (simp only [u3_sg, sg_sg, sg_g]; done) | (simp only [u3_sg, sg_sg, sg_g]; rfl))
      exact retWE hx hb hr hlocks (by rw [← hZ]; exact hP) hS dX1_add_20 hV
set_option maxHeartbeats 4000000 in
set_option maxRecDepth 100000 in
theorem c_X0_freeOpenOf {l : Launch} {D : va_G} {cI cR : ClassId} {ad : Nat → Nat} (hdj : Dj 236 ad) (X : St) (q : Int32) : WoE l D cI cR (Aw 236 ad) (wC cI cR ad X) (wC cI cR ad (sg X 0 (b_free0 (X 0) q))) yX0_freeOpenOf wsX0_freeOpenOf ({ frames := 2, cells := 0, slots := 0, locals := 43 } : Room) [.ref (ad 0), .int q] (a_free0 (X 0) q) := by
  refine OfW (cc := cX0_freeOpenOf) (maxL := 3) (ret := (some .int)) (by decide +kernel) rfl (Nat.le_of_ble_eq_true rfl) (fun p e s m below meth c hx hb hr hts hown hlocks hml hnm hP hK hN ls hl => ?_)
  have hl : lv_has ls 3 [(0, .ref (ad 0)), (1, .int q)] := hl
  have lk_21 := hts (.fieldLink RX0 21 "HeadBudgets$Books" "commitments" "LHeadBudgets$Commitments;") (by decide +kernel)
  have lk_49 := hts (.fieldLink RX0 49 "HeadBudgets$Commitments" "open" "[I") (by decide +kernel)
  have lk_12 := hts (.fieldLink RX0 12 "HeadBudgets$Books" "heads" "LHeadBudgets$Heads;") (by decide +kernel)
  have lk_53 := hts (.fieldLink RX0 53 "HeadBudgets$Commitments" "head" "[I") (by decide +kernel)
  have hi_X0 : ∀ w ∈ wsX00, w ∈ wsX0_freeOpenOf := by decide +kernel
  have hi_X1 : ∀ w ∈ wsX10, w ∈ wsX0_freeOpenOf := by decide +kernel
  have hS : va_S (Aw 236 ad) s.heap s.heap [] := va_S.rf
  have hP : va_P D vwCl (wC cI cR ad X) s.heap := hP
  refine lv_aload_n hx hb dX0_freeOpenOf_0 rfl (lv_at hl 0 rfl) ?_
  refine xget (C := RX0) (T := TX0) (N := 6) (ci := 0) (w := .ref (ad 12)) hx hb hts hi_X0 hown hK hP 0 g0_0 rfl 1 (by decide) lk_21 rfl dX0_freeOpenOf_1 ?_
  refine lv_iload_n hx hb dX0_freeOpenOf_4 rfl (lv_at hl 1 rfl) ?_
  refine callB (As := [.int q]) (rest := []) ⟨hx, hb, hml, hown, hts⟩ (c_X1_has X q) (cwV 1 hts gX0_freeOpenOf_X1_has rfl rfl rfl (by decide +kernel) ⟨Nat.le_of_ble_eq_true rfl, Nat.le_of_ble_eq_true rfl⟩) hK hN hP 12 g0_12 rfl rfl hl.1 rfl (Nat.le_of_ble_eq_true rfl) dX0_freeOpenOf_5 ⟨Nat.zero_le _, Nat.zero_le _⟩ (fun c_5 => ?_) (fun c_5 => ?_)
  · refine lv_if_ne (tgt := 13) hx hb dX0_freeOpenOf_8 (by decide) (fun _ => ?_) (fun h9 => absurd h9 (by decide))
    refine lv_aload_n hx hb dX0_freeOpenOf_13 rfl (lv_at hl 0 rfl) ?_
    refine xget (C := RX0) (T := TX0) (N := 6) (ci := 0) (w := .ref (ad 12)) hx hb hts hi_X0 hown hK hP 0 g0_0 rfl 1 (by decide) lk_21 rfl dX0_freeOpenOf_14 ?_
    refine xget (C := RX1) (T := TX1) (N := 5) (ci := 1) (w := .ref (ad 14)) hx hb hts hi_X1 hown hK hP 12 g0_12 rfl 1 (by decide) lk_49 rfl dX0_freeOpenOf_17 ?_
    refine lv_iload_n hx hb dX0_freeOpenOf_20 rfl (lv_at hl 1 rfl) ?_
    refine xald (x := qv (X 0) 11 q) hx hb hK hP 14 g0_14 (in40h c_5) rfl dX0_freeOpenOf_21 ?_
    refine lv_istore_n (lv' := [(2, .int (qv (X 0) 11 q)), (0, .ref (ad 0)), (1, .int q)]) hx hb dX0_freeOpenOf_22 rfl hl (by decide) rfl (fun ls hl => ?_)
    refine lv_aload_n hx hb dX0_freeOpenOf_23 rfl (lv_at hl 1 rfl) ?_
    refine xget (C := RX0) (T := TX0) (N := 6) (ci := 0) (w := .ref (ad 12)) hx hb hts hi_X0 hown hK hP 0 g0_0 rfl 1 (by decide) lk_21 rfl dX0_freeOpenOf_24 ?_
    refine xget (C := RX1) (T := TX1) (N := 5) (ci := 1) (w := .ref (ad 14)) hx hb hts hi_X1 hown hK hP 12 g0_12 rfl 1 (by decide) lk_49 rfl dX0_freeOpenOf_27 ?_
    refine lv_iload_n hx hb dX0_freeOpenOf_30 rfl (lv_at hl 2 rfl) ?_
    refine lv_iconst (v := 0) hx hb dX0_freeOpenOf_31 (by decide) ?_
    refine xast hx hb hK hP (wC_D hdj) hS 14 g0_14 (in40h c_5) s0_11 dX0_freeOpenOf_32 (fun H locs hP hS => ?_)
    obtain ⟨X_1, eX_1⟩ : ∃ Z : St, Z = u3 X 0 11 q.toNatClampNeg 0 := ⟨_, rfl⟩
    rw [← eX_1] at hP
    refine lv_aload_n hx hb dX0_freeOpenOf_33 rfl (lv_at hl 1 rfl) ?_
    refine xget (C := RX0) (T := TX0) (N := 6) (ci := 0) (w := .ref (ad 1)) hx hb hts hi_X0 hown hK hP 0 g0_0 rfl 0 (by decide) lk_12 rfl dX0_freeOpenOf_34 ?_
    refine lv_aload_n hx hb dX0_freeOpenOf_37 rfl (lv_at hl 1 rfl) ?_
    refine xget (C := RX0) (T := TX0) (N := 6) (ci := 0) (w := .ref (ad 12)) hx hb hts hi_X0 hown hK hP 0 g0_0 rfl 1 (by decide) lk_21 rfl dX0_freeOpenOf_38 ?_
    refine xget (C := RX1) (T := TX1) (N := 5) (ci := 1) (w := .ref (ad 13)) hx hb hts hi_X1 hown hK hP 12 g0_12 rfl 0 (by decide) lk_53 rfl dX0_freeOpenOf_41 ?_
    refine lv_iload_n hx hb dX0_freeOpenOf_44 rfl (lv_at hl 2 rfl) ?_
    refine xald (x := qv (X_1 0) 10 q) hx hb hK hP 13 g0_13 (in40h c_5) rfl dX0_freeOpenOf_45 ?_
    refine lv_iload_n hx hb dX0_freeOpenOf_46 rfl (lv_at hl 0 rfl) ?_
    refine lv_ineg hx hb dX0_freeOpenOf_47 ?_
    refine callWV (As := [.int (qv (X_1 0) 10 q), .int (-(qv (X 0) 11 q))]) (rest := []) ⟨hx, hb, hml, hown, hts⟩ (c_X3_changeCommitted hdj X_1 (qv (X_1 0) 10 q) (-(qv (X 0) 11 q))) (cwV 2 hts gX0_freeOpenOf_X3_changeCommitted rfl rfl rfl (by decide +kernel) ⟨Nat.le_of_ble_eq_true rfl, Nat.le_of_ble_eq_true rfl⟩) hK hN hP 1 g0_1 rfl rfl hl.1 rfl (Nat.le_of_ble_eq_true rfl) dX0_freeOpenOf_48 ⟨Nat.zero_le _, Nat.zero_le _⟩ hS (fun _ h9 => h9) (fun H locs hP hS => ?_)
    obtain ⟨X_2, eX_2⟩ : ∃ Z : St, Z = sg X_1 0 (b_cc (X_1 0) (qv (X_1 0) 10 q) (-(qv (X 0) 11 q))) := ⟨_, rfl⟩
    rw [← eX_2] at hP
    refine lv_iload_n hx hb dX0_freeOpenOf_51 rfl (lv_at hl 0 rfl) ?_
    have hZ : X_2 = sg X 0 (b_free0 (X 0) q) := by
      subst eX_2 eX_1
      try simp only [u3_sg, sg_sg, sg_g]
      try unfold b_free0
      try dsimp only
      all_goals repeat (first | rw [ci_t c_5] | rw [ci_f c_5])
      all_goals (first | rfl | (rw [sg_self]) | (simp only [u3_sg, sg_sg, sg_g]; done) | (simp only [u3_sg, sg_sg, sg_g]; rfl))
    have hV : qv (X 0) 11 q = a_free0 (X 0) q := by
      subst eX_2 eX_1
      try simp only [u3_sg, sg_sg, sg_g]
      try unfold a_free0
      try dsimp only
      all_goals repeat (first | rw [ci_t c_5] | rw [ci_f c_5])
      all_goals (first | rfl | (rw [sg_self]) | (simp only [u3_sg, sg_sg, sg_g]; done) | (simp only [u3_sg, sg_sg, sg_g]; rfl))
    exact retWE hx hb hr hlocks (by rw [← hZ]; exact hP) hS dX0_freeOpenOf_52 hV
  · refine lv_if_ne (tgt := 13) hx hb dX0_freeOpenOf_8 (by decide) (fun h9 => absurd (by decide) h9) (fun _ => ?_)
    refine lv_iconst (v := 0) hx hb dX0_freeOpenOf_11 (by decide) ?_
    have hZ : X = sg X 0 (b_free0 (X 0) q) := by
      try simp only [u3_sg, sg_sg, sg_g]
      try unfold b_free0
      try dsimp only
      all_goals repeat (first | rw [ci_t c_5] | rw [ci_f c_5])
      all_goals (first | rfl | (rw [sg_self]) | (simp only [u3_sg, sg_sg, sg_g]; done) | (simp only [u3_sg, sg_sg, sg_g]; rfl))
    have hV : 0 = a_free0 (X 0) q := by
      try simp only [u3_sg, sg_sg, sg_g]
      try unfold a_free0
      try dsimp only
      all_goals repeat (first | rw [ci_t c_5] | rw [ci_f c_5])
      all_goals (first | rfl | (rw [sg_self]) | (simp only [u3_sg, sg_sg, sg_g]; done) | (simp only [u3_sg, sg_sg, sg_g]; rfl))
    exact retWE hx hb hr hlocks (by rw [← hZ]; exact hP) hS dX0_freeOpenOf_12 hV
set_option maxHeartbeats 4000000 in
set_option maxRecDepth 100000 in
theorem c_X3_carryForward {l : Launch} {D : va_G} {cI cR : ClassId} {ad : Nat → Nat} (hdj : Dj 236 ad) (X : St) (q : Int32) : WoV l D cI cR (Aw 236 ad) (wC cI cR ad X) (wC cI cR ad (sg X 0 (b_cf (X 0) q 20))) yX3_carryForward wsX3_carryForward ({ frames := 2, cells := 0, slots := 0, locals := 42 } : Room) [.ref (ad 1), .int q] := by
  refine OfW (cc := cX3_carryForward) (maxL := 4) (ret := none) (by decide +kernel) rfl (Nat.le_of_ble_eq_true rfl) (fun p e s m below meth c hx hb hr hts hown hlocks hml hnm hP hK hN ls hl => ?_)
  have hl : lv_has ls 4 [(0, .ref (ad 1)), (1, .int q)] := hl
  have lk_24 := hts (.fieldLink RX3 24 "HeadBudgets$Heads" "allotment" "[I") (by decide +kernel)
  have lk_27 := hts (.fieldLink RX3 27 "HeadBudgets$Heads" "committed" "[I") (by decide +kernel)
  have lk_33 := hts (.fieldLink RX3 33 "HeadBudgets$Heads" "allotted" "[I") (by decide +kernel)
  have lk_30 := hts (.fieldLink RX3 30 "HeadBudgets$Heads" "spent" "[I") (by decide +kernel)
  have lk_36 := hts (.fieldLink RX3 36 "HeadBudgets$Heads" "left" "[I") (by decide +kernel)
  have hi_X3 : ∀ w ∈ wsX30, w ∈ wsX3_carryForward := by decide +kernel
  have hS : va_S (Aw 236 ad) s.heap s.heap [] := va_S.rf
  have hP : va_P D vwCl (wC cI cR ad X) s.heap := hP
  refine lv_iconst (v := 0) hx hb dX3_carryForward_0 (by decide) ?_
  refine lv_istore_n (lv' := [(2, .int 0), (0, .ref (ad 1)), (1, .int q)]) hx hb dX3_carryForward_1 rfl hl (by decide) rfl (fun ls hl => ?_)
  have hloop_2 : ∀ (n_2 : Nat) (k : Nat) (xk : Int32) (XL_2 : St) (H : Heap) (locs : List Loc), va_P D vwCl (wC cI cR ad XL_2) H → va_S (Aw 236 ad) s.heap H locs → k ≤ 20 → 20 < k + n_2 → xk = nI k → XL_2 = sg X 0 (b_cf (X 0) q k) → ∀ ls : Array Slot, lv_has ls 4 [(0, .ref (ad 1)), (1, .int q), (2, .int xk)] → W p l e ({ frames := 2, cells := 0, slots := 0, locals := 42 } : Room) s m ([.ref (ad 1), .int q]).toArray below meth c H locs 0 0 (MQ below (va_Qv (S := Unit) (fun _ => True) (fun _ t => va_P D vwCl (wC cI cR ad (sg X 0 (b_cf (X 0) q 20))) t.heap) (Aw 236 ad)) ([.ref (ad 1), .int q]).toArray s 0 0 (Aw 236 ad)) (F0 m 2 ls []) := by
    intro n_2
    induction n_2 with
    | zero =>
      intro k xk XL_2 H locs hP hS hk hn ek ea ls hl
      exfalso; omega
    | succ n_2 ih_2 =>
      intro k xk XL_2 H locs hP hS hk hn ek ea ls hl
      refine lv_iload_n hx hb dX3_carryForward_2 rfl (lv_at hl 2 rfl) ?_
      refine lv_bipush (v := 20) hx hb dX3_carryForward_3 (by decide) ?_
      refine lv_icmp_ge (tgt := 59) hx hb dX3_carryForward_5 (by decide) (fun c_5 => ?_) (fun c_5 => ?_)
      · have hk2 : k = 20 := nI_ge20 hk (by rw [← ek]; exact c_5)
        subst hk2
        rw [ea] at hP
        exact retWV hx hb hr hlocks hP hS dX3_carryForward_59
      · have hlt : k < 20 := nI_lt20 (by omega) (by rw [← ek]; exact c_5)
        have q1 := in20 (nI_hin hlt)
        rw [← ek] at q1
        refine lv_aload_n hx hb dX3_carryForward_8 rfl (lv_at hl 0 rfl) ?_
        refine lv_iload_n hx hb dX3_carryForward_9 rfl (lv_at hl 2 rfl) ?_
        refine callE (As := [.int xk]) (rest := []) ⟨hx, hb, hml, hown, hts⟩ (c_X3_freeOf XL_2 xk) (cwV 1 hts gX3_carryForward_X3_freeOf rfl rfl rfl (by decide +kernel) ⟨Nat.le_of_ble_eq_true rfl, Nat.le_of_ble_eq_true rfl⟩) hK hN hP 1 g0_1 rfl rfl hl.1 rfl (Nat.le_of_ble_eq_true rfl) dX3_carryForward_10 ⟨Nat.zero_le _, Nat.zero_le _⟩ ?_
        refine lv_iload_n hx hb dX3_carryForward_13 rfl (lv_at hl 1 rfl) ?_
        refine callNE (As := [.int (p_free (XL_2 0) xk), .int q]) (rest := []) ⟨hx, hb, hml, hown, hts⟩ (c_X5_partOf (p_free (XL_2 0) xk) q) ⟨va_cnB 2 hts gX3_carryForward_X5_partOf_n77 rfl rfl rfl hN.2.2.2.2.2 (hts (.initialized RX5) (by decide +kernel)) (by decide +kernel) ⟨Nat.le_of_ble_eq_true rfl, Nat.le_of_ble_eq_true rfl⟩, hts (.static yX5_partOf) (by decide +kernel), trivial⟩ hK hN rfl hl.1 rfl (Nat.le_of_ble_eq_true rfl) dX3_carryForward_14 ⟨Nat.zero_le _, Nat.zero_le _⟩ ?_
        refine lv_istore_n (lv' := [(3, .int (p_part (p_free (XL_2 0) xk) q)), (0, .ref (ad 1)), (1, .int q), (2, .int xk)]) hx hb dX3_carryForward_17 rfl hl (by decide) rfl (fun ls hl => ?_)
        refine lv_aload_n hx hb dX3_carryForward_18 rfl (lv_at hl 1 rfl) ?_
        refine xget (C := RX3) (T := TX3) (N := 11) (ci := 3) (w := .ref (ad 6)) hx hb hts hi_X3 hown hK hP 1 g0_1 rfl 4 (by decide) lk_24 rfl dX3_carryForward_19 ?_
        refine lv_iload_n hx hb dX3_carryForward_22 rfl (lv_at hl 3 rfl) ?_
        refine lv_aload_n hx hb dX3_carryForward_23 rfl (lv_at hl 1 rfl) ?_
        refine xget (C := RX3) (T := TX3) (N := 11) (ci := 3) (w := .ref (ad 7)) hx hb hts hi_X3 hown hK hP 1 g0_1 rfl 5 (by decide) lk_27 rfl dX3_carryForward_24 ?_
        refine lv_iload_n hx hb dX3_carryForward_27 rfl (lv_at hl 3 rfl) ?_
        refine xald (x := qv (XL_2 0) 4 xk) hx hb hK hP 7 g0_7 q1 rfl dX3_carryForward_28 ?_
        refine lv_iload_n hx hb dX3_carryForward_29 rfl (lv_at hl 0 rfl) ?_
        refine lv_iadd hx hb dX3_carryForward_30 ?_
        refine xast hx hb hK hP (wC_D hdj) hS 6 g0_6 q1 s0_3 dX3_carryForward_31 (fun H locs hP hS => ?_)
        obtain ⟨X_1, eX_1⟩ : ∃ Z : St, Z = u3 XL_2 0 3 xk.toNatClampNeg ((qv (XL_2 0) 4 xk) + (p_part (p_free (XL_2 0) xk) q)) := ⟨_, rfl⟩
        rw [← eX_1] at hP
        refine lv_aload_n hx hb dX3_carryForward_32 rfl (lv_at hl 1 rfl) ?_
        refine xget (C := RX3) (T := TX3) (N := 11) (ci := 3) (w := .ref (ad 9)) hx hb hts hi_X3 hown hK hP 1 g0_1 rfl 7 (by decide) lk_33 rfl dX3_carryForward_33 ?_
        refine lv_iload_n hx hb dX3_carryForward_36 rfl (lv_at hl 3 rfl) ?_
        refine lv_iload_n hx hb dX3_carryForward_37 rfl (lv_at hl 0 rfl) ?_
        refine xast hx hb hK hP (wC_D hdj) hS 9 g0_9 q1 s0_6 dX3_carryForward_38 (fun H locs hP hS => ?_)
        obtain ⟨X_2, eX_2⟩ : ∃ Z : St, Z = u3 X_1 0 6 xk.toNatClampNeg (p_part (p_free (XL_2 0) xk) q) := ⟨_, rfl⟩
        rw [← eX_2] at hP
        refine lv_aload_n hx hb dX3_carryForward_39 rfl (lv_at hl 1 rfl) ?_
        refine xget (C := RX3) (T := TX3) (N := 11) (ci := 3) (w := .ref (ad 8)) hx hb hts hi_X3 hown hK hP 1 g0_1 rfl 6 (by decide) lk_30 rfl dX3_carryForward_40 ?_
        refine lv_iload_n hx hb dX3_carryForward_43 rfl (lv_at hl 3 rfl) ?_
        refine lv_iconst (v := 0) hx hb dX3_carryForward_44 (by decide) ?_
        refine xast hx hb hK hP (wC_D hdj) hS 8 g0_8 q1 s0_5 dX3_carryForward_45 (fun H locs hP hS => ?_)
        obtain ⟨X_3, eX_3⟩ : ∃ Z : St, Z = u3 X_2 0 5 xk.toNatClampNeg 0 := ⟨_, rfl⟩
        rw [← eX_3] at hP
        refine lv_aload_n hx hb dX3_carryForward_46 rfl (lv_at hl 1 rfl) ?_
        refine xget (C := RX3) (T := TX3) (N := 11) (ci := 3) (w := .ref (ad 10)) hx hb hts hi_X3 hown hK hP 1 g0_1 rfl 8 (by decide) lk_36 rfl dX3_carryForward_47 ?_
        refine lv_iload_n hx hb dX3_carryForward_50 rfl (lv_at hl 3 rfl) ?_
        refine lv_iconst (v := 0) hx hb dX3_carryForward_51 (by decide) ?_
        refine xast hx hb hK hP (wC_D hdj) hS 10 g0_10 q1 s0_7 dX3_carryForward_52 (fun H locs hP hS => ?_)
        obtain ⟨X_4, eX_4⟩ : ∃ Z : St, Z = u3 X_3 0 7 xk.toNatClampNeg 0 := ⟨_, rfl⟩
        rw [← eX_4] at hP
        refine lv_iinc (v := xk + 1) (lv' := [(2, .int (xk + 1)), (3, .int (p_part (p_free (XL_2 0) xk) q)), (0, .ref (ad 1)), (1, .int q)]) hx hb dX3_carryForward_53 hl (k := 3) rfl rfl (by decide) rfl (fun ls hl => ?_)
        refine lv_goto (tgt := 2) hx hb dX3_carryForward_56 (by decide) ?_
        have hz : X_4 = sg X 0 (b_cf (X 0) q (k + 1)) := by
          subst eX_4 eX_3 eX_2 eX_1
          subst ea
          simp only [u3_sg, sg_sg, sg_g]
          rw [ek]
          rfl
        exact ih_2  (k + 1) _ X_4 _ _ hP hS (by omega) (by omega) (by rw [ek]; exact nI_1 k) hz _ (lv_sub hl [2, 3, 0] rfl)
  exact hloop_2  21 0 0 X _ _ hP hS (by omega) (by omega) rfl (by exact (sg_self X 0).symm) _ (lv_sub hl [1, 2, 0] rfl)
set_option maxHeartbeats 4000000 in
set_option maxRecDepth 100000 in
theorem c_X3_copyFrom {l : Launch} {D : va_G} {cI cR : ClassId} {ad : Nat → Nat} (hdj : Dj 236 ad) (X : St) (g g2 : Nat) (hg : g < 13) (hg2 : g2 < 13) (hne : ¬ g2 = g) : WoV l D cI cR (Aw 236 ad) (wC cI cR ad X) (wC cI cR ad (cpH X g g2)) yX3_copyFrom wsX3_copyFrom ({ frames := 1, cells := 0, slots := 0, locals := 60 } : Room) [.ref (ad (17 * g + 1)), .ref (ad (17 * g2 + 1))] := by
  refine OfW (cc := cX3_copyFrom) (maxL := 2) (ret := none) (by decide +kernel) rfl (Nat.le_of_ble_eq_true rfl) (fun p e s m below meth c hx hb hr hts hown hlocks hml hnm hP hK hN ls hl => ?_)
  have hl : lv_has ls 2 [(0, .ref (ad (17 * g + 1))), (1, .ref (ad (17 * g2 + 1)))] := hl
  have lk_9 := hts (.fieldLink RX3 9 "HeadBudgets$Heads" "above" "[I") (by decide +kernel)
  have lk_15 := hts (.fieldLink RX3 15 "HeadBudgets$Heads" "depth" "[I") (by decide +kernel)
  have lk_18 := hts (.fieldLink RX3 18 "HeadBudgets$Heads" "rank" "[I") (by decide +kernel)
  have lk_21 := hts (.fieldLink RX3 21 "HeadBudgets$Heads" "frozen" "[I") (by decide +kernel)
  have lk_24 := hts (.fieldLink RX3 24 "HeadBudgets$Heads" "allotment" "[I") (by decide +kernel)
  have lk_27 := hts (.fieldLink RX3 27 "HeadBudgets$Heads" "committed" "[I") (by decide +kernel)
  have lk_30 := hts (.fieldLink RX3 30 "HeadBudgets$Heads" "spent" "[I") (by decide +kernel)
  have lk_33 := hts (.fieldLink RX3 33 "HeadBudgets$Heads" "allotted" "[I") (by decide +kernel)
  have lk_36 := hts (.fieldLink RX3 36 "HeadBudgets$Heads" "left" "[I") (by decide +kernel)
  have lk_39 := hts (.fieldLink RX3 39 "HeadBudgets$Heads" "share" "[I") (by decide +kernel)
  have lk_48 := hts (.fieldLink RX3 48 "HeadBudgets$Heads" "made" "I") (by decide +kernel)
  have hi_X3 : ∀ w ∈ wsX30, w ∈ wsX3_copyFrom := by decide +kernel
  have hS : va_S (Aw 236 ad) s.heap s.heap [] := va_S.rf
  have hP : va_P D vwCl (wC cI cR ad X) s.heap := hP
  refine lv_aload_n hx hb dX3_copyFrom_0 rfl (lv_at hl 1 rfl) ?_
  refine xget (C := RX3) (T := TX3) (N := 11) (ci := 3) (w := .ref (ad (17 * g2 + 2))) hx hb hts hi_X3 hown hK hP (17 * g2 + 1) (gg_1 hg2) rfl 0 (by decide) lk_9 rfl dX3_copyFrom_1 ?_
  refine lv_iconst (v := 0) hx hb dX3_copyFrom_4 (by decide) ?_
  refine lv_aload_n hx hb dX3_copyFrom_5 rfl (lv_at hl 0 rfl) ?_
  refine xget (C := RX3) (T := TX3) (N := 11) (ci := 3) (w := .ref (ad (17 * g + 2))) hx hb hts hi_X3 hown hK hP (17 * g + 1) (gg_1 hg) rfl 0 (by decide) lk_9 rfl dX3_copyFrom_6 ?_
  refine lv_iconst (v := 0) hx hb dX3_copyFrom_9 (by decide) ?_
  refine lv_bipush (v := 20) hx hb dX3_copyFrom_10 (by decide) ?_
  refine va_copyi hx hb (by rw [hml]; exact hl.1.symm) hown (hts (.methodLink RX3 42 arraycopyName) (by decide +kernel)) (hts (.native arraycopyName) (by decide +kernel)) (hts (.static arraycopyName) (by decide +kernel)) (hts (.initialized "java/lang/System") (by decide +kernel)) hK hP (wC_D hdj) hS (17 * g2 + 2) (17 * g + 2) 0 0 (gg_2 hg2) (gg_2 hg) rfl rfl rfl (by decide) (by decide) (by decide) (by decide) (by decide) (fun _ _ => rfl) (Nat.le_of_ble_eq_true rfl) (Nat.le_of_ble_eq_true rfl) dX3_copyFrom_12 (fun H locs hP _ hS => ?_)
  obtain ⟨X_1, eX_1⟩ : ∃ Z : St, Z = uc X g 0 (va_cpy (X g2 0) (X g 0) 0 0 20) := ⟨_, rfl⟩
  have hP : va_P D vwCl (wC cI cR ad X_1) H := by
    rw [eX_1, ← sc_0 hg]; exact hP
  refine lv_aload_n hx hb dX3_copyFrom_15 rfl (lv_at hl 1 rfl) ?_
  refine xget (C := RX3) (T := TX3) (N := 11) (ci := 3) (w := .ref (ad (17 * g2 + 3))) hx hb hts hi_X3 hown hK hP (17 * g2 + 1) (gg_1 hg2) rfl 1 (by decide) lk_15 rfl dX3_copyFrom_16 ?_
  refine lv_iconst (v := 0) hx hb dX3_copyFrom_19 (by decide) ?_
  refine lv_aload_n hx hb dX3_copyFrom_20 rfl (lv_at hl 0 rfl) ?_
  refine xget (C := RX3) (T := TX3) (N := 11) (ci := 3) (w := .ref (ad (17 * g + 3))) hx hb hts hi_X3 hown hK hP (17 * g + 1) (gg_1 hg) rfl 1 (by decide) lk_15 rfl dX3_copyFrom_21 ?_
  refine lv_iconst (v := 0) hx hb dX3_copyFrom_24 (by decide) ?_
  refine lv_bipush (v := 20) hx hb dX3_copyFrom_25 (by decide) ?_
  refine va_copyi hx hb (by rw [hml]; exact hl.1.symm) hown (hts (.methodLink RX3 42 arraycopyName) (by decide +kernel)) (hts (.native arraycopyName) (by decide +kernel)) (hts (.static arraycopyName) (by decide +kernel)) (hts (.initialized "java/lang/System") (by decide +kernel)) hK hP (wC_D hdj) hS (17 * g2 + 3) (17 * g + 3) 0 0 (gg_3 hg2) (gg_3 hg) rfl rfl rfl (by decide) (by decide) (by decide) (by decide) (by decide) (fun _ _ => rfl) (Nat.le_of_ble_eq_true rfl) (Nat.le_of_ble_eq_true rfl) dX3_copyFrom_27 (fun H locs hP _ hS => ?_)
  obtain ⟨X_2, eX_2⟩ : ∃ Z : St, Z = uc X_1 g 9 (va_cpy (X_1 g2 9) (X_1 g 9) 0 0 20) := ⟨_, rfl⟩
  have hP : va_P D vwCl (wC cI cR ad X_2) H := by
    rw [eX_2, ← sc_9 hg]; exact hP
  refine lv_aload_n hx hb dX3_copyFrom_30 rfl (lv_at hl 1 rfl) ?_
  refine xget (C := RX3) (T := TX3) (N := 11) (ci := 3) (w := .ref (ad (17 * g2 + 4))) hx hb hts hi_X3 hown hK hP (17 * g2 + 1) (gg_1 hg2) rfl 2 (by decide) lk_18 rfl dX3_copyFrom_31 ?_
  refine lv_iconst (v := 0) hx hb dX3_copyFrom_34 (by decide) ?_
  refine lv_aload_n hx hb dX3_copyFrom_35 rfl (lv_at hl 0 rfl) ?_
  refine xget (C := RX3) (T := TX3) (N := 11) (ci := 3) (w := .ref (ad (17 * g + 4))) hx hb hts hi_X3 hown hK hP (17 * g + 1) (gg_1 hg) rfl 2 (by decide) lk_18 rfl dX3_copyFrom_36 ?_
  refine lv_iconst (v := 0) hx hb dX3_copyFrom_39 (by decide) ?_
  refine lv_bipush (v := 20) hx hb dX3_copyFrom_40 (by decide) ?_
  refine va_copyi hx hb (by rw [hml]; exact hl.1.symm) hown (hts (.methodLink RX3 42 arraycopyName) (by decide +kernel)) (hts (.native arraycopyName) (by decide +kernel)) (hts (.static arraycopyName) (by decide +kernel)) (hts (.initialized "java/lang/System") (by decide +kernel)) hK hP (wC_D hdj) hS (17 * g2 + 4) (17 * g + 4) 0 0 (gg_4 hg2) (gg_4 hg) rfl rfl rfl (by decide) (by decide) (by decide) (by decide) (by decide) (fun _ _ => rfl) (Nat.le_of_ble_eq_true rfl) (Nat.le_of_ble_eq_true rfl) dX3_copyFrom_42 (fun H locs hP _ hS => ?_)
  obtain ⟨X_3, eX_3⟩ : ∃ Z : St, Z = uc X_2 g 1 (va_cpy (X_2 g2 1) (X_2 g 1) 0 0 20) := ⟨_, rfl⟩
  have hP : va_P D vwCl (wC cI cR ad X_3) H := by
    rw [eX_3, ← sc_1 hg]; exact hP
  refine lv_aload_n hx hb dX3_copyFrom_45 rfl (lv_at hl 1 rfl) ?_
  refine xget (C := RX3) (T := TX3) (N := 11) (ci := 3) (w := .ref (ad (17 * g2 + 5))) hx hb hts hi_X3 hown hK hP (17 * g2 + 1) (gg_1 hg2) rfl 3 (by decide) lk_21 rfl dX3_copyFrom_46 ?_
  refine lv_iconst (v := 0) hx hb dX3_copyFrom_49 (by decide) ?_
  refine lv_aload_n hx hb dX3_copyFrom_50 rfl (lv_at hl 0 rfl) ?_
  refine xget (C := RX3) (T := TX3) (N := 11) (ci := 3) (w := .ref (ad (17 * g + 5))) hx hb hts hi_X3 hown hK hP (17 * g + 1) (gg_1 hg) rfl 3 (by decide) lk_21 rfl dX3_copyFrom_51 ?_
  refine lv_iconst (v := 0) hx hb dX3_copyFrom_54 (by decide) ?_
  refine lv_bipush (v := 20) hx hb dX3_copyFrom_55 (by decide) ?_
  refine va_copyi hx hb (by rw [hml]; exact hl.1.symm) hown (hts (.methodLink RX3 42 arraycopyName) (by decide +kernel)) (hts (.native arraycopyName) (by decide +kernel)) (hts (.static arraycopyName) (by decide +kernel)) (hts (.initialized "java/lang/System") (by decide +kernel)) hK hP (wC_D hdj) hS (17 * g2 + 5) (17 * g + 5) 0 0 (gg_5 hg2) (gg_5 hg) rfl rfl rfl (by decide) (by decide) (by decide) (by decide) (by decide) (fun _ _ => rfl) (Nat.le_of_ble_eq_true rfl) (Nat.le_of_ble_eq_true rfl) dX3_copyFrom_57 (fun H locs hP _ hS => ?_)
  obtain ⟨X_4, eX_4⟩ : ∃ Z : St, Z = uc X_3 g 2 (va_cpy (X_3 g2 2) (X_3 g 2) 0 0 20) := ⟨_, rfl⟩
  have hP : va_P D vwCl (wC cI cR ad X_4) H := by
    rw [eX_4, ← sc_2 hg]; exact hP
  refine lv_aload_n hx hb dX3_copyFrom_60 rfl (lv_at hl 1 rfl) ?_
  refine xget (C := RX3) (T := TX3) (N := 11) (ci := 3) (w := .ref (ad (17 * g2 + 6))) hx hb hts hi_X3 hown hK hP (17 * g2 + 1) (gg_1 hg2) rfl 4 (by decide) lk_24 rfl dX3_copyFrom_61 ?_
  refine lv_iconst (v := 0) hx hb dX3_copyFrom_64 (by decide) ?_
  refine lv_aload_n hx hb dX3_copyFrom_65 rfl (lv_at hl 0 rfl) ?_
  refine xget (C := RX3) (T := TX3) (N := 11) (ci := 3) (w := .ref (ad (17 * g + 6))) hx hb hts hi_X3 hown hK hP (17 * g + 1) (gg_1 hg) rfl 4 (by decide) lk_24 rfl dX3_copyFrom_66 ?_
  refine lv_iconst (v := 0) hx hb dX3_copyFrom_69 (by decide) ?_
  refine lv_bipush (v := 20) hx hb dX3_copyFrom_70 (by decide) ?_
  refine va_copyi hx hb (by rw [hml]; exact hl.1.symm) hown (hts (.methodLink RX3 42 arraycopyName) (by decide +kernel)) (hts (.native arraycopyName) (by decide +kernel)) (hts (.static arraycopyName) (by decide +kernel)) (hts (.initialized "java/lang/System") (by decide +kernel)) hK hP (wC_D hdj) hS (17 * g2 + 6) (17 * g + 6) 0 0 (gg_6 hg2) (gg_6 hg) rfl rfl rfl (by decide) (by decide) (by decide) (by decide) (by decide) (fun _ _ => rfl) (Nat.le_of_ble_eq_true rfl) (Nat.le_of_ble_eq_true rfl) dX3_copyFrom_72 (fun H locs hP _ hS => ?_)
  obtain ⟨X_5, eX_5⟩ : ∃ Z : St, Z = uc X_4 g 3 (va_cpy (X_4 g2 3) (X_4 g 3) 0 0 20) := ⟨_, rfl⟩
  have hP : va_P D vwCl (wC cI cR ad X_5) H := by
    rw [eX_5, ← sc_3 hg]; exact hP
  refine lv_aload_n hx hb dX3_copyFrom_75 rfl (lv_at hl 1 rfl) ?_
  refine xget (C := RX3) (T := TX3) (N := 11) (ci := 3) (w := .ref (ad (17 * g2 + 7))) hx hb hts hi_X3 hown hK hP (17 * g2 + 1) (gg_1 hg2) rfl 5 (by decide) lk_27 rfl dX3_copyFrom_76 ?_
  refine lv_iconst (v := 0) hx hb dX3_copyFrom_79 (by decide) ?_
  refine lv_aload_n hx hb dX3_copyFrom_80 rfl (lv_at hl 0 rfl) ?_
  refine xget (C := RX3) (T := TX3) (N := 11) (ci := 3) (w := .ref (ad (17 * g + 7))) hx hb hts hi_X3 hown hK hP (17 * g + 1) (gg_1 hg) rfl 5 (by decide) lk_27 rfl dX3_copyFrom_81 ?_
  refine lv_iconst (v := 0) hx hb dX3_copyFrom_84 (by decide) ?_
  refine lv_bipush (v := 20) hx hb dX3_copyFrom_85 (by decide) ?_
  refine va_copyi hx hb (by rw [hml]; exact hl.1.symm) hown (hts (.methodLink RX3 42 arraycopyName) (by decide +kernel)) (hts (.native arraycopyName) (by decide +kernel)) (hts (.static arraycopyName) (by decide +kernel)) (hts (.initialized "java/lang/System") (by decide +kernel)) hK hP (wC_D hdj) hS (17 * g2 + 7) (17 * g + 7) 0 0 (gg_7 hg2) (gg_7 hg) rfl rfl rfl (by decide) (by decide) (by decide) (by decide) (by decide) (fun _ _ => rfl) (Nat.le_of_ble_eq_true rfl) (Nat.le_of_ble_eq_true rfl) dX3_copyFrom_87 (fun H locs hP _ hS => ?_)
  obtain ⟨X_6, eX_6⟩ : ∃ Z : St, Z = uc X_5 g 4 (va_cpy (X_5 g2 4) (X_5 g 4) 0 0 20) := ⟨_, rfl⟩
  have hP : va_P D vwCl (wC cI cR ad X_6) H := by
    rw [eX_6, ← sc_4 hg]; exact hP
  refine lv_aload_n hx hb dX3_copyFrom_90 rfl (lv_at hl 1 rfl) ?_
  refine xget (C := RX3) (T := TX3) (N := 11) (ci := 3) (w := .ref (ad (17 * g2 + 8))) hx hb hts hi_X3 hown hK hP (17 * g2 + 1) (gg_1 hg2) rfl 6 (by decide) lk_30 rfl dX3_copyFrom_91 ?_
  refine lv_iconst (v := 0) hx hb dX3_copyFrom_94 (by decide) ?_
  refine lv_aload_n hx hb dX3_copyFrom_95 rfl (lv_at hl 0 rfl) ?_
  refine xget (C := RX3) (T := TX3) (N := 11) (ci := 3) (w := .ref (ad (17 * g + 8))) hx hb hts hi_X3 hown hK hP (17 * g + 1) (gg_1 hg) rfl 6 (by decide) lk_30 rfl dX3_copyFrom_96 ?_
  refine lv_iconst (v := 0) hx hb dX3_copyFrom_99 (by decide) ?_
  refine lv_bipush (v := 20) hx hb dX3_copyFrom_100 (by decide) ?_
  refine va_copyi hx hb (by rw [hml]; exact hl.1.symm) hown (hts (.methodLink RX3 42 arraycopyName) (by decide +kernel)) (hts (.native arraycopyName) (by decide +kernel)) (hts (.static arraycopyName) (by decide +kernel)) (hts (.initialized "java/lang/System") (by decide +kernel)) hK hP (wC_D hdj) hS (17 * g2 + 8) (17 * g + 8) 0 0 (gg_8 hg2) (gg_8 hg) rfl rfl rfl (by decide) (by decide) (by decide) (by decide) (by decide) (fun _ _ => rfl) (Nat.le_of_ble_eq_true rfl) (Nat.le_of_ble_eq_true rfl) dX3_copyFrom_102 (fun H locs hP _ hS => ?_)
  obtain ⟨X_7, eX_7⟩ : ∃ Z : St, Z = uc X_6 g 5 (va_cpy (X_6 g2 5) (X_6 g 5) 0 0 20) := ⟨_, rfl⟩
  have hP : va_P D vwCl (wC cI cR ad X_7) H := by
    rw [eX_7, ← sc_5 hg]; exact hP
  refine lv_aload_n hx hb dX3_copyFrom_105 rfl (lv_at hl 1 rfl) ?_
  refine xget (C := RX3) (T := TX3) (N := 11) (ci := 3) (w := .ref (ad (17 * g2 + 9))) hx hb hts hi_X3 hown hK hP (17 * g2 + 1) (gg_1 hg2) rfl 7 (by decide) lk_33 rfl dX3_copyFrom_106 ?_
  refine lv_iconst (v := 0) hx hb dX3_copyFrom_109 (by decide) ?_
  refine lv_aload_n hx hb dX3_copyFrom_110 rfl (lv_at hl 0 rfl) ?_
  refine xget (C := RX3) (T := TX3) (N := 11) (ci := 3) (w := .ref (ad (17 * g + 9))) hx hb hts hi_X3 hown hK hP (17 * g + 1) (gg_1 hg) rfl 7 (by decide) lk_33 rfl dX3_copyFrom_111 ?_
  refine lv_iconst (v := 0) hx hb dX3_copyFrom_114 (by decide) ?_
  refine lv_bipush (v := 20) hx hb dX3_copyFrom_115 (by decide) ?_
  refine va_copyi hx hb (by rw [hml]; exact hl.1.symm) hown (hts (.methodLink RX3 42 arraycopyName) (by decide +kernel)) (hts (.native arraycopyName) (by decide +kernel)) (hts (.static arraycopyName) (by decide +kernel)) (hts (.initialized "java/lang/System") (by decide +kernel)) hK hP (wC_D hdj) hS (17 * g2 + 9) (17 * g + 9) 0 0 (gg_9 hg2) (gg_9 hg) rfl rfl rfl (by decide) (by decide) (by decide) (by decide) (by decide) (fun _ _ => rfl) (Nat.le_of_ble_eq_true rfl) (Nat.le_of_ble_eq_true rfl) dX3_copyFrom_117 (fun H locs hP _ hS => ?_)
  obtain ⟨X_8, eX_8⟩ : ∃ Z : St, Z = uc X_7 g 6 (va_cpy (X_7 g2 6) (X_7 g 6) 0 0 20) := ⟨_, rfl⟩
  have hP : va_P D vwCl (wC cI cR ad X_8) H := by
    rw [eX_8, ← sc_6 hg]; exact hP
  refine lv_aload_n hx hb dX3_copyFrom_120 rfl (lv_at hl 1 rfl) ?_
  refine xget (C := RX3) (T := TX3) (N := 11) (ci := 3) (w := .ref (ad (17 * g2 + 10))) hx hb hts hi_X3 hown hK hP (17 * g2 + 1) (gg_1 hg2) rfl 8 (by decide) lk_36 rfl dX3_copyFrom_121 ?_
  refine lv_iconst (v := 0) hx hb dX3_copyFrom_124 (by decide) ?_
  refine lv_aload_n hx hb dX3_copyFrom_125 rfl (lv_at hl 0 rfl) ?_
  refine xget (C := RX3) (T := TX3) (N := 11) (ci := 3) (w := .ref (ad (17 * g + 10))) hx hb hts hi_X3 hown hK hP (17 * g + 1) (gg_1 hg) rfl 8 (by decide) lk_36 rfl dX3_copyFrom_126 ?_
  refine lv_iconst (v := 0) hx hb dX3_copyFrom_129 (by decide) ?_
  refine lv_bipush (v := 20) hx hb dX3_copyFrom_130 (by decide) ?_
  refine va_copyi hx hb (by rw [hml]; exact hl.1.symm) hown (hts (.methodLink RX3 42 arraycopyName) (by decide +kernel)) (hts (.native arraycopyName) (by decide +kernel)) (hts (.static arraycopyName) (by decide +kernel)) (hts (.initialized "java/lang/System") (by decide +kernel)) hK hP (wC_D hdj) hS (17 * g2 + 10) (17 * g + 10) 0 0 (gg_10 hg2) (gg_10 hg) rfl rfl rfl (by decide) (by decide) (by decide) (by decide) (by decide) (fun _ _ => rfl) (Nat.le_of_ble_eq_true rfl) (Nat.le_of_ble_eq_true rfl) dX3_copyFrom_132 (fun H locs hP _ hS => ?_)
  obtain ⟨X_9, eX_9⟩ : ∃ Z : St, Z = uc X_8 g 7 (va_cpy (X_8 g2 7) (X_8 g 7) 0 0 20) := ⟨_, rfl⟩
  have hP : va_P D vwCl (wC cI cR ad X_9) H := by
    rw [eX_9, ← sc_7 hg]; exact hP
  refine lv_aload_n hx hb dX3_copyFrom_135 rfl (lv_at hl 1 rfl) ?_
  refine xget (C := RX3) (T := TX3) (N := 11) (ci := 3) (w := .ref (ad (17 * g2 + 11))) hx hb hts hi_X3 hown hK hP (17 * g2 + 1) (gg_1 hg2) rfl 9 (by decide) lk_39 rfl dX3_copyFrom_136 ?_
  refine lv_iconst (v := 0) hx hb dX3_copyFrom_139 (by decide) ?_
  refine lv_aload_n hx hb dX3_copyFrom_140 rfl (lv_at hl 0 rfl) ?_
  refine xget (C := RX3) (T := TX3) (N := 11) (ci := 3) (w := .ref (ad (17 * g + 11))) hx hb hts hi_X3 hown hK hP (17 * g + 1) (gg_1 hg) rfl 9 (by decide) lk_39 rfl dX3_copyFrom_141 ?_
  refine lv_iconst (v := 0) hx hb dX3_copyFrom_144 (by decide) ?_
  refine lv_bipush (v := 20) hx hb dX3_copyFrom_145 (by decide) ?_
  refine va_copyi hx hb (by rw [hml]; exact hl.1.symm) hown (hts (.methodLink RX3 42 arraycopyName) (by decide +kernel)) (hts (.native arraycopyName) (by decide +kernel)) (hts (.static arraycopyName) (by decide +kernel)) (hts (.initialized "java/lang/System") (by decide +kernel)) hK hP (wC_D hdj) hS (17 * g2 + 11) (17 * g + 11) 0 0 (gg_11 hg2) (gg_11 hg) rfl rfl rfl (by decide) (by decide) (by decide) (by decide) (by decide) (fun _ _ => rfl) (Nat.le_of_ble_eq_true rfl) (Nat.le_of_ble_eq_true rfl) dX3_copyFrom_147 (fun H locs hP _ hS => ?_)
  obtain ⟨X_10, eX_10⟩ : ∃ Z : St, Z = uc X_9 g 8 (va_cpy (X_9 g2 8) (X_9 g 8) 0 0 20) := ⟨_, rfl⟩
  have hP : va_P D vwCl (wC cI cR ad X_10) H := by
    rw [eX_10, ← sc_8 hg]; exact hP
  refine lv_aload_n hx hb dX3_copyFrom_150 rfl (lv_at hl 0 rfl) ?_
  refine lv_aload_n hx hb dX3_copyFrom_151 rfl (lv_at hl 1 rfl) ?_
  refine xget (C := RX3) (T := TX3) (N := 11) (ci := 3) (w := .int (X_10 g2 14 1)) hx hb hts hi_X3 hown hK hP (17 * g2 + 1) (gg_1 hg2) rfl 10 (by decide) lk_48 rfl dX3_copyFrom_152 ?_
  refine xput (C := RX3) (T := TX3) (N := 11) (ci := 3) hx hb hts hi_X3 tyX3 tyX3_ok nmX3 hown hK hP (wC_D hdj) hS (17 * g + 1) (gg_1 hg) rfl 10 (by decide) lk_48 rfl (by decide +kernel) (Nat.le_of_ble_eq_true rfl) (sn_heads hg) dX3_copyFrom_155 (fun H locs hP hS => ?_)
  obtain ⟨X_11, eX_11⟩ : ∃ Z : St, Z = u3 X_10 g 14 1 (X_10 g2 14 1) := ⟨_, rfl⟩
  rw [← eX_11] at hP
  have hP : va_P D vwCl (wC cI cR ad (cpH X g g2)) H := by
    refine wC_ext hP ?_ ?_ ?_ ?_ ?_
    · intro a f i ha hf hi
      by_cases e : a = g
      · subst e
        rcases (show f = 0 ∨ f = 1 ∨ f = 2 ∨ f = 3 ∨ f = 4 ∨ f = 5 ∨ f = 6 ∨ f = 7 ∨ f = 8 ∨ f = 9 by omega) with rfl | rfl | rfl | rfl | rfl | rfl | rfl | rfl | rfl | rfl <;> simp [eX_1, eX_2, eX_3, eX_4, eX_5, eX_6, eX_7, eX_8, eX_9, eX_10, eX_11, cpH, cpC, sg, uc, u3, b2, va_cpy, hne, hi]
      · simp [eX_1, eX_2, eX_3, eX_4, eX_5, eX_6, eX_7, eX_8, eX_9, eX_10, eX_11, cpH, cpC, sg, uc, u3, e]
    · intro a f i ha hf0 hf hi
      by_cases e : a = g
      · subst e
        rcases (show f = 10 ∨ f = 11 ∨ f = 12 ∨ f = 13 by omega) with rfl | rfl | rfl | rfl <;> simp [eX_1, eX_2, eX_3, eX_4, eX_5, eX_6, eX_7, eX_8, eX_9, eX_10, eX_11, cpH, cpC, sg, uc, u3, b2, va_cpy, hne, hi]
      · simp [eX_1, eX_2, eX_3, eX_4, eX_5, eX_6, eX_7, eX_8, eX_9, eX_10, eX_11, cpH, cpC, sg, uc, u3, e]
    · intro a i ha hi
      by_cases e : a = g
      · subst e
        rcases (show i = 0 ∨ i = 1 ∨ i = 2 ∨ i = 3 ∨ i = 4 ∨ i = 5 by omega) with rfl | rfl | rfl | rfl | rfl | rfl <;> simp [eX_1, eX_2, eX_3, eX_4, eX_5, eX_6, eX_7, eX_8, eX_9, eX_10, eX_11, cpH, cpC, sg, uc, u3, b2, hne]
      · simp [eX_1, eX_2, eX_3, eX_4, eX_5, eX_6, eX_7, eX_8, eX_9, eX_10, eX_11, cpH, cpC, sg, uc, u3, e]
    · intro f i hf hi
      simp [eX_1, eX_2, eX_3, eX_4, eX_5, eX_6, eX_7, eX_8, eX_9, eX_10, eX_11, cpH, cpC, sg, uc, u3, show ¬ (13 : Nat) = g by omega]
    · intro i hi
      simp [eX_1, eX_2, eX_3, eX_4, eX_5, eX_6, eX_7, eX_8, eX_9, eX_10, eX_11, cpH, cpC, sg, uc, u3, show ¬ (14 : Nat) = g by omega]
  exact retWV hx hb hr hlocks hP hS dX3_copyFrom_158
set_option maxHeartbeats 4000000 in
set_option maxRecDepth 100000 in
theorem c_X1_copyFrom {l : Launch} {D : va_G} {cI cR : ClassId} {ad : Nat → Nat} (hdj : Dj 236 ad) (X : St) (g g2 : Nat) (hg : g < 13) (hg2 : g2 < 13) (hne : ¬ g2 = g) : WoV l D cI cR (Aw 236 ad) (wC cI cR ad X) (wC cI cR ad (cpC X g g2)) yX1_copyFrom wsX1_copyFrom ({ frames := 1, cells := 0, slots := 0, locals := 60 } : Room) [.ref (ad (17 * g + 12)), .ref (ad (17 * g2 + 12))] := by
  refine OfW (cc := cX1_copyFrom) (maxL := 2) (ret := none) (by decide +kernel) rfl (Nat.le_of_ble_eq_true rfl) (fun p e s m below meth c hx hb hr hts hown hlocks hml hnm hP hK hN ls hl => ?_)
  have hl : lv_has ls 2 [(0, .ref (ad (17 * g + 12))), (1, .ref (ad (17 * g2 + 12)))] := hl
  have lk_9 := hts (.fieldLink RX1 9 "HeadBudgets$Commitments" "head" "[I") (by decide +kernel)
  have lk_15 := hts (.fieldLink RX1 15 "HeadBudgets$Commitments" "open" "[I") (by decide +kernel)
  have lk_18 := hts (.fieldLink RX1 18 "HeadBudgets$Commitments" "paid" "[I") (by decide +kernel)
  have lk_21 := hts (.fieldLink RX1 21 "HeadBudgets$Commitments" "year" "[I") (by decide +kernel)
  have lk_30 := hts (.fieldLink RX1 30 "HeadBudgets$Commitments" "made" "I") (by decide +kernel)
  have hi_X1 : ∀ w ∈ wsX10, w ∈ wsX1_copyFrom := by decide +kernel
  have hS : va_S (Aw 236 ad) s.heap s.heap [] := va_S.rf
  have hP : va_P D vwCl (wC cI cR ad X) s.heap := hP
  refine lv_aload_n hx hb dX1_copyFrom_0 rfl (lv_at hl 1 rfl) ?_
  refine xget (C := RX1) (T := TX1) (N := 5) (ci := 1) (w := .ref (ad (17 * g2 + 13))) hx hb hts hi_X1 hown hK hP (17 * g2 + 12) (gg_12 hg2) rfl 0 (by decide) lk_9 rfl dX1_copyFrom_1 ?_
  refine lv_iconst (v := 0) hx hb dX1_copyFrom_4 (by decide) ?_
  refine lv_aload_n hx hb dX1_copyFrom_5 rfl (lv_at hl 0 rfl) ?_
  refine xget (C := RX1) (T := TX1) (N := 5) (ci := 1) (w := .ref (ad (17 * g + 13))) hx hb hts hi_X1 hown hK hP (17 * g + 12) (gg_12 hg) rfl 0 (by decide) lk_9 rfl dX1_copyFrom_6 ?_
  refine lv_iconst (v := 0) hx hb dX1_copyFrom_9 (by decide) ?_
  refine lv_bipush (v := 40) hx hb dX1_copyFrom_10 (by decide) ?_
  refine va_copyi hx hb (by rw [hml]; exact hl.1.symm) hown (hts (.methodLink RX1 24 arraycopyName) (by decide +kernel)) (hts (.native arraycopyName) (by decide +kernel)) (hts (.static arraycopyName) (by decide +kernel)) (hts (.initialized "java/lang/System") (by decide +kernel)) hK hP (wC_D hdj) hS (17 * g2 + 13) (17 * g + 13) 0 0 (gg_13 hg2) (gg_13 hg) rfl rfl rfl (by decide) (by decide) (by decide) (by decide) (by decide) (fun _ _ => rfl) (Nat.le_of_ble_eq_true rfl) (Nat.le_of_ble_eq_true rfl) dX1_copyFrom_12 (fun H locs hP _ hS => ?_)
  obtain ⟨X_1, eX_1⟩ : ∃ Z : St, Z = uc X g 10 (va_cpy (X g2 10) (X g 10) 0 0 40) := ⟨_, rfl⟩
  have hP : va_P D vwCl (wC cI cR ad X_1) H := by
    rw [eX_1, ← sc_10 hg]; exact hP
  refine lv_aload_n hx hb dX1_copyFrom_15 rfl (lv_at hl 1 rfl) ?_
  refine xget (C := RX1) (T := TX1) (N := 5) (ci := 1) (w := .ref (ad (17 * g2 + 14))) hx hb hts hi_X1 hown hK hP (17 * g2 + 12) (gg_12 hg2) rfl 1 (by decide) lk_15 rfl dX1_copyFrom_16 ?_
  refine lv_iconst (v := 0) hx hb dX1_copyFrom_19 (by decide) ?_
  refine lv_aload_n hx hb dX1_copyFrom_20 rfl (lv_at hl 0 rfl) ?_
  refine xget (C := RX1) (T := TX1) (N := 5) (ci := 1) (w := .ref (ad (17 * g + 14))) hx hb hts hi_X1 hown hK hP (17 * g + 12) (gg_12 hg) rfl 1 (by decide) lk_15 rfl dX1_copyFrom_21 ?_
  refine lv_iconst (v := 0) hx hb dX1_copyFrom_24 (by decide) ?_
  refine lv_bipush (v := 40) hx hb dX1_copyFrom_25 (by decide) ?_
  refine va_copyi hx hb (by rw [hml]; exact hl.1.symm) hown (hts (.methodLink RX1 24 arraycopyName) (by decide +kernel)) (hts (.native arraycopyName) (by decide +kernel)) (hts (.static arraycopyName) (by decide +kernel)) (hts (.initialized "java/lang/System") (by decide +kernel)) hK hP (wC_D hdj) hS (17 * g2 + 14) (17 * g + 14) 0 0 (gg_14 hg2) (gg_14 hg) rfl rfl rfl (by decide) (by decide) (by decide) (by decide) (by decide) (fun _ _ => rfl) (Nat.le_of_ble_eq_true rfl) (Nat.le_of_ble_eq_true rfl) dX1_copyFrom_27 (fun H locs hP _ hS => ?_)
  obtain ⟨X_2, eX_2⟩ : ∃ Z : St, Z = uc X_1 g 11 (va_cpy (X_1 g2 11) (X_1 g 11) 0 0 40) := ⟨_, rfl⟩
  have hP : va_P D vwCl (wC cI cR ad X_2) H := by
    rw [eX_2, ← sc_11 hg]; exact hP
  refine lv_aload_n hx hb dX1_copyFrom_30 rfl (lv_at hl 1 rfl) ?_
  refine xget (C := RX1) (T := TX1) (N := 5) (ci := 1) (w := .ref (ad (17 * g2 + 15))) hx hb hts hi_X1 hown hK hP (17 * g2 + 12) (gg_12 hg2) rfl 2 (by decide) lk_18 rfl dX1_copyFrom_31 ?_
  refine lv_iconst (v := 0) hx hb dX1_copyFrom_34 (by decide) ?_
  refine lv_aload_n hx hb dX1_copyFrom_35 rfl (lv_at hl 0 rfl) ?_
  refine xget (C := RX1) (T := TX1) (N := 5) (ci := 1) (w := .ref (ad (17 * g + 15))) hx hb hts hi_X1 hown hK hP (17 * g + 12) (gg_12 hg) rfl 2 (by decide) lk_18 rfl dX1_copyFrom_36 ?_
  refine lv_iconst (v := 0) hx hb dX1_copyFrom_39 (by decide) ?_
  refine lv_bipush (v := 40) hx hb dX1_copyFrom_40 (by decide) ?_
  refine va_copyi hx hb (by rw [hml]; exact hl.1.symm) hown (hts (.methodLink RX1 24 arraycopyName) (by decide +kernel)) (hts (.native arraycopyName) (by decide +kernel)) (hts (.static arraycopyName) (by decide +kernel)) (hts (.initialized "java/lang/System") (by decide +kernel)) hK hP (wC_D hdj) hS (17 * g2 + 15) (17 * g + 15) 0 0 (gg_15 hg2) (gg_15 hg) rfl rfl rfl (by decide) (by decide) (by decide) (by decide) (by decide) (fun _ _ => rfl) (Nat.le_of_ble_eq_true rfl) (Nat.le_of_ble_eq_true rfl) dX1_copyFrom_42 (fun H locs hP _ hS => ?_)
  obtain ⟨X_3, eX_3⟩ : ∃ Z : St, Z = uc X_2 g 12 (va_cpy (X_2 g2 12) (X_2 g 12) 0 0 40) := ⟨_, rfl⟩
  have hP : va_P D vwCl (wC cI cR ad X_3) H := by
    rw [eX_3, ← sc_12 hg]; exact hP
  refine lv_aload_n hx hb dX1_copyFrom_45 rfl (lv_at hl 1 rfl) ?_
  refine xget (C := RX1) (T := TX1) (N := 5) (ci := 1) (w := .ref (ad (17 * g2 + 16))) hx hb hts hi_X1 hown hK hP (17 * g2 + 12) (gg_12 hg2) rfl 3 (by decide) lk_21 rfl dX1_copyFrom_46 ?_
  refine lv_iconst (v := 0) hx hb dX1_copyFrom_49 (by decide) ?_
  refine lv_aload_n hx hb dX1_copyFrom_50 rfl (lv_at hl 0 rfl) ?_
  refine xget (C := RX1) (T := TX1) (N := 5) (ci := 1) (w := .ref (ad (17 * g + 16))) hx hb hts hi_X1 hown hK hP (17 * g + 12) (gg_12 hg) rfl 3 (by decide) lk_21 rfl dX1_copyFrom_51 ?_
  refine lv_iconst (v := 0) hx hb dX1_copyFrom_54 (by decide) ?_
  refine lv_bipush (v := 40) hx hb dX1_copyFrom_55 (by decide) ?_
  refine va_copyi hx hb (by rw [hml]; exact hl.1.symm) hown (hts (.methodLink RX1 24 arraycopyName) (by decide +kernel)) (hts (.native arraycopyName) (by decide +kernel)) (hts (.static arraycopyName) (by decide +kernel)) (hts (.initialized "java/lang/System") (by decide +kernel)) hK hP (wC_D hdj) hS (17 * g2 + 16) (17 * g + 16) 0 0 (gg_16 hg2) (gg_16 hg) rfl rfl rfl (by decide) (by decide) (by decide) (by decide) (by decide) (fun _ _ => rfl) (Nat.le_of_ble_eq_true rfl) (Nat.le_of_ble_eq_true rfl) dX1_copyFrom_57 (fun H locs hP _ hS => ?_)
  obtain ⟨X_4, eX_4⟩ : ∃ Z : St, Z = uc X_3 g 13 (va_cpy (X_3 g2 13) (X_3 g 13) 0 0 40) := ⟨_, rfl⟩
  have hP : va_P D vwCl (wC cI cR ad X_4) H := by
    rw [eX_4, ← sc_13 hg]; exact hP
  refine lv_aload_n hx hb dX1_copyFrom_60 rfl (lv_at hl 0 rfl) ?_
  refine lv_aload_n hx hb dX1_copyFrom_61 rfl (lv_at hl 1 rfl) ?_
  refine xget (C := RX1) (T := TX1) (N := 5) (ci := 1) (w := .int (X_4 g2 14 2)) hx hb hts hi_X1 hown hK hP (17 * g2 + 12) (gg_12 hg2) rfl 4 (by decide) lk_30 rfl dX1_copyFrom_62 ?_
  refine xput (C := RX1) (T := TX1) (N := 5) (ci := 1) hx hb hts hi_X1 tyX1 tyX1_ok nmX1 hown hK hP (wC_D hdj) hS (17 * g + 12) (gg_12 hg) rfl 4 (by decide) lk_30 rfl (by decide +kernel) (Nat.le_of_ble_eq_true rfl) (sn_comms hg) dX1_copyFrom_65 (fun H locs hP hS => ?_)
  obtain ⟨X_5, eX_5⟩ : ∃ Z : St, Z = u3 X_4 g 14 2 (X_4 g2 14 2) := ⟨_, rfl⟩
  rw [← eX_5] at hP
  have hP : va_P D vwCl (wC cI cR ad (cpC X g g2)) H := by
    refine wC_ext hP ?_ ?_ ?_ ?_ ?_
    · intro a f i ha hf hi
      by_cases e : a = g
      · subst e
        rcases (show f = 0 ∨ f = 1 ∨ f = 2 ∨ f = 3 ∨ f = 4 ∨ f = 5 ∨ f = 6 ∨ f = 7 ∨ f = 8 ∨ f = 9 by omega) with rfl | rfl | rfl | rfl | rfl | rfl | rfl | rfl | rfl | rfl <;> simp [eX_1, eX_2, eX_3, eX_4, eX_5, cpH, cpC, sg, uc, u3, b2, va_cpy, hne, hi]
      · simp [eX_1, eX_2, eX_3, eX_4, eX_5, cpH, cpC, sg, uc, u3, e]
    · intro a f i ha hf0 hf hi
      by_cases e : a = g
      · subst e
        rcases (show f = 10 ∨ f = 11 ∨ f = 12 ∨ f = 13 by omega) with rfl | rfl | rfl | rfl <;> simp [eX_1, eX_2, eX_3, eX_4, eX_5, cpH, cpC, sg, uc, u3, b2, va_cpy, hne, hi]
      · simp [eX_1, eX_2, eX_3, eX_4, eX_5, cpH, cpC, sg, uc, u3, e]
    · intro a i ha hi
      by_cases e : a = g
      · subst e
        rcases (show i = 0 ∨ i = 1 ∨ i = 2 ∨ i = 3 ∨ i = 4 ∨ i = 5 by omega) with rfl | rfl | rfl | rfl | rfl | rfl <;> simp [eX_1, eX_2, eX_3, eX_4, eX_5, cpH, cpC, sg, uc, u3, b2, hne]
      · simp [eX_1, eX_2, eX_3, eX_4, eX_5, cpH, cpC, sg, uc, u3, e]
    · intro f i hf hi
      simp [eX_1, eX_2, eX_3, eX_4, eX_5, cpH, cpC, sg, uc, u3, show ¬ (13 : Nat) = g by omega]
    · intro i hi
      simp [eX_1, eX_2, eX_3, eX_4, eX_5, cpH, cpC, sg, uc, u3, show ¬ (14 : Nat) = g by omega]
  exact retWV hx hb hr hlocks hP hS dX1_copyFrom_68
set_option maxHeartbeats 4000000 in
set_option maxRecDepth 100000 in
theorem c_X0_copyFrom {l : Launch} {D : va_G} {cI cR : ClassId} {ad : Nat → Nat} (hdj : Dj 236 ad) (X : St) (g g2 : Nat) (hg : g < 13) (hg2 : g2 < 13) (hne : ¬ g2 = g) : WoV l D cI cR (Aw 236 ad) (wC cI cR ad X) (wC cI cR ad (sg X g (X g2))) yX0_copyFrom wsX0_copyFrom ({ frames := 2, cells := 0, slots := 0, locals := 81 } : Room) [.ref (ad (17 * g + 0)), .ref (ad (17 * g2 + 0))] := by
  refine OfW (cc := cX0_copyFrom) (maxL := 2) (ret := none) (by decide +kernel) rfl (Nat.le_of_ble_eq_true rfl) (fun p e s m below meth c hx hb hr hts hown hlocks hml hnm hP hK hN ls hl => ?_)
  have hl : lv_has ls 2 [(0, .ref (ad (17 * g + 0))), (1, .ref (ad (17 * g2 + 0)))] := hl
  have lk_12 := hts (.fieldLink RX0 12 "HeadBudgets$Books" "heads" "LHeadBudgets$Heads;") (by decide +kernel)
  have lk_21 := hts (.fieldLink RX0 21 "HeadBudgets$Books" "commitments" "LHeadBudgets$Commitments;") (by decide +kernel)
  have lk_36 := hts (.fieldLink RX0 36 "HeadBudgets$Books" "year" "I") (by decide +kernel)
  have lk_25 := hts (.fieldLink RX0 25 "HeadBudgets$Books" "carriedPart" "I") (by decide +kernel)
  have lk_39 := hts (.fieldLink RX0 39 "HeadBudgets$Books" "lapsed" "I") (by decide +kernel)
  have lk_42 := hts (.fieldLink RX0 42 "HeadBudgets$Books" "spent" "I") (by decide +kernel)
  have hi_X0 : ∀ w ∈ wsX00, w ∈ wsX0_copyFrom := by decide +kernel
  have hS : va_S (Aw 236 ad) s.heap s.heap [] := va_S.rf
  have hP : va_P D vwCl (wC cI cR ad X) s.heap := hP
  refine lv_aload_n hx hb dX0_copyFrom_0 rfl (lv_at hl 0 rfl) ?_
  refine xget (C := RX0) (T := TX0) (N := 6) (ci := 0) (w := .ref (ad (17 * g + 1))) hx hb hts hi_X0 hown hK hP (17 * g + 0) (gg_0 hg) rfl 0 (by decide) lk_12 rfl dX0_copyFrom_1 ?_
  refine lv_aload_n hx hb dX0_copyFrom_4 rfl (lv_at hl 1 rfl) ?_
  refine xget (C := RX0) (T := TX0) (N := 6) (ci := 0) (w := .ref (ad (17 * g2 + 1))) hx hb hts hi_X0 hown hK hP (17 * g2 + 0) (gg_0 hg2) rfl 0 (by decide) lk_12 rfl dX0_copyFrom_5 ?_
  refine callWV (As := [.ref (ad (17 * g2 + 1))]) (rest := []) ⟨hx, hb, hml, hown, hts⟩ (c_X3_copyFrom hdj X g g2 hg hg2 hne) (cwV 1 hts gX0_copyFrom_X3_copyFrom rfl rfl rfl (by decide +kernel) ⟨Nat.le_of_ble_eq_true rfl, Nat.le_of_ble_eq_true rfl⟩) hK hN hP (17 * g + 1) (gg_1 hg) rfl rfl hl.1 rfl (Nat.le_of_ble_eq_true rfl) dX0_copyFrom_8 ⟨Nat.zero_le _, Nat.zero_le _⟩ hS (fun _ h9 => h9) (fun H locs hP hS => ?_)
  obtain ⟨X_1, eX_1⟩ : ∃ Z : St, Z = cpH X g g2 := ⟨_, rfl⟩
  rw [← eX_1] at hP
  refine lv_aload_n hx hb dX0_copyFrom_11 rfl (lv_at hl 0 rfl) ?_
  refine xget (C := RX0) (T := TX0) (N := 6) (ci := 0) (w := .ref (ad (17 * g + 12))) hx hb hts hi_X0 hown hK hP (17 * g + 0) (gg_0 hg) rfl 1 (by decide) lk_21 rfl dX0_copyFrom_12 ?_
  refine lv_aload_n hx hb dX0_copyFrom_15 rfl (lv_at hl 1 rfl) ?_
  refine xget (C := RX0) (T := TX0) (N := 6) (ci := 0) (w := .ref (ad (17 * g2 + 12))) hx hb hts hi_X0 hown hK hP (17 * g2 + 0) (gg_0 hg2) rfl 1 (by decide) lk_21 rfl dX0_copyFrom_16 ?_
  refine callWV (As := [.ref (ad (17 * g2 + 12))]) (rest := []) ⟨hx, hb, hml, hown, hts⟩ (c_X1_copyFrom hdj X_1 g g2 hg hg2 hne) (cwV 1 hts gX0_copyFrom_X1_copyFrom rfl rfl rfl (by decide +kernel) ⟨Nat.le_of_ble_eq_true rfl, Nat.le_of_ble_eq_true rfl⟩) hK hN hP (17 * g + 12) (gg_12 hg) rfl rfl hl.1 rfl (Nat.le_of_ble_eq_true rfl) dX0_copyFrom_19 ⟨Nat.zero_le _, Nat.zero_le _⟩ hS (fun _ h9 => h9) (fun H locs hP hS => ?_)
  obtain ⟨X_2, eX_2⟩ : ∃ Z : St, Z = cpC X_1 g g2 := ⟨_, rfl⟩
  rw [← eX_2] at hP
  refine lv_aload_n hx hb dX0_copyFrom_22 rfl (lv_at hl 0 rfl) ?_
  refine lv_aload_n hx hb dX0_copyFrom_23 rfl (lv_at hl 1 rfl) ?_
  refine xget (C := RX0) (T := TX0) (N := 6) (ci := 0) (w := .int (X_2 g2 14 0)) hx hb hts hi_X0 hown hK hP (17 * g2 + 0) (gg_0 hg2) rfl 2 (by decide) lk_36 rfl dX0_copyFrom_24 ?_
  refine xput (C := RX0) (T := TX0) (N := 6) (ci := 0) hx hb hts hi_X0 tyX0 tyX0_ok nmX0 hown hK hP (wC_D hdj) hS (17 * g + 0) (gg_0 hg) rfl 2 (by decide) lk_36 rfl (by decide +kernel) (Nat.le_of_ble_eq_true rfl) (sn_year hg) dX0_copyFrom_27 (fun H locs hP hS => ?_)
  obtain ⟨X_3, eX_3⟩ : ∃ Z : St, Z = u3 X_2 g 14 0 (X_2 g2 14 0) := ⟨_, rfl⟩
  rw [← eX_3] at hP
  refine lv_aload_n hx hb dX0_copyFrom_30 rfl (lv_at hl 0 rfl) ?_
  refine lv_aload_n hx hb dX0_copyFrom_31 rfl (lv_at hl 1 rfl) ?_
  refine xget (C := RX0) (T := TX0) (N := 6) (ci := 0) (w := .int (X_3 g2 14 3)) hx hb hts hi_X0 hown hK hP (17 * g2 + 0) (gg_0 hg2) rfl 3 (by decide) lk_25 rfl dX0_copyFrom_32 ?_
  refine xput (C := RX0) (T := TX0) (N := 6) (ci := 0) hx hb hts hi_X0 tyX0 tyX0_ok nmX0 hown hK hP (wC_D hdj) hS (17 * g + 0) (gg_0 hg) rfl 3 (by decide) lk_25 rfl (by decide +kernel) (Nat.le_of_ble_eq_true rfl) (sn_carried hg) dX0_copyFrom_35 (fun H locs hP hS => ?_)
  obtain ⟨X_4, eX_4⟩ : ∃ Z : St, Z = u3 X_3 g 14 3 (X_3 g2 14 3) := ⟨_, rfl⟩
  rw [← eX_4] at hP
  refine lv_aload_n hx hb dX0_copyFrom_38 rfl (lv_at hl 0 rfl) ?_
  refine lv_aload_n hx hb dX0_copyFrom_39 rfl (lv_at hl 1 rfl) ?_
  refine xget (C := RX0) (T := TX0) (N := 6) (ci := 0) (w := .int (X_4 g2 14 4)) hx hb hts hi_X0 hown hK hP (17 * g2 + 0) (gg_0 hg2) rfl 4 (by decide) lk_39 rfl dX0_copyFrom_40 ?_
  refine xput (C := RX0) (T := TX0) (N := 6) (ci := 0) hx hb hts hi_X0 tyX0 tyX0_ok nmX0 hown hK hP (wC_D hdj) hS (17 * g + 0) (gg_0 hg) rfl 4 (by decide) lk_39 rfl (by decide +kernel) (Nat.le_of_ble_eq_true rfl) (sn_lapsed hg) dX0_copyFrom_43 (fun H locs hP hS => ?_)
  obtain ⟨X_5, eX_5⟩ : ∃ Z : St, Z = u3 X_4 g 14 4 (X_4 g2 14 4) := ⟨_, rfl⟩
  rw [← eX_5] at hP
  refine lv_aload_n hx hb dX0_copyFrom_46 rfl (lv_at hl 0 rfl) ?_
  refine lv_aload_n hx hb dX0_copyFrom_47 rfl (lv_at hl 1 rfl) ?_
  refine xget (C := RX0) (T := TX0) (N := 6) (ci := 0) (w := .int (X_5 g2 14 5)) hx hb hts hi_X0 hown hK hP (17 * g2 + 0) (gg_0 hg2) rfl 5 (by decide) lk_42 rfl dX0_copyFrom_48 ?_
  refine xput (C := RX0) (T := TX0) (N := 6) (ci := 0) hx hb hts hi_X0 tyX0 tyX0_ok nmX0 hown hK hP (wC_D hdj) hS (17 * g + 0) (gg_0 hg) rfl 5 (by decide) lk_42 rfl (by decide +kernel) (Nat.le_of_ble_eq_true rfl) (sn_spent hg) dX0_copyFrom_51 (fun H locs hP hS => ?_)
  obtain ⟨X_6, eX_6⟩ : ∃ Z : St, Z = u3 X_5 g 14 5 (X_5 g2 14 5) := ⟨_, rfl⟩
  rw [← eX_6] at hP
  have hP : va_P D vwCl (wC cI cR ad (sg X g (X g2))) H := by
    refine wC_ext hP ?_ ?_ ?_ ?_ ?_
    · intro a f i ha hf hi
      by_cases e : a = g
      · subst e
        rcases (show f = 0 ∨ f = 1 ∨ f = 2 ∨ f = 3 ∨ f = 4 ∨ f = 5 ∨ f = 6 ∨ f = 7 ∨ f = 8 ∨ f = 9 by omega) with rfl | rfl | rfl | rfl | rfl | rfl | rfl | rfl | rfl | rfl <;> simp [eX_1, eX_2, eX_3, eX_4, eX_5, eX_6, cpH, cpC, sg, uc, u3, b2, va_cpy, hne, hi]
      · simp [eX_1, eX_2, eX_3, eX_4, eX_5, eX_6, cpH, cpC, sg, uc, u3, e]
    · intro a f i ha hf0 hf hi
      by_cases e : a = g
      · subst e
        rcases (show f = 10 ∨ f = 11 ∨ f = 12 ∨ f = 13 by omega) with rfl | rfl | rfl | rfl <;> simp [eX_1, eX_2, eX_3, eX_4, eX_5, eX_6, cpH, cpC, sg, uc, u3, b2, va_cpy, hne, hi]
      · simp [eX_1, eX_2, eX_3, eX_4, eX_5, eX_6, cpH, cpC, sg, uc, u3, e]
    · intro a i ha hi
      by_cases e : a = g
      · subst e
        rcases (show i = 0 ∨ i = 1 ∨ i = 2 ∨ i = 3 ∨ i = 4 ∨ i = 5 by omega) with rfl | rfl | rfl | rfl | rfl | rfl <;> simp [eX_1, eX_2, eX_3, eX_4, eX_5, eX_6, cpH, cpC, sg, uc, u3, b2, hne]
      · simp [eX_1, eX_2, eX_3, eX_4, eX_5, eX_6, cpH, cpC, sg, uc, u3, e]
    · intro f i hf hi
      simp [eX_1, eX_2, eX_3, eX_4, eX_5, eX_6, cpH, cpC, sg, uc, u3, show ¬ (13 : Nat) = g by omega]
    · intro i hi
      simp [eX_1, eX_2, eX_3, eX_4, eX_5, eX_6, cpH, cpC, sg, uc, u3, show ¬ (14 : Nat) = g by omega]
  exact retWV hx hb hr hlocks hP hS dX0_copyFrom_54
set_option maxHeartbeats 4000000 in
set_option maxRecDepth 100000 in
theorem c_X4_recall {l : Launch} {D : va_G} {cI cR : ClassId} {ad : Nat → Nat} (X : St) (i : Int32) : RoQ l D cI cR (wC cI cR ad X) yX4_recall wsX4_recall ({ frames := 1, cells := 0, slots := 0, locals := 22 } : Room) [.ref (ad 234), .int i] (p_rec ad X i) := by
  refine OfW (cc := cX4_recall) (maxL := 2) (ret := (some (.object "HeadBudgets$Deed"))) (by decide +kernel) rfl (Nat.le_of_ble_eq_true rfl) (fun p e s m below meth c hx hb hr hts hown hlocks hml hnm hP hK hN ls hl => ?_)
  have hl : lv_has ls 2 [(0, .ref (ad 234)), (1, .int i)] := hl
  have lk_18 := hts (.fieldLink RX4 18 "HeadBudgets$Memory" "held" "I") (by decide +kernel)
  have lk_11 := hts (.fieldLink RX4 11 "HeadBudgets$Memory" "places" "[LHeadBudgets$Deed;") (by decide +kernel)
  have lk_22 := hts (.fieldLink RX4 22 "HeadBudgets$Memory" "oldest" "I") (by decide +kernel)
  have hi_X4 : ∀ w ∈ wsX40, w ∈ wsX4_recall := by decide +kernel
  refine lv_iload_n hx hb dX4_recall_0 rfl (lv_at hl 1 rfl) ?_
  refine lv_if_lt (tgt := 12) hx hb dX4_recall_1 (by decide) (fun c_1 => ?_) (fun c_1 => ?_)
  · refine lv_null hx hb dX4_recall_12 ?_
    exact retQ (q := none) hx hb hr hlocks dX4_recall_13 rfl (p_rec_none (by first | exact Or.inl c_1 | exact Or.inr c_9)).symm
  · refine lv_iload_n hx hb dX4_recall_4 rfl (lv_at hl 1 rfl) ?_
    refine lv_aload_n hx hb dX4_recall_5 rfl (lv_at hl 0 rfl) ?_
    refine xget (C := RX4) (T := TX4) (N := 4) (ci := 4) (w := .int (X 14 0 1)) hx hb hts hi_X4 hown hK hP 234 g0_234 rfl 2 (by decide) lk_18 rfl dX4_recall_6 ?_
    refine lv_icmp_lt (tgt := 14) hx hb dX4_recall_9 (by decide) (fun c_9 => ?_) (fun c_9 => ?_)
    · refine lv_aload_n hx hb dX4_recall_14 rfl (lv_at hl 0 rfl) ?_
      refine xget (C := RX4) (T := TX4) (N := 4) (ci := 4) (w := .ref (ad 235)) hx hb hts hi_X4 hown hK hP 234 g0_234 rfl 0 (by decide) lk_11 rfl dX4_recall_15 ?_
      refine lv_aload_n hx hb dX4_recall_18 rfl (lv_at hl 0 rfl) ?_
      refine xget (C := RX4) (T := TX4) (N := 4) (ci := 4) (w := .int (X 14 0 0)) hx hb hts hi_X4 hown hK hP 234 g0_234 rfl 1 (by decide) lk_22 rfl dX4_recall_19 ?_
      refine lv_aload_n hx hb dX4_recall_22 rfl (lv_at hl 0 rfl) ?_
      refine xget (C := RX4) (T := TX4) (N := 4) (ci := 4) (w := .int (X 14 0 1)) hx hb hts hi_X4 hown hK hP 234 g0_234 rfl 2 (by decide) lk_18 rfl dX4_recall_23 ?_
      refine lv_iadd hx hb dX4_recall_26 ?_
      refine lv_iconst (v := 1) hx hb dX4_recall_27 (by decide) ?_
      refine lv_isub hx hb dX4_recall_28 ?_
      refine lv_iload_n hx hb dX4_recall_29 rfl (lv_at hl 1 rfl) ?_
      refine lv_isub hx hb dX4_recall_30 ?_
      refine lv_bipush (v := 12) hx hb dX4_recall_31 (by decide) ?_
      refine callSE (As := [.int ((((X 14 0 0) + (X 14 0 1)) - 1) - i), .int 12]) (rest := [.ref (ad 235)]) ⟨hx, hb, hml, hown, hts⟩ (c_J9_floorMod_7cf53 ((((X 14 0 0) + (X 14 0 1)) - 1) - i) 12 (by decide)) (va_cwS 2 hts gX4_recall_J9_floorMod_7cf53 rfl rfl rfl (by decide +kernel) ⟨Nat.le_of_ble_eq_true rfl, Nat.le_of_ble_eq_true rfl⟩) hK hN rfl hl.1 rfl (Nat.le_of_ble_eq_true rfl) dX4_recall_33 ⟨Nat.zero_le _, Nat.zero_le _⟩ ?_
      refine va_aldq (C := "HeadBudgets$Deed") hx hb hK hP 235 1 g0_235 rfl (fm_in _) dX4_recall_36 ?_
      exact retQ (q := some (ad (221 + (p_fm ((((X 14 0 0) + (X 14 0 1)) - 1) - i) 12).toNatClampNeg))) hx hb hr hlocks dX4_recall_37 rfl (p_rec_some (fun q => q.elim c_1 (fun z => z c_9))).symm
    · refine lv_null hx hb dX4_recall_12 ?_
      exact retQ (q := none) hx hb hr hlocks dX4_recall_13 rfl (p_rec_none (by first | exact Or.inl c_1 | exact Or.inr c_9)).symm
set_option maxHeartbeats 4000000 in
set_option maxRecDepth 100000 in
theorem c_X4_rememberWith {l : Launch} {D : va_G} {cI cR : ClassId} {ad : Nat → Nat} (hdj : Dj 236 ad) (X : St) (k : Int32) (s1 : Int32) (t : Int32) (a : Int32) : WoV l D cI cR (Aw 236 ad) (wC cI cR ad X) (wC cI cR ad (N_rem X k s1 t a)) yX4_rememberWith wsX4_rememberWith ({ frames := 3, cells := 0, slots := 0, locals := 102 } : Room) [.ref (ad 234), .int k, .ref (ad 0), .int s1, .int t, .int a] := by
  refine OfW (cc := cX4_rememberWith) (maxL := 7) (ret := none) (by decide +kernel) rfl (Nat.le_of_ble_eq_true rfl) (fun p e s m below meth c hx hb hr hts hown hlocks hml hnm hP hK hN ls hl => ?_)
  have hl : lv_has ls 7 [(0, .ref (ad 234)), (1, .int k), (2, .ref (ad 0)), (3, .int s1), (4, .int t), (5, .int a)] := hl
  have lk_18 := hts (.fieldLink RX4 18 "HeadBudgets$Memory" "held" "I") (by decide +kernel)
  have lk_22 := hts (.fieldLink RX4 22 "HeadBudgets$Memory" "oldest" "I") (by decide +kernel)
  have lk_35 := hts (.fieldLink RX4 35 "HeadBudgets$Memory" "latestNumber" "I") (by decide +kernel)
  have lk_42 := hts (.fieldLink RX4 42 "HeadBudgets$Deed" "before" "LHeadBudgets$Books;") (by decide +kernel)
  have lk_52 := hts (.fieldLink RX4 52 "HeadBudgets$Deed" "number" "I") (by decide +kernel)
  have lk_55 := hts (.fieldLink RX4 55 "HeadBudgets$Deed" "kind" "I") (by decide +kernel)
  have lk_58 := hts (.fieldLink RX4 58 "HeadBudgets$Deed" "subject" "I") (by decide +kernel)
  have lk_61 := hts (.fieldLink RX4 61 "HeadBudgets$Deed" "taker" "I") (by decide +kernel)
  have lk_64 := hts (.fieldLink RX4 64 "HeadBudgets$Deed" "amount" "I") (by decide +kernel)
  have hi_X2 : ∀ w ∈ wsX20, w ∈ wsX4_rememberWith := by decide +kernel
  have hi_X4 : ∀ w ∈ wsX40, w ∈ wsX4_rememberWith := by decide +kernel
  have hS : va_S (Aw 236 ad) s.heap s.heap [] := va_S.rf
  have hP : va_P D vwCl (wC cI cR ad X) s.heap := hP
  refine lv_aload_n hx hb dX4_rememberWith_0 rfl (lv_at hl 0 rfl) ?_
  refine xget (C := RX4) (T := TX4) (N := 4) (ci := 4) (w := .int (X 14 0 1)) hx hb hts hi_X4 hown hK hP 234 g0_234 rfl 2 (by decide) lk_18 rfl dX4_rememberWith_1 ?_
  refine lv_bipush (v := 12) hx hb dX4_rememberWith_4 (by decide) ?_
  refine lv_icmp_ge (tgt := 22) hx hb dX4_rememberWith_6 (by decide) (fun c_6 => ?_) (fun c_6 => ?_)
  · refine lv_aload_n hx hb dX4_rememberWith_22 rfl (lv_at hl 0 rfl) ?_
    refine lv_aload_n hx hb dX4_rememberWith_23 rfl (lv_at hl 0 rfl) ?_
    refine xget (C := RX4) (T := TX4) (N := 4) (ci := 4) (w := .int (X 14 0 0)) hx hb hts hi_X4 hown hK hP 234 g0_234 rfl 1 (by decide) lk_22 rfl dX4_rememberWith_24 ?_
    refine lv_iconst (v := 1) hx hb dX4_rememberWith_27 (by decide) ?_
    refine lv_iadd hx hb dX4_rememberWith_28 ?_
    refine lv_bipush (v := 12) hx hb dX4_rememberWith_29 (by decide) ?_
    refine callSE (As := [.int ((X 14 0 0) + 1), .int 12]) (rest := [.ref (ad 234)]) ⟨hx, hb, hml, hown, hts⟩ (c_J9_floorMod_7cf53 ((X 14 0 0) + 1) 12 (by decide)) (va_cwS 2 hts gX4_rememberWith_J9_floorMod_7cf53 rfl rfl rfl (by decide +kernel) ⟨Nat.le_of_ble_eq_true rfl, Nat.le_of_ble_eq_true rfl⟩) hK hN rfl hl.1 rfl (Nat.le_of_ble_eq_true rfl) dX4_rememberWith_31 ⟨Nat.zero_le _, Nat.zero_le _⟩ ?_
    refine xput (C := RX4) (T := TX4) (N := 4) (ci := 4) hx hb hts hi_X4 tyX4 tyX4_ok nmX4 hown hK hP (wC_D hdj) hS 234 g0_234 rfl 1 (by decide) lk_22 rfl (by decide +kernel) (Nat.le_of_ble_eq_true rfl) s0_m0 dX4_rememberWith_34 (fun H locs hP hS => ?_)
    obtain ⟨X_1, eX_1⟩ : ∃ Z : St, Z = u3 X 14 0 0 (p_fm ((X 14 0 0) + 1) 12) := ⟨_, rfl⟩
    rw [← eX_1] at hP
    refine lv_aload_n hx hb dX4_rememberWith_37 rfl (lv_at hl 0 rfl) ?_
    refine lv_dup hx hb dX4_rememberWith_38 rfl ?_
    refine xget (C := RX4) (T := TX4) (N := 4) (ci := 4) (w := .int (X_1 14 0 2)) hx hb hts hi_X4 hown hK hP 234 g0_234 rfl 3 (by decide) lk_35 rfl dX4_rememberWith_39 ?_
    refine lv_iconst (v := 1) hx hb dX4_rememberWith_42 (by decide) ?_
    refine lv_iadd hx hb dX4_rememberWith_43 ?_
    refine xput (C := RX4) (T := TX4) (N := 4) (ci := 4) hx hb hts hi_X4 tyX4 tyX4_ok nmX4 hown hK hP (wC_D hdj) hS 234 g0_234 rfl 3 (by decide) lk_35 rfl (by decide +kernel) (Nat.le_of_ble_eq_true rfl) s0_m2 dX4_rememberWith_44 (fun H locs hP hS => ?_)
    obtain ⟨X_2, eX_2⟩ : ∃ Z : St, Z = u3 X_1 14 0 2 ((X_1 14 0 2) + 1) := ⟨_, rfl⟩
    rw [← eX_2] at hP
    refine lv_aload_n hx hb dX4_rememberWith_47 rfl (lv_at hl 0 rfl) ?_
    refine lv_iconst (v := 0) hx hb dX4_rememberWith_48 (by decide) ?_
    refine callQ (As := [.int 0]) (rest := []) ⟨hx, hb, hml, hown, hts⟩ (c_X4_recall X_2 0) (cwV 1 hts gX4_rememberWith_X4_recall rfl rfl rfl (by decide +kernel) ⟨Nat.le_of_ble_eq_true rfl, Nat.le_of_ble_eq_true rfl⟩) hK hN hP 234 g0_234 rfl rfl hl.1 rfl (Nat.le_of_ble_eq_true rfl) dX4_rememberWith_49 ⟨Nat.zero_le _, Nat.zero_le _⟩ ?_
    by_cases c_49 : p_norec X_2 0
    · rw [p_rec_none c_49]
      refine W.eq (g2 := F0 m 52 ls [.null]) rfl ?_
      refine lv_astoreN (lv' := [(6, .null), (0, .ref (ad 234)), (1, .int k), (2, .ref (ad 0)), (3, .int s1), (4, .int t), (5, .int a)]) hx hb dX4_rememberWith_52 hl (by decide) rfl (fun ls hl => ?_)
      refine lv_aloadN hx hb dX4_rememberWith_54 (lv_at hl 0 rfl) ?_
      refine lv_ifnullN (tgt := 103) hx hb dX4_rememberWith_56 (by decide) ?_
      have hZ : X_2 = N_rem X k s1 t a := by
        have e2 : X_2 = m_num X := by
          rw [eX_2, eX_1]
          unfold m_num m_held
          first | rw [ci_t c_6] | rw [ci_f c_6]
        unfold N_rem
        rw [← e2, ci_t c_49]
      exact retWV hx hb hr hlocks (by rw [← hZ]; exact hP) hS dX4_rememberWith_103
    · rw [p_rec_some c_49]
      obtain ⟨z_49, ez_49, hz_49⟩ : ∃ z : Nat, z = (p_slot X_2 0).toNatClampNeg ∧ z < 12 := ⟨_, rfl, slot_lt _ _⟩
      rw [← ez_49]
      refine W.eq (g2 := F0 m 52 ls [.ref (ad (221 + z_49))]) rfl ?_
      refine lv_astore (lv' := [(6, .ref (ad (221 + z_49))), (0, .ref (ad 234)), (1, .int k), (2, .ref (ad 0)), (3, .int s1), (4, .int t), (5, .int a)]) hx hb dX4_rememberWith_52 hl (by decide) rfl (fun ls hl => ?_)
      refine lv_aload hx hb dX4_rememberWith_54 (lv_at hl 0 rfl) ?_
      refine lv_ifnull hx hb dX4_rememberWith_56 ?_
      refine lv_aload hx hb dX4_rememberWith_59 (lv_at hl 0 rfl) ?_
      refine xget (C := RX2) (T := TX2) (N := 6) (ci := 2) (w := .ref (ad (17 * (z_49 + 1)))) hx hb hts hi_X2 hown hK hP ((221 + z_49)) (gd hz_49) rfl 0 (by decide) lk_42 rfl dX4_rememberWith_61 ?_
      refine lv_aload_n hx hb dX4_rememberWith_64 rfl (lv_at hl 3 rfl) ?_
      refine callWV (As := [.ref (ad 0)]) (rest := []) ⟨hx, hb, hml, hown, hts⟩ (c_X0_copyFrom hdj X_2 ((z_49 + 1)) 0 (by omega) (by decide) (by omega)) (cwV 1 hts gX4_rememberWith_X0_copyFrom rfl rfl rfl (by decide +kernel) ⟨Nat.le_of_ble_eq_true rfl, Nat.le_of_ble_eq_true rfl⟩) hK hN hP (17 * (z_49 + 1) + 0) (gg_0 (show (z_49 + 1) < 13 by omega)) rfl rfl hl.1 rfl (Nat.le_of_ble_eq_true rfl) dX4_rememberWith_65 ⟨Nat.zero_le _, Nat.zero_le _⟩ hS (fun _ h9 => h9) (fun H locs hP hS => ?_)
      obtain ⟨X_3, eX_3⟩ : ∃ Z : St, Z = sg X_2 ((z_49 + 1)) (X_2 0) := ⟨_, rfl⟩
      rw [← eX_3] at hP
      refine lv_aload hx hb dX4_rememberWith_68 (lv_at hl 0 rfl) ?_
      refine lv_aload_n hx hb dX4_rememberWith_70 rfl (lv_at hl 1 rfl) ?_
      refine xget (C := RX4) (T := TX4) (N := 4) (ci := 4) (w := .int (X_3 14 0 2)) hx hb hts hi_X4 hown hK hP 234 g0_234 rfl 3 (by decide) lk_35 rfl dX4_rememberWith_71 ?_
      refine xput (C := RX2) (T := TX2) (N := 6) (ci := 2) hx hb hts hi_X2 tyX2 tyX2_ok nmX2 hown hK hP (wC_D hdj) hS ((221 + z_49)) (gd hz_49) rfl 1 (by decide) lk_52 rfl (by decide +kernel) (Nat.le_of_ble_eq_true rfl) (sd_0 hz_49) dX4_rememberWith_74 (fun H locs hP hS => ?_)
      obtain ⟨X_4, eX_4⟩ : ∃ Z : St, Z = u3 X_3 13 0 z_49 (X_3 14 0 2) := ⟨_, rfl⟩
      rw [← eX_4] at hP
      refine lv_aload hx hb dX4_rememberWith_77 (lv_at hl 0 rfl) ?_
      refine lv_iload_n hx hb dX4_rememberWith_79 rfl (lv_at hl 2 rfl) ?_
      refine xput (C := RX2) (T := TX2) (N := 6) (ci := 2) hx hb hts hi_X2 tyX2 tyX2_ok nmX2 hown hK hP (wC_D hdj) hS ((221 + z_49)) (gd hz_49) rfl 2 (by decide) lk_55 rfl (by decide +kernel) (Nat.le_of_ble_eq_true rfl) (sd_1 hz_49) dX4_rememberWith_80 (fun H locs hP hS => ?_)
      obtain ⟨X_5, eX_5⟩ : ∃ Z : St, Z = u3 X_4 13 1 z_49 k := ⟨_, rfl⟩
      rw [← eX_5] at hP
      refine lv_aload hx hb dX4_rememberWith_83 (lv_at hl 0 rfl) ?_
      refine lv_iload_n hx hb dX4_rememberWith_85 rfl (lv_at hl 4 rfl) ?_
      refine xput (C := RX2) (T := TX2) (N := 6) (ci := 2) hx hb hts hi_X2 tyX2 tyX2_ok nmX2 hown hK hP (wC_D hdj) hS ((221 + z_49)) (gd hz_49) rfl 3 (by decide) lk_58 rfl (by decide +kernel) (Nat.le_of_ble_eq_true rfl) (sd_2 hz_49) dX4_rememberWith_86 (fun H locs hP hS => ?_)
      obtain ⟨X_6, eX_6⟩ : ∃ Z : St, Z = u3 X_5 13 2 z_49 s1 := ⟨_, rfl⟩
      rw [← eX_6] at hP
      refine lv_aload hx hb dX4_rememberWith_89 (lv_at hl 0 rfl) ?_
      refine lv_iload hx hb dX4_rememberWith_91 (lv_at hl 5 rfl) ?_
      refine xput (C := RX2) (T := TX2) (N := 6) (ci := 2) hx hb hts hi_X2 tyX2 tyX2_ok nmX2 hown hK hP (wC_D hdj) hS ((221 + z_49)) (gd hz_49) rfl 4 (by decide) lk_61 rfl (by decide +kernel) (Nat.le_of_ble_eq_true rfl) (sd_3 hz_49) dX4_rememberWith_93 (fun H locs hP hS => ?_)
      obtain ⟨X_7, eX_7⟩ : ∃ Z : St, Z = u3 X_6 13 3 z_49 t := ⟨_, rfl⟩
      rw [← eX_7] at hP
      refine lv_aload hx hb dX4_rememberWith_96 (lv_at hl 0 rfl) ?_
      refine lv_iload hx hb dX4_rememberWith_98 (lv_at hl 6 rfl) ?_
      refine xput (C := RX2) (T := TX2) (N := 6) (ci := 2) hx hb hts hi_X2 tyX2 tyX2_ok nmX2 hown hK hP (wC_D hdj) hS ((221 + z_49)) (gd hz_49) rfl 5 (by decide) lk_64 rfl (by decide +kernel) (Nat.le_of_ble_eq_true rfl) (sd_4 hz_49) dX4_rememberWith_100 (fun H locs hP hS => ?_)
      obtain ⟨X_8, eX_8⟩ : ∃ Z : St, Z = u3 X_7 13 4 z_49 a := ⟨_, rfl⟩
      rw [← eX_8] at hP
      have hZ : X_8 = N_rem X k s1 t a := by
        have e2 : X_2 = m_num X := by
          rw [eX_2, eX_1]
          unfold m_num m_held
          first | rw [ci_t c_6] | rw [ci_f c_6]
        unfold N_rem
        rw [← e2, ci_f c_49, ← ez_49]
        subst eX_8 eX_7 eX_6 eX_5 eX_4 eX_3
        rfl
      exact retWV hx hb hr hlocks (by rw [← hZ]; exact hP) hS dX4_rememberWith_103
  · refine lv_aload_n hx hb dX4_rememberWith_9 rfl (lv_at hl 0 rfl) ?_
    refine lv_dup hx hb dX4_rememberWith_10 rfl ?_
    refine xget (C := RX4) (T := TX4) (N := 4) (ci := 4) (w := .int (X 14 0 1)) hx hb hts hi_X4 hown hK hP 234 g0_234 rfl 2 (by decide) lk_18 rfl dX4_rememberWith_11 ?_
    refine lv_iconst (v := 1) hx hb dX4_rememberWith_14 (by decide) ?_
    refine lv_iadd hx hb dX4_rememberWith_15 ?_
    refine xput (C := RX4) (T := TX4) (N := 4) (ci := 4) hx hb hts hi_X4 tyX4 tyX4_ok nmX4 hown hK hP (wC_D hdj) hS 234 g0_234 rfl 2 (by decide) lk_18 rfl (by decide +kernel) (Nat.le_of_ble_eq_true rfl) s0_m1 dX4_rememberWith_16 (fun H locs hP hS => ?_)
    obtain ⟨X_9, eX_9⟩ : ∃ Z : St, Z = u3 X 14 0 1 ((X 14 0 1) + 1) := ⟨_, rfl⟩
    rw [← eX_9] at hP
    refine lv_goto (tgt := 37) hx hb dX4_rememberWith_19 (by decide) ?_
    refine lv_aload_n hx hb dX4_rememberWith_37 rfl (lv_at hl 0 rfl) ?_
    refine lv_dup hx hb dX4_rememberWith_38 rfl ?_
    refine xget (C := RX4) (T := TX4) (N := 4) (ci := 4) (w := .int (X_9 14 0 2)) hx hb hts hi_X4 hown hK hP 234 g0_234 rfl 3 (by decide) lk_35 rfl dX4_rememberWith_39 ?_
    refine lv_iconst (v := 1) hx hb dX4_rememberWith_42 (by decide) ?_
    refine lv_iadd hx hb dX4_rememberWith_43 ?_
    refine xput (C := RX4) (T := TX4) (N := 4) (ci := 4) hx hb hts hi_X4 tyX4 tyX4_ok nmX4 hown hK hP (wC_D hdj) hS 234 g0_234 rfl 3 (by decide) lk_35 rfl (by decide +kernel) (Nat.le_of_ble_eq_true rfl) s0_m2 dX4_rememberWith_44 (fun H locs hP hS => ?_)
    obtain ⟨X_10, eX_10⟩ : ∃ Z : St, Z = u3 X_9 14 0 2 ((X_9 14 0 2) + 1) := ⟨_, rfl⟩
    rw [← eX_10] at hP
    refine lv_aload_n hx hb dX4_rememberWith_47 rfl (lv_at hl 0 rfl) ?_
    refine lv_iconst (v := 0) hx hb dX4_rememberWith_48 (by decide) ?_
    refine callQ (As := [.int 0]) (rest := []) ⟨hx, hb, hml, hown, hts⟩ (c_X4_recall X_10 0) (cwV 1 hts gX4_rememberWith_X4_recall rfl rfl rfl (by decide +kernel) ⟨Nat.le_of_ble_eq_true rfl, Nat.le_of_ble_eq_true rfl⟩) hK hN hP 234 g0_234 rfl rfl hl.1 rfl (Nat.le_of_ble_eq_true rfl) dX4_rememberWith_49 ⟨Nat.zero_le _, Nat.zero_le _⟩ ?_
    by_cases c_49 : p_norec X_10 0
    · rw [p_rec_none c_49]
      refine W.eq (g2 := F0 m 52 ls [.null]) rfl ?_
      refine lv_astoreN (lv' := [(6, .null), (0, .ref (ad 234)), (1, .int k), (2, .ref (ad 0)), (3, .int s1), (4, .int t), (5, .int a)]) hx hb dX4_rememberWith_52 hl (by decide) rfl (fun ls hl => ?_)
      refine lv_aloadN hx hb dX4_rememberWith_54 (lv_at hl 0 rfl) ?_
      refine lv_ifnullN (tgt := 103) hx hb dX4_rememberWith_56 (by decide) ?_
      have hZ : X_10 = N_rem X k s1 t a := by
        have e2 : X_10 = m_num X := by
          rw [eX_10, eX_9]
          unfold m_num m_held
          first | rw [ci_t c_6] | rw [ci_f c_6]
        unfold N_rem
        rw [← e2, ci_t c_49]
      exact retWV hx hb hr hlocks (by rw [← hZ]; exact hP) hS dX4_rememberWith_103
    · rw [p_rec_some c_49]
      obtain ⟨z_49, ez_49, hz_49⟩ : ∃ z : Nat, z = (p_slot X_10 0).toNatClampNeg ∧ z < 12 := ⟨_, rfl, slot_lt _ _⟩
      rw [← ez_49]
      refine W.eq (g2 := F0 m 52 ls [.ref (ad (221 + z_49))]) rfl ?_
      refine lv_astore (lv' := [(6, .ref (ad (221 + z_49))), (0, .ref (ad 234)), (1, .int k), (2, .ref (ad 0)), (3, .int s1), (4, .int t), (5, .int a)]) hx hb dX4_rememberWith_52 hl (by decide) rfl (fun ls hl => ?_)
      refine lv_aload hx hb dX4_rememberWith_54 (lv_at hl 0 rfl) ?_
      refine lv_ifnull hx hb dX4_rememberWith_56 ?_
      refine lv_aload hx hb dX4_rememberWith_59 (lv_at hl 0 rfl) ?_
      refine xget (C := RX2) (T := TX2) (N := 6) (ci := 2) (w := .ref (ad (17 * (z_49 + 1)))) hx hb hts hi_X2 hown hK hP ((221 + z_49)) (gd hz_49) rfl 0 (by decide) lk_42 rfl dX4_rememberWith_61 ?_
      refine lv_aload_n hx hb dX4_rememberWith_64 rfl (lv_at hl 3 rfl) ?_
      refine callWV (As := [.ref (ad 0)]) (rest := []) ⟨hx, hb, hml, hown, hts⟩ (c_X0_copyFrom hdj X_10 ((z_49 + 1)) 0 (by omega) (by decide) (by omega)) (cwV 1 hts gX4_rememberWith_X0_copyFrom rfl rfl rfl (by decide +kernel) ⟨Nat.le_of_ble_eq_true rfl, Nat.le_of_ble_eq_true rfl⟩) hK hN hP (17 * (z_49 + 1) + 0) (gg_0 (show (z_49 + 1) < 13 by omega)) rfl rfl hl.1 rfl (Nat.le_of_ble_eq_true rfl) dX4_rememberWith_65 ⟨Nat.zero_le _, Nat.zero_le _⟩ hS (fun _ h9 => h9) (fun H locs hP hS => ?_)
      obtain ⟨X_11, eX_11⟩ : ∃ Z : St, Z = sg X_10 ((z_49 + 1)) (X_10 0) := ⟨_, rfl⟩
      rw [← eX_11] at hP
      refine lv_aload hx hb dX4_rememberWith_68 (lv_at hl 0 rfl) ?_
      refine lv_aload_n hx hb dX4_rememberWith_70 rfl (lv_at hl 1 rfl) ?_
      refine xget (C := RX4) (T := TX4) (N := 4) (ci := 4) (w := .int (X_11 14 0 2)) hx hb hts hi_X4 hown hK hP 234 g0_234 rfl 3 (by decide) lk_35 rfl dX4_rememberWith_71 ?_
      refine xput (C := RX2) (T := TX2) (N := 6) (ci := 2) hx hb hts hi_X2 tyX2 tyX2_ok nmX2 hown hK hP (wC_D hdj) hS ((221 + z_49)) (gd hz_49) rfl 1 (by decide) lk_52 rfl (by decide +kernel) (Nat.le_of_ble_eq_true rfl) (sd_0 hz_49) dX4_rememberWith_74 (fun H locs hP hS => ?_)
      obtain ⟨X_12, eX_12⟩ : ∃ Z : St, Z = u3 X_11 13 0 z_49 (X_11 14 0 2) := ⟨_, rfl⟩
      rw [← eX_12] at hP
      refine lv_aload hx hb dX4_rememberWith_77 (lv_at hl 0 rfl) ?_
      refine lv_iload_n hx hb dX4_rememberWith_79 rfl (lv_at hl 2 rfl) ?_
      refine xput (C := RX2) (T := TX2) (N := 6) (ci := 2) hx hb hts hi_X2 tyX2 tyX2_ok nmX2 hown hK hP (wC_D hdj) hS ((221 + z_49)) (gd hz_49) rfl 2 (by decide) lk_55 rfl (by decide +kernel) (Nat.le_of_ble_eq_true rfl) (sd_1 hz_49) dX4_rememberWith_80 (fun H locs hP hS => ?_)
      obtain ⟨X_13, eX_13⟩ : ∃ Z : St, Z = u3 X_12 13 1 z_49 k := ⟨_, rfl⟩
      rw [← eX_13] at hP
      refine lv_aload hx hb dX4_rememberWith_83 (lv_at hl 0 rfl) ?_
      refine lv_iload_n hx hb dX4_rememberWith_85 rfl (lv_at hl 4 rfl) ?_
      refine xput (C := RX2) (T := TX2) (N := 6) (ci := 2) hx hb hts hi_X2 tyX2 tyX2_ok nmX2 hown hK hP (wC_D hdj) hS ((221 + z_49)) (gd hz_49) rfl 3 (by decide) lk_58 rfl (by decide +kernel) (Nat.le_of_ble_eq_true rfl) (sd_2 hz_49) dX4_rememberWith_86 (fun H locs hP hS => ?_)
      obtain ⟨X_14, eX_14⟩ : ∃ Z : St, Z = u3 X_13 13 2 z_49 s1 := ⟨_, rfl⟩
      rw [← eX_14] at hP
      refine lv_aload hx hb dX4_rememberWith_89 (lv_at hl 0 rfl) ?_
      refine lv_iload hx hb dX4_rememberWith_91 (lv_at hl 5 rfl) ?_
      refine xput (C := RX2) (T := TX2) (N := 6) (ci := 2) hx hb hts hi_X2 tyX2 tyX2_ok nmX2 hown hK hP (wC_D hdj) hS ((221 + z_49)) (gd hz_49) rfl 4 (by decide) lk_61 rfl (by decide +kernel) (Nat.le_of_ble_eq_true rfl) (sd_3 hz_49) dX4_rememberWith_93 (fun H locs hP hS => ?_)
      obtain ⟨X_15, eX_15⟩ : ∃ Z : St, Z = u3 X_14 13 3 z_49 t := ⟨_, rfl⟩
      rw [← eX_15] at hP
      refine lv_aload hx hb dX4_rememberWith_96 (lv_at hl 0 rfl) ?_
      refine lv_iload hx hb dX4_rememberWith_98 (lv_at hl 6 rfl) ?_
      refine xput (C := RX2) (T := TX2) (N := 6) (ci := 2) hx hb hts hi_X2 tyX2 tyX2_ok nmX2 hown hK hP (wC_D hdj) hS ((221 + z_49)) (gd hz_49) rfl 5 (by decide) lk_64 rfl (by decide +kernel) (Nat.le_of_ble_eq_true rfl) (sd_4 hz_49) dX4_rememberWith_100 (fun H locs hP hS => ?_)
      obtain ⟨X_16, eX_16⟩ : ∃ Z : St, Z = u3 X_15 13 4 z_49 a := ⟨_, rfl⟩
      rw [← eX_16] at hP
      have hZ : X_16 = N_rem X k s1 t a := by
        have e2 : X_10 = m_num X := by
          rw [eX_10, eX_9]
          unfold m_num m_held
          first | rw [ci_t c_6] | rw [ci_f c_6]
        unfold N_rem
        rw [← e2, ci_f c_49, ← ez_49]
        subst eX_16 eX_15 eX_14 eX_13 eX_12 eX_11
        rfl
      exact retWV hx hb hr hlocks (by rw [← hZ]; exact hP) hS dX4_rememberWith_103
set_option maxHeartbeats 4000000 in
set_option maxRecDepth 100000 in
theorem c_X4_remember {l : Launch} {D : va_G} {cI cR : ClassId} {ad : Nat → Nat} (hdj : Dj 236 ad) (X : St) (k : Int32) : WoV l D cI cR (Aw 236 ad) (wC cI cR ad X) (wC cI cR ad (N_rem X k (-9) (-9) 0)) yX4_remember wsX4_remember ({ frames := 4, cells := 0, slots := 0, locals := 128 } : Room) [.ref (ad 234), .int k, .ref (ad 0)] := by
  refine OfW (cc := cX4_remember) (maxL := 3) (ret := none) (by decide +kernel) rfl (Nat.le_of_ble_eq_true rfl) (fun p e s m below meth c hx hb hr hts hown hlocks hml hnm hP hK hN ls hl => ?_)
  have hl : lv_has ls 3 [(0, .ref (ad 234)), (1, .int k), (2, .ref (ad 0))] := hl
  have hS : va_S (Aw 236 ad) s.heap s.heap [] := va_S.rf
  have hP : va_P D vwCl (wC cI cR ad X) s.heap := hP
  refine lv_aload_n hx hb dX4_remember_0 rfl (lv_at hl 0 rfl) ?_
  refine lv_iload_n hx hb dX4_remember_1 rfl (lv_at hl 1 rfl) ?_
  refine lv_aload_n hx hb dX4_remember_2 rfl (lv_at hl 2 rfl) ?_
  refine lv_bipush (v := (-9)) hx hb dX4_remember_3 (by decide) ?_
  refine lv_bipush (v := (-9)) hx hb dX4_remember_5 (by decide) ?_
  refine lv_iconst (v := 0) hx hb dX4_remember_7 (by decide) ?_
  refine callWV (As := [.int k, .ref (ad 0), .int ((-9)), .int ((-9)), .int 0]) (rest := []) ⟨hx, hb, hml, hown, hts⟩ (c_X4_rememberWith hdj X k ((-9)) ((-9)) 0) (cwV 5 hts gX4_remember_X4_rememberWith rfl rfl rfl (by decide +kernel) ⟨Nat.le_of_ble_eq_true rfl, Nat.le_of_ble_eq_true rfl⟩) hK hN hP 234 g0_234 rfl rfl hl.1 rfl (Nat.le_of_ble_eq_true rfl) dX4_remember_8 ⟨Nat.zero_le _, Nat.zero_le _⟩ hS (fun _ h9 => h9) (fun H locs hP hS => ?_)
  obtain ⟨X_1, eX_1⟩ : ∃ Z : St, Z = N_rem X k ((-9)) ((-9)) 0 := ⟨_, rfl⟩
  rw [← eX_1] at hP
  have hZ : X_1 = N_rem X k (-9) (-9) 0 := by
    subst eX_1
    try simp only [u3_sg, sg_sg, sg_g]
    try dsimp only
    all_goals (first | rfl | (rw [sg_self]) | (simp only [u3_sg, sg_sg, sg_g]; done) | (simp only [u3_sg, sg_sg, sg_g]; rfl))
  exact retWV hx hb hr hlocks (by rw [← hZ]; exact hP) hS dX4_remember_11
set_option maxHeartbeats 4000000 in
set_option maxRecDepth 100000 in
theorem c_X4_rememberCommitment {l : Launch} {D : va_G} {cI cR : ClassId} {ad : Nat → Nat} (hdj : Dj 236 ad) (X : St) (q : Int32) : WoV l D cI cR (Aw 236 ad) (wC cI cR ad X) (wC cI cR ad (N_rem X 5 q (-9) 0)) yX4_rememberCommitment wsX4_rememberCommitment ({ frames := 4, cells := 0, slots := 0, locals := 128 } : Room) [.ref (ad 234), .ref (ad 0), .int q] := by
  refine OfW (cc := cX4_rememberCommitment) (maxL := 3) (ret := none) (by decide +kernel) rfl (Nat.le_of_ble_eq_true rfl) (fun p e s m below meth c hx hb hr hts hown hlocks hml hnm hP hK hN ls hl => ?_)
  have hl : lv_has ls 3 [(0, .ref (ad 234)), (1, .ref (ad 0)), (2, .int q)] := hl
  have hS : va_S (Aw 236 ad) s.heap s.heap [] := va_S.rf
  have hP : va_P D vwCl (wC cI cR ad X) s.heap := hP
  refine lv_aload_n hx hb dX4_rememberCommitment_0 rfl (lv_at hl 0 rfl) ?_
  refine lv_iconst (v := 5) hx hb dX4_rememberCommitment_1 (by decide) ?_
  refine lv_aload_n hx hb dX4_rememberCommitment_2 rfl (lv_at hl 1 rfl) ?_
  refine lv_iload_n hx hb dX4_rememberCommitment_3 rfl (lv_at hl 2 rfl) ?_
  refine lv_bipush (v := (-9)) hx hb dX4_rememberCommitment_4 (by decide) ?_
  refine lv_iconst (v := 0) hx hb dX4_rememberCommitment_6 (by decide) ?_
  refine callWV (As := [.int 5, .ref (ad 0), .int q, .int ((-9)), .int 0]) (rest := []) ⟨hx, hb, hml, hown, hts⟩ (c_X4_rememberWith hdj X 5 q ((-9)) 0) (cwV 5 hts gX4_rememberCommitment_X4_rememberWith rfl rfl rfl (by decide +kernel) ⟨Nat.le_of_ble_eq_true rfl, Nat.le_of_ble_eq_true rfl⟩) hK hN hP 234 g0_234 rfl rfl hl.1 rfl (Nat.le_of_ble_eq_true rfl) dX4_rememberCommitment_7 ⟨Nat.zero_le _, Nat.zero_le _⟩ hS (fun _ h9 => h9) (fun H locs hP hS => ?_)
  obtain ⟨X_1, eX_1⟩ : ∃ Z : St, Z = N_rem X 5 q ((-9)) 0 := ⟨_, rfl⟩
  rw [← eX_1] at hP
  have hZ : X_1 = N_rem X 5 q (-9) 0 := by
    subst eX_1
    try simp only [u3_sg, sg_sg, sg_g]
    try dsimp only
    all_goals (first | rfl | (rw [sg_self]) | (simp only [u3_sg, sg_sg, sg_g]; done) | (simp only [u3_sg, sg_sg, sg_g]; rfl))
  exact retWV hx hb hr hlocks (by rw [← hZ]; exact hP) hS dX4_rememberCommitment_10
set_option maxHeartbeats 4000000 in
set_option maxRecDepth 100000 in
theorem c_X4_rememberVirement {l : Launch} {D : va_G} {cI cR : ClassId} {ad : Nat → Nat} (hdj : Dj 236 ad) (X : St) (f : Int32) (t : Int32) (a : Int32) : WoV l D cI cR (Aw 236 ad) (wC cI cR ad X) (wC cI cR ad (N_rem X 8 f t a)) yX4_rememberVirement wsX4_rememberVirement ({ frames := 4, cells := 0, slots := 0, locals := 128 } : Room) [.ref (ad 234), .ref (ad 0), .int f, .int t, .int a] := by
  refine OfW (cc := cX4_rememberVirement) (maxL := 5) (ret := none) (by decide +kernel) rfl (Nat.le_of_ble_eq_true rfl) (fun p e s m below meth c hx hb hr hts hown hlocks hml hnm hP hK hN ls hl => ?_)
  have hl : lv_has ls 5 [(0, .ref (ad 234)), (1, .ref (ad 0)), (2, .int f), (3, .int t), (4, .int a)] := hl
  have hS : va_S (Aw 236 ad) s.heap s.heap [] := va_S.rf
  have hP : va_P D vwCl (wC cI cR ad X) s.heap := hP
  refine lv_aload_n hx hb dX4_rememberVirement_0 rfl (lv_at hl 0 rfl) ?_
  refine lv_bipush (v := 8) hx hb dX4_rememberVirement_1 (by decide) ?_
  refine lv_aload_n hx hb dX4_rememberVirement_3 rfl (lv_at hl 1 rfl) ?_
  refine lv_iload_n hx hb dX4_rememberVirement_4 rfl (lv_at hl 2 rfl) ?_
  refine lv_iload_n hx hb dX4_rememberVirement_5 rfl (lv_at hl 3 rfl) ?_
  refine lv_iload hx hb dX4_rememberVirement_6 (lv_at hl 4 rfl) ?_
  refine callWV (As := [.int 8, .ref (ad 0), .int f, .int t, .int a]) (rest := []) ⟨hx, hb, hml, hown, hts⟩ (c_X4_rememberWith hdj X 8 f t a) (cwV 5 hts gX4_rememberVirement_X4_rememberWith rfl rfl rfl (by decide +kernel) ⟨Nat.le_of_ble_eq_true rfl, Nat.le_of_ble_eq_true rfl⟩) hK hN hP 234 g0_234 rfl rfl hl.1 rfl (Nat.le_of_ble_eq_true rfl) dX4_rememberVirement_8 ⟨Nat.zero_le _, Nat.zero_le _⟩ hS (fun _ h9 => h9) (fun H locs hP hS => ?_)
  obtain ⟨X_1, eX_1⟩ : ∃ Z : St, Z = N_rem X 8 f t a := ⟨_, rfl⟩
  rw [← eX_1] at hP
  have hZ : X_1 = N_rem X 8 f t a := by
    subst eX_1
    try simp only [u3_sg, sg_sg, sg_g]
    try dsimp only
    all_goals (first | rfl | (rw [sg_self]) | (simp only [u3_sg, sg_sg, sg_g]; done) | (simp only [u3_sg, sg_sg, sg_g]; rfl))
  exact retWV hx hb hr hlocks (by rw [← hZ]; exact hP) hS dX4_rememberVirement_11
set_option maxHeartbeats 4000000 in
set_option maxRecDepth 100000 in
theorem c_X4_rememberRevoking {l : Launch} {D : va_G} {cI cR : ClassId} {ad : Nat → Nat} (hdj : Dj 236 ad) (X : St) (q : Int32) : WoV l D cI cR (Aw 236 ad) (wC cI cR ad X) (wC cI cR ad (N_rem X 10 q (-9) 0)) yX4_rememberRevoking wsX4_rememberRevoking ({ frames := 4, cells := 0, slots := 0, locals := 128 } : Room) [.ref (ad 234), .ref (ad 0), .int q] := by
  refine OfW (cc := cX4_rememberRevoking) (maxL := 3) (ret := none) (by decide +kernel) rfl (Nat.le_of_ble_eq_true rfl) (fun p e s m below meth c hx hb hr hts hown hlocks hml hnm hP hK hN ls hl => ?_)
  have hl : lv_has ls 3 [(0, .ref (ad 234)), (1, .ref (ad 0)), (2, .int q)] := hl
  have hS : va_S (Aw 236 ad) s.heap s.heap [] := va_S.rf
  have hP : va_P D vwCl (wC cI cR ad X) s.heap := hP
  refine lv_aload_n hx hb dX4_rememberRevoking_0 rfl (lv_at hl 0 rfl) ?_
  refine lv_bipush (v := 10) hx hb dX4_rememberRevoking_1 (by decide) ?_
  refine lv_aload_n hx hb dX4_rememberRevoking_3 rfl (lv_at hl 1 rfl) ?_
  refine lv_iload_n hx hb dX4_rememberRevoking_4 rfl (lv_at hl 2 rfl) ?_
  refine lv_bipush (v := (-9)) hx hb dX4_rememberRevoking_5 (by decide) ?_
  refine lv_iconst (v := 0) hx hb dX4_rememberRevoking_7 (by decide) ?_
  refine callWV (As := [.int 10, .ref (ad 0), .int q, .int ((-9)), .int 0]) (rest := []) ⟨hx, hb, hml, hown, hts⟩ (c_X4_rememberWith hdj X 10 q ((-9)) 0) (cwV 5 hts gX4_rememberRevoking_X4_rememberWith rfl rfl rfl (by decide +kernel) ⟨Nat.le_of_ble_eq_true rfl, Nat.le_of_ble_eq_true rfl⟩) hK hN hP 234 g0_234 rfl rfl hl.1 rfl (Nat.le_of_ble_eq_true rfl) dX4_rememberRevoking_8 ⟨Nat.zero_le _, Nat.zero_le _⟩ hS (fun _ h9 => h9) (fun H locs hP hS => ?_)
  obtain ⟨X_1, eX_1⟩ : ∃ Z : St, Z = N_rem X 10 q ((-9)) 0 := ⟨_, rfl⟩
  rw [← eX_1] at hP
  have hZ : X_1 = N_rem X 10 q (-9) 0 := by
    subst eX_1
    try simp only [u3_sg, sg_sg, sg_g]
    try dsimp only
    all_goals (first | rfl | (rw [sg_self]) | (simp only [u3_sg, sg_sg, sg_g]; done) | (simp only [u3_sg, sg_sg, sg_g]; rfl))
  exact retWV hx hb hr hlocks (by rw [← hZ]; exact hP) hS dX4_rememberRevoking_11
set_option maxHeartbeats 4000000 in
set_option maxRecDepth 100000 in
theorem c_X4_forgetLatest {l : Launch} {D : va_G} {cI cR : ClassId} {ad : Nat → Nat} (hdj : Dj 236 ad) (X : St) : WoE l D cI cR (Aw 236 ad) (wC cI cR ad X) (wC cI cR ad (N_fl X)) yX4_forgetLatest wsX4_forgetLatest ({ frames := 0, cells := 0, slots := 0, locals := 0 } : Room) [.ref (ad 234)] (a_fl X) := by
  refine OfW (cc := cX4_forgetLatest) (maxL := 1) (ret := (some .int)) (by decide +kernel) rfl (Nat.le_of_ble_eq_true rfl) (fun p e s m below meth c hx hb hr hts hown hlocks hml hnm hP hK hN ls hl => ?_)
  have hl : lv_has ls 1 [(0, .ref (ad 234))] := hl
  have lk_18 := hts (.fieldLink RX4 18 "HeadBudgets$Memory" "held" "I") (by decide +kernel)
  have hi_X4 : ∀ w ∈ wsX40, w ∈ wsX4_forgetLatest := by decide +kernel
  have hS : va_S (Aw 236 ad) s.heap s.heap [] := va_S.rf
  have hP : va_P D vwCl (wC cI cR ad X) s.heap := hP
  refine lv_aload_n hx hb dX4_forgetLatest_0 rfl (lv_at hl 0 rfl) ?_
  refine xget (C := RX4) (T := TX4) (N := 4) (ci := 4) (w := .int (X 14 0 1)) hx hb hts hi_X4 hown hK hP 234 g0_234 rfl 2 (by decide) lk_18 rfl dX4_forgetLatest_1 ?_
  refine lv_if_le (tgt := 17) hx hb dX4_forgetLatest_4 (by decide) (fun c_4 => ?_) (fun c_4 => ?_)
  · refine lv_aload_n hx hb dX4_forgetLatest_17 rfl (lv_at hl 0 rfl) ?_
    refine xget (C := RX4) (T := TX4) (N := 4) (ci := 4) (w := .int (X 14 0 1)) hx hb hts hi_X4 hown hK hP 234 g0_234 rfl 2 (by decide) lk_18 rfl dX4_forgetLatest_18 ?_
    have hZ : X = N_fl X := by
      try simp only [u3_sg, sg_sg]
      try unfold N_fl
      try dsimp only
      all_goals repeat (first | rw [ci_t c_4] | rw [ci_f c_4])
      all_goals (first | rfl | (rw [sg_self]) | (simp only [u3_sg, sg_sg, sg_g, b2_s]; done) | (simp only [u3_sg, sg_sg, sg_g, b2_s]; rfl))
    have hV : X 14 0 1 = a_fl X := by
      try simp only [u3_sg, sg_sg]
      try unfold a_fl
      try dsimp only
      all_goals repeat (first | rw [ci_t c_4] | rw [ci_f c_4])
      all_goals (first | rfl | (rw [sg_self]) | (simp only [u3_sg, sg_sg, sg_g, b2_s]; done) | (simp only [u3_sg, sg_sg, sg_g, b2_s]; rfl))
    exact retWE hx hb hr hlocks (by rw [← hZ]; exact hP) hS dX4_forgetLatest_21 hV
  · refine lv_aload_n hx hb dX4_forgetLatest_7 rfl (lv_at hl 0 rfl) ?_
    refine lv_dup hx hb dX4_forgetLatest_8 rfl ?_
    refine xget (C := RX4) (T := TX4) (N := 4) (ci := 4) (w := .int (X 14 0 1)) hx hb hts hi_X4 hown hK hP 234 g0_234 rfl 2 (by decide) lk_18 rfl dX4_forgetLatest_9 ?_
    refine lv_iconst (v := 1) hx hb dX4_forgetLatest_12 (by decide) ?_
    refine lv_isub hx hb dX4_forgetLatest_13 ?_
    refine xput (C := RX4) (T := TX4) (N := 4) (ci := 4) hx hb hts hi_X4 tyX4 tyX4_ok nmX4 hown hK hP (wC_D hdj) hS 234 g0_234 rfl 2 (by decide) lk_18 rfl (by decide +kernel) (Nat.le_of_ble_eq_true rfl) s0_m1 dX4_forgetLatest_14 (fun H locs hP hS => ?_)
    obtain ⟨X_1, eX_1⟩ : ∃ Z : St, Z = u3 X 14 0 1 ((X 14 0 1) - 1) := ⟨_, rfl⟩
    rw [← eX_1] at hP
    refine lv_aload_n hx hb dX4_forgetLatest_17 rfl (lv_at hl 0 rfl) ?_
    refine xget (C := RX4) (T := TX4) (N := 4) (ci := 4) (w := .int (X_1 14 0 1)) hx hb hts hi_X4 hown hK hP 234 g0_234 rfl 2 (by decide) lk_18 rfl dX4_forgetLatest_18 ?_
    have hZ : X_1 = N_fl X := by
      subst eX_1
      try simp only [u3_sg, sg_sg]
      try unfold N_fl
      try dsimp only
      all_goals repeat (first | rw [ci_t c_4] | rw [ci_f c_4])
      all_goals (first | rfl | (rw [sg_self]) | (simp only [u3_sg, sg_sg, sg_g, b2_s]; done) | (simp only [u3_sg, sg_sg, sg_g, b2_s]; rfl))
    have hV : X_1 14 0 1 = a_fl X := by
      subst eX_1
      try simp only [u3_sg, sg_sg]
      try unfold a_fl
      try dsimp only
      all_goals repeat (first | rw [ci_t c_4] | rw [ci_f c_4])
      all_goals (first | rfl | (rw [sg_self]) | (simp only [u3_sg, sg_sg, sg_g, b2_s]; done) | (simp only [u3_sg, sg_sg, sg_g, b2_s]; rfl))
    exact retWE hx hb hr hlocks (by rw [← hZ]; exact hP) hS dX4_forgetLatest_21 hV
set_option maxHeartbeats 4000000 in
set_option maxRecDepth 100000 in
theorem c_X4_wasRevoked {l : Launch} {D : va_G} {cI cR : ClassId} {ad : Nat → Nat} (X : St) (q : Int32) : RoB l D cI cR (wC cI cR ad X) yX4_wasRevoked wsX4_wasRevoked ({ frames := 2, cells := 0, slots := 0, locals := 43 } : Room) [.ref (ad 234), .int q] (p_rev X q) := by
  refine OfW (cc := cX4_wasRevoked) (maxL := 4) (ret := (some .boolean)) (by decide +kernel) rfl (Nat.le_of_ble_eq_true rfl) (fun p e s m below meth c hx hb hr hts hown hlocks hml hnm hP hK hN ls hl => ?_)
  have hl : lv_has ls 4 [(0, .ref (ad 234)), (1, .int q)] := hl
  have lk_55 := hts (.fieldLink RX4 55 "HeadBudgets$Deed" "kind" "I") (by decide +kernel)
  have lk_58 := hts (.fieldLink RX4 58 "HeadBudgets$Deed" "subject" "I") (by decide +kernel)
  have hi_X2 : ∀ w ∈ wsX20, w ∈ wsX4_wasRevoked := by decide +kernel
  refine lv_iconst (v := 0) hx hb dX4_wasRevoked_0 (by decide) ?_
  refine lv_istore_n (lv' := [(2, .int 0), (0, .ref (ad 234)), (1, .int q)]) hx hb dX4_wasRevoked_1 rfl hl (by decide) rfl (fun ls hl => ?_)
  have hloop_2 : ∀ (n_2 : Nat) (k : Nat) (xk : Int32), k ≤ 12 → 12 < k + n_2 → xk = nI k → (∀ j : Nat, j < k → ¬ p_hit X q j) → ∀ ls : Array Slot, lv_has ls 4 [(0, .ref (ad 234)), (1, .int q), (2, .int xk)] → W p l e ({ frames := 2, cells := 0, slots := 0, locals := 43 } : Room) s m ([.ref (ad 234), .int q]).toArray below meth c s.heap [] 0 0 (MQ below (vp_Si (fun r => (r = 1 ∧ (p_rev X q)) ∨ (r = 0 ∧ ¬ (p_rev X q)))) ([.ref (ad 234), .int q]).toArray s 0 0 (fun _ => False)) (F0 m 2 ls []) := by
    intro n_2
    induction n_2 with
    | zero =>
      intro k xk hk hn ek ea ls hl
      exfalso; omega
    | succ n_2 ih_2 =>
      intro k xk hk hn ek ea ls hl
      refine lv_iload_n hx hb dX4_wasRevoked_2 rfl (lv_at hl 2 rfl) ?_
      refine lv_bipush (v := 12) hx hb dX4_wasRevoked_3 (by decide) ?_
      refine lv_icmp_ge (tgt := 43) hx hb dX4_wasRevoked_5 (by decide) (fun c_5 => ?_) (fun c_5 => ?_)
      · have hk2 : k = 12 := nI_ge12 hk (by rw [← ek]; exact c_5)
        subst hk2
        refine lv_iconst (v := 0) hx hb dX4_wasRevoked_43 (by decide) ?_
        exact retB0 hx hb hr hlocks dX4_wasRevoked_44 (fun z => z.elim (fun i z => ea i z.1 z.2))
      · have hlt : k < 12 := nI_lt12 (by omega) (by rw [← ek]; exact c_5)
        refine lv_aload_n hx hb dX4_wasRevoked_8 rfl (lv_at hl 0 rfl) ?_
        refine lv_iload_n hx hb dX4_wasRevoked_9 rfl (lv_at hl 2 rfl) ?_
        refine callQ (As := [.int xk]) (rest := []) ⟨hx, hb, hml, hown, hts⟩ (c_X4_recall X xk) (cwV 1 hts gX4_wasRevoked_X4_recall rfl rfl rfl (by decide +kernel) ⟨Nat.le_of_ble_eq_true rfl, Nat.le_of_ble_eq_true rfl⟩) hK hN hP 234 g0_234 rfl rfl hl.1 rfl (Nat.le_of_ble_eq_true rfl) dX4_wasRevoked_10 ⟨Nat.zero_le _, Nat.zero_le _⟩ ?_
        by_cases c_10 : p_norec X xk
        · rw [p_rec_none c_10]
          refine W.eq (g2 := F0 m 13 ls [.null]) rfl ?_
          refine lv_astore_nN (lv' := [(3, .null), (0, .ref (ad 234)), (1, .int q), (2, .int xk)]) hx hb dX4_wasRevoked_13 rfl hl (by decide) rfl (fun ls hl => ?_)
          refine lv_aload_nN hx hb dX4_wasRevoked_14 rfl (lv_at hl 0 rfl) ?_
          refine lv_ifnullN (tgt := 37) hx hb dX4_wasRevoked_15 (by decide) ?_
          refine lv_iinc (v := xk + 1) (lv' := [(2, .int (xk + 1)), (3, .null), (0, .ref (ad 234)), (1, .int q)]) hx hb dX4_wasRevoked_37 hl (k := 3) rfl rfl (by decide) rfl (fun ls hl => ?_)
          refine lv_goto (tgt := 2) hx hb dX4_wasRevoked_40 (by decide) ?_
          exact ih_2  (k + 1) _ (by omega) (by omega) (by rw [ek]; exact nI_1 k) (lt_s (p := fun j => ¬ p_hit X q j) ea (by unfold p_hit; rw [← ek]; first | exact fun z => z.1 c_10 | (rw [← ez_10]; first | exact fun z => c_24 z.2.1 | exact fun z => c_32 z.2.2))) _ (lv_sub hl [2, 3, 0] rfl)
        · rw [p_rec_some c_10]
          obtain ⟨z_10, ez_10, hz_10⟩ : ∃ z : Nat, z = (p_slot X xk).toNatClampNeg ∧ z < 12 := ⟨_, rfl, slot_lt _ _⟩
          rw [← ez_10]
          refine W.eq (g2 := F0 m 13 ls [.ref (ad (221 + z_10))]) rfl ?_
          refine lv_astore_n (lv' := [(3, .ref (ad (221 + z_10))), (0, .ref (ad 234)), (1, .int q), (2, .int xk)]) hx hb dX4_wasRevoked_13 rfl hl (by decide) rfl (fun ls hl => ?_)
          refine lv_aload_n hx hb dX4_wasRevoked_14 rfl (lv_at hl 0 rfl) ?_
          refine lv_ifnull hx hb dX4_wasRevoked_15 ?_
          refine lv_aload_n hx hb dX4_wasRevoked_18 rfl (lv_at hl 0 rfl) ?_
          refine xget (C := RX2) (T := TX2) (N := 6) (ci := 2) (w := .int (X 13 1 z_10)) hx hb hts hi_X2 hown hK hP ((221 + z_10)) (gd hz_10) rfl 2 (by decide) lk_55 rfl dX4_wasRevoked_19 ?_
          refine lv_bipush (v := 10) hx hb dX4_wasRevoked_22 (by decide) ?_
          refine lv_icmp_ne (tgt := 37) hx hb dX4_wasRevoked_24 (by decide) (fun c_24 => ?_) (fun c_24 => ?_)
          · refine lv_iinc (v := xk + 1) (lv' := [(2, .int (xk + 1)), (3, .ref (ad (221 + z_10))), (0, .ref (ad 234)), (1, .int q)]) hx hb dX4_wasRevoked_37 hl (k := 3) rfl rfl (by decide) rfl (fun ls hl => ?_)
            refine lv_goto (tgt := 2) hx hb dX4_wasRevoked_40 (by decide) ?_
            exact ih_2  (k + 1) _ (by omega) (by omega) (by rw [ek]; exact nI_1 k) (lt_s (p := fun j => ¬ p_hit X q j) ea (by unfold p_hit; rw [← ek]; first | exact fun z => z.1 c_10 | (rw [← ez_10]; first | exact fun z => c_24 z.2.1 | exact fun z => c_32 z.2.2))) _ (lv_sub hl [2, 3, 0] rfl)
          · refine lv_aload_n hx hb dX4_wasRevoked_27 rfl (lv_at hl 0 rfl) ?_
            refine xget (C := RX2) (T := TX2) (N := 6) (ci := 2) (w := .int (X 13 2 z_10)) hx hb hts hi_X2 hown hK hP ((221 + z_10)) (gd hz_10) rfl 3 (by decide) lk_58 rfl dX4_wasRevoked_28 ?_
            refine lv_iload_n hx hb dX4_wasRevoked_31 rfl (lv_at hl 2 rfl) ?_
            refine lv_icmp_ne (tgt := 37) hx hb dX4_wasRevoked_32 (by decide) (fun c_32 => ?_) (fun c_32 => ?_)
            · refine lv_iinc (v := xk + 1) (lv' := [(2, .int (xk + 1)), (3, .ref (ad (221 + z_10))), (0, .ref (ad 234)), (1, .int q)]) hx hb dX4_wasRevoked_37 hl (k := 3) rfl rfl (by decide) rfl (fun ls hl => ?_)
              refine lv_goto (tgt := 2) hx hb dX4_wasRevoked_40 (by decide) ?_
              exact ih_2  (k + 1) _ (by omega) (by omega) (by rw [ek]; exact nI_1 k) (lt_s (p := fun j => ¬ p_hit X q j) ea (by unfold p_hit; rw [← ek]; first | exact fun z => z.1 c_10 | (rw [← ez_10]; first | exact fun z => c_24 z.2.1 | exact fun z => c_32 z.2.2))) _ (lv_sub hl [2, 3, 0] rfl)
            · refine lv_iconst (v := 1) hx hb dX4_wasRevoked_35 (by decide) ?_
              exact retB1 hx hb hr hlocks dX4_wasRevoked_36 ⟨k, hlt, by unfold p_hit; rw [← ek, ← ez_10]; exact ⟨c_10, c_24, c_32⟩⟩
  exact hloop_2  13 0 0 (by omega) (by omega) rfl (fun j hj => absurd hj (Nat.not_lt_zero j)) _ (lv_sub hl [1, 2, 0] rfl)
end
section
set_option maxHeartbeats 4000000 in
set_option maxRecDepth 100000 in
theorem c_X5_make {l : Launch} {D : va_G} {cI cR : ClassId} {ad : Nat → Nat} (hdj : Dj 236 ad) (X : St) (a : Int32) (k : Int32) : WoE l D cI cR (Aw 236 ad) (wC cI cR ad X) (wC cI cR ad (opX X (g_make (X 0) a k) 0 (-9) (-9) 0 (n_make (X 0) a k))) yX5_make wsX5_make ({ frames := 5, cells := 0, slots := 0, locals := 150 } : Room) [.ref (ad 233), .int a, .int k] (opV (g_make (X 0) a k) (a_add (X 0))) := by
  refine OfW (cc := cX5_make) (maxL := 4) (ret := (some .int)) (by decide +kernel) rfl (Nat.le_of_ble_eq_true rfl) (fun p e s m below meth c hx hb hr hts hown hlocks hml hnm hP hK hN ls hl => ?_)
  have hl : lv_has ls 4 [(0, .ref (ad 233)), (1, .int a), (2, .int k)] := hl
  have lk_10 := hts (.fieldLink RX5 10 "HeadBudgets" "now" "LHeadBudgets$Books;") (by decide +kernel)
  have lk_23 := hts (.fieldLink RX5 23 "HeadBudgets$Books" "heads" "LHeadBudgets$Heads;") (by decide +kernel)
  have lk_37 := hts (.fieldLink RX5 37 "HeadBudgets$Heads" "depth" "[I") (by decide +kernel)
  have lk_41 := hts (.fieldLink RX5 41 "HeadBudgets$Heads" "made" "I") (by decide +kernel)
  have lk_19 := hts (.fieldLink RX5 19 "HeadBudgets" "memory" "LHeadBudgets$Memory;") (by decide +kernel)
  have hi_X0 : ∀ w ∈ wsX00, w ∈ wsX5_make := by decide +kernel
  have hi_X3 : ∀ w ∈ wsX30, w ∈ wsX5_make := by decide +kernel
  have hi_X5 : ∀ w ∈ wsX50, w ∈ wsX5_make := by decide +kernel
  have hS : va_S (Aw 236 ad) s.heap s.heap [] := va_S.rf
  have hP : va_P D vwCl (wC cI cR ad X) s.heap := hP
  refine lv_aload_n hx hb dX5_make_0 rfl (lv_at hl 0 rfl) ?_
  refine xget (C := RX5) (T := TX5) (N := 2) (ci := 5) (w := .ref (ad 0)) hx hb hts hi_X5 hown hK hP 233 g0_233 rfl 0 (by decide) lk_10 rfl dX5_make_1 ?_
  refine xget (C := RX0) (T := TX0) (N := 6) (ci := 0) (w := .ref (ad 1)) hx hb hts hi_X0 hown hK hP 0 g0_0 rfl 0 (by decide) lk_23 rfl dX5_make_4 ?_
  refine lv_astore_n (lv' := [(3, .ref (ad 1)), (0, .ref (ad 233)), (1, .int a), (2, .int k)]) hx hb dX5_make_7 rfl hl (by decide) rfl (fun ls hl => ?_)
  refine lv_aload_n hx hb dX5_make_8 rfl (lv_at hl 0 rfl) ?_
  refine lv_iload_n hx hb dX5_make_9 rfl (lv_at hl 2 rfl) ?_
  refine callB (As := [.int a]) (rest := []) ⟨hx, hb, hml, hown, hts⟩ (c_X3_has X a) (cwV 1 hts gX5_make_X3_has rfl rfl rfl (by decide +kernel) ⟨Nat.le_of_ble_eq_true rfl, Nat.le_of_ble_eq_true rfl⟩) hK hN hP 1 g0_1 rfl rfl hl.1 rfl (Nat.le_of_ble_eq_true rfl) dX5_make_10 ⟨Nat.zero_le _, Nat.zero_le _⟩ (fun c_10 => ?_) (fun c_10 => ?_)
  · refine lv_if_eq (tgt := 26) hx hb dX5_make_13 (by decide) (fun h9 => absurd h9 (by decide)) (fun _ => ?_)
    refine lv_iload_n hx hb dX5_make_16 rfl (lv_at hl 3 rfl) ?_
    refine lv_if_lt (tgt := 26) hx hb dX5_make_17 (by decide) (fun c_17 => ?_) (fun c_17 => ?_)
    · refine lv_iconst (v := (-1)) hx hb dX5_make_26 (by decide) ?_
      have hg : g_make (X 0) a k = (-1) := by unfold g_make; repeat (first | rw [ci_t c_10] | rw [ci_f c_10] | rw [ci_t c_17] | rw [ci_f c_17])
      exact retWE hx hb hr hlocks (by rw [opX_e hg (by decide)]; exact hP) hS dX5_make_27 (opV_e hg (by decide))
    · refine lv_iload_n hx hb dX5_make_20 rfl (lv_at hl 3 rfl) ?_
      refine lv_bipush (v := 9) hx hb dX5_make_21 (by decide) ?_
      refine lv_icmp_le (tgt := 28) hx hb dX5_make_23 (by decide) (fun c_23 => ?_) (fun c_23 => ?_)
      · refine lv_aload_n hx hb dX5_make_28 rfl (lv_at hl 0 rfl) ?_
        refine xget (C := RX3) (T := TX3) (N := 11) (ci := 3) (w := .ref (ad 3)) hx hb hts hi_X3 hown hK hP 1 g0_1 rfl 1 (by decide) lk_37 rfl dX5_make_29 ?_
        refine lv_iload_n hx hb dX5_make_32 rfl (lv_at hl 2 rfl) ?_
        refine xald (x := qv (X 0) 9 a) hx hb hK hP 3 g0_3 (in20h c_10) rfl dX5_make_33 ?_
        refine lv_iconst (v := 4) hx hb dX5_make_34 (by decide) ?_
        refine lv_icmp_lt (tgt := 41) hx hb dX5_make_35 (by decide) (fun c_35 => ?_) (fun c_35 => ?_)
        · refine lv_aload_n hx hb dX5_make_41 rfl (lv_at hl 0 rfl) ?_
          refine xget (C := RX3) (T := TX3) (N := 11) (ci := 3) (w := .int (X 0 14 1)) hx hb hts hi_X3 hown hK hP 1 g0_1 rfl 10 (by decide) lk_41 rfl dX5_make_42 ?_
          refine lv_bipush (v := 20) hx hb dX5_make_45 (by decide) ?_
          refine lv_icmp_lt (tgt := 53) hx hb dX5_make_47 (by decide) (fun c_47 => ?_) (fun c_47 => ?_)
          · refine lv_aload_n hx hb dX5_make_53 rfl (lv_at hl 1 rfl) ?_
            refine xget (C := RX5) (T := TX5) (N := 2) (ci := 5) (w := .ref (ad 234)) hx hb hts hi_X5 hown hK hP 233 g0_233 rfl 1 (by decide) lk_19 rfl dX5_make_54 ?_
            refine lv_iconst (v := 0) hx hb dX5_make_57 (by decide) ?_
            refine lv_aload_n hx hb dX5_make_58 rfl (lv_at hl 1 rfl) ?_
            refine xget (C := RX5) (T := TX5) (N := 2) (ci := 5) (w := .ref (ad 0)) hx hb hts hi_X5 hown hK hP 233 g0_233 rfl 0 (by decide) lk_10 rfl dX5_make_59 ?_
            refine callWV (As := [.int 0, .ref (ad 0)]) (rest := []) ⟨hx, hb, hml, hown, hts⟩ (c_X4_remember hdj X 0) (cwV 2 hts gX5_make_X4_remember rfl rfl rfl (by decide +kernel) ⟨Nat.le_of_ble_eq_true rfl, Nat.le_of_ble_eq_true rfl⟩) hK hN hP 234 g0_234 rfl rfl hl.1 rfl (Nat.le_of_ble_eq_true rfl) dX5_make_62 ⟨Nat.zero_le _, Nat.zero_le _⟩ hS (fun _ h9 => h9) (fun H locs hP hS => ?_)
            obtain ⟨X_1, eX_1⟩ : ∃ Z : St, Z = N_rem X 0 (-9) (-9) 0 := ⟨_, rfl⟩
            rw [← eX_1] at hP
            refine lv_aload_n hx hb dX5_make_65 rfl (lv_at hl 0 rfl) ?_
            refine lv_iload_n hx hb dX5_make_66 rfl (lv_at hl 2 rfl) ?_
            refine lv_iload_n hx hb dX5_make_67 rfl (lv_at hl 3 rfl) ?_
            refine callWE (As := [.int a, .int k]) (rest := []) ⟨hx, hb, hml, hown, hts⟩ (c_X3_add hdj X_1 a k) (cwV 2 hts gX5_make_X3_add rfl rfl rfl (by decide +kernel) ⟨Nat.le_of_ble_eq_true rfl, Nat.le_of_ble_eq_true rfl⟩) hK hN hP 1 g0_1 rfl rfl hl.1 rfl (Nat.le_of_ble_eq_true rfl) dX5_make_68 ⟨Nat.zero_le _, Nat.zero_le _⟩ hS (fun _ h9 => h9) (fun H locs hP hS _ _ => ?_)
            obtain ⟨X_2, eX_2⟩ : ∃ Z : St, Z = sg X_1 0 (b_add (X_1 0) a k) := ⟨_, rfl⟩
            rw [← eX_2] at hP
            have hg : g_make (X 0) a k = 0 := by unfold g_make; repeat (first | rw [ci_t c_10] | rw [ci_f c_10] | rw [ci_t c_17] | rw [ci_f c_17] | rw [ci_t c_23] | rw [ci_f c_23] | rw [ci_t c_35] | rw [ci_f c_35] | rw [ci_t c_47] | rw [ci_f c_47])
            have hZ : X_2 = sg (N_rem X 0 (-9) (-9) 0) 0 (n_make (X 0) a k) := by
              subst eX_2 eX_1
              try simp only [u3_sg, sg_sg, sg_g, N_rem_0]
              try unfold n_make
              try dsimp only
              all_goals repeat (first | rw [ci_t c_10] | rw [ci_f c_10] | rw [ci_t c_17] | rw [ci_f c_17] | rw [ci_t c_23] | rw [ci_f c_23] | rw [ci_t c_35] | rw [ci_f c_35] | rw [ci_t c_47] | rw [ci_f c_47])
              all_goals (first | rfl | (rw [sg_self]) | (simp only [u3_sg, sg_sg, sg_g, N_rem_0]; done) | (simp only [u3_sg, sg_sg, sg_g, N_rem_0]; rfl))
            have hV : a_add (X_1 0) = a_add (X 0) := by
              subst eX_2 eX_1
              try simp only [u3_sg, sg_sg, sg_g, N_rem_0]
              try dsimp only
              all_goals repeat (first | rw [ci_t c_10] | rw [ci_f c_10] | rw [ci_t c_17] | rw [ci_f c_17] | rw [ci_t c_23] | rw [ci_f c_23] | rw [ci_t c_35] | rw [ci_f c_35] | rw [ci_t c_47] | rw [ci_f c_47])
              all_goals (first | rfl | (rw [sg_self]) | (simp only [u3_sg, sg_sg, sg_g, N_rem_0]; done) | (simp only [u3_sg, sg_sg, sg_g, N_rem_0]; rfl))
            exact retWE hx hb hr hlocks (by rw [opX_0 hg, ← hZ]; exact hP) hS dX5_make_71 (by rw [opV_0 hg]; first | done | exact hV)
          · refine lv_bipush (v := (-3)) hx hb dX5_make_50 (by decide) ?_
            have hg : g_make (X 0) a k = (-3) := by unfold g_make; repeat (first | rw [ci_t c_10] | rw [ci_f c_10] | rw [ci_t c_17] | rw [ci_f c_17] | rw [ci_t c_23] | rw [ci_f c_23] | rw [ci_t c_35] | rw [ci_f c_35] | rw [ci_t c_47] | rw [ci_f c_47])
            exact retWE hx hb hr hlocks (by rw [opX_e hg (by decide)]; exact hP) hS dX5_make_52 (opV_e hg (by decide))
        · refine lv_bipush (v := (-2)) hx hb dX5_make_38 (by decide) ?_
          have hg : g_make (X 0) a k = (-2) := by unfold g_make; repeat (first | rw [ci_t c_10] | rw [ci_f c_10] | rw [ci_t c_17] | rw [ci_f c_17] | rw [ci_t c_23] | rw [ci_f c_23] | rw [ci_t c_35] | rw [ci_f c_35])
          exact retWE hx hb hr hlocks (by rw [opX_e hg (by decide)]; exact hP) hS dX5_make_40 (opV_e hg (by decide))
      · refine lv_iconst (v := (-1)) hx hb dX5_make_26 (by decide) ?_
        have hg : g_make (X 0) a k = (-1) := by unfold g_make; repeat (first | rw [ci_t c_10] | rw [ci_f c_10] | rw [ci_t c_17] | rw [ci_f c_17] | rw [ci_t c_23] | rw [ci_f c_23])
        exact retWE hx hb hr hlocks (by rw [opX_e hg (by decide)]; exact hP) hS dX5_make_27 (opV_e hg (by decide))
  · refine lv_if_eq (tgt := 26) hx hb dX5_make_13 (by decide) (fun _ => ?_) (fun h9 => absurd (by decide) h9)
    refine lv_iconst (v := (-1)) hx hb dX5_make_26 (by decide) ?_
    have hg : g_make (X 0) a k = (-1) := by unfold g_make; repeat (first | rw [ci_t c_10] | rw [ci_f c_10])
    exact retWE hx hb hr hlocks (by rw [opX_e hg (by decide)]; exact hP) hS dX5_make_27 (opV_e hg (by decide))
set_option maxHeartbeats 4000000 in
set_option maxRecDepth 100000 in
theorem c_X5_allot {l : Launch} {D : va_G} {cI cR : ClassId} {ad : Nat → Nat} (hdj : Dj 236 ad) (X : St) (h : Int32) (a : Int32) : WoE l D cI cR (Aw 236 ad) (wC cI cR ad X) (wC cI cR ad (opX X (g_allot (X 0) h a) 1 (-9) (-9) 0 (n_allot (X 0) h a))) yX5_allot wsX5_allot ({ frames := 5, cells := 0, slots := 0, locals := 150 } : Room) [.ref (ad 233), .int h, .int a] (opV (g_allot (X 0) h a) (qv (n_allot (X 0) h a) 3 h)) := by
  refine OfW (cc := cX5_allot) (maxL := 4) (ret := (some .int)) (by decide +kernel) rfl (Nat.le_of_ble_eq_true rfl) (fun p e s m below meth c hx hb hr hts hown hlocks hml hnm hP hK hN ls hl => ?_)
  have hl : lv_has ls 4 [(0, .ref (ad 233)), (1, .int h), (2, .int a)] := hl
  have lk_10 := hts (.fieldLink RX5 10 "HeadBudgets" "now" "LHeadBudgets$Books;") (by decide +kernel)
  have lk_23 := hts (.fieldLink RX5 23 "HeadBudgets$Books" "heads" "LHeadBudgets$Heads;") (by decide +kernel)
  have lk_52 := hts (.fieldLink RX5 52 "HeadBudgets$Heads" "allotment" "[I") (by decide +kernel)
  have lk_19 := hts (.fieldLink RX5 19 "HeadBudgets" "memory" "LHeadBudgets$Memory;") (by decide +kernel)
  have lk_56 := hts (.fieldLink RX5 56 "HeadBudgets$Heads" "allotted" "[I") (by decide +kernel)
  have hi_X0 : ∀ w ∈ wsX00, w ∈ wsX5_allot := by decide +kernel
  have hi_X3 : ∀ w ∈ wsX30, w ∈ wsX5_allot := by decide +kernel
  have hi_X5 : ∀ w ∈ wsX50, w ∈ wsX5_allot := by decide +kernel
  have hS : va_S (Aw 236 ad) s.heap s.heap [] := va_S.rf
  have hP : va_P D vwCl (wC cI cR ad X) s.heap := hP
  refine lv_aload_n hx hb dX5_allot_0 rfl (lv_at hl 0 rfl) ?_
  refine xget (C := RX5) (T := TX5) (N := 2) (ci := 5) (w := .ref (ad 0)) hx hb hts hi_X5 hown hK hP 233 g0_233 rfl 0 (by decide) lk_10 rfl dX5_allot_1 ?_
  refine xget (C := RX0) (T := TX0) (N := 6) (ci := 0) (w := .ref (ad 1)) hx hb hts hi_X0 hown hK hP 0 g0_0 rfl 0 (by decide) lk_23 rfl dX5_allot_4 ?_
  refine lv_astore_n (lv' := [(3, .ref (ad 1)), (0, .ref (ad 233)), (1, .int h), (2, .int a)]) hx hb dX5_allot_7 rfl hl (by decide) rfl (fun ls hl => ?_)
  refine lv_aload_n hx hb dX5_allot_8 rfl (lv_at hl 0 rfl) ?_
  refine lv_iload_n hx hb dX5_allot_9 rfl (lv_at hl 2 rfl) ?_
  refine callB (As := [.int h]) (rest := []) ⟨hx, hb, hml, hown, hts⟩ (c_X3_has X h) (cwV 1 hts gX5_allot_X3_has rfl rfl rfl (by decide +kernel) ⟨Nat.le_of_ble_eq_true rfl, Nat.le_of_ble_eq_true rfl⟩) hK hN hP 1 g0_1 rfl rfl hl.1 rfl (Nat.le_of_ble_eq_true rfl) dX5_allot_10 ⟨Nat.zero_le _, Nat.zero_le _⟩ (fun c_10 => ?_) (fun c_10 => ?_)
  · refine lv_if_eq (tgt := 23) hx hb dX5_allot_13 (by decide) (fun h9 => absurd h9 (by decide)) (fun _ => ?_)
    refine lv_iload_n hx hb dX5_allot_16 rfl (lv_at hl 3 rfl) ?_
    refine callSB (As := [.int a]) (rest := []) ⟨hx, hb, hml, hown, hts⟩ (c_X5_isAmount a) (va_cwS 1 hts gX5_allot_X5_isAmount rfl rfl rfl (by decide +kernel) ⟨Nat.le_of_ble_eq_true rfl, Nat.le_of_ble_eq_true rfl⟩) hK hN rfl hl.1 rfl (Nat.le_of_ble_eq_true rfl) dX5_allot_17 ⟨Nat.zero_le _, Nat.zero_le _⟩ (fun c_17 => ?_) (fun c_17 => ?_)
    · refine lv_if_ne (tgt := 25) hx hb dX5_allot_20 (by decide) (fun _ => ?_) (fun h9 => absurd h9 (by decide))
      refine lv_aload_n hx hb dX5_allot_25 rfl (lv_at hl 0 rfl) ?_
      refine xget (C := RX3) (T := TX3) (N := 11) (ci := 3) (w := .ref (ad 6)) hx hb hts hi_X3 hown hK hP 1 g0_1 rfl 4 (by decide) lk_52 rfl dX5_allot_26 ?_
      refine lv_iload_n hx hb dX5_allot_29 rfl (lv_at hl 2 rfl) ?_
      refine xald (x := qv (X 0) 3 h) hx hb hK hP 6 g0_6 (in20h c_10) rfl dX5_allot_30 ?_
      refine lv_ldc (v := 1000000) hx hb hown (hts (.constant RX5 55 1000000) (by decide +kernel)) dX5_allot_31 ?_
      refine lv_iload_n hx hb dX5_allot_33 rfl (lv_at hl 3 rfl) ?_
      refine lv_isub hx hb dX5_allot_34 ?_
      refine lv_icmp_le (tgt := 41) hx hb dX5_allot_35 (by decide) (fun c_35 => ?_) (fun c_35 => ?_)
      · refine lv_aload_n hx hb dX5_allot_41 rfl (lv_at hl 1 rfl) ?_
        refine xget (C := RX5) (T := TX5) (N := 2) (ci := 5) (w := .ref (ad 234)) hx hb hts hi_X5 hown hK hP 233 g0_233 rfl 1 (by decide) lk_19 rfl dX5_allot_42 ?_
        refine lv_iconst (v := 1) hx hb dX5_allot_45 (by decide) ?_
        refine lv_aload_n hx hb dX5_allot_46 rfl (lv_at hl 1 rfl) ?_
        refine xget (C := RX5) (T := TX5) (N := 2) (ci := 5) (w := .ref (ad 0)) hx hb hts hi_X5 hown hK hP 233 g0_233 rfl 0 (by decide) lk_10 rfl dX5_allot_47 ?_
        refine callWV (As := [.int 1, .ref (ad 0)]) (rest := []) ⟨hx, hb, hml, hown, hts⟩ (c_X4_remember hdj X 1) (cwV 2 hts gX5_allot_X4_remember rfl rfl rfl (by decide +kernel) ⟨Nat.le_of_ble_eq_true rfl, Nat.le_of_ble_eq_true rfl⟩) hK hN hP 234 g0_234 rfl rfl hl.1 rfl (Nat.le_of_ble_eq_true rfl) dX5_allot_50 ⟨Nat.zero_le _, Nat.zero_le _⟩ hS (fun _ h9 => h9) (fun H locs hP hS => ?_)
        obtain ⟨X_1, eX_1⟩ : ∃ Z : St, Z = N_rem X 1 (-9) (-9) 0 := ⟨_, rfl⟩
        rw [← eX_1] at hP
        refine lv_aload_n hx hb dX5_allot_53 rfl (lv_at hl 0 rfl) ?_
        refine xget (C := RX3) (T := TX3) (N := 11) (ci := 3) (w := .ref (ad 6)) hx hb hts hi_X3 hown hK hP 1 g0_1 rfl 4 (by decide) lk_52 rfl dX5_allot_54 ?_
        refine lv_iload_n hx hb dX5_allot_57 rfl (lv_at hl 2 rfl) ?_
        refine lv_dup2_11 hx hb dX5_allot_58 rfl rfl ?_
        refine xald (x := qv (X_1 0) 3 h) hx hb hK hP 6 g0_6 (in20h c_10) rfl dX5_allot_59 ?_
        refine lv_iload_n hx hb dX5_allot_60 rfl (lv_at hl 3 rfl) ?_
        refine lv_iadd hx hb dX5_allot_61 ?_
        refine xast hx hb hK hP (wC_D hdj) hS 6 g0_6 (in20h c_10) s0_3 dX5_allot_62 (fun H locs hP hS => ?_)
        obtain ⟨X_2, eX_2⟩ : ∃ Z : St, Z = u3 X_1 0 3 h.toNatClampNeg ((qv (X_1 0) 3 h) + a) := ⟨_, rfl⟩
        rw [← eX_2] at hP
        refine lv_aload_n hx hb dX5_allot_63 rfl (lv_at hl 0 rfl) ?_
        refine xget (C := RX3) (T := TX3) (N := 11) (ci := 3) (w := .ref (ad 9)) hx hb hts hi_X3 hown hK hP 1 g0_1 rfl 7 (by decide) lk_56 rfl dX5_allot_64 ?_
        refine lv_iload_n hx hb dX5_allot_67 rfl (lv_at hl 2 rfl) ?_
        refine lv_dup2_11 hx hb dX5_allot_68 rfl rfl ?_
        refine xald (x := qv (X_2 0) 6 h) hx hb hK hP 9 g0_9 (in20h c_10) rfl dX5_allot_69 ?_
        refine lv_iload_n hx hb dX5_allot_70 rfl (lv_at hl 3 rfl) ?_
        refine lv_iadd hx hb dX5_allot_71 ?_
        refine xast hx hb hK hP (wC_D hdj) hS 9 g0_9 (in20h c_10) s0_6 dX5_allot_72 (fun H locs hP hS => ?_)
        obtain ⟨X_3, eX_3⟩ : ∃ Z : St, Z = u3 X_2 0 6 h.toNatClampNeg ((qv (X_2 0) 6 h) + a) := ⟨_, rfl⟩
        rw [← eX_3] at hP
        refine lv_aload_n hx hb dX5_allot_73 rfl (lv_at hl 0 rfl) ?_
        refine xget (C := RX3) (T := TX3) (N := 11) (ci := 3) (w := .ref (ad 6)) hx hb hts hi_X3 hown hK hP 1 g0_1 rfl 4 (by decide) lk_52 rfl dX5_allot_74 ?_
        refine lv_iload_n hx hb dX5_allot_77 rfl (lv_at hl 2 rfl) ?_
        refine xald (x := qv (X_3 0) 3 h) hx hb hK hP 6 g0_6 (in20h c_10) rfl dX5_allot_78 ?_
        have hg : g_allot (X 0) h a = 0 := by unfold g_allot; repeat (first | rw [ci_t c_10] | rw [ci_f c_10] | rw [ci_t c_17] | rw [ci_f c_17] | rw [ci_t c_35] | rw [ci_f c_35])
        have hZ : X_3 = sg (N_rem X 1 (-9) (-9) 0) 0 (n_allot (X 0) h a) := by
          subst eX_3 eX_2 eX_1
          try simp only [u3_sg, sg_sg, sg_g, N_rem_0]
          try unfold n_allot
          try dsimp only
          all_goals repeat (first | rw [ci_t c_10] | rw [ci_f c_10] | rw [ci_t c_17] | rw [ci_f c_17] | rw [ci_t c_35] | rw [ci_f c_35])
          all_goals (first | rfl | (rw [sg_self]) | (simp only [u3_sg, sg_sg, sg_g, N_rem_0]; done) | (simp only [u3_sg, sg_sg, sg_g, N_rem_0]; rfl))
        have hV : qv (X_3 0) 3 h = qv (n_allot (X 0) h a) 3 h := by
          subst eX_3 eX_2 eX_1
          try simp only [u3_sg, sg_sg, sg_g, N_rem_0]
          try unfold n_allot
          try dsimp only
          all_goals repeat (first | rw [ci_t c_10] | rw [ci_f c_10] | rw [ci_t c_17] | rw [ci_f c_17] | rw [ci_t c_35] | rw [ci_f c_35])
          all_goals (first | rfl | (rw [sg_self]) | (simp only [u3_sg, sg_sg, sg_g, N_rem_0]; done) | (simp only [u3_sg, sg_sg, sg_g, N_rem_0]; rfl))
        exact retWE hx hb hr hlocks (by rw [opX_0 hg, ← hZ]; exact hP) hS dX5_allot_79 (by rw [opV_0 hg]; first | done | exact hV)
      · refine lv_bipush (v := (-3)) hx hb dX5_allot_38 (by decide) ?_
        have hg : g_allot (X 0) h a = (-3) := by unfold g_allot; repeat (first | rw [ci_t c_10] | rw [ci_f c_10] | rw [ci_t c_17] | rw [ci_f c_17] | rw [ci_t c_35] | rw [ci_f c_35])
        exact retWE hx hb hr hlocks (by rw [opX_e hg (by decide)]; exact hP) hS dX5_allot_40 (opV_e hg (by decide))
    · refine lv_if_ne (tgt := 25) hx hb dX5_allot_20 (by decide) (fun h9 => absurd (by decide) h9) (fun _ => ?_)
      refine lv_iconst (v := (-1)) hx hb dX5_allot_23 (by decide) ?_
      have hg : g_allot (X 0) h a = (-1) := by unfold g_allot; repeat (first | rw [ci_t c_10] | rw [ci_f c_10] | rw [ci_t c_17] | rw [ci_f c_17])
      exact retWE hx hb hr hlocks (by rw [opX_e hg (by decide)]; exact hP) hS dX5_allot_24 (opV_e hg (by decide))
  · refine lv_if_eq (tgt := 23) hx hb dX5_allot_13 (by decide) (fun _ => ?_) (fun h9 => absurd (by decide) h9)
    refine lv_iconst (v := (-1)) hx hb dX5_allot_23 (by decide) ?_
    have hg : g_allot (X 0) h a = (-1) := by unfold g_allot; repeat (first | rw [ci_t c_10] | rw [ci_f c_10])
    exact retWE hx hb hr hlocks (by rw [opX_e hg (by decide)]; exact hP) hS dX5_allot_24 (opV_e hg (by decide))
set_option maxHeartbeats 4000000 in
set_option maxRecDepth 100000 in
theorem c_X5_freeze {l : Launch} {D : va_G} {cI cR : ClassId} {ad : Nat → Nat} (hdj : Dj 236 ad) (X : St) (h : Int32) (x : Int32) : WoE l D cI cR (Aw 236 ad) (wC cI cR ad X) (wC cI cR ad (opX X (g_freeze (X 0) h x) 2 (-9) (-9) 0 (n_freeze (X 0) h x))) yX5_freeze wsX5_freeze ({ frames := 5, cells := 0, slots := 0, locals := 150 } : Room) [.ref (ad 233), .int h, .int x] (opV (g_freeze (X 0) h x) (p_cntb (n_freeze (X 0) h x) 20)) := by
  refine OfW (cc := cX5_freeze) (maxL := 4) (ret := (some .int)) (by decide +kernel) rfl (Nat.le_of_ble_eq_true rfl) (fun p e s m below meth c hx hb hr hts hown hlocks hml hnm hP hK hN ls hl => ?_)
  have hl : lv_has ls 4 [(0, .ref (ad 233)), (1, .int h), (2, .int x)] := hl
  have lk_10 := hts (.fieldLink RX5 10 "HeadBudgets" "now" "LHeadBudgets$Books;") (by decide +kernel)
  have lk_23 := hts (.fieldLink RX5 23 "HeadBudgets$Books" "heads" "LHeadBudgets$Heads;") (by decide +kernel)
  have lk_59 := hts (.fieldLink RX5 59 "HeadBudgets$Heads" "frozen" "[I") (by decide +kernel)
  have lk_19 := hts (.fieldLink RX5 19 "HeadBudgets" "memory" "LHeadBudgets$Memory;") (by decide +kernel)
  have hi_X0 : ∀ w ∈ wsX00, w ∈ wsX5_freeze := by decide +kernel
  have hi_X3 : ∀ w ∈ wsX30, w ∈ wsX5_freeze := by decide +kernel
  have hi_X5 : ∀ w ∈ wsX50, w ∈ wsX5_freeze := by decide +kernel
  have hS : va_S (Aw 236 ad) s.heap s.heap [] := va_S.rf
  have hP : va_P D vwCl (wC cI cR ad X) s.heap := hP
  refine lv_aload_n hx hb dX5_freeze_0 rfl (lv_at hl 0 rfl) ?_
  refine xget (C := RX5) (T := TX5) (N := 2) (ci := 5) (w := .ref (ad 0)) hx hb hts hi_X5 hown hK hP 233 g0_233 rfl 0 (by decide) lk_10 rfl dX5_freeze_1 ?_
  refine xget (C := RX0) (T := TX0) (N := 6) (ci := 0) (w := .ref (ad 1)) hx hb hts hi_X0 hown hK hP 0 g0_0 rfl 0 (by decide) lk_23 rfl dX5_freeze_4 ?_
  refine lv_astore_n (lv' := [(3, .ref (ad 1)), (0, .ref (ad 233)), (1, .int h), (2, .int x)]) hx hb dX5_freeze_7 rfl hl (by decide) rfl (fun ls hl => ?_)
  refine lv_aload_n hx hb dX5_freeze_8 rfl (lv_at hl 0 rfl) ?_
  refine lv_iload_n hx hb dX5_freeze_9 rfl (lv_at hl 2 rfl) ?_
  refine callB (As := [.int h]) (rest := []) ⟨hx, hb, hml, hown, hts⟩ (c_X3_has X h) (cwV 1 hts gX5_freeze_X3_has rfl rfl rfl (by decide +kernel) ⟨Nat.le_of_ble_eq_true rfl, Nat.le_of_ble_eq_true rfl⟩) hK hN hP 1 g0_1 rfl rfl hl.1 rfl (Nat.le_of_ble_eq_true rfl) dX5_freeze_10 ⟨Nat.zero_le _, Nat.zero_le _⟩ (fun c_10 => ?_) (fun c_10 => ?_)
  · refine lv_if_eq (tgt := 25) hx hb dX5_freeze_13 (by decide) (fun h9 => absurd h9 (by decide)) (fun _ => ?_)
    refine lv_iload_n hx hb dX5_freeze_16 rfl (lv_at hl 3 rfl) ?_
    refine lv_if_lt (tgt := 25) hx hb dX5_freeze_17 (by decide) (fun c_17 => ?_) (fun c_17 => ?_)
    · refine lv_iconst (v := (-1)) hx hb dX5_freeze_25 (by decide) ?_
      have hg : g_freeze (X 0) h x = (-1) := by unfold g_freeze; repeat (first | rw [ci_t c_10] | rw [ci_f c_10] | rw [ci_t c_17] | rw [ci_f c_17])
      exact retWE hx hb hr hlocks (by rw [opX_e hg (by decide)]; exact hP) hS dX5_freeze_26 (opV_e hg (by decide))
    · refine lv_iload_n hx hb dX5_freeze_20 rfl (lv_at hl 3 rfl) ?_
      refine lv_iconst (v := 1) hx hb dX5_freeze_21 (by decide) ?_
      refine lv_icmp_le (tgt := 27) hx hb dX5_freeze_22 (by decide) (fun c_22 => ?_) (fun c_22 => ?_)
      · refine lv_aload_n hx hb dX5_freeze_27 rfl (lv_at hl 0 rfl) ?_
        refine xget (C := RX3) (T := TX3) (N := 11) (ci := 3) (w := .ref (ad 5)) hx hb hts hi_X3 hown hK hP 1 g0_1 rfl 3 (by decide) lk_59 rfl dX5_freeze_28 ?_
        refine lv_iload_n hx hb dX5_freeze_31 rfl (lv_at hl 2 rfl) ?_
        refine xald (x := qv (X 0) 2 h) hx hb hK hP 5 g0_5 (in20h c_10) rfl dX5_freeze_32 ?_
        refine lv_iload_n hx hb dX5_freeze_33 rfl (lv_at hl 3 rfl) ?_
        refine lv_icmp_ne (tgt := 40) hx hb dX5_freeze_34 (by decide) (fun c_34 => ?_) (fun c_34 => ?_)
        · refine lv_aload_n hx hb dX5_freeze_40 rfl (lv_at hl 1 rfl) ?_
          refine xget (C := RX5) (T := TX5) (N := 2) (ci := 5) (w := .ref (ad 234)) hx hb hts hi_X5 hown hK hP 233 g0_233 rfl 1 (by decide) lk_19 rfl dX5_freeze_41 ?_
          refine lv_iconst (v := 2) hx hb dX5_freeze_44 (by decide) ?_
          refine lv_aload_n hx hb dX5_freeze_45 rfl (lv_at hl 1 rfl) ?_
          refine xget (C := RX5) (T := TX5) (N := 2) (ci := 5) (w := .ref (ad 0)) hx hb hts hi_X5 hown hK hP 233 g0_233 rfl 0 (by decide) lk_10 rfl dX5_freeze_46 ?_
          refine callWV (As := [.int 2, .ref (ad 0)]) (rest := []) ⟨hx, hb, hml, hown, hts⟩ (c_X4_remember hdj X 2) (cwV 2 hts gX5_freeze_X4_remember rfl rfl rfl (by decide +kernel) ⟨Nat.le_of_ble_eq_true rfl, Nat.le_of_ble_eq_true rfl⟩) hK hN hP 234 g0_234 rfl rfl hl.1 rfl (Nat.le_of_ble_eq_true rfl) dX5_freeze_49 ⟨Nat.zero_le _, Nat.zero_le _⟩ hS (fun _ h9 => h9) (fun H locs hP hS => ?_)
          obtain ⟨X_1, eX_1⟩ : ∃ Z : St, Z = N_rem X 2 (-9) (-9) 0 := ⟨_, rfl⟩
          rw [← eX_1] at hP
          refine lv_aload_n hx hb dX5_freeze_52 rfl (lv_at hl 0 rfl) ?_
          refine xget (C := RX3) (T := TX3) (N := 11) (ci := 3) (w := .ref (ad 5)) hx hb hts hi_X3 hown hK hP 1 g0_1 rfl 3 (by decide) lk_59 rfl dX5_freeze_53 ?_
          refine lv_iload_n hx hb dX5_freeze_56 rfl (lv_at hl 2 rfl) ?_
          refine lv_iload_n hx hb dX5_freeze_57 rfl (lv_at hl 3 rfl) ?_
          refine xast hx hb hK hP (wC_D hdj) hS 5 g0_5 (in20h c_10) s0_2 dX5_freeze_58 (fun H locs hP hS => ?_)
          obtain ⟨X_2, eX_2⟩ : ∃ Z : St, Z = u3 X_1 0 2 h.toNatClampNeg x := ⟨_, rfl⟩
          rw [← eX_2] at hP
          refine lv_aload_n hx hb dX5_freeze_59 rfl (lv_at hl 0 rfl) ?_
          refine callE (As := []) (rest := []) ⟨hx, hb, hml, hown, hts⟩ (c_X3_countBarred X_2) (cwV 0 hts gX5_freeze_X3_countBarred rfl rfl rfl (by decide +kernel) ⟨Nat.le_of_ble_eq_true rfl, Nat.le_of_ble_eq_true rfl⟩) hK hN hP 1 g0_1 rfl rfl hl.1 rfl (Nat.le_of_ble_eq_true rfl) dX5_freeze_60 ⟨Nat.zero_le _, Nat.zero_le _⟩ ?_
          have hg : g_freeze (X 0) h x = 0 := by unfold g_freeze; repeat (first | rw [ci_t c_10] | rw [ci_f c_10] | rw [ci_t c_17] | rw [ci_f c_17] | rw [ci_t c_22] | rw [ci_f c_22] | rw [ci_t c_34] | rw [ci_f c_34])
          have hZ : X_2 = sg (N_rem X 2 (-9) (-9) 0) 0 (n_freeze (X 0) h x) := by
            subst eX_2 eX_1
            try simp only [u3_sg, sg_sg, sg_g, N_rem_0]
            try unfold n_freeze
            try dsimp only
            all_goals repeat (first | rw [ci_t c_10] | rw [ci_f c_10] | rw [ci_t c_17] | rw [ci_f c_17] | rw [ci_t c_22] | rw [ci_f c_22] | rw [ci_t c_34] | rw [ci_f c_34])
            all_goals (first | rfl | (rw [sg_self]) | (simp only [u3_sg, sg_sg, sg_g, N_rem_0]; done) | (simp only [u3_sg, sg_sg, sg_g, N_rem_0]; rfl))
          have hV : p_cntb (X_2 0) 20 = p_cntb (n_freeze (X 0) h x) 20 := by
            subst eX_2 eX_1
            try simp only [u3_sg, sg_sg, sg_g, N_rem_0]
            try unfold n_freeze
            try dsimp only
            all_goals repeat (first | rw [ci_t c_10] | rw [ci_f c_10] | rw [ci_t c_17] | rw [ci_f c_17] | rw [ci_t c_22] | rw [ci_f c_22] | rw [ci_t c_34] | rw [ci_f c_34])
            all_goals (first | rfl | (rw [sg_self]) | (simp only [u3_sg, sg_sg, sg_g, N_rem_0]; done) | (simp only [u3_sg, sg_sg, sg_g, N_rem_0]; rfl))
          exact retWE hx hb hr hlocks (by rw [opX_0 hg, ← hZ]; exact hP) hS dX5_freeze_63 (by rw [opV_0 hg]; first | done | exact hV)
        · refine lv_bipush (v := (-2)) hx hb dX5_freeze_37 (by decide) ?_
          have hg : g_freeze (X 0) h x = (-2) := by unfold g_freeze; repeat (first | rw [ci_t c_10] | rw [ci_f c_10] | rw [ci_t c_17] | rw [ci_f c_17] | rw [ci_t c_22] | rw [ci_f c_22] | rw [ci_t c_34] | rw [ci_f c_34])
          exact retWE hx hb hr hlocks (by rw [opX_e hg (by decide)]; exact hP) hS dX5_freeze_39 (opV_e hg (by decide))
      · refine lv_iconst (v := (-1)) hx hb dX5_freeze_25 (by decide) ?_
        have hg : g_freeze (X 0) h x = (-1) := by unfold g_freeze; repeat (first | rw [ci_t c_10] | rw [ci_f c_10] | rw [ci_t c_17] | rw [ci_f c_17] | rw [ci_t c_22] | rw [ci_f c_22])
        exact retWE hx hb hr hlocks (by rw [opX_e hg (by decide)]; exact hP) hS dX5_freeze_26 (opV_e hg (by decide))
  · refine lv_if_eq (tgt := 25) hx hb dX5_freeze_13 (by decide) (fun _ => ?_) (fun h9 => absurd (by decide) h9)
    refine lv_iconst (v := (-1)) hx hb dX5_freeze_25 (by decide) ?_
    have hg : g_freeze (X 0) h x = (-1) := by unfold g_freeze; repeat (first | rw [ci_t c_10] | rw [ci_f c_10])
    exact retWE hx hb hr hlocks (by rw [opX_e hg (by decide)]; exact hP) hS dX5_freeze_26 (opV_e hg (by decide))
set_option maxHeartbeats 4000000 in
set_option maxRecDepth 100000 in
theorem c_X5_setShare {l : Launch} {D : va_G} {cI cR : ClassId} {ad : Nat → Nat} (hdj : Dj 236 ad) (X : St) (h : Int32) (x : Int32) : WoE l D cI cR (Aw 236 ad) (wC cI cR ad X) (wC cI cR ad (opX X (g_setShare (X 0) h x) 3 (-9) (-9) 0 (n_setShare (X 0) h x))) yX5_setShare wsX5_setShare ({ frames := 5, cells := 0, slots := 0, locals := 150 } : Room) [.ref (ad 233), .int h, .int x] (opV (g_setShare (X 0) h x) (qv (X 0) 8 h)) := by
  refine OfW (cc := cX5_setShare) (maxL := 5) (ret := (some .int)) (by decide +kernel) rfl (Nat.le_of_ble_eq_true rfl) (fun p e s m below meth c hx hb hr hts hown hlocks hml hnm hP hK hN ls hl => ?_)
  have hl : lv_has ls 5 [(0, .ref (ad 233)), (1, .int h), (2, .int x)] := hl
  have lk_10 := hts (.fieldLink RX5 10 "HeadBudgets" "now" "LHeadBudgets$Books;") (by decide +kernel)
  have lk_23 := hts (.fieldLink RX5 23 "HeadBudgets$Books" "heads" "LHeadBudgets$Heads;") (by decide +kernel)
  have lk_19 := hts (.fieldLink RX5 19 "HeadBudgets" "memory" "LHeadBudgets$Memory;") (by decide +kernel)
  have lk_69 := hts (.fieldLink RX5 69 "HeadBudgets$Heads" "share" "[I") (by decide +kernel)
  have hi_X0 : ∀ w ∈ wsX00, w ∈ wsX5_setShare := by decide +kernel
  have hi_X3 : ∀ w ∈ wsX30, w ∈ wsX5_setShare := by decide +kernel
  have hi_X5 : ∀ w ∈ wsX50, w ∈ wsX5_setShare := by decide +kernel
  have hS : va_S (Aw 236 ad) s.heap s.heap [] := va_S.rf
  have hP : va_P D vwCl (wC cI cR ad X) s.heap := hP
  refine lv_aload_n hx hb dX5_setShare_0 rfl (lv_at hl 0 rfl) ?_
  refine xget (C := RX5) (T := TX5) (N := 2) (ci := 5) (w := .ref (ad 0)) hx hb hts hi_X5 hown hK hP 233 g0_233 rfl 0 (by decide) lk_10 rfl dX5_setShare_1 ?_
  refine xget (C := RX0) (T := TX0) (N := 6) (ci := 0) (w := .ref (ad 1)) hx hb hts hi_X0 hown hK hP 0 g0_0 rfl 0 (by decide) lk_23 rfl dX5_setShare_4 ?_
  refine lv_astore_n (lv' := [(3, .ref (ad 1)), (0, .ref (ad 233)), (1, .int h), (2, .int x)]) hx hb dX5_setShare_7 rfl hl (by decide) rfl (fun ls hl => ?_)
  refine lv_aload_n hx hb dX5_setShare_8 rfl (lv_at hl 0 rfl) ?_
  refine lv_iload_n hx hb dX5_setShare_9 rfl (lv_at hl 2 rfl) ?_
  refine callB (As := [.int h]) (rest := []) ⟨hx, hb, hml, hown, hts⟩ (c_X3_has X h) (cwV 1 hts gX5_setShare_X3_has rfl rfl rfl (by decide +kernel) ⟨Nat.le_of_ble_eq_true rfl, Nat.le_of_ble_eq_true rfl⟩) hK hN hP 1 g0_1 rfl rfl hl.1 rfl (Nat.le_of_ble_eq_true rfl) dX5_setShare_10 ⟨Nat.zero_le _, Nat.zero_le _⟩ (fun c_10 => ?_) (fun c_10 => ?_)
  · refine lv_if_eq (tgt := 23) hx hb dX5_setShare_13 (by decide) (fun h9 => absurd h9 (by decide)) (fun _ => ?_)
    refine lv_iload_n hx hb dX5_setShare_16 rfl (lv_at hl 3 rfl) ?_
    refine callSB (As := [.int x]) (rest := []) ⟨hx, hb, hml, hown, hts⟩ (c_X5_isPercentage x) (va_cwS 1 hts gX5_setShare_X5_isPercentage rfl rfl rfl (by decide +kernel) ⟨Nat.le_of_ble_eq_true rfl, Nat.le_of_ble_eq_true rfl⟩) hK hN rfl hl.1 rfl (Nat.le_of_ble_eq_true rfl) dX5_setShare_17 ⟨Nat.zero_le _, Nat.zero_le _⟩ (fun c_17 => ?_) (fun c_17 => ?_)
    · refine lv_if_ne (tgt := 25) hx hb dX5_setShare_20 (by decide) (fun _ => ?_) (fun h9 => absurd h9 (by decide))
      refine lv_aload_n hx hb dX5_setShare_25 rfl (lv_at hl 1 rfl) ?_
      refine xget (C := RX5) (T := TX5) (N := 2) (ci := 5) (w := .ref (ad 234)) hx hb hts hi_X5 hown hK hP 233 g0_233 rfl 1 (by decide) lk_19 rfl dX5_setShare_26 ?_
      refine lv_iconst (v := 3) hx hb dX5_setShare_29 (by decide) ?_
      refine lv_aload_n hx hb dX5_setShare_30 rfl (lv_at hl 1 rfl) ?_
      refine xget (C := RX5) (T := TX5) (N := 2) (ci := 5) (w := .ref (ad 0)) hx hb hts hi_X5 hown hK hP 233 g0_233 rfl 0 (by decide) lk_10 rfl dX5_setShare_31 ?_
      refine callWV (As := [.int 3, .ref (ad 0)]) (rest := []) ⟨hx, hb, hml, hown, hts⟩ (c_X4_remember hdj X 3) (cwV 2 hts gX5_setShare_X4_remember rfl rfl rfl (by decide +kernel) ⟨Nat.le_of_ble_eq_true rfl, Nat.le_of_ble_eq_true rfl⟩) hK hN hP 234 g0_234 rfl rfl hl.1 rfl (Nat.le_of_ble_eq_true rfl) dX5_setShare_34 ⟨Nat.zero_le _, Nat.zero_le _⟩ hS (fun _ h9 => h9) (fun H locs hP hS => ?_)
      obtain ⟨X_1, eX_1⟩ : ∃ Z : St, Z = N_rem X 3 (-9) (-9) 0 := ⟨_, rfl⟩
      rw [← eX_1] at hP
      refine lv_aload_n hx hb dX5_setShare_37 rfl (lv_at hl 0 rfl) ?_
      refine xget (C := RX3) (T := TX3) (N := 11) (ci := 3) (w := .ref (ad 11)) hx hb hts hi_X3 hown hK hP 1 g0_1 rfl 9 (by decide) lk_69 rfl dX5_setShare_38 ?_
      refine lv_iload_n hx hb dX5_setShare_41 rfl (lv_at hl 2 rfl) ?_
      refine xald (x := qv (X_1 0) 8 h) hx hb hK hP 11 g0_11 (in20h c_10) rfl dX5_setShare_42 ?_
      refine lv_istore (lv' := [(4, .int (qv (X_1 0) 8 h)), (3, .ref (ad 1)), (0, .ref (ad 233)), (1, .int h), (2, .int x)]) hx hb dX5_setShare_43 hl (by decide) rfl (fun ls hl => ?_)
      refine lv_aload_n hx hb dX5_setShare_45 rfl (lv_at hl 1 rfl) ?_
      refine xget (C := RX3) (T := TX3) (N := 11) (ci := 3) (w := .ref (ad 11)) hx hb hts hi_X3 hown hK hP 1 g0_1 rfl 9 (by decide) lk_69 rfl dX5_setShare_46 ?_
      refine lv_iload_n hx hb dX5_setShare_49 rfl (lv_at hl 3 rfl) ?_
      refine lv_iload_n hx hb dX5_setShare_50 rfl (lv_at hl 4 rfl) ?_
      refine xast hx hb hK hP (wC_D hdj) hS 11 g0_11 (in20h c_10) s0_8 dX5_setShare_51 (fun H locs hP hS => ?_)
      obtain ⟨X_2, eX_2⟩ : ∃ Z : St, Z = u3 X_1 0 8 h.toNatClampNeg x := ⟨_, rfl⟩
      rw [← eX_2] at hP
      refine lv_iload hx hb dX5_setShare_52 (lv_at hl 0 rfl) ?_
      have hg : g_setShare (X 0) h x = 0 := by unfold g_setShare; repeat (first | rw [ci_t c_10] | rw [ci_f c_10] | rw [ci_t c_17] | rw [ci_f c_17])
      have hZ : X_2 = sg (N_rem X 3 (-9) (-9) 0) 0 (n_setShare (X 0) h x) := by
        subst eX_2 eX_1
        try simp only [u3_sg, sg_sg, sg_g, N_rem_0]
        try unfold n_setShare
        try dsimp only
        all_goals repeat (first | rw [ci_t c_10] | rw [ci_f c_10] | rw [ci_t c_17] | rw [ci_f c_17])
        all_goals (first | rfl | (rw [sg_self]) | (simp only [u3_sg, sg_sg, sg_g, N_rem_0]; done) | (simp only [u3_sg, sg_sg, sg_g, N_rem_0]; rfl))
      have hV : qv (X_1 0) 8 h = qv (X 0) 8 h := by
        subst eX_2 eX_1
        try simp only [u3_sg, sg_sg, sg_g, N_rem_0]
        try dsimp only
        all_goals repeat (first | rw [ci_t c_10] | rw [ci_f c_10] | rw [ci_t c_17] | rw [ci_f c_17])
        all_goals (first | rfl | (rw [sg_self]) | (simp only [u3_sg, sg_sg, sg_g, N_rem_0]; done) | (simp only [u3_sg, sg_sg, sg_g, N_rem_0]; rfl))
      exact retWE hx hb hr hlocks (by rw [opX_0 hg, ← hZ]; exact hP) hS dX5_setShare_54 (by rw [opV_0 hg]; first | done | exact hV)
    · refine lv_if_ne (tgt := 25) hx hb dX5_setShare_20 (by decide) (fun h9 => absurd (by decide) h9) (fun _ => ?_)
      refine lv_iconst (v := (-1)) hx hb dX5_setShare_23 (by decide) ?_
      have hg : g_setShare (X 0) h x = (-1) := by unfold g_setShare; repeat (first | rw [ci_t c_10] | rw [ci_f c_10] | rw [ci_t c_17] | rw [ci_f c_17])
      exact retWE hx hb hr hlocks (by rw [opX_e hg (by decide)]; exact hP) hS dX5_setShare_24 (opV_e hg (by decide))
  · refine lv_if_eq (tgt := 23) hx hb dX5_setShare_13 (by decide) (fun _ => ?_) (fun h9 => absurd (by decide) h9)
    refine lv_iconst (v := (-1)) hx hb dX5_setShare_23 (by decide) ?_
    have hg : g_setShare (X 0) h x = (-1) := by unfold g_setShare; repeat (first | rw [ci_t c_10] | rw [ci_f c_10])
    exact retWE hx hb hr hlocks (by rw [opX_e hg (by decide)]; exact hP) hS dX5_setShare_24 (opV_e hg (by decide))
set_option maxHeartbeats 4000000 in
set_option maxRecDepth 100000 in
theorem c_X5_setCarried {l : Launch} {D : va_G} {cI cR : ClassId} {ad : Nat → Nat} (hdj : Dj 236 ad) (X : St) (q : Int32) : WoE l D cI cR (Aw 236 ad) (wC cI cR ad X) (wC cI cR ad (opX X (g_setCarried q) 4 (-9) (-9) 0 (n_setCarried (X 0) q))) yX5_setCarried wsX5_setCarried ({ frames := 5, cells := 0, slots := 0, locals := 150 } : Room) [.ref (ad 233), .int q] (opV (g_setCarried q) ((X 0) 14 3)) := by
  refine OfW (cc := cX5_setCarried) (maxL := 3) (ret := (some .int)) (by decide +kernel) rfl (Nat.le_of_ble_eq_true rfl) (fun p e s m below meth c hx hb hr hts hown hlocks hml hnm hP hK hN ls hl => ?_)
  have hl : lv_has ls 3 [(0, .ref (ad 233)), (1, .int q)] := hl
  have lk_19 := hts (.fieldLink RX5 19 "HeadBudgets" "memory" "LHeadBudgets$Memory;") (by decide +kernel)
  have lk_10 := hts (.fieldLink RX5 10 "HeadBudgets" "now" "LHeadBudgets$Books;") (by decide +kernel)
  have lk_72 := hts (.fieldLink RX5 72 "HeadBudgets$Books" "carriedPart" "I") (by decide +kernel)
  have hi_X0 : ∀ w ∈ wsX00, w ∈ wsX5_setCarried := by decide +kernel
  have hi_X5 : ∀ w ∈ wsX50, w ∈ wsX5_setCarried := by decide +kernel
  have hS : va_S (Aw 236 ad) s.heap s.heap [] := va_S.rf
  have hP : va_P D vwCl (wC cI cR ad X) s.heap := hP
  refine lv_iload_n hx hb dX5_setCarried_0 rfl (lv_at hl 1 rfl) ?_
  refine callSB (As := [.int q]) (rest := []) ⟨hx, hb, hml, hown, hts⟩ (c_X5_isPercentage q) (va_cwS 1 hts gX5_setCarried_X5_isPercentage rfl rfl rfl (by decide +kernel) ⟨Nat.le_of_ble_eq_true rfl, Nat.le_of_ble_eq_true rfl⟩) hK hN rfl hl.1 rfl (Nat.le_of_ble_eq_true rfl) dX5_setCarried_1 ⟨Nat.zero_le _, Nat.zero_le _⟩ (fun c_1 => ?_) (fun c_1 => ?_)
  · refine lv_if_ne (tgt := 9) hx hb dX5_setCarried_4 (by decide) (fun _ => ?_) (fun h9 => absurd h9 (by decide))
    refine lv_aload_n hx hb dX5_setCarried_9 rfl (lv_at hl 0 rfl) ?_
    refine xget (C := RX5) (T := TX5) (N := 2) (ci := 5) (w := .ref (ad 234)) hx hb hts hi_X5 hown hK hP 233 g0_233 rfl 1 (by decide) lk_19 rfl dX5_setCarried_10 ?_
    refine lv_iconst (v := 4) hx hb dX5_setCarried_13 (by decide) ?_
    refine lv_aload_n hx hb dX5_setCarried_14 rfl (lv_at hl 0 rfl) ?_
    refine xget (C := RX5) (T := TX5) (N := 2) (ci := 5) (w := .ref (ad 0)) hx hb hts hi_X5 hown hK hP 233 g0_233 rfl 0 (by decide) lk_10 rfl dX5_setCarried_15 ?_
    refine callWV (As := [.int 4, .ref (ad 0)]) (rest := []) ⟨hx, hb, hml, hown, hts⟩ (c_X4_remember hdj X 4) (cwV 2 hts gX5_setCarried_X4_remember rfl rfl rfl (by decide +kernel) ⟨Nat.le_of_ble_eq_true rfl, Nat.le_of_ble_eq_true rfl⟩) hK hN hP 234 g0_234 rfl rfl hl.1 rfl (Nat.le_of_ble_eq_true rfl) dX5_setCarried_18 ⟨Nat.zero_le _, Nat.zero_le _⟩ hS (fun _ h9 => h9) (fun H locs hP hS => ?_)
    obtain ⟨X_1, eX_1⟩ : ∃ Z : St, Z = N_rem X 4 (-9) (-9) 0 := ⟨_, rfl⟩
    rw [← eX_1] at hP
    refine lv_aload_n hx hb dX5_setCarried_21 rfl (lv_at hl 0 rfl) ?_
    refine xget (C := RX5) (T := TX5) (N := 2) (ci := 5) (w := .ref (ad 0)) hx hb hts hi_X5 hown hK hP 233 g0_233 rfl 0 (by decide) lk_10 rfl dX5_setCarried_22 ?_
    refine xget (C := RX0) (T := TX0) (N := 6) (ci := 0) (w := .int (X_1 0 14 3)) hx hb hts hi_X0 hown hK hP 0 g0_0 rfl 3 (by decide) lk_72 rfl dX5_setCarried_25 ?_
    refine lv_istore_n (lv' := [(2, .int (X_1 0 14 3)), (0, .ref (ad 233)), (1, .int q)]) hx hb dX5_setCarried_28 rfl hl (by decide) rfl (fun ls hl => ?_)
    refine lv_aload_n hx hb dX5_setCarried_29 rfl (lv_at hl 1 rfl) ?_
    refine xget (C := RX5) (T := TX5) (N := 2) (ci := 5) (w := .ref (ad 0)) hx hb hts hi_X5 hown hK hP 233 g0_233 rfl 0 (by decide) lk_10 rfl dX5_setCarried_30 ?_
    refine lv_iload_n hx hb dX5_setCarried_33 rfl (lv_at hl 2 rfl) ?_
    refine xput (C := RX0) (T := TX0) (N := 6) (ci := 0) hx hb hts hi_X0 tyX0 tyX0_ok nmX0 hown hK hP (wC_D hdj) hS 0 g0_0 rfl 3 (by decide) lk_72 rfl (by decide +kernel) (Nat.le_of_ble_eq_true rfl) s0_carried dX5_setCarried_34 (fun H locs hP hS => ?_)
    obtain ⟨X_2, eX_2⟩ : ∃ Z : St, Z = u3 X_1 0 14 3 q := ⟨_, rfl⟩
    rw [← eX_2] at hP
    refine lv_iload_n hx hb dX5_setCarried_37 rfl (lv_at hl 0 rfl) ?_
    have hg : g_setCarried q = 0 := by unfold g_setCarried; repeat (first | rw [ci_t c_1] | rw [ci_f c_1])
    have hZ : X_2 = sg (N_rem X 4 (-9) (-9) 0) 0 (n_setCarried (X 0) q) := by
      subst eX_2 eX_1
      try simp only [u3_sg, sg_sg, sg_g, N_rem_0]
      try unfold n_setCarried
      try dsimp only
      all_goals repeat (first | rw [ci_t c_1] | rw [ci_f c_1])
      all_goals (first | rfl | (rw [sg_self]) | (simp only [u3_sg, sg_sg, sg_g, N_rem_0]; done) | (simp only [u3_sg, sg_sg, sg_g, N_rem_0]; rfl))
    have hV : X_1 0 14 3 = (X 0) 14 3 := by
      subst eX_2 eX_1
      try simp only [u3_sg, sg_sg, sg_g, N_rem_0]
      try dsimp only
      all_goals repeat (first | rw [ci_t c_1] | rw [ci_f c_1])
      all_goals (first | rfl | (rw [sg_self]) | (simp only [u3_sg, sg_sg, sg_g, N_rem_0]; done) | (simp only [u3_sg, sg_sg, sg_g, N_rem_0]; rfl))
    exact retWE hx hb hr hlocks (by rw [opX_0 hg, ← hZ]; exact hP) hS dX5_setCarried_38 (by rw [opV_0 hg]; first | done | exact hV)
  · refine lv_if_ne (tgt := 9) hx hb dX5_setCarried_4 (by decide) (fun h9 => absurd (by decide) h9) (fun _ => ?_)
    refine lv_iconst (v := (-1)) hx hb dX5_setCarried_7 (by decide) ?_
    have hg : g_setCarried q = (-1) := by unfold g_setCarried; repeat (first | rw [ci_t c_1] | rw [ci_f c_1])
    exact retWE hx hb hr hlocks (by rw [opX_e hg (by decide)]; exact hP) hS dX5_setCarried_8 (opV_e hg (by decide))
set_option maxHeartbeats 4000000 in
set_option maxRecDepth 100000 in
theorem c_X5_commit {l : Launch} {D : va_G} {cI cR : ClassId} {ad : Nat → Nat} (hdj : Dj 236 ad) (X : St) (h : Int32) (a : Int32) : WoE l D cI cR (Aw 236 ad) (wC cI cR ad X) (wC cI cR ad (opX X (g_commit (X 0) h a) 5 ((X 0) 14 2) (-9) 0 (n_commit (X 0) h a))) yX5_commit wsX5_commit ({ frames := 5, cells := 0, slots := 0, locals := 150 } : Room) [.ref (ad 233), .int h, .int a] (opV (g_commit (X 0) h a) (a_addC (b_cc (X 0) h a))) := by
  refine OfW (cc := cX5_commit) (maxL := 4) (ret := (some .int)) (by decide +kernel) rfl (Nat.le_of_ble_eq_true rfl) (fun p e s m below meth c hx hb hr hts hown hlocks hml hnm hP hK hN ls hl => ?_)
  have hl : lv_has ls 4 [(0, .ref (ad 233)), (1, .int h), (2, .int a)] := hl
  have lk_10 := hts (.fieldLink RX5 10 "HeadBudgets" "now" "LHeadBudgets$Books;") (by decide +kernel)
  have lk_23 := hts (.fieldLink RX5 23 "HeadBudgets$Books" "heads" "LHeadBudgets$Heads;") (by decide +kernel)
  have lk_82 := hts (.fieldLink RX5 82 "HeadBudgets$Books" "commitments" "LHeadBudgets$Commitments;") (by decide +kernel)
  have lk_86 := hts (.fieldLink RX5 86 "HeadBudgets$Commitments" "made" "I") (by decide +kernel)
  have lk_19 := hts (.fieldLink RX5 19 "HeadBudgets" "memory" "LHeadBudgets$Memory;") (by decide +kernel)
  have lk_97 := hts (.fieldLink RX5 97 "HeadBudgets$Books" "year" "I") (by decide +kernel)
  have hi_X0 : ∀ w ∈ wsX00, w ∈ wsX5_commit := by decide +kernel
  have hi_X1 : ∀ w ∈ wsX10, w ∈ wsX5_commit := by decide +kernel
  have hi_X5 : ∀ w ∈ wsX50, w ∈ wsX5_commit := by decide +kernel
  have hS : va_S (Aw 236 ad) s.heap s.heap [] := va_S.rf
  have hP : va_P D vwCl (wC cI cR ad X) s.heap := hP
  refine lv_aload_n hx hb dX5_commit_0 rfl (lv_at hl 0 rfl) ?_
  refine xget (C := RX5) (T := TX5) (N := 2) (ci := 5) (w := .ref (ad 0)) hx hb hts hi_X5 hown hK hP 233 g0_233 rfl 0 (by decide) lk_10 rfl dX5_commit_1 ?_
  refine xget (C := RX0) (T := TX0) (N := 6) (ci := 0) (w := .ref (ad 1)) hx hb hts hi_X0 hown hK hP 0 g0_0 rfl 0 (by decide) lk_23 rfl dX5_commit_4 ?_
  refine lv_astore_n (lv' := [(3, .ref (ad 1)), (0, .ref (ad 233)), (1, .int h), (2, .int a)]) hx hb dX5_commit_7 rfl hl (by decide) rfl (fun ls hl => ?_)
  refine lv_aload_n hx hb dX5_commit_8 rfl (lv_at hl 0 rfl) ?_
  refine lv_iload_n hx hb dX5_commit_9 rfl (lv_at hl 2 rfl) ?_
  refine callB (As := [.int h]) (rest := []) ⟨hx, hb, hml, hown, hts⟩ (c_X3_has X h) (cwV 1 hts gX5_commit_X3_has rfl rfl rfl (by decide +kernel) ⟨Nat.le_of_ble_eq_true rfl, Nat.le_of_ble_eq_true rfl⟩) hK hN hP 1 g0_1 rfl rfl hl.1 rfl (Nat.le_of_ble_eq_true rfl) dX5_commit_10 ⟨Nat.zero_le _, Nat.zero_le _⟩ (fun c_10 => ?_) (fun c_10 => ?_)
  · refine lv_if_eq (tgt := 23) hx hb dX5_commit_13 (by decide) (fun h9 => absurd h9 (by decide)) (fun _ => ?_)
    refine lv_iload_n hx hb dX5_commit_16 rfl (lv_at hl 3 rfl) ?_
    refine callSB (As := [.int a]) (rest := []) ⟨hx, hb, hml, hown, hts⟩ (c_X5_isAmount a) (va_cwS 1 hts gX5_commit_X5_isAmount rfl rfl rfl (by decide +kernel) ⟨Nat.le_of_ble_eq_true rfl, Nat.le_of_ble_eq_true rfl⟩) hK hN rfl hl.1 rfl (Nat.le_of_ble_eq_true rfl) dX5_commit_17 ⟨Nat.zero_le _, Nat.zero_le _⟩ (fun c_17 => ?_) (fun c_17 => ?_)
    · refine lv_if_ne (tgt := 25) hx hb dX5_commit_20 (by decide) (fun _ => ?_) (fun h9 => absurd h9 (by decide))
      refine lv_aload_n hx hb dX5_commit_25 rfl (lv_at hl 0 rfl) ?_
      refine lv_iload_n hx hb dX5_commit_26 rfl (lv_at hl 2 rfl) ?_
      refine callB (As := [.int h]) (rest := []) ⟨hx, hb, hml, hown, hts⟩ (c_X3_isBarred X h) (cwV 1 hts gX5_commit_X3_isBarred rfl rfl rfl (by decide +kernel) ⟨Nat.le_of_ble_eq_true rfl, Nat.le_of_ble_eq_true rfl⟩) hK hN hP 1 g0_1 rfl rfl hl.1 rfl (Nat.le_of_ble_eq_true rfl) dX5_commit_27 ⟨Nat.zero_le _, Nat.zero_le _⟩ (fun c_27 => ?_) (fun c_27 => ?_)
      · refine lv_if_ne (tgt := 42) hx hb dX5_commit_30 (by decide) (fun _ => ?_) (fun h9 => absurd h9 (by decide))
        refine lv_bipush (v := (-2)) hx hb dX5_commit_42 (by decide) ?_
        have hg : g_commit (X 0) h a = (-2) := by unfold g_commit; repeat (first | rw [ci_t c_10] | rw [ci_f c_10] | rw [ci_t c_17] | rw [ci_f c_17] | rw [ci_t c_27] | rw [ci_f c_27])
        exact retWE hx hb hr hlocks (by rw [opX_e hg (by decide)]; exact hP) hS dX5_commit_44 (opV_e hg (by decide))
      · refine lv_if_ne (tgt := 42) hx hb dX5_commit_30 (by decide) (fun h9 => absurd (by decide) h9) (fun _ => ?_)
        refine lv_iload_n hx hb dX5_commit_33 rfl (lv_at hl 3 rfl) ?_
        refine lv_aload_n hx hb dX5_commit_34 rfl (lv_at hl 0 rfl) ?_
        refine lv_iload_n hx hb dX5_commit_35 rfl (lv_at hl 2 rfl) ?_
        refine callE (As := [.int h]) (rest := [.int a]) ⟨hx, hb, hml, hown, hts⟩ (c_X3_freeOf X h) (cwV 1 hts gX5_commit_X3_freeOf rfl rfl rfl (by decide +kernel) ⟨Nat.le_of_ble_eq_true rfl, Nat.le_of_ble_eq_true rfl⟩) hK hN hP 1 g0_1 rfl rfl hl.1 rfl (Nat.le_of_ble_eq_true rfl) dX5_commit_36 ⟨Nat.zero_le _, Nat.zero_le _⟩ ?_
        refine lv_icmp_le (tgt := 45) hx hb dX5_commit_39 (by decide) (fun c_39 => ?_) (fun c_39 => ?_)
        · refine lv_aload_n hx hb dX5_commit_45 rfl (lv_at hl 1 rfl) ?_
          refine xget (C := RX5) (T := TX5) (N := 2) (ci := 5) (w := .ref (ad 0)) hx hb hts hi_X5 hown hK hP 233 g0_233 rfl 0 (by decide) lk_10 rfl dX5_commit_46 ?_
          refine xget (C := RX0) (T := TX0) (N := 6) (ci := 0) (w := .ref (ad 12)) hx hb hts hi_X0 hown hK hP 0 g0_0 rfl 1 (by decide) lk_82 rfl dX5_commit_49 ?_
          refine xget (C := RX1) (T := TX1) (N := 5) (ci := 1) (w := .int (X 0 14 2)) hx hb hts hi_X1 hown hK hP 12 g0_12 rfl 4 (by decide) lk_86 rfl dX5_commit_52 ?_
          refine lv_bipush (v := 40) hx hb dX5_commit_55 (by decide) ?_
          refine lv_icmp_lt (tgt := 63) hx hb dX5_commit_57 (by decide) (fun c_57 => ?_) (fun c_57 => ?_)
          · refine lv_aload_n hx hb dX5_commit_63 rfl (lv_at hl 1 rfl) ?_
            refine xget (C := RX5) (T := TX5) (N := 2) (ci := 5) (w := .ref (ad 234)) hx hb hts hi_X5 hown hK hP 233 g0_233 rfl 1 (by decide) lk_19 rfl dX5_commit_64 ?_
            refine lv_aload_n hx hb dX5_commit_67 rfl (lv_at hl 1 rfl) ?_
            refine xget (C := RX5) (T := TX5) (N := 2) (ci := 5) (w := .ref (ad 0)) hx hb hts hi_X5 hown hK hP 233 g0_233 rfl 0 (by decide) lk_10 rfl dX5_commit_68 ?_
            refine lv_aload_n hx hb dX5_commit_71 rfl (lv_at hl 1 rfl) ?_
            refine xget (C := RX5) (T := TX5) (N := 2) (ci := 5) (w := .ref (ad 0)) hx hb hts hi_X5 hown hK hP 233 g0_233 rfl 0 (by decide) lk_10 rfl dX5_commit_72 ?_
            refine xget (C := RX0) (T := TX0) (N := 6) (ci := 0) (w := .ref (ad 12)) hx hb hts hi_X0 hown hK hP 0 g0_0 rfl 1 (by decide) lk_82 rfl dX5_commit_75 ?_
            refine xget (C := RX1) (T := TX1) (N := 5) (ci := 1) (w := .int (X 0 14 2)) hx hb hts hi_X1 hown hK hP 12 g0_12 rfl 4 (by decide) lk_86 rfl dX5_commit_78 ?_
            refine callWV (As := [.ref (ad 0), .int (X 0 14 2)]) (rest := []) ⟨hx, hb, hml, hown, hts⟩ (c_X4_rememberCommitment hdj X (X 0 14 2)) (cwV 2 hts gX5_commit_X4_rememberCommitment rfl rfl rfl (by decide +kernel) ⟨Nat.le_of_ble_eq_true rfl, Nat.le_of_ble_eq_true rfl⟩) hK hN hP 234 g0_234 rfl rfl hl.1 rfl (Nat.le_of_ble_eq_true rfl) dX5_commit_81 ⟨Nat.zero_le _, Nat.zero_le _⟩ hS (fun _ h9 => h9) (fun H locs hP hS => ?_)
            obtain ⟨X_1, eX_1⟩ : ∃ Z : St, Z = N_rem X 5 (X 0 14 2) (-9) 0 := ⟨_, rfl⟩
            rw [← eX_1] at hP
            refine lv_aload_n hx hb dX5_commit_84 rfl (lv_at hl 0 rfl) ?_
            refine lv_iload_n hx hb dX5_commit_85 rfl (lv_at hl 2 rfl) ?_
            refine lv_iload_n hx hb dX5_commit_86 rfl (lv_at hl 3 rfl) ?_
            refine callWV (As := [.int h, .int a]) (rest := []) ⟨hx, hb, hml, hown, hts⟩ (c_X3_changeCommitted hdj X_1 h a) (cwV 2 hts gX5_commit_X3_changeCommitted rfl rfl rfl (by decide +kernel) ⟨Nat.le_of_ble_eq_true rfl, Nat.le_of_ble_eq_true rfl⟩) hK hN hP 1 g0_1 rfl rfl hl.1 rfl (Nat.le_of_ble_eq_true rfl) dX5_commit_87 ⟨Nat.zero_le _, Nat.zero_le _⟩ hS (fun _ h9 => h9) (fun H locs hP hS => ?_)
            obtain ⟨X_2, eX_2⟩ : ∃ Z : St, Z = sg X_1 0 (b_cc (X_1 0) h a) := ⟨_, rfl⟩
            rw [← eX_2] at hP
            refine lv_aload_n hx hb dX5_commit_90 rfl (lv_at hl 1 rfl) ?_
            refine xget (C := RX5) (T := TX5) (N := 2) (ci := 5) (w := .ref (ad 0)) hx hb hts hi_X5 hown hK hP 233 g0_233 rfl 0 (by decide) lk_10 rfl dX5_commit_91 ?_
            refine xget (C := RX0) (T := TX0) (N := 6) (ci := 0) (w := .ref (ad 12)) hx hb hts hi_X0 hown hK hP 0 g0_0 rfl 1 (by decide) lk_82 rfl dX5_commit_94 ?_
            refine lv_iload_n hx hb dX5_commit_97 rfl (lv_at hl 2 rfl) ?_
            refine lv_iload_n hx hb dX5_commit_98 rfl (lv_at hl 3 rfl) ?_
            refine lv_aload_n hx hb dX5_commit_99 rfl (lv_at hl 1 rfl) ?_
            refine xget (C := RX5) (T := TX5) (N := 2) (ci := 5) (w := .ref (ad 0)) hx hb hts hi_X5 hown hK hP 233 g0_233 rfl 0 (by decide) lk_10 rfl dX5_commit_100 ?_
            refine xget (C := RX0) (T := TX0) (N := 6) (ci := 0) (w := .int (X_2 0 14 0)) hx hb hts hi_X0 hown hK hP 0 g0_0 rfl 2 (by decide) lk_97 rfl dX5_commit_103 ?_
            refine callWE (As := [.int h, .int a, .int (X_2 0 14 0)]) (rest := []) ⟨hx, hb, hml, hown, hts⟩ (c_X1_add hdj X_2 h a (X_2 0 14 0)) (cwV 3 hts gX5_commit_X1_add rfl rfl rfl (by decide +kernel) ⟨Nat.le_of_ble_eq_true rfl, Nat.le_of_ble_eq_true rfl⟩) hK hN hP 12 g0_12 rfl rfl hl.1 rfl (Nat.le_of_ble_eq_true rfl) dX5_commit_106 ⟨Nat.zero_le _, Nat.zero_le _⟩ hS (fun _ h9 => h9) (fun H locs hP hS _ _ => ?_)
            obtain ⟨X_3, eX_3⟩ : ∃ Z : St, Z = sg X_2 0 (b_addC (X_2 0) h a (X_2 0 14 0)) := ⟨_, rfl⟩
            rw [← eX_3] at hP
            have hg : g_commit (X 0) h a = 0 := by unfold g_commit; repeat (first | rw [ci_t c_10] | rw [ci_f c_10] | rw [ci_t c_17] | rw [ci_f c_17] | rw [ci_t c_27] | rw [ci_f c_27] | rw [ci_t c_39] | rw [ci_f c_39] | rw [ci_t c_57] | rw [ci_f c_57])
            have hZ : X_3 = sg (N_rem X 5 ((X 0) 14 2) (-9) 0) 0 (n_commit (X 0) h a) := by
              subst eX_3 eX_2 eX_1
              try simp only [u3_sg, sg_sg, sg_g, N_rem_0]
              try unfold n_commit
              try dsimp only
              all_goals repeat (first | rw [ci_t c_10] | rw [ci_f c_10] | rw [ci_t c_17] | rw [ci_f c_17] | rw [ci_t c_27] | rw [ci_f c_27] | rw [ci_t c_39] | rw [ci_f c_39] | rw [ci_t c_57] | rw [ci_f c_57])
              all_goals (first | rfl | (rw [sg_self]) | (simp only [u3_sg, sg_sg, sg_g, N_rem_0]; done) | (simp only [u3_sg, sg_sg, sg_g, N_rem_0]; rfl))
            have hV : a_addC (X_2 0) = a_addC (b_cc (X 0) h a) := by
              subst eX_3 eX_2 eX_1
              try simp only [u3_sg, sg_sg, sg_g, N_rem_0]
              try dsimp only
              all_goals repeat (first | rw [ci_t c_10] | rw [ci_f c_10] | rw [ci_t c_17] | rw [ci_f c_17] | rw [ci_t c_27] | rw [ci_f c_27] | rw [ci_t c_39] | rw [ci_f c_39] | rw [ci_t c_57] | rw [ci_f c_57])
              all_goals (first | rfl | (rw [sg_self]) | (simp only [u3_sg, sg_sg, sg_g, N_rem_0]; done) | (simp only [u3_sg, sg_sg, sg_g, N_rem_0]; rfl))
            exact retWE hx hb hr hlocks (by rw [opX_0 hg, ← hZ]; exact hP) hS dX5_commit_109 (by rw [opV_0 hg]; first | done | exact hV)
          · refine lv_bipush (v := (-3)) hx hb dX5_commit_60 (by decide) ?_
            have hg : g_commit (X 0) h a = (-3) := by unfold g_commit; repeat (first | rw [ci_t c_10] | rw [ci_f c_10] | rw [ci_t c_17] | rw [ci_f c_17] | rw [ci_t c_27] | rw [ci_f c_27] | rw [ci_t c_39] | rw [ci_f c_39] | rw [ci_t c_57] | rw [ci_f c_57])
            exact retWE hx hb hr hlocks (by rw [opX_e hg (by decide)]; exact hP) hS dX5_commit_62 (opV_e hg (by decide))
        · refine lv_bipush (v := (-2)) hx hb dX5_commit_42 (by decide) ?_
          have hg : g_commit (X 0) h a = (-2) := by unfold g_commit; repeat (first | rw [ci_t c_10] | rw [ci_f c_10] | rw [ci_t c_17] | rw [ci_f c_17] | rw [ci_t c_27] | rw [ci_f c_27] | rw [ci_t c_39] | rw [ci_f c_39])
          exact retWE hx hb hr hlocks (by rw [opX_e hg (by decide)]; exact hP) hS dX5_commit_44 (opV_e hg (by decide))
    · refine lv_if_ne (tgt := 25) hx hb dX5_commit_20 (by decide) (fun h9 => absurd (by decide) h9) (fun _ => ?_)
      refine lv_iconst (v := (-1)) hx hb dX5_commit_23 (by decide) ?_
      have hg : g_commit (X 0) h a = (-1) := by unfold g_commit; repeat (first | rw [ci_t c_10] | rw [ci_f c_10] | rw [ci_t c_17] | rw [ci_f c_17])
      exact retWE hx hb hr hlocks (by rw [opX_e hg (by decide)]; exact hP) hS dX5_commit_24 (opV_e hg (by decide))
  · refine lv_if_eq (tgt := 23) hx hb dX5_commit_13 (by decide) (fun _ => ?_) (fun h9 => absurd (by decide) h9)
    refine lv_iconst (v := (-1)) hx hb dX5_commit_23 (by decide) ?_
    have hg : g_commit (X 0) h a = (-1) := by unfold g_commit; repeat (first | rw [ci_t c_10] | rw [ci_f c_10])
    exact retWE hx hb hr hlocks (by rw [opX_e hg (by decide)]; exact hP) hS dX5_commit_24 (opV_e hg (by decide))
set_option maxHeartbeats 4000000 in
set_option maxRecDepth 100000 in
theorem c_X5_pay {l : Launch} {D : va_G} {cI cR : ClassId} {ad : Nat → Nat} (hdj : Dj 236 ad) (X : St) (q : Int32) (a : Int32) : WoE l D cI cR (Aw 236 ad) (wC cI cR ad X) (wC cI cR ad (opX X (g_pay (X 0) q a) 6 (-9) (-9) 0 (n_pay (X 0) q a))) yX5_pay wsX5_pay ({ frames := 5, cells := 0, slots := 0, locals := 150 } : Room) [.ref (ad 233), .int q, .int a] (opV (g_pay (X 0) q a) (qv (n_pay (X 0) q a) 11 q)) := by
  refine OfW (cc := cX5_pay) (maxL := 4) (ret := (some .int)) (by decide +kernel) rfl (Nat.le_of_ble_eq_true rfl) (fun p e s m below meth c hx hb hr hts hown hlocks hml hnm hP hK hN ls hl => ?_)
  have hl : lv_has ls 4 [(0, .ref (ad 233)), (1, .int q), (2, .int a)] := hl
  have lk_10 := hts (.fieldLink RX5 10 "HeadBudgets" "now" "LHeadBudgets$Books;") (by decide +kernel)
  have lk_82 := hts (.fieldLink RX5 82 "HeadBudgets$Books" "commitments" "LHeadBudgets$Commitments;") (by decide +kernel)
  have lk_104 := hts (.fieldLink RX5 104 "HeadBudgets$Commitments" "open" "[I") (by decide +kernel)
  have lk_19 := hts (.fieldLink RX5 19 "HeadBudgets" "memory" "LHeadBudgets$Memory;") (by decide +kernel)
  have lk_107 := hts (.fieldLink RX5 107 "HeadBudgets$Commitments" "paid" "[I") (by decide +kernel)
  have lk_23 := hts (.fieldLink RX5 23 "HeadBudgets$Books" "heads" "LHeadBudgets$Heads;") (by decide +kernel)
  have lk_110 := hts (.fieldLink RX5 110 "HeadBudgets$Commitments" "head" "[I") (by decide +kernel)
  have lk_116 := hts (.fieldLink RX5 116 "HeadBudgets$Books" "spent" "I") (by decide +kernel)
  have hi_X0 : ∀ w ∈ wsX00, w ∈ wsX5_pay := by decide +kernel
  have hi_X1 : ∀ w ∈ wsX10, w ∈ wsX5_pay := by decide +kernel
  have hi_X5 : ∀ w ∈ wsX50, w ∈ wsX5_pay := by decide +kernel
  have hS : va_S (Aw 236 ad) s.heap s.heap [] := va_S.rf
  have hP : va_P D vwCl (wC cI cR ad X) s.heap := hP
  refine lv_aload_n hx hb dX5_pay_0 rfl (lv_at hl 0 rfl) ?_
  refine xget (C := RX5) (T := TX5) (N := 2) (ci := 5) (w := .ref (ad 0)) hx hb hts hi_X5 hown hK hP 233 g0_233 rfl 0 (by decide) lk_10 rfl dX5_pay_1 ?_
  refine xget (C := RX0) (T := TX0) (N := 6) (ci := 0) (w := .ref (ad 12)) hx hb hts hi_X0 hown hK hP 0 g0_0 rfl 1 (by decide) lk_82 rfl dX5_pay_4 ?_
  refine lv_astore_n (lv' := [(3, .ref (ad 12)), (0, .ref (ad 233)), (1, .int q), (2, .int a)]) hx hb dX5_pay_7 rfl hl (by decide) rfl (fun ls hl => ?_)
  refine lv_aload_n hx hb dX5_pay_8 rfl (lv_at hl 0 rfl) ?_
  refine lv_iload_n hx hb dX5_pay_9 rfl (lv_at hl 2 rfl) ?_
  refine callB (As := [.int q]) (rest := []) ⟨hx, hb, hml, hown, hts⟩ (c_X1_has X q) (cwV 1 hts gX5_pay_X1_has rfl rfl rfl (by decide +kernel) ⟨Nat.le_of_ble_eq_true rfl, Nat.le_of_ble_eq_true rfl⟩) hK hN hP 12 g0_12 rfl rfl hl.1 rfl (Nat.le_of_ble_eq_true rfl) dX5_pay_10 ⟨Nat.zero_le _, Nat.zero_le _⟩ (fun c_10 => ?_) (fun c_10 => ?_)
  · refine lv_if_eq (tgt := 23) hx hb dX5_pay_13 (by decide) (fun h9 => absurd h9 (by decide)) (fun _ => ?_)
    refine lv_iload_n hx hb dX5_pay_16 rfl (lv_at hl 3 rfl) ?_
    refine callSB (As := [.int a]) (rest := []) ⟨hx, hb, hml, hown, hts⟩ (c_X5_isAmount a) (va_cwS 1 hts gX5_pay_X5_isAmount rfl rfl rfl (by decide +kernel) ⟨Nat.le_of_ble_eq_true rfl, Nat.le_of_ble_eq_true rfl⟩) hK hN rfl hl.1 rfl (Nat.le_of_ble_eq_true rfl) dX5_pay_17 ⟨Nat.zero_le _, Nat.zero_le _⟩ (fun c_17 => ?_) (fun c_17 => ?_)
    · refine lv_if_ne (tgt := 25) hx hb dX5_pay_20 (by decide) (fun _ => ?_) (fun h9 => absurd h9 (by decide))
      refine lv_iload_n hx hb dX5_pay_25 rfl (lv_at hl 3 rfl) ?_
      refine lv_aload_n hx hb dX5_pay_26 rfl (lv_at hl 0 rfl) ?_
      refine xget (C := RX1) (T := TX1) (N := 5) (ci := 1) (w := .ref (ad 14)) hx hb hts hi_X1 hown hK hP 12 g0_12 rfl 1 (by decide) lk_104 rfl dX5_pay_27 ?_
      refine lv_iload_n hx hb dX5_pay_30 rfl (lv_at hl 2 rfl) ?_
      refine xald (x := qv (X 0) 11 q) hx hb hK hP 14 g0_14 (in40h c_10) rfl dX5_pay_31 ?_
      refine lv_icmp_le (tgt := 38) hx hb dX5_pay_32 (by decide) (fun c_32 => ?_) (fun c_32 => ?_)
      · refine lv_aload_n hx hb dX5_pay_38 rfl (lv_at hl 1 rfl) ?_
        refine xget (C := RX5) (T := TX5) (N := 2) (ci := 5) (w := .ref (ad 234)) hx hb hts hi_X5 hown hK hP 233 g0_233 rfl 1 (by decide) lk_19 rfl dX5_pay_39 ?_
        refine lv_bipush (v := 6) hx hb dX5_pay_42 (by decide) ?_
        refine lv_aload_n hx hb dX5_pay_44 rfl (lv_at hl 1 rfl) ?_
        refine xget (C := RX5) (T := TX5) (N := 2) (ci := 5) (w := .ref (ad 0)) hx hb hts hi_X5 hown hK hP 233 g0_233 rfl 0 (by decide) lk_10 rfl dX5_pay_45 ?_
        refine callWV (As := [.int 6, .ref (ad 0)]) (rest := []) ⟨hx, hb, hml, hown, hts⟩ (c_X4_remember hdj X 6) (cwV 2 hts gX5_pay_X4_remember rfl rfl rfl (by decide +kernel) ⟨Nat.le_of_ble_eq_true rfl, Nat.le_of_ble_eq_true rfl⟩) hK hN hP 234 g0_234 rfl rfl hl.1 rfl (Nat.le_of_ble_eq_true rfl) dX5_pay_48 ⟨Nat.zero_le _, Nat.zero_le _⟩ hS (fun _ h9 => h9) (fun H locs hP hS => ?_)
        obtain ⟨X_1, eX_1⟩ : ∃ Z : St, Z = N_rem X 6 (-9) (-9) 0 := ⟨_, rfl⟩
        rw [← eX_1] at hP
        refine lv_aload_n hx hb dX5_pay_51 rfl (lv_at hl 0 rfl) ?_
        refine xget (C := RX1) (T := TX1) (N := 5) (ci := 1) (w := .ref (ad 14)) hx hb hts hi_X1 hown hK hP 12 g0_12 rfl 1 (by decide) lk_104 rfl dX5_pay_52 ?_
        refine lv_iload_n hx hb dX5_pay_55 rfl (lv_at hl 2 rfl) ?_
        refine lv_dup2_11 hx hb dX5_pay_56 rfl rfl ?_
        refine xald (x := qv (X_1 0) 11 q) hx hb hK hP 14 g0_14 (in40h c_10) rfl dX5_pay_57 ?_
        refine lv_iload_n hx hb dX5_pay_58 rfl (lv_at hl 3 rfl) ?_
        refine lv_isub hx hb dX5_pay_59 ?_
        refine xast hx hb hK hP (wC_D hdj) hS 14 g0_14 (in40h c_10) s0_11 dX5_pay_60 (fun H locs hP hS => ?_)
        obtain ⟨X_2, eX_2⟩ : ∃ Z : St, Z = u3 X_1 0 11 q.toNatClampNeg ((qv (X_1 0) 11 q) - a) := ⟨_, rfl⟩
        rw [← eX_2] at hP
        refine lv_aload_n hx hb dX5_pay_61 rfl (lv_at hl 0 rfl) ?_
        refine xget (C := RX1) (T := TX1) (N := 5) (ci := 1) (w := .ref (ad 15)) hx hb hts hi_X1 hown hK hP 12 g0_12 rfl 2 (by decide) lk_107 rfl dX5_pay_62 ?_
        refine lv_iload_n hx hb dX5_pay_65 rfl (lv_at hl 2 rfl) ?_
        refine lv_dup2_11 hx hb dX5_pay_66 rfl rfl ?_
        refine xald (x := qv (X_2 0) 12 q) hx hb hK hP 15 g0_15 (in40h c_10) rfl dX5_pay_67 ?_
        refine lv_iload_n hx hb dX5_pay_68 rfl (lv_at hl 3 rfl) ?_
        refine lv_iadd hx hb dX5_pay_69 ?_
        refine xast hx hb hK hP (wC_D hdj) hS 15 g0_15 (in40h c_10) s0_12 dX5_pay_70 (fun H locs hP hS => ?_)
        obtain ⟨X_3, eX_3⟩ : ∃ Z : St, Z = u3 X_2 0 12 q.toNatClampNeg ((qv (X_2 0) 12 q) + a) := ⟨_, rfl⟩
        rw [← eX_3] at hP
        refine lv_aload_n hx hb dX5_pay_71 rfl (lv_at hl 1 rfl) ?_
        refine xget (C := RX5) (T := TX5) (N := 2) (ci := 5) (w := .ref (ad 0)) hx hb hts hi_X5 hown hK hP 233 g0_233 rfl 0 (by decide) lk_10 rfl dX5_pay_72 ?_
        refine xget (C := RX0) (T := TX0) (N := 6) (ci := 0) (w := .ref (ad 1)) hx hb hts hi_X0 hown hK hP 0 g0_0 rfl 0 (by decide) lk_23 rfl dX5_pay_75 ?_
        refine lv_aload_n hx hb dX5_pay_78 rfl (lv_at hl 0 rfl) ?_
        refine xget (C := RX1) (T := TX1) (N := 5) (ci := 1) (w := .ref (ad 13)) hx hb hts hi_X1 hown hK hP 12 g0_12 rfl 0 (by decide) lk_110 rfl dX5_pay_79 ?_
        refine lv_iload_n hx hb dX5_pay_82 rfl (lv_at hl 2 rfl) ?_
        refine xald (x := qv (X_3 0) 10 q) hx hb hK hP 13 g0_13 (in40h c_10) rfl dX5_pay_83 ?_
        refine lv_iload_n hx hb dX5_pay_84 rfl (lv_at hl 3 rfl) ?_
        refine callWV (As := [.int (qv (X_3 0) 10 q), .int a]) (rest := []) ⟨hx, hb, hml, hown, hts⟩ (c_X3_spendCommitted hdj X_3 (qv (X_3 0) 10 q) a) (cwV 2 hts gX5_pay_X3_spendCommitted rfl rfl rfl (by decide +kernel) ⟨Nat.le_of_ble_eq_true rfl, Nat.le_of_ble_eq_true rfl⟩) hK hN hP 1 g0_1 rfl rfl hl.1 rfl (Nat.le_of_ble_eq_true rfl) dX5_pay_85 ⟨Nat.zero_le _, Nat.zero_le _⟩ hS (fun _ h9 => h9) (fun H locs hP hS => ?_)
        obtain ⟨X_4, eX_4⟩ : ∃ Z : St, Z = sg X_3 0 (b_sc (X_3 0) (qv (X_3 0) 10 q) a) := ⟨_, rfl⟩
        rw [← eX_4] at hP
        refine lv_aload_n hx hb dX5_pay_88 rfl (lv_at hl 1 rfl) ?_
        refine xget (C := RX5) (T := TX5) (N := 2) (ci := 5) (w := .ref (ad 0)) hx hb hts hi_X5 hown hK hP 233 g0_233 rfl 0 (by decide) lk_10 rfl dX5_pay_89 ?_
        refine lv_dup hx hb dX5_pay_92 rfl ?_
        refine xget (C := RX0) (T := TX0) (N := 6) (ci := 0) (w := .int (X_4 0 14 5)) hx hb hts hi_X0 hown hK hP 0 g0_0 rfl 5 (by decide) lk_116 rfl dX5_pay_93 ?_
        refine lv_iload_n hx hb dX5_pay_96 rfl (lv_at hl 3 rfl) ?_
        refine lv_iadd hx hb dX5_pay_97 ?_
        refine xput (C := RX0) (T := TX0) (N := 6) (ci := 0) hx hb hts hi_X0 tyX0 tyX0_ok nmX0 hown hK hP (wC_D hdj) hS 0 g0_0 rfl 5 (by decide) lk_116 rfl (by decide +kernel) (Nat.le_of_ble_eq_true rfl) s0_spent dX5_pay_98 (fun H locs hP hS => ?_)
        obtain ⟨X_5, eX_5⟩ : ∃ Z : St, Z = u3 X_4 0 14 5 ((X_4 0 14 5) + a) := ⟨_, rfl⟩
        rw [← eX_5] at hP
        refine lv_aload_n hx hb dX5_pay_101 rfl (lv_at hl 0 rfl) ?_
        refine xget (C := RX1) (T := TX1) (N := 5) (ci := 1) (w := .ref (ad 14)) hx hb hts hi_X1 hown hK hP 12 g0_12 rfl 1 (by decide) lk_104 rfl dX5_pay_102 ?_
        refine lv_iload_n hx hb dX5_pay_105 rfl (lv_at hl 2 rfl) ?_
        refine xald (x := qv (X_5 0) 11 q) hx hb hK hP 14 g0_14 (in40h c_10) rfl dX5_pay_106 ?_
        have hg : g_pay (X 0) q a = 0 := by unfold g_pay; repeat (first | rw [ci_t c_10] | rw [ci_f c_10] | rw [ci_t c_17] | rw [ci_f c_17] | rw [ci_t c_32] | rw [ci_f c_32])
        have hZ : X_5 = sg (N_rem X 6 (-9) (-9) 0) 0 (n_pay (X 0) q a) := by
          subst eX_5 eX_4 eX_3 eX_2 eX_1
          try simp only [u3_sg, sg_sg, sg_g, N_rem_0]
          try unfold n_pay
          try dsimp only
          all_goals repeat (first | rw [ci_t c_10] | rw [ci_f c_10] | rw [ci_t c_17] | rw [ci_f c_17] | rw [ci_t c_32] | rw [ci_f c_32])
          all_goals (first | rfl | (rw [sg_self]) | (simp only [u3_sg, sg_sg, sg_g, N_rem_0]; done) | (simp only [u3_sg, sg_sg, sg_g, N_rem_0]; rfl))
        have hV : qv (X_5 0) 11 q = qv (n_pay (X 0) q a) 11 q := by
          subst eX_5 eX_4 eX_3 eX_2 eX_1
          try simp only [u3_sg, sg_sg, sg_g, N_rem_0]
          try unfold n_pay
          try dsimp only
          all_goals repeat (first | rw [ci_t c_10] | rw [ci_f c_10] | rw [ci_t c_17] | rw [ci_f c_17] | rw [ci_t c_32] | rw [ci_f c_32])
          all_goals (first | rfl | (rw [sg_self]) | (simp only [u3_sg, sg_sg, sg_g, N_rem_0]; done) | (simp only [u3_sg, sg_sg, sg_g, N_rem_0]; rfl))
        exact retWE hx hb hr hlocks (by rw [opX_0 hg, ← hZ]; exact hP) hS dX5_pay_107 (by rw [opV_0 hg]; first | done | exact hV)
      · refine lv_bipush (v := (-2)) hx hb dX5_pay_35 (by decide) ?_
        have hg : g_pay (X 0) q a = (-2) := by unfold g_pay; repeat (first | rw [ci_t c_10] | rw [ci_f c_10] | rw [ci_t c_17] | rw [ci_f c_17] | rw [ci_t c_32] | rw [ci_f c_32])
        exact retWE hx hb hr hlocks (by rw [opX_e hg (by decide)]; exact hP) hS dX5_pay_37 (opV_e hg (by decide))
    · refine lv_if_ne (tgt := 25) hx hb dX5_pay_20 (by decide) (fun h9 => absurd (by decide) h9) (fun _ => ?_)
      refine lv_iconst (v := (-1)) hx hb dX5_pay_23 (by decide) ?_
      have hg : g_pay (X 0) q a = (-1) := by unfold g_pay; repeat (first | rw [ci_t c_10] | rw [ci_f c_10] | rw [ci_t c_17] | rw [ci_f c_17])
      exact retWE hx hb hr hlocks (by rw [opX_e hg (by decide)]; exact hP) hS dX5_pay_24 (opV_e hg (by decide))
  · refine lv_if_eq (tgt := 23) hx hb dX5_pay_13 (by decide) (fun _ => ?_) (fun h9 => absurd (by decide) h9)
    refine lv_iconst (v := (-1)) hx hb dX5_pay_23 (by decide) ?_
    have hg : g_pay (X 0) q a = (-1) := by unfold g_pay; repeat (first | rw [ci_t c_10] | rw [ci_f c_10])
    exact retWE hx hb hr hlocks (by rw [opX_e hg (by decide)]; exact hP) hS dX5_pay_24 (opV_e hg (by decide))
set_option maxHeartbeats 4000000 in
set_option maxRecDepth 100000 in
theorem c_X5_release {l : Launch} {D : va_G} {cI cR : ClassId} {ad : Nat → Nat} (hdj : Dj 236 ad) (X : St) (q : Int32) : WoE l D cI cR (Aw 236 ad) (wC cI cR ad X) (wC cI cR ad (opX X (g_release (X 0) q) 7 (-9) (-9) 0 (b_free0 (X 0) q))) yX5_release wsX5_release ({ frames := 5, cells := 0, slots := 0, locals := 150 } : Room) [.ref (ad 233), .int q] (opV (g_release (X 0) q) (a_free0 (X 0) q)) := by
  refine OfW (cc := cX5_release) (maxL := 2) (ret := (some .int)) (by decide +kernel) rfl (Nat.le_of_ble_eq_true rfl) (fun p e s m below meth c hx hb hr hts hown hlocks hml hnm hP hK hN ls hl => ?_)
  have hl : lv_has ls 2 [(0, .ref (ad 233)), (1, .int q)] := hl
  have lk_10 := hts (.fieldLink RX5 10 "HeadBudgets" "now" "LHeadBudgets$Books;") (by decide +kernel)
  have lk_82 := hts (.fieldLink RX5 82 "HeadBudgets$Books" "commitments" "LHeadBudgets$Commitments;") (by decide +kernel)
  have lk_104 := hts (.fieldLink RX5 104 "HeadBudgets$Commitments" "open" "[I") (by decide +kernel)
  have lk_19 := hts (.fieldLink RX5 19 "HeadBudgets" "memory" "LHeadBudgets$Memory;") (by decide +kernel)
  have hi_X0 : ∀ w ∈ wsX00, w ∈ wsX5_release := by decide +kernel
  have hi_X1 : ∀ w ∈ wsX10, w ∈ wsX5_release := by decide +kernel
  have hi_X5 : ∀ w ∈ wsX50, w ∈ wsX5_release := by decide +kernel
  have hS : va_S (Aw 236 ad) s.heap s.heap [] := va_S.rf
  have hP : va_P D vwCl (wC cI cR ad X) s.heap := hP
  refine lv_aload_n hx hb dX5_release_0 rfl (lv_at hl 0 rfl) ?_
  refine xget (C := RX5) (T := TX5) (N := 2) (ci := 5) (w := .ref (ad 0)) hx hb hts hi_X5 hown hK hP 233 g0_233 rfl 0 (by decide) lk_10 rfl dX5_release_1 ?_
  refine xget (C := RX0) (T := TX0) (N := 6) (ci := 0) (w := .ref (ad 12)) hx hb hts hi_X0 hown hK hP 0 g0_0 rfl 1 (by decide) lk_82 rfl dX5_release_4 ?_
  refine lv_iload_n hx hb dX5_release_7 rfl (lv_at hl 1 rfl) ?_
  refine callB (As := [.int q]) (rest := []) ⟨hx, hb, hml, hown, hts⟩ (c_X1_has X q) (cwV 1 hts gX5_release_X1_has rfl rfl rfl (by decide +kernel) ⟨Nat.le_of_ble_eq_true rfl, Nat.le_of_ble_eq_true rfl⟩) hK hN hP 12 g0_12 rfl rfl hl.1 rfl (Nat.le_of_ble_eq_true rfl) dX5_release_8 ⟨Nat.zero_le _, Nat.zero_le _⟩ (fun c_8 => ?_) (fun c_8 => ?_)
  · refine lv_if_ne (tgt := 16) hx hb dX5_release_11 (by decide) (fun _ => ?_) (fun h9 => absurd h9 (by decide))
    refine lv_aload_n hx hb dX5_release_16 rfl (lv_at hl 0 rfl) ?_
    refine xget (C := RX5) (T := TX5) (N := 2) (ci := 5) (w := .ref (ad 0)) hx hb hts hi_X5 hown hK hP 233 g0_233 rfl 0 (by decide) lk_10 rfl dX5_release_17 ?_
    refine xget (C := RX0) (T := TX0) (N := 6) (ci := 0) (w := .ref (ad 12)) hx hb hts hi_X0 hown hK hP 0 g0_0 rfl 1 (by decide) lk_82 rfl dX5_release_20 ?_
    refine xget (C := RX1) (T := TX1) (N := 5) (ci := 1) (w := .ref (ad 14)) hx hb hts hi_X1 hown hK hP 12 g0_12 rfl 1 (by decide) lk_104 rfl dX5_release_23 ?_
    refine lv_iload_n hx hb dX5_release_26 rfl (lv_at hl 1 rfl) ?_
    refine xald (x := qv (X 0) 11 q) hx hb hK hP 14 g0_14 (in40h c_8) rfl dX5_release_27 ?_
    refine lv_if_ne (tgt := 34) hx hb dX5_release_28 (by decide) (fun c_28 => ?_) (fun c_28 => ?_)
    · refine lv_aload_n hx hb dX5_release_34 rfl (lv_at hl 0 rfl) ?_
      refine xget (C := RX5) (T := TX5) (N := 2) (ci := 5) (w := .ref (ad 234)) hx hb hts hi_X5 hown hK hP 233 g0_233 rfl 1 (by decide) lk_19 rfl dX5_release_35 ?_
      refine lv_bipush (v := 7) hx hb dX5_release_38 (by decide) ?_
      refine lv_aload_n hx hb dX5_release_40 rfl (lv_at hl 0 rfl) ?_
      refine xget (C := RX5) (T := TX5) (N := 2) (ci := 5) (w := .ref (ad 0)) hx hb hts hi_X5 hown hK hP 233 g0_233 rfl 0 (by decide) lk_10 rfl dX5_release_41 ?_
      refine callWV (As := [.int 7, .ref (ad 0)]) (rest := []) ⟨hx, hb, hml, hown, hts⟩ (c_X4_remember hdj X 7) (cwV 2 hts gX5_release_X4_remember rfl rfl rfl (by decide +kernel) ⟨Nat.le_of_ble_eq_true rfl, Nat.le_of_ble_eq_true rfl⟩) hK hN hP 234 g0_234 rfl rfl hl.1 rfl (Nat.le_of_ble_eq_true rfl) dX5_release_44 ⟨Nat.zero_le _, Nat.zero_le _⟩ hS (fun _ h9 => h9) (fun H locs hP hS => ?_)
      obtain ⟨X_1, eX_1⟩ : ∃ Z : St, Z = N_rem X 7 (-9) (-9) 0 := ⟨_, rfl⟩
      rw [← eX_1] at hP
      refine lv_aload_n hx hb dX5_release_47 rfl (lv_at hl 0 rfl) ?_
      refine xget (C := RX5) (T := TX5) (N := 2) (ci := 5) (w := .ref (ad 0)) hx hb hts hi_X5 hown hK hP 233 g0_233 rfl 0 (by decide) lk_10 rfl dX5_release_48 ?_
      refine lv_iload_n hx hb dX5_release_51 rfl (lv_at hl 1 rfl) ?_
      refine callWE (As := [.int q]) (rest := []) ⟨hx, hb, hml, hown, hts⟩ (c_X0_freeOpenOf hdj X_1 q) (cwV 1 hts gX5_release_X0_freeOpenOf rfl rfl rfl (by decide +kernel) ⟨Nat.le_of_ble_eq_true rfl, Nat.le_of_ble_eq_true rfl⟩) hK hN hP 0 g0_0 rfl rfl hl.1 rfl (Nat.le_of_ble_eq_true rfl) dX5_release_52 ⟨Nat.zero_le _, Nat.zero_le _⟩ hS (fun _ h9 => h9) (fun H locs hP hS _ _ => ?_)
      obtain ⟨X_2, eX_2⟩ : ∃ Z : St, Z = sg X_1 0 (b_free0 (X_1 0) q) := ⟨_, rfl⟩
      rw [← eX_2] at hP
      have hg : g_release (X 0) q = 0 := by unfold g_release; repeat (first | rw [ci_t c_8] | rw [ci_f c_8] | rw [ci_t c_28] | rw [ci_f c_28])
      have hZ : X_2 = sg (N_rem X 7 (-9) (-9) 0) 0 (b_free0 (X 0) q) := by
        subst eX_2 eX_1
        try simp only [u3_sg, sg_sg, sg_g, N_rem_0]
        try dsimp only
        all_goals repeat (first | rw [ci_t c_8] | rw [ci_f c_8] | rw [ci_t c_28] | rw [ci_f c_28])
        all_goals (first | rfl | (rw [sg_self]) | (simp only [u3_sg, sg_sg, sg_g, N_rem_0]; done) | (simp only [u3_sg, sg_sg, sg_g, N_rem_0]; rfl))
      have hV : a_free0 (X_1 0) q = a_free0 (X 0) q := by
        subst eX_2 eX_1
        try simp only [u3_sg, sg_sg, sg_g, N_rem_0]
        try dsimp only
        all_goals repeat (first | rw [ci_t c_8] | rw [ci_f c_8] | rw [ci_t c_28] | rw [ci_f c_28])
        all_goals (first | rfl | (rw [sg_self]) | (simp only [u3_sg, sg_sg, sg_g, N_rem_0]; done) | (simp only [u3_sg, sg_sg, sg_g, N_rem_0]; rfl))
      exact retWE hx hb hr hlocks (by rw [opX_0 hg, ← hZ]; exact hP) hS dX5_release_55 (by rw [opV_0 hg]; first | done | exact hV)
    · refine lv_bipush (v := (-2)) hx hb dX5_release_31 (by decide) ?_
      have hg : g_release (X 0) q = (-2) := by unfold g_release; repeat (first | rw [ci_t c_8] | rw [ci_f c_8] | rw [ci_t c_28] | rw [ci_f c_28])
      exact retWE hx hb hr hlocks (by rw [opX_e hg (by decide)]; exact hP) hS dX5_release_33 (opV_e hg (by decide))
  · refine lv_if_ne (tgt := 16) hx hb dX5_release_11 (by decide) (fun h9 => absurd (by decide) h9) (fun _ => ?_)
    refine lv_iconst (v := (-1)) hx hb dX5_release_14 (by decide) ?_
    have hg : g_release (X 0) q = (-1) := by unfold g_release; repeat (first | rw [ci_t c_8] | rw [ci_f c_8])
    exact retWE hx hb hr hlocks (by rw [opX_e hg (by decide)]; exact hP) hS dX5_release_15 (opV_e hg (by decide))
set_option maxHeartbeats 4000000 in
set_option maxRecDepth 100000 in
theorem c_X5_vire {l : Launch} {D : va_G} {cI cR : ClassId} {ad : Nat → Nat} (hdj : Dj 236 ad) (X : St) (f : Int32) (t : Int32) (a : Int32) : WoE l D cI cR (Aw 236 ad) (wC cI cR ad X) (wC cI cR ad (opX X (g_vire (X 0) f t a) 8 f t a (b_mv (X 0) f t a))) yX5_vire wsX5_vire ({ frames := 5, cells := 0, slots := 0, locals := 152 } : Room) [.ref (ad 233), .int f, .int t, .int a] (opV (g_vire (X 0) f t a) (p_free (b_mv (X 0) f t a) f)) := by
  refine OfW (cc := cX5_vire) (maxL := 5) (ret := (some .int)) (by decide +kernel) rfl (Nat.le_of_ble_eq_true rfl) (fun p e s m below meth c hx hb hr hts hown hlocks hml hnm hP hK hN ls hl => ?_)
  have hl : lv_has ls 5 [(0, .ref (ad 233)), (1, .int f), (2, .int t), (3, .int a)] := hl
  have lk_10 := hts (.fieldLink RX5 10 "HeadBudgets" "now" "LHeadBudgets$Books;") (by decide +kernel)
  have lk_23 := hts (.fieldLink RX5 23 "HeadBudgets$Books" "heads" "LHeadBudgets$Heads;") (by decide +kernel)
  have lk_19 := hts (.fieldLink RX5 19 "HeadBudgets" "memory" "LHeadBudgets$Memory;") (by decide +kernel)
  have hi_X0 : ∀ w ∈ wsX00, w ∈ wsX5_vire := by decide +kernel
  have hi_X5 : ∀ w ∈ wsX50, w ∈ wsX5_vire := by decide +kernel
  have hS : va_S (Aw 236 ad) s.heap s.heap [] := va_S.rf
  have hP : va_P D vwCl (wC cI cR ad X) s.heap := hP
  refine lv_aload_n hx hb dX5_vire_0 rfl (lv_at hl 0 rfl) ?_
  refine xget (C := RX5) (T := TX5) (N := 2) (ci := 5) (w := .ref (ad 0)) hx hb hts hi_X5 hown hK hP 233 g0_233 rfl 0 (by decide) lk_10 rfl dX5_vire_1 ?_
  refine xget (C := RX0) (T := TX0) (N := 6) (ci := 0) (w := .ref (ad 1)) hx hb hts hi_X0 hown hK hP 0 g0_0 rfl 0 (by decide) lk_23 rfl dX5_vire_4 ?_
  refine lv_astore (lv' := [(4, .ref (ad 1)), (0, .ref (ad 233)), (1, .int f), (2, .int t), (3, .int a)]) hx hb dX5_vire_7 hl (by decide) rfl (fun ls hl => ?_)
  refine lv_aload hx hb dX5_vire_9 (lv_at hl 0 rfl) ?_
  refine lv_iload_n hx hb dX5_vire_11 rfl (lv_at hl 2 rfl) ?_
  refine lv_iload_n hx hb dX5_vire_12 rfl (lv_at hl 3 rfl) ?_
  refine callB (As := [.int f, .int t]) (rest := []) ⟨hx, hb, hml, hown, hts⟩ (c_X3_hasBoth X f t) (cwV 2 hts gX5_vire_X3_hasBoth rfl rfl rfl (by decide +kernel) ⟨Nat.le_of_ble_eq_true rfl, Nat.le_of_ble_eq_true rfl⟩) hK hN hP 1 g0_1 rfl rfl hl.1 rfl (Nat.le_of_ble_eq_true rfl) dX5_vire_13 ⟨Nat.zero_le _, Nat.zero_le _⟩ (fun c_13 => ?_) (fun c_13 => ?_)
  · refine lv_if_eq (tgt := 26) hx hb dX5_vire_16 (by decide) (fun h9 => absurd h9 (by decide)) (fun _ => ?_)
    refine lv_iload_n hx hb dX5_vire_19 rfl (lv_at hl 4 rfl) ?_
    refine callSB (As := [.int a]) (rest := []) ⟨hx, hb, hml, hown, hts⟩ (c_X5_isAmount a) (va_cwS 1 hts gX5_vire_X5_isAmount rfl rfl rfl (by decide +kernel) ⟨Nat.le_of_ble_eq_true rfl, Nat.le_of_ble_eq_true rfl⟩) hK hN rfl hl.1 rfl (Nat.le_of_ble_eq_true rfl) dX5_vire_20 ⟨Nat.zero_le _, Nat.zero_le _⟩ (fun c_20 => ?_) (fun c_20 => ?_)
    · refine lv_if_ne (tgt := 28) hx hb dX5_vire_23 (by decide) (fun _ => ?_) (fun h9 => absurd h9 (by decide))
      refine lv_iload_n hx hb dX5_vire_28 rfl (lv_at hl 4 rfl) ?_
      refine lv_aload hx hb dX5_vire_29 (lv_at hl 0 rfl) ?_
      refine lv_iload_n hx hb dX5_vire_31 rfl (lv_at hl 2 rfl) ?_
      refine lv_iload_n hx hb dX5_vire_32 rfl (lv_at hl 3 rfl) ?_
      refine callE (As := [.int f, .int t]) (rest := [.int a]) ⟨hx, hb, hml, hown, hts⟩ (c_X3_movable X f t) (cwV 2 hts gX5_vire_X3_movable rfl rfl rfl (by decide +kernel) ⟨Nat.le_of_ble_eq_true rfl, Nat.le_of_ble_eq_true rfl⟩) hK hN hP 1 g0_1 rfl rfl hl.1 rfl (Nat.le_of_ble_eq_true rfl) dX5_vire_33 ⟨Nat.zero_le _, Nat.zero_le _⟩ ?_
      refine lv_icmp_le (tgt := 42) hx hb dX5_vire_36 (by decide) (fun c_36 => ?_) (fun c_36 => ?_)
      · refine lv_aload_n hx hb dX5_vire_42 rfl (lv_at hl 1 rfl) ?_
        refine xget (C := RX5) (T := TX5) (N := 2) (ci := 5) (w := .ref (ad 234)) hx hb hts hi_X5 hown hK hP 233 g0_233 rfl 1 (by decide) lk_19 rfl dX5_vire_43 ?_
        refine lv_aload_n hx hb dX5_vire_46 rfl (lv_at hl 1 rfl) ?_
        refine xget (C := RX5) (T := TX5) (N := 2) (ci := 5) (w := .ref (ad 0)) hx hb hts hi_X5 hown hK hP 233 g0_233 rfl 0 (by decide) lk_10 rfl dX5_vire_47 ?_
        refine lv_iload_n hx hb dX5_vire_50 rfl (lv_at hl 2 rfl) ?_
        refine lv_iload_n hx hb dX5_vire_51 rfl (lv_at hl 3 rfl) ?_
        refine lv_iload_n hx hb dX5_vire_52 rfl (lv_at hl 4 rfl) ?_
        refine callWV (As := [.ref (ad 0), .int f, .int t, .int a]) (rest := []) ⟨hx, hb, hml, hown, hts⟩ (c_X4_rememberVirement hdj X f t a) (cwV 4 hts gX5_vire_X4_rememberVirement rfl rfl rfl (by decide +kernel) ⟨Nat.le_of_ble_eq_true rfl, Nat.le_of_ble_eq_true rfl⟩) hK hN hP 234 g0_234 rfl rfl hl.1 rfl (Nat.le_of_ble_eq_true rfl) dX5_vire_53 ⟨Nat.zero_le _, Nat.zero_le _⟩ hS (fun _ h9 => h9) (fun H locs hP hS => ?_)
        obtain ⟨X_1, eX_1⟩ : ∃ Z : St, Z = N_rem X 8 f t a := ⟨_, rfl⟩
        rw [← eX_1] at hP
        refine lv_aload hx hb dX5_vire_56 (lv_at hl 0 rfl) ?_
        refine lv_iload_n hx hb dX5_vire_58 rfl (lv_at hl 2 rfl) ?_
        refine lv_iload_n hx hb dX5_vire_59 rfl (lv_at hl 3 rfl) ?_
        refine lv_iload_n hx hb dX5_vire_60 rfl (lv_at hl 4 rfl) ?_
        refine callWV (As := [.int f, .int t, .int a]) (rest := []) ⟨hx, hb, hml, hown, hts⟩ (c_X3_moveByVirement hdj X_1 f t a) (cwV 3 hts gX5_vire_X3_moveByVirement rfl rfl rfl (by decide +kernel) ⟨Nat.le_of_ble_eq_true rfl, Nat.le_of_ble_eq_true rfl⟩) hK hN hP 1 g0_1 rfl rfl hl.1 rfl (Nat.le_of_ble_eq_true rfl) dX5_vire_61 ⟨Nat.zero_le _, Nat.zero_le _⟩ hS (fun _ h9 => h9) (fun H locs hP hS => ?_)
        obtain ⟨X_2, eX_2⟩ : ∃ Z : St, Z = sg X_1 0 (b_mv (X_1 0) f t a) := ⟨_, rfl⟩
        rw [← eX_2] at hP
        refine lv_aload hx hb dX5_vire_64 (lv_at hl 0 rfl) ?_
        refine lv_iload_n hx hb dX5_vire_66 rfl (lv_at hl 2 rfl) ?_
        refine callE (As := [.int f]) (rest := []) ⟨hx, hb, hml, hown, hts⟩ (c_X3_freeOf X_2 f) (cwV 1 hts gX5_vire_X3_freeOf rfl rfl rfl (by decide +kernel) ⟨Nat.le_of_ble_eq_true rfl, Nat.le_of_ble_eq_true rfl⟩) hK hN hP 1 g0_1 rfl rfl hl.1 rfl (Nat.le_of_ble_eq_true rfl) dX5_vire_67 ⟨Nat.zero_le _, Nat.zero_le _⟩ ?_
        have hg : g_vire (X 0) f t a = 0 := by unfold g_vire; repeat (first | rw [ci_t c_13] | rw [ci_f c_13] | rw [ci_t c_20] | rw [ci_f c_20] | rw [ci_t c_36] | rw [ci_f c_36])
        have hZ : X_2 = sg (N_rem X 8 f t a) 0 (b_mv (X 0) f t a) := by
          subst eX_2 eX_1
          try simp only [u3_sg, sg_sg, sg_g, N_rem_0]
          try dsimp only
          all_goals repeat (first | rw [ci_t c_13] | rw [ci_f c_13] | rw [ci_t c_20] | rw [ci_f c_20] | rw [ci_t c_36] | rw [ci_f c_36])
          all_goals (first | rfl | (rw [sg_self]) | (simp only [u3_sg, sg_sg, sg_g, N_rem_0]; done) | (simp only [u3_sg, sg_sg, sg_g, N_rem_0]; rfl))
        have hV : p_free (X_2 0) f = p_free (b_mv (X 0) f t a) f := by
          subst eX_2 eX_1
          try simp only [u3_sg, sg_sg, sg_g, N_rem_0]
          try dsimp only
          all_goals repeat (first | rw [ci_t c_13] | rw [ci_f c_13] | rw [ci_t c_20] | rw [ci_f c_20] | rw [ci_t c_36] | rw [ci_f c_36])
          all_goals (first | rfl | (rw [sg_self]) | (simp only [u3_sg, sg_sg, sg_g, N_rem_0]; done) | (simp only [u3_sg, sg_sg, sg_g, N_rem_0]; rfl))
        exact retWE hx hb hr hlocks (by rw [opX_0 hg, ← hZ]; exact hP) hS dX5_vire_70 (by rw [opV_0 hg]; first | done | exact hV)
      · refine lv_bipush (v := (-2)) hx hb dX5_vire_39 (by decide) ?_
        have hg : g_vire (X 0) f t a = (-2) := by unfold g_vire; repeat (first | rw [ci_t c_13] | rw [ci_f c_13] | rw [ci_t c_20] | rw [ci_f c_20] | rw [ci_t c_36] | rw [ci_f c_36])
        exact retWE hx hb hr hlocks (by rw [opX_e hg (by decide)]; exact hP) hS dX5_vire_41 (opV_e hg (by decide))
    · refine lv_if_ne (tgt := 28) hx hb dX5_vire_23 (by decide) (fun h9 => absurd (by decide) h9) (fun _ => ?_)
      refine lv_iconst (v := (-1)) hx hb dX5_vire_26 (by decide) ?_
      have hg : g_vire (X 0) f t a = (-1) := by unfold g_vire; repeat (first | rw [ci_t c_13] | rw [ci_f c_13] | rw [ci_t c_20] | rw [ci_f c_20])
      exact retWE hx hb hr hlocks (by rw [opX_e hg (by decide)]; exact hP) hS dX5_vire_27 (opV_e hg (by decide))
  · refine lv_if_eq (tgt := 26) hx hb dX5_vire_16 (by decide) (fun _ => ?_) (fun h9 => absurd (by decide) h9)
    refine lv_iconst (v := (-1)) hx hb dX5_vire_26 (by decide) ?_
    have hg : g_vire (X 0) f t a = (-1) := by unfold g_vire; repeat (first | rw [ci_t c_13] | rw [ci_f c_13])
    exact retWE hx hb hr hlocks (by rw [opX_e hg (by decide)]; exact hP) hS dX5_vire_27 (opV_e hg (by decide))
set_option maxHeartbeats 4000000 in
set_option maxRecDepth 100000 in
theorem c_X5_endYear {l : Launch} {D : va_G} {cI cR : ClassId} {ad : Nat → Nat} (hdj : Dj 236 ad) (X : St) : WoE l D cI cR (Aw 236 ad) (wC cI cR ad X) (wC cI cR ad (opX X (g_endYear (X 0)) 9 (-9) (-9) 0 (n_endYear (X 0)))) yX5_endYear wsX5_endYear ({ frames := 5, cells := 0, slots := 0, locals := 150 } : Room) [.ref (ad 233)] (opV (g_endYear (X 0)) (p_lapse (X 0) 0 ((X 0) 14 3) 20)) := by
  refine OfW (cc := cX5_endYear) (maxL := 2) (ret := (some .int)) (by decide +kernel) rfl (Nat.le_of_ble_eq_true rfl) (fun p e s m below meth c hx hb hr hts hown hlocks hml hnm hP hK hN ls hl => ?_)
  have hl : lv_has ls 2 [(0, .ref (ad 233))] := hl
  have lk_10 := hts (.fieldLink RX5 10 "HeadBudgets" "now" "LHeadBudgets$Books;") (by decide +kernel)
  have lk_97 := hts (.fieldLink RX5 97 "HeadBudgets$Books" "year" "I") (by decide +kernel)
  have lk_19 := hts (.fieldLink RX5 19 "HeadBudgets" "memory" "LHeadBudgets$Memory;") (by decide +kernel)
  have lk_23 := hts (.fieldLink RX5 23 "HeadBudgets$Books" "heads" "LHeadBudgets$Heads;") (by decide +kernel)
  have lk_72 := hts (.fieldLink RX5 72 "HeadBudgets$Books" "carriedPart" "I") (by decide +kernel)
  have lk_144 := hts (.fieldLink RX5 144 "HeadBudgets$Books" "lapsed" "I") (by decide +kernel)
  have hi_X0 : ∀ w ∈ wsX00, w ∈ wsX5_endYear := by decide +kernel
  have hi_X5 : ∀ w ∈ wsX50, w ∈ wsX5_endYear := by decide +kernel
  have hS : va_S (Aw 236 ad) s.heap s.heap [] := va_S.rf
  have hP : va_P D vwCl (wC cI cR ad X) s.heap := hP
  refine lv_aload_n hx hb dX5_endYear_0 rfl (lv_at hl 0 rfl) ?_
  refine xget (C := RX5) (T := TX5) (N := 2) (ci := 5) (w := .ref (ad 0)) hx hb hts hi_X5 hown hK hP 233 g0_233 rfl 0 (by decide) lk_10 rfl dX5_endYear_1 ?_
  refine xget (C := RX0) (T := TX0) (N := 6) (ci := 0) (w := .int (X 0 14 0)) hx hb hts hi_X0 hown hK hP 0 g0_0 rfl 2 (by decide) lk_97 rfl dX5_endYear_4 ?_
  refine lv_bipush (v := 99) hx hb dX5_endYear_7 (by decide) ?_
  refine lv_icmp_lt (tgt := 15) hx hb dX5_endYear_9 (by decide) (fun c_9 => ?_) (fun c_9 => ?_)
  · refine lv_aload_n hx hb dX5_endYear_15 rfl (lv_at hl 0 rfl) ?_
    refine xget (C := RX5) (T := TX5) (N := 2) (ci := 5) (w := .ref (ad 234)) hx hb hts hi_X5 hown hK hP 233 g0_233 rfl 1 (by decide) lk_19 rfl dX5_endYear_16 ?_
    refine lv_bipush (v := 9) hx hb dX5_endYear_19 (by decide) ?_
    refine lv_aload_n hx hb dX5_endYear_21 rfl (lv_at hl 0 rfl) ?_
    refine xget (C := RX5) (T := TX5) (N := 2) (ci := 5) (w := .ref (ad 0)) hx hb hts hi_X5 hown hK hP 233 g0_233 rfl 0 (by decide) lk_10 rfl dX5_endYear_22 ?_
    refine callWV (As := [.int 9, .ref (ad 0)]) (rest := []) ⟨hx, hb, hml, hown, hts⟩ (c_X4_remember hdj X 9) (cwV 2 hts gX5_endYear_X4_remember rfl rfl rfl (by decide +kernel) ⟨Nat.le_of_ble_eq_true rfl, Nat.le_of_ble_eq_true rfl⟩) hK hN hP 234 g0_234 rfl rfl hl.1 rfl (Nat.le_of_ble_eq_true rfl) dX5_endYear_25 ⟨Nat.zero_le _, Nat.zero_le _⟩ hS (fun _ h9 => h9) (fun H locs hP hS => ?_)
    obtain ⟨X_1, eX_1⟩ : ∃ Z : St, Z = N_rem X 9 (-9) (-9) 0 := ⟨_, rfl⟩
    rw [← eX_1] at hP
    refine lv_aload_n hx hb dX5_endYear_28 rfl (lv_at hl 0 rfl) ?_
    refine xget (C := RX5) (T := TX5) (N := 2) (ci := 5) (w := .ref (ad 0)) hx hb hts hi_X5 hown hK hP 233 g0_233 rfl 0 (by decide) lk_10 rfl dX5_endYear_29 ?_
    refine xget (C := RX0) (T := TX0) (N := 6) (ci := 0) (w := .ref (ad 1)) hx hb hts hi_X0 hown hK hP 0 g0_0 rfl 0 (by decide) lk_23 rfl dX5_endYear_32 ?_
    refine lv_iconst (v := 0) hx hb dX5_endYear_35 (by decide) ?_
    refine lv_aload_n hx hb dX5_endYear_36 rfl (lv_at hl 0 rfl) ?_
    refine xget (C := RX5) (T := TX5) (N := 2) (ci := 5) (w := .ref (ad 0)) hx hb hts hi_X5 hown hK hP 233 g0_233 rfl 0 (by decide) lk_10 rfl dX5_endYear_37 ?_
    refine xget (C := RX0) (T := TX0) (N := 6) (ci := 0) (w := .int (X_1 0 14 3)) hx hb hts hi_X0 hown hK hP 0 g0_0 rfl 3 (by decide) lk_72 rfl dX5_endYear_40 ?_
    refine callE (As := [.int 0, .int (X_1 0 14 3)]) (rest := []) ⟨hx, hb, hml, hown, hts⟩ (c_X3_lapseWithin X_1 0 (X_1 0 14 3)) (cwV 2 hts gX5_endYear_X3_lapseWithin rfl rfl rfl (by decide +kernel) ⟨Nat.le_of_ble_eq_true rfl, Nat.le_of_ble_eq_true rfl⟩) hK hN hP 1 g0_1 rfl rfl hl.1 rfl (Nat.le_of_ble_eq_true rfl) dX5_endYear_43 ⟨Nat.zero_le _, Nat.zero_le _⟩ ?_
    refine lv_istore_n (lv' := [(1, .int (p_lapse (X_1 0) 0 (X_1 0 14 3) 20)), (0, .ref (ad 233))]) hx hb dX5_endYear_46 rfl hl (by decide) rfl (fun ls hl => ?_)
    refine lv_aload_n hx hb dX5_endYear_47 rfl (lv_at hl 1 rfl) ?_
    refine xget (C := RX5) (T := TX5) (N := 2) (ci := 5) (w := .ref (ad 0)) hx hb hts hi_X5 hown hK hP 233 g0_233 rfl 0 (by decide) lk_10 rfl dX5_endYear_48 ?_
    refine xget (C := RX0) (T := TX0) (N := 6) (ci := 0) (w := .ref (ad 1)) hx hb hts hi_X0 hown hK hP 0 g0_0 rfl 0 (by decide) lk_23 rfl dX5_endYear_51 ?_
    refine lv_aload_n hx hb dX5_endYear_54 rfl (lv_at hl 1 rfl) ?_
    refine xget (C := RX5) (T := TX5) (N := 2) (ci := 5) (w := .ref (ad 0)) hx hb hts hi_X5 hown hK hP 233 g0_233 rfl 0 (by decide) lk_10 rfl dX5_endYear_55 ?_
    refine xget (C := RX0) (T := TX0) (N := 6) (ci := 0) (w := .int (X_1 0 14 3)) hx hb hts hi_X0 hown hK hP 0 g0_0 rfl 3 (by decide) lk_72 rfl dX5_endYear_58 ?_
    refine callWV (As := [.int (X_1 0 14 3)]) (rest := []) ⟨hx, hb, hml, hown, hts⟩ (c_X3_carryForward hdj X_1 (X_1 0 14 3)) (cwV 1 hts gX5_endYear_X3_carryForward rfl rfl rfl (by decide +kernel) ⟨Nat.le_of_ble_eq_true rfl, Nat.le_of_ble_eq_true rfl⟩) hK hN hP 1 g0_1 rfl rfl hl.1 rfl (Nat.le_of_ble_eq_true rfl) dX5_endYear_61 ⟨Nat.zero_le _, Nat.zero_le _⟩ hS (fun _ h9 => h9) (fun H locs hP hS => ?_)
    obtain ⟨X_2, eX_2⟩ : ∃ Z : St, Z = sg X_1 0 (b_cf (X_1 0) (X_1 0 14 3) 20) := ⟨_, rfl⟩
    rw [← eX_2] at hP
    refine lv_aload_n hx hb dX5_endYear_64 rfl (lv_at hl 1 rfl) ?_
    refine xget (C := RX5) (T := TX5) (N := 2) (ci := 5) (w := .ref (ad 0)) hx hb hts hi_X5 hown hK hP 233 g0_233 rfl 0 (by decide) lk_10 rfl dX5_endYear_65 ?_
    refine lv_dup hx hb dX5_endYear_68 rfl ?_
    refine xget (C := RX0) (T := TX0) (N := 6) (ci := 0) (w := .int (X_2 0 14 4)) hx hb hts hi_X0 hown hK hP 0 g0_0 rfl 4 (by decide) lk_144 rfl dX5_endYear_69 ?_
    refine lv_iload_n hx hb dX5_endYear_72 rfl (lv_at hl 0 rfl) ?_
    refine lv_iadd hx hb dX5_endYear_73 ?_
    refine xput (C := RX0) (T := TX0) (N := 6) (ci := 0) hx hb hts hi_X0 tyX0 tyX0_ok nmX0 hown hK hP (wC_D hdj) hS 0 g0_0 rfl 4 (by decide) lk_144 rfl (by decide +kernel) (Nat.le_of_ble_eq_true rfl) s0_lapsed dX5_endYear_74 (fun H locs hP hS => ?_)
    obtain ⟨X_3, eX_3⟩ : ∃ Z : St, Z = u3 X_2 0 14 4 ((X_2 0 14 4) + (p_lapse (X_1 0) 0 (X_1 0 14 3) 20)) := ⟨_, rfl⟩
    rw [← eX_3] at hP
    refine lv_aload_n hx hb dX5_endYear_77 rfl (lv_at hl 1 rfl) ?_
    refine xget (C := RX5) (T := TX5) (N := 2) (ci := 5) (w := .ref (ad 0)) hx hb hts hi_X5 hown hK hP 233 g0_233 rfl 0 (by decide) lk_10 rfl dX5_endYear_78 ?_
    refine lv_dup hx hb dX5_endYear_81 rfl ?_
    refine xget (C := RX0) (T := TX0) (N := 6) (ci := 0) (w := .int (X_3 0 14 0)) hx hb hts hi_X0 hown hK hP 0 g0_0 rfl 2 (by decide) lk_97 rfl dX5_endYear_82 ?_
    refine lv_iconst (v := 1) hx hb dX5_endYear_85 (by decide) ?_
    refine lv_iadd hx hb dX5_endYear_86 ?_
    refine xput (C := RX0) (T := TX0) (N := 6) (ci := 0) hx hb hts hi_X0 tyX0 tyX0_ok nmX0 hown hK hP (wC_D hdj) hS 0 g0_0 rfl 2 (by decide) lk_97 rfl (by decide +kernel) (Nat.le_of_ble_eq_true rfl) s0_year dX5_endYear_87 (fun H locs hP hS => ?_)
    obtain ⟨X_4, eX_4⟩ : ∃ Z : St, Z = u3 X_3 0 14 0 ((X_3 0 14 0) + 1) := ⟨_, rfl⟩
    rw [← eX_4] at hP
    refine lv_iload_n hx hb dX5_endYear_90 rfl (lv_at hl 0 rfl) ?_
    have hg : g_endYear (X 0) = 0 := by unfold g_endYear; repeat (first | rw [ci_t c_9] | rw [ci_f c_9])
    have hZ : X_4 = sg (N_rem X 9 (-9) (-9) 0) 0 (n_endYear (X 0)) := by
      subst eX_4 eX_3 eX_2 eX_1
      try simp only [u3_sg, sg_sg, sg_g, N_rem_0]
      try unfold n_endYear
      try dsimp only
      all_goals repeat (first | rw [ci_t c_9] | rw [ci_f c_9])
      all_goals (first | rfl | (rw [sg_self]) | (simp only [u3_sg, sg_sg, sg_g, N_rem_0]; done) | (simp only [u3_sg, sg_sg, sg_g, N_rem_0]; rfl))
    have hV : p_lapse (X_1 0) 0 (X_1 0 14 3) 20 = p_lapse (X 0) 0 ((X 0) 14 3) 20 := by
      subst eX_4 eX_3 eX_2 eX_1
      try simp only [u3_sg, sg_sg, sg_g, N_rem_0]
      try dsimp only
      all_goals repeat (first | rw [ci_t c_9] | rw [ci_f c_9])
      all_goals (first | rfl | (rw [sg_self]) | (simp only [u3_sg, sg_sg, sg_g, N_rem_0]; done) | (simp only [u3_sg, sg_sg, sg_g, N_rem_0]; rfl))
    exact retWE hx hb hr hlocks (by rw [opX_0 hg, ← hZ]; exact hP) hS dX5_endYear_91 (by rw [opV_0 hg]; first | done | exact hV)
  · refine lv_bipush (v := (-2)) hx hb dX5_endYear_12 (by decide) ?_
    have hg : g_endYear (X 0) = (-2) := by unfold g_endYear; repeat (first | rw [ci_t c_9] | rw [ci_f c_9])
    exact retWE hx hb hr hlocks (by rw [opX_e hg (by decide)]; exact hP) hS dX5_endYear_14 (opV_e hg (by decide))
set_option maxHeartbeats 4000000 in
set_option maxRecDepth 100000 in
theorem c_X5_revokeVirement {l : Launch} {D : va_G} {cI cR : ClassId} {ad : Nat → Nat} (hdj : Dj 236 ad) (X : St) (q : Int32) (f : Int32) (t : Int32) (a : Int32) : WoE l D cI cR (Aw 236 ad) (wC cI cR ad X) (wC cI cR ad (opX X (g_rv (X 0) t a) 10 q (-9) 0 (b_mv (X 0) f t (-a)))) yX5_revokeVirement wsX5_revokeVirement ({ frames := 5, cells := 0, slots := 0, locals := 150 } : Room) [.ref (ad 233), .int q, .int f, .int t, .int a] (opV (g_rv (X 0) t a) a) := by
  refine OfW (cc := cX5_revokeVirement) (maxL := 5) (ret := (some .int)) (by decide +kernel) rfl (Nat.le_of_ble_eq_true rfl) (fun p e s m below meth c hx hb hr hts hown hlocks hml hnm hP hK hN ls hl => ?_)
  have hl : lv_has ls 5 [(0, .ref (ad 233)), (1, .int q), (2, .int f), (3, .int t), (4, .int a)] := hl
  have lk_10 := hts (.fieldLink RX5 10 "HeadBudgets" "now" "LHeadBudgets$Books;") (by decide +kernel)
  have lk_23 := hts (.fieldLink RX5 23 "HeadBudgets$Books" "heads" "LHeadBudgets$Heads;") (by decide +kernel)
  have lk_19 := hts (.fieldLink RX5 19 "HeadBudgets" "memory" "LHeadBudgets$Memory;") (by decide +kernel)
  have hi_X0 : ∀ w ∈ wsX00, w ∈ wsX5_revokeVirement := by decide +kernel
  have hi_X5 : ∀ w ∈ wsX50, w ∈ wsX5_revokeVirement := by decide +kernel
  have hS : va_S (Aw 236 ad) s.heap s.heap [] := va_S.rf
  have hP : va_P D vwCl (wC cI cR ad X) s.heap := hP
  refine lv_iload hx hb dX5_revokeVirement_0 (lv_at hl 4 rfl) ?_
  refine lv_aload_n hx hb dX5_revokeVirement_2 rfl (lv_at hl 0 rfl) ?_
  refine xget (C := RX5) (T := TX5) (N := 2) (ci := 5) (w := .ref (ad 0)) hx hb hts hi_X5 hown hK hP 233 g0_233 rfl 0 (by decide) lk_10 rfl dX5_revokeVirement_3 ?_
  refine xget (C := RX0) (T := TX0) (N := 6) (ci := 0) (w := .ref (ad 1)) hx hb hts hi_X0 hown hK hP 0 g0_0 rfl 0 (by decide) lk_23 rfl dX5_revokeVirement_6 ?_
  refine lv_iload_n hx hb dX5_revokeVirement_9 rfl (lv_at hl 3 rfl) ?_
  refine callE (As := [.int t]) (rest := [.int a]) ⟨hx, hb, hml, hown, hts⟩ (c_X3_freeOf X t) (cwV 1 hts gX5_revokeVirement_X3_freeOf rfl rfl rfl (by decide +kernel) ⟨Nat.le_of_ble_eq_true rfl, Nat.le_of_ble_eq_true rfl⟩) hK hN hP 1 g0_1 rfl rfl hl.1 rfl (Nat.le_of_ble_eq_true rfl) dX5_revokeVirement_10 ⟨Nat.zero_le _, Nat.zero_le _⟩ ?_
  refine lv_icmp_le (tgt := 19) hx hb dX5_revokeVirement_13 (by decide) (fun c_13 => ?_) (fun c_13 => ?_)
  · refine lv_aload_n hx hb dX5_revokeVirement_19 rfl (lv_at hl 0 rfl) ?_
    refine xget (C := RX5) (T := TX5) (N := 2) (ci := 5) (w := .ref (ad 234)) hx hb hts hi_X5 hown hK hP 233 g0_233 rfl 1 (by decide) lk_19 rfl dX5_revokeVirement_20 ?_
    refine lv_aload_n hx hb dX5_revokeVirement_23 rfl (lv_at hl 0 rfl) ?_
    refine xget (C := RX5) (T := TX5) (N := 2) (ci := 5) (w := .ref (ad 0)) hx hb hts hi_X5 hown hK hP 233 g0_233 rfl 0 (by decide) lk_10 rfl dX5_revokeVirement_24 ?_
    refine lv_iload_n hx hb dX5_revokeVirement_27 rfl (lv_at hl 1 rfl) ?_
    refine callWV (As := [.ref (ad 0), .int q]) (rest := []) ⟨hx, hb, hml, hown, hts⟩ (c_X4_rememberRevoking hdj X q) (cwV 2 hts gX5_revokeVirement_X4_rememberRevoking rfl rfl rfl (by decide +kernel) ⟨Nat.le_of_ble_eq_true rfl, Nat.le_of_ble_eq_true rfl⟩) hK hN hP 234 g0_234 rfl rfl hl.1 rfl (Nat.le_of_ble_eq_true rfl) dX5_revokeVirement_28 ⟨Nat.zero_le _, Nat.zero_le _⟩ hS (fun _ h9 => h9) (fun H locs hP hS => ?_)
    obtain ⟨X_1, eX_1⟩ : ∃ Z : St, Z = N_rem X 10 q (-9) 0 := ⟨_, rfl⟩
    rw [← eX_1] at hP
    refine lv_aload_n hx hb dX5_revokeVirement_31 rfl (lv_at hl 0 rfl) ?_
    refine xget (C := RX5) (T := TX5) (N := 2) (ci := 5) (w := .ref (ad 0)) hx hb hts hi_X5 hown hK hP 233 g0_233 rfl 0 (by decide) lk_10 rfl dX5_revokeVirement_32 ?_
    refine xget (C := RX0) (T := TX0) (N := 6) (ci := 0) (w := .ref (ad 1)) hx hb hts hi_X0 hown hK hP 0 g0_0 rfl 0 (by decide) lk_23 rfl dX5_revokeVirement_35 ?_
    refine lv_iload_n hx hb dX5_revokeVirement_38 rfl (lv_at hl 2 rfl) ?_
    refine lv_iload_n hx hb dX5_revokeVirement_39 rfl (lv_at hl 3 rfl) ?_
    refine lv_iload hx hb dX5_revokeVirement_40 (lv_at hl 4 rfl) ?_
    refine lv_ineg hx hb dX5_revokeVirement_42 ?_
    refine callWV (As := [.int f, .int t, .int (-a)]) (rest := []) ⟨hx, hb, hml, hown, hts⟩ (c_X3_moveByVirement hdj X_1 f t (-a)) (cwV 3 hts gX5_revokeVirement_X3_moveByVirement rfl rfl rfl (by decide +kernel) ⟨Nat.le_of_ble_eq_true rfl, Nat.le_of_ble_eq_true rfl⟩) hK hN hP 1 g0_1 rfl rfl hl.1 rfl (Nat.le_of_ble_eq_true rfl) dX5_revokeVirement_43 ⟨Nat.zero_le _, Nat.zero_le _⟩ hS (fun _ h9 => h9) (fun H locs hP hS => ?_)
    obtain ⟨X_2, eX_2⟩ : ∃ Z : St, Z = sg X_1 0 (b_mv (X_1 0) f t (-a)) := ⟨_, rfl⟩
    rw [← eX_2] at hP
    refine lv_iload hx hb dX5_revokeVirement_46 (lv_at hl 4 rfl) ?_
    have hg : g_rv (X 0) t a = 0 := by unfold g_rv; repeat (first | rw [ci_t c_13] | rw [ci_f c_13])
    have hZ : X_2 = sg (N_rem X 10 q (-9) 0) 0 (b_mv (X 0) f t (-a)) := by
      subst eX_2 eX_1
      try simp only [u3_sg, sg_sg, sg_g, N_rem_0]
      try dsimp only
      all_goals repeat (first | rw [ci_t c_13] | rw [ci_f c_13])
      all_goals (first | rfl | (rw [sg_self]) | (simp only [u3_sg, sg_sg, sg_g, N_rem_0]; done) | (simp only [u3_sg, sg_sg, sg_g, N_rem_0]; rfl))
    have hV : a = a := by
      subst eX_2 eX_1
      try simp only [u3_sg, sg_sg, sg_g, N_rem_0]
      try dsimp only
      all_goals repeat (first | rw [ci_t c_13] | rw [ci_f c_13])
      all_goals (first | rfl | (rw [sg_self]) | (simp only [u3_sg, sg_sg, sg_g, N_rem_0]; done) | (simp only [u3_sg, sg_sg, sg_g, N_rem_0]; rfl))
    exact retWE hx hb hr hlocks (by rw [opX_0 hg, ← hZ]; exact hP) hS dX5_revokeVirement_48 (by rw [opV_0 hg]; first | done | exact hV)
  · refine lv_bipush (v := (-2)) hx hb dX5_revokeVirement_16 (by decide) ?_
    have hg : g_rv (X 0) t a = (-2) := by unfold g_rv; repeat (first | rw [ci_t c_13] | rw [ci_f c_13])
    exact retWE hx hb hr hlocks (by rw [opX_e hg (by decide)]; exact hP) hS dX5_revokeVirement_18 (opV_e hg (by decide))
set_option maxHeartbeats 4000000 in
set_option maxRecDepth 100000 in
theorem c_X5_revokeCommitment {l : Launch} {D : va_G} {cI cR : ClassId} {ad : Nat → Nat} (hdj : Dj 236 ad) (X : St) (q : Int32) (k : Int32) : WoE l D cI cR (Aw 236 ad) (wC cI cR ad X) (wC cI cR ad (opX X (g_rc (X 0) k) 10 q (-9) 0 (b_free0 (X 0) k))) yX5_revokeCommitment wsX5_revokeCommitment ({ frames := 5, cells := 0, slots := 0, locals := 150 } : Room) [.ref (ad 233), .int q, .int k] (opV (g_rc (X 0) k) (a_free0 (X 0) k)) := by
  refine OfW (cc := cX5_revokeCommitment) (maxL := 3) (ret := (some .int)) (by decide +kernel) rfl (Nat.le_of_ble_eq_true rfl) (fun p e s m below meth c hx hb hr hts hown hlocks hml hnm hP hK hN ls hl => ?_)
  have hl : lv_has ls 3 [(0, .ref (ad 233)), (1, .int q), (2, .int k)] := hl
  have lk_10 := hts (.fieldLink RX5 10 "HeadBudgets" "now" "LHeadBudgets$Books;") (by decide +kernel)
  have lk_82 := hts (.fieldLink RX5 82 "HeadBudgets$Books" "commitments" "LHeadBudgets$Commitments;") (by decide +kernel)
  have lk_104 := hts (.fieldLink RX5 104 "HeadBudgets$Commitments" "open" "[I") (by decide +kernel)
  have lk_19 := hts (.fieldLink RX5 19 "HeadBudgets" "memory" "LHeadBudgets$Memory;") (by decide +kernel)
  have hi_X0 : ∀ w ∈ wsX00, w ∈ wsX5_revokeCommitment := by decide +kernel
  have hi_X1 : ∀ w ∈ wsX10, w ∈ wsX5_revokeCommitment := by decide +kernel
  have hi_X5 : ∀ w ∈ wsX50, w ∈ wsX5_revokeCommitment := by decide +kernel
  have hS : va_S (Aw 236 ad) s.heap s.heap [] := va_S.rf
  have hP : va_P D vwCl (wC cI cR ad X) s.heap := hP
  refine lv_aload_n hx hb dX5_revokeCommitment_0 rfl (lv_at hl 0 rfl) ?_
  refine xget (C := RX5) (T := TX5) (N := 2) (ci := 5) (w := .ref (ad 0)) hx hb hts hi_X5 hown hK hP 233 g0_233 rfl 0 (by decide) lk_10 rfl dX5_revokeCommitment_1 ?_
  refine xget (C := RX0) (T := TX0) (N := 6) (ci := 0) (w := .ref (ad 12)) hx hb hts hi_X0 hown hK hP 0 g0_0 rfl 1 (by decide) lk_82 rfl dX5_revokeCommitment_4 ?_
  refine lv_iload_n hx hb dX5_revokeCommitment_7 rfl (lv_at hl 2 rfl) ?_
  refine callB (As := [.int k]) (rest := []) ⟨hx, hb, hml, hown, hts⟩ (c_X1_has X k) (cwV 1 hts gX5_revokeCommitment_X1_has rfl rfl rfl (by decide +kernel) ⟨Nat.le_of_ble_eq_true rfl, Nat.le_of_ble_eq_true rfl⟩) hK hN hP 12 g0_12 rfl rfl hl.1 rfl (Nat.le_of_ble_eq_true rfl) dX5_revokeCommitment_8 ⟨Nat.zero_le _, Nat.zero_le _⟩ (fun c_8 => ?_) (fun c_8 => ?_)
  · refine lv_if_eq (tgt := 29) hx hb dX5_revokeCommitment_11 (by decide) (fun h9 => absurd h9 (by decide)) (fun _ => ?_)
    refine lv_aload_n hx hb dX5_revokeCommitment_14 rfl (lv_at hl 0 rfl) ?_
    refine xget (C := RX5) (T := TX5) (N := 2) (ci := 5) (w := .ref (ad 0)) hx hb hts hi_X5 hown hK hP 233 g0_233 rfl 0 (by decide) lk_10 rfl dX5_revokeCommitment_15 ?_
    refine xget (C := RX0) (T := TX0) (N := 6) (ci := 0) (w := .ref (ad 12)) hx hb hts hi_X0 hown hK hP 0 g0_0 rfl 1 (by decide) lk_82 rfl dX5_revokeCommitment_18 ?_
    refine xget (C := RX1) (T := TX1) (N := 5) (ci := 1) (w := .ref (ad 14)) hx hb hts hi_X1 hown hK hP 12 g0_12 rfl 1 (by decide) lk_104 rfl dX5_revokeCommitment_21 ?_
    refine lv_iload_n hx hb dX5_revokeCommitment_24 rfl (lv_at hl 2 rfl) ?_
    refine xald (x := qv (X 0) 11 k) hx hb hK hP 14 g0_14 (in40h c_8) rfl dX5_revokeCommitment_25 ?_
    refine lv_if_ne (tgt := 32) hx hb dX5_revokeCommitment_26 (by decide) (fun c_26 => ?_) (fun c_26 => ?_)
    · refine lv_aload_n hx hb dX5_revokeCommitment_32 rfl (lv_at hl 0 rfl) ?_
      refine xget (C := RX5) (T := TX5) (N := 2) (ci := 5) (w := .ref (ad 234)) hx hb hts hi_X5 hown hK hP 233 g0_233 rfl 1 (by decide) lk_19 rfl dX5_revokeCommitment_33 ?_
      refine lv_aload_n hx hb dX5_revokeCommitment_36 rfl (lv_at hl 0 rfl) ?_
      refine xget (C := RX5) (T := TX5) (N := 2) (ci := 5) (w := .ref (ad 0)) hx hb hts hi_X5 hown hK hP 233 g0_233 rfl 0 (by decide) lk_10 rfl dX5_revokeCommitment_37 ?_
      refine lv_iload_n hx hb dX5_revokeCommitment_40 rfl (lv_at hl 1 rfl) ?_
      refine callWV (As := [.ref (ad 0), .int q]) (rest := []) ⟨hx, hb, hml, hown, hts⟩ (c_X4_rememberRevoking hdj X q) (cwV 2 hts gX5_revokeCommitment_X4_rememberRevoking rfl rfl rfl (by decide +kernel) ⟨Nat.le_of_ble_eq_true rfl, Nat.le_of_ble_eq_true rfl⟩) hK hN hP 234 g0_234 rfl rfl hl.1 rfl (Nat.le_of_ble_eq_true rfl) dX5_revokeCommitment_41 ⟨Nat.zero_le _, Nat.zero_le _⟩ hS (fun _ h9 => h9) (fun H locs hP hS => ?_)
      obtain ⟨X_1, eX_1⟩ : ∃ Z : St, Z = N_rem X 10 q (-9) 0 := ⟨_, rfl⟩
      rw [← eX_1] at hP
      refine lv_aload_n hx hb dX5_revokeCommitment_44 rfl (lv_at hl 0 rfl) ?_
      refine xget (C := RX5) (T := TX5) (N := 2) (ci := 5) (w := .ref (ad 0)) hx hb hts hi_X5 hown hK hP 233 g0_233 rfl 0 (by decide) lk_10 rfl dX5_revokeCommitment_45 ?_
      refine lv_iload_n hx hb dX5_revokeCommitment_48 rfl (lv_at hl 2 rfl) ?_
      refine callWE (As := [.int k]) (rest := []) ⟨hx, hb, hml, hown, hts⟩ (c_X0_freeOpenOf hdj X_1 k) (cwV 1 hts gX5_revokeCommitment_X0_freeOpenOf rfl rfl rfl (by decide +kernel) ⟨Nat.le_of_ble_eq_true rfl, Nat.le_of_ble_eq_true rfl⟩) hK hN hP 0 g0_0 rfl rfl hl.1 rfl (Nat.le_of_ble_eq_true rfl) dX5_revokeCommitment_49 ⟨Nat.zero_le _, Nat.zero_le _⟩ hS (fun _ h9 => h9) (fun H locs hP hS _ _ => ?_)
      obtain ⟨X_2, eX_2⟩ : ∃ Z : St, Z = sg X_1 0 (b_free0 (X_1 0) k) := ⟨_, rfl⟩
      rw [← eX_2] at hP
      have hg : g_rc (X 0) k = 0 := by unfold g_rc; repeat (first | rw [ci_t c_8] | rw [ci_f c_8] | rw [ci_t c_26] | rw [ci_f c_26])
      have hZ : X_2 = sg (N_rem X 10 q (-9) 0) 0 (b_free0 (X 0) k) := by
        subst eX_2 eX_1
        try simp only [u3_sg, sg_sg, sg_g, N_rem_0]
        try dsimp only
        all_goals repeat (first | rw [ci_t c_8] | rw [ci_f c_8] | rw [ci_t c_26] | rw [ci_f c_26])
        all_goals (first | rfl | (rw [sg_self]) | (simp only [u3_sg, sg_sg, sg_g, N_rem_0]; done) | (simp only [u3_sg, sg_sg, sg_g, N_rem_0]; rfl))
      have hV : a_free0 (X_1 0) k = a_free0 (X 0) k := by
        subst eX_2 eX_1
        try simp only [u3_sg, sg_sg, sg_g, N_rem_0]
        try dsimp only
        all_goals repeat (first | rw [ci_t c_8] | rw [ci_f c_8] | rw [ci_t c_26] | rw [ci_f c_26])
        all_goals (first | rfl | (rw [sg_self]) | (simp only [u3_sg, sg_sg, sg_g, N_rem_0]; done) | (simp only [u3_sg, sg_sg, sg_g, N_rem_0]; rfl))
      exact retWE hx hb hr hlocks (by rw [opX_0 hg, ← hZ]; exact hP) hS dX5_revokeCommitment_52 (by rw [opV_0 hg]; first | done | exact hV)
    · refine lv_bipush (v := (-2)) hx hb dX5_revokeCommitment_29 (by decide) ?_
      have hg : g_rc (X 0) k = (-2) := by unfold g_rc; repeat (first | rw [ci_t c_8] | rw [ci_f c_8] | rw [ci_t c_26] | rw [ci_f c_26])
      exact retWE hx hb hr hlocks (by rw [opX_e hg (by decide)]; exact hP) hS dX5_revokeCommitment_31 (opV_e hg (by decide))
  · refine lv_if_eq (tgt := 29) hx hb dX5_revokeCommitment_11 (by decide) (fun _ => ?_) (fun h9 => absurd (by decide) h9)
    refine lv_bipush (v := (-2)) hx hb dX5_revokeCommitment_29 (by decide) ?_
    have hg : g_rc (X 0) k = (-2) := by unfold g_rc; repeat (first | rw [ci_t c_8] | rw [ci_f c_8])
    exact retWE hx hb hr hlocks (by rw [opX_e hg (by decide)]; exact hP) hS dX5_revokeCommitment_31 (opV_e hg (by decide))
set_option maxHeartbeats 4000000 in
set_option maxRecDepth 100000 in
theorem c_X5_undo {l : Launch} {D : va_G} {cI cR : ClassId} {ad : Nat → Nat} (hdj : Dj 236 ad) (X : St) : WoE l D cI cR (Aw 236 ad) (wC cI cR ad X) (wC cI cR ad (N_undo X)) yX5_undo wsX5_undo ({ frames := 3, cells := 0, slots := 0, locals := 102 } : Room) [.ref (ad 233)] (R_undo X) := by
  refine OfW (cc := cX5_undo) (maxL := 2) (ret := (some .int)) (by decide +kernel) rfl (Nat.le_of_ble_eq_true rfl) (fun p e s m below meth c hx hb hr hts hown hlocks hml hnm hP hK hN ls hl => ?_)
  have hl : lv_has ls 2 [(0, .ref (ad 233))] := hl
  have lk_19 := hts (.fieldLink RX5 19 "HeadBudgets" "memory" "LHeadBudgets$Memory;") (by decide +kernel)
  have lk_10 := hts (.fieldLink RX5 10 "HeadBudgets" "now" "LHeadBudgets$Books;") (by decide +kernel)
  have lk_151 := hts (.fieldLink RX5 151 "HeadBudgets$Deed" "before" "LHeadBudgets$Books;") (by decide +kernel)
  have hi_X2 : ∀ w ∈ wsX20, w ∈ wsX5_undo := by decide +kernel
  have hi_X5 : ∀ w ∈ wsX50, w ∈ wsX5_undo := by decide +kernel
  have hS : va_S (Aw 236 ad) s.heap s.heap [] := va_S.rf
  have hP : va_P D vwCl (wC cI cR ad X) s.heap := hP
  refine lv_aload_n hx hb dX5_undo_0 rfl (lv_at hl 0 rfl) ?_
  refine xget (C := RX5) (T := TX5) (N := 2) (ci := 5) (w := .ref (ad 234)) hx hb hts hi_X5 hown hK hP 233 g0_233 rfl 1 (by decide) lk_19 rfl dX5_undo_1 ?_
  refine lv_iconst (v := 0) hx hb dX5_undo_4 (by decide) ?_
  refine callQ (As := [.int 0]) (rest := []) ⟨hx, hb, hml, hown, hts⟩ (c_X4_recall X 0) (cwV 1 hts gX5_undo_X4_recall rfl rfl rfl (by decide +kernel) ⟨Nat.le_of_ble_eq_true rfl, Nat.le_of_ble_eq_true rfl⟩) hK hN hP 234 g0_234 rfl rfl hl.1 rfl (Nat.le_of_ble_eq_true rfl) dX5_undo_5 ⟨Nat.zero_le _, Nat.zero_le _⟩ ?_
  by_cases c_5 : p_norec X 0
  · rw [p_rec_none c_5]
    refine W.eq (g2 := F0 m 8 ls [.null]) rfl ?_
    refine lv_astore_nN (lv' := [(1, .null), (0, .ref (ad 233))]) hx hb dX5_undo_8 rfl hl (by decide) rfl (fun ls hl => ?_)
    refine lv_aload_nN hx hb dX5_undo_9 rfl (lv_at hl 0 rfl) ?_
    refine lv_ifnonnullN hx hb dX5_undo_10 ?_
    refine lv_bipush (v := (-2)) hx hb dX5_undo_13 (by decide) ?_
    have hZ : X = N_undo X := by
      try simp only [m_nil]
      try unfold N_undo
      try dsimp only
      all_goals repeat (first | rw [ci_t c_5] | rw [ci_f c_5])
      all_goals (first | rfl | (rw [sg_self]) | (simp only [m_nil]; done) | (simp only [m_nil]; rfl))
    have hV : (-2) = R_undo X := by
      try simp only [m_nil]
      try unfold R_undo
      try dsimp only
      all_goals repeat (first | rw [ci_t c_5] | rw [ci_f c_5])
      all_goals (first | rfl | (rw [sg_self]) | (simp only [m_nil]; done) | (simp only [m_nil]; rfl))
    exact retWE hx hb hr hlocks (by rw [← hZ]; exact hP) hS dX5_undo_15 hV
  · rw [p_rec_some c_5]
    obtain ⟨z_5, ez_5, hz_5⟩ : ∃ z : Nat, z = (p_slot X 0).toNatClampNeg ∧ z < 12 := ⟨_, rfl, slot_lt _ _⟩
    rw [← ez_5]
    refine W.eq (g2 := F0 m 8 ls [.ref (ad (221 + z_5))]) rfl ?_
    refine lv_astore_n (lv' := [(1, .ref (ad (221 + z_5))), (0, .ref (ad 233))]) hx hb dX5_undo_8 rfl hl (by decide) rfl (fun ls hl => ?_)
    refine lv_aload_n hx hb dX5_undo_9 rfl (lv_at hl 0 rfl) ?_
    refine lv_ifnonnull (tgt := 16) hx hb dX5_undo_10 (by decide) ?_
    refine lv_aload_n hx hb dX5_undo_16 rfl (lv_at hl 1 rfl) ?_
    refine xget (C := RX5) (T := TX5) (N := 2) (ci := 5) (w := .ref (ad 0)) hx hb hts hi_X5 hown hK hP 233 g0_233 rfl 0 (by decide) lk_10 rfl dX5_undo_17 ?_
    refine lv_aload_n hx hb dX5_undo_20 rfl (lv_at hl 0 rfl) ?_
    refine xget (C := RX2) (T := TX2) (N := 6) (ci := 2) (w := .ref (ad (17 * (z_5 + 1)))) hx hb hts hi_X2 hown hK hP ((221 + z_5)) (gd hz_5) rfl 0 (by decide) lk_151 rfl dX5_undo_21 ?_
    refine callWV (As := [.ref (ad (17 * (z_5 + 1)))]) (rest := []) ⟨hx, hb, hml, hown, hts⟩ (c_X0_copyFrom hdj X 0 ((z_5 + 1)) (by decide) (by omega) (by omega)) (cwV 1 hts gX5_undo_X0_copyFrom rfl rfl rfl (by decide +kernel) ⟨Nat.le_of_ble_eq_true rfl, Nat.le_of_ble_eq_true rfl⟩) hK hN hP 0 g0_0 rfl rfl hl.1 rfl (Nat.le_of_ble_eq_true rfl) dX5_undo_24 ⟨Nat.zero_le _, Nat.zero_le _⟩ hS (fun _ h9 => h9) (fun H locs hP hS => ?_)
    obtain ⟨X_1, eX_1⟩ : ∃ Z : St, Z = sg X 0 (X ((z_5 + 1))) := ⟨_, rfl⟩
    rw [← eX_1] at hP
    refine lv_aload_n hx hb dX5_undo_27 rfl (lv_at hl 1 rfl) ?_
    refine xget (C := RX5) (T := TX5) (N := 2) (ci := 5) (w := .ref (ad 234)) hx hb hts hi_X5 hown hK hP 233 g0_233 rfl 1 (by decide) lk_19 rfl dX5_undo_28 ?_
    refine callWE (As := []) (rest := []) ⟨hx, hb, hml, hown, hts⟩ (c_X4_forgetLatest hdj X_1) (cwV 0 hts gX5_undo_X4_forgetLatest rfl rfl rfl (by decide +kernel) ⟨Nat.le_of_ble_eq_true rfl, Nat.le_of_ble_eq_true rfl⟩) hK hN hP 234 g0_234 rfl rfl hl.1 rfl (Nat.le_of_ble_eq_true rfl) dX5_undo_31 ⟨Nat.zero_le _, Nat.zero_le _⟩ hS (fun _ h9 => h9) (fun H locs hP hS _ _ => ?_)
    obtain ⟨X_2, eX_2⟩ : ∃ Z : St, Z = N_fl X_1 := ⟨_, rfl⟩
    rw [← eX_2] at hP
    have hZ : X_2 = N_undo X := by
      subst eX_2 eX_1 ez_5
      try simp only [m_nil]
      try unfold N_undo
      try dsimp only
      all_goals repeat (first | rw [ci_t c_5] | rw [ci_f c_5])
      all_goals (first | rfl | (rw [sg_self]) | (simp only [m_nil]; done) | (simp only [m_nil]; rfl))
    have hV : a_fl X_1 = R_undo X := by
      subst eX_2 eX_1 ez_5
      try simp only [m_nil]
      try unfold R_undo
      try dsimp only
      all_goals repeat (first | rw [ci_t c_5] | rw [ci_f c_5])
      all_goals (first | rfl | (rw [sg_self]) | (simp only [m_nil]; done) | (simp only [m_nil]; rfl))
    exact retWE hx hb hr hlocks (by rw [← hZ]; exact hP) hS dX5_undo_34 hV
set_option maxHeartbeats 4000000 in
set_option maxRecDepth 100000 in
theorem c_X5_revoke {l : Launch} {D : va_G} {cI cR : ClassId} {ad : Nat → Nat} (hdj : Dj 236 ad) (X : St) (i : Int32) : WoE l D cI cR (Aw 236 ad) (wC cI cR ad X) (wC cI cR ad (N_revoke X i)) yX5_revoke wsX5_revoke ({ frames := 6, cells := 0, slots := 0, locals := 174 } : Room) [.ref (ad 233), .int i] (R_revoke X i) := by
  refine OfW (cc := cX5_revoke) (maxL := 3) (ret := (some .int)) (by decide +kernel) rfl (Nat.le_of_ble_eq_true rfl) (fun p e s m below meth c hx hb hr hts hown hlocks hml hnm hP hK hN ls hl => ?_)
  have hl : lv_has ls 3 [(0, .ref (ad 233)), (1, .int i)] := hl
  have lk_19 := hts (.fieldLink RX5 19 "HeadBudgets" "memory" "LHeadBudgets$Memory;") (by decide +kernel)
  have lk_151 := hts (.fieldLink RX5 151 "HeadBudgets$Deed" "before" "LHeadBudgets$Books;") (by decide +kernel)
  have lk_97 := hts (.fieldLink RX5 97 "HeadBudgets$Books" "year" "I") (by decide +kernel)
  have lk_10 := hts (.fieldLink RX5 10 "HeadBudgets" "now" "LHeadBudgets$Books;") (by decide +kernel)
  have lk_163 := hts (.fieldLink RX5 163 "HeadBudgets$Deed" "number" "I") (by decide +kernel)
  have lk_169 := hts (.fieldLink RX5 169 "HeadBudgets$Deed" "kind" "I") (by decide +kernel)
  have lk_172 := hts (.fieldLink RX5 172 "HeadBudgets$Deed" "subject" "I") (by decide +kernel)
  have lk_175 := hts (.fieldLink RX5 175 "HeadBudgets$Deed" "taker" "I") (by decide +kernel)
  have lk_178 := hts (.fieldLink RX5 178 "HeadBudgets$Deed" "amount" "I") (by decide +kernel)
  have hi_X0 : ∀ w ∈ wsX00, w ∈ wsX5_revoke := by decide +kernel
  have hi_X2 : ∀ w ∈ wsX20, w ∈ wsX5_revoke := by decide +kernel
  have hi_X5 : ∀ w ∈ wsX50, w ∈ wsX5_revoke := by decide +kernel
  have hS : va_S (Aw 236 ad) s.heap s.heap [] := va_S.rf
  have hP : va_P D vwCl (wC cI cR ad X) s.heap := hP
  refine lv_iload_n hx hb dX5_revoke_0 rfl (lv_at hl 1 rfl) ?_
  refine lv_if_ge (tgt := 6) hx hb dX5_revoke_1 (by decide) (fun c_1 => ?_) (fun c_1 => ?_)
  · refine lv_aload_n hx hb dX5_revoke_6 rfl (lv_at hl 0 rfl) ?_
    refine xget (C := RX5) (T := TX5) (N := 2) (ci := 5) (w := .ref (ad 234)) hx hb hts hi_X5 hown hK hP 233 g0_233 rfl 1 (by decide) lk_19 rfl dX5_revoke_7 ?_
    refine lv_iload_n hx hb dX5_revoke_10 rfl (lv_at hl 1 rfl) ?_
    refine callQ (As := [.int i]) (rest := []) ⟨hx, hb, hml, hown, hts⟩ (c_X4_recall X i) (cwV 1 hts gX5_revoke_X4_recall rfl rfl rfl (by decide +kernel) ⟨Nat.le_of_ble_eq_true rfl, Nat.le_of_ble_eq_true rfl⟩) hK hN hP 234 g0_234 rfl rfl hl.1 rfl (Nat.le_of_ble_eq_true rfl) dX5_revoke_11 ⟨Nat.zero_le _, Nat.zero_le _⟩ ?_
    by_cases c_11 : p_norec X i
    · rw [p_rec_none c_11]
      refine W.eq (g2 := F0 m 14 ls [.null]) rfl ?_
      refine lv_astore_nN (lv' := [(2, .null), (0, .ref (ad 233)), (1, .int i)]) hx hb dX5_revoke_14 rfl hl (by decide) rfl (fun ls hl => ?_)
      refine lv_aload_nN hx hb dX5_revoke_15 rfl (lv_at hl 0 rfl) ?_
      refine lv_ifnullN (tgt := 50) hx hb dX5_revoke_16 (by decide) ?_
      refine lv_bipush (v := (-2)) hx hb dX5_revoke_50 (by decide) ?_
      have hZ : X = N_revoke X i := by
        try simp only [m_nil]
        try unfold N_revoke N_rk
        try dsimp only
        all_goals repeat (first | rw [ci_t c_1] | rw [ci_f c_1] | rw [ci_t c_11] | rw [ci_f c_11])
        all_goals (first | rfl | (rw [sg_self]) | (simp only [m_nil]; done) | (simp only [m_nil]; rfl))
      have hV : (-2) = R_revoke X i := by
        try simp only [m_nil]
        try unfold R_revoke R_rk
        try dsimp only
        all_goals repeat (first | rw [ci_t c_1] | rw [ci_f c_1] | rw [ci_t c_11] | rw [ci_f c_11])
        all_goals (first | rfl | (rw [sg_self]) | (simp only [m_nil]; done) | (simp only [m_nil]; rfl))
      exact retWE hx hb hr hlocks (by rw [← hZ]; exact hP) hS dX5_revoke_52 hV
    · rw [p_rec_some c_11]
      obtain ⟨z_11, ez_11, hz_11⟩ : ∃ z : Nat, z = (p_slot X i).toNatClampNeg ∧ z < 12 := ⟨_, rfl, slot_lt _ _⟩
      rw [← ez_11]
      refine W.eq (g2 := F0 m 14 ls [.ref (ad (221 + z_11))]) rfl ?_
      refine lv_astore_n (lv' := [(2, .ref (ad (221 + z_11))), (0, .ref (ad 233)), (1, .int i)]) hx hb dX5_revoke_14 rfl hl (by decide) rfl (fun ls hl => ?_)
      refine lv_aload_n hx hb dX5_revoke_15 rfl (lv_at hl 0 rfl) ?_
      refine lv_ifnull hx hb dX5_revoke_16 ?_
      refine lv_aload_n hx hb dX5_revoke_19 rfl (lv_at hl 0 rfl) ?_
      refine xget (C := RX2) (T := TX2) (N := 6) (ci := 2) (w := .ref (ad (17 * (z_11 + 1)))) hx hb hts hi_X2 hown hK hP ((221 + z_11)) (gd hz_11) rfl 0 (by decide) lk_151 rfl dX5_revoke_20 ?_
      refine xget (C := RX0) (T := TX0) (N := 6) (ci := 0) (w := .int (X ((z_11 + 1)) 14 0)) hx hb hts hi_X0 hown hK hP (17 * (z_11 + 1) + 0) (gg_0 (show (z_11 + 1) < 13 by omega)) rfl 2 (by decide) lk_97 rfl dX5_revoke_23 ?_
      refine lv_aload_n hx hb dX5_revoke_26 rfl (lv_at hl 1 rfl) ?_
      refine xget (C := RX5) (T := TX5) (N := 2) (ci := 5) (w := .ref (ad 0)) hx hb hts hi_X5 hown hK hP 233 g0_233 rfl 0 (by decide) lk_10 rfl dX5_revoke_27 ?_
      refine xget (C := RX0) (T := TX0) (N := 6) (ci := 0) (w := .int (X 0 14 0)) hx hb hts hi_X0 hown hK hP 0 g0_0 rfl 2 (by decide) lk_97 rfl dX5_revoke_30 ?_
      refine lv_icmp_ne (tgt := 50) hx hb dX5_revoke_33 (by decide) (fun c_33 => ?_) (fun c_33 => ?_)
      · refine lv_bipush (v := (-2)) hx hb dX5_revoke_50 (by decide) ?_
        have hZ : X = N_revoke X i := by
          subst ez_11
          try simp only [m_nil]
          try unfold N_revoke N_rk
          try dsimp only
          all_goals repeat (first | rw [ci_t c_1] | rw [ci_f c_1] | rw [ci_t c_11] | rw [ci_f c_11] | rw [ci_t c_33] | rw [ci_f c_33])
          all_goals (first | rfl | (rw [sg_self]) | (simp only [m_nil]; done) | (simp only [m_nil]; rfl))
        have hV : (-2) = R_revoke X i := by
          subst ez_11
          try simp only [m_nil]
          try unfold R_revoke R_rk
          try dsimp only
          all_goals repeat (first | rw [ci_t c_1] | rw [ci_f c_1] | rw [ci_t c_11] | rw [ci_f c_11] | rw [ci_t c_33] | rw [ci_f c_33])
          all_goals (first | rfl | (rw [sg_self]) | (simp only [m_nil]; done) | (simp only [m_nil]; rfl))
        exact retWE hx hb hr hlocks (by rw [← hZ]; exact hP) hS dX5_revoke_52 hV
      · refine lv_aload_n hx hb dX5_revoke_36 rfl (lv_at hl 1 rfl) ?_
        refine xget (C := RX5) (T := TX5) (N := 2) (ci := 5) (w := .ref (ad 234)) hx hb hts hi_X5 hown hK hP 233 g0_233 rfl 1 (by decide) lk_19 rfl dX5_revoke_37 ?_
        refine lv_aload_n hx hb dX5_revoke_40 rfl (lv_at hl 0 rfl) ?_
        refine xget (C := RX2) (T := TX2) (N := 6) (ci := 2) (w := .int (X 13 0 z_11)) hx hb hts hi_X2 hown hK hP ((221 + z_11)) (gd hz_11) rfl 1 (by decide) lk_163 rfl dX5_revoke_41 ?_
        refine callB (As := [.int (X 13 0 z_11)]) (rest := []) ⟨hx, hb, hml, hown, hts⟩ (c_X4_wasRevoked X (X 13 0 z_11)) (cwV 1 hts gX5_revoke_X4_wasRevoked rfl rfl rfl (by decide +kernel) ⟨Nat.le_of_ble_eq_true rfl, Nat.le_of_ble_eq_true rfl⟩) hK hN hP 234 g0_234 rfl rfl hl.1 rfl (Nat.le_of_ble_eq_true rfl) dX5_revoke_44 ⟨Nat.zero_le _, Nat.zero_le _⟩ (fun c_44 => ?_) (fun c_44 => ?_)
        · refine lv_if_eq (tgt := 53) hx hb dX5_revoke_47 (by decide) (fun h9 => absurd h9 (by decide)) (fun _ => ?_)
          refine lv_bipush (v := (-2)) hx hb dX5_revoke_50 (by decide) ?_
          have hZ : X = N_revoke X i := by
            subst ez_11
            try simp only [m_nil]
            try unfold N_revoke N_rk
            try dsimp only
            all_goals repeat (first | rw [ci_t c_1] | rw [ci_f c_1] | rw [ci_t c_11] | rw [ci_f c_11] | rw [ci_t c_33] | rw [ci_f c_33] | rw [ci_t c_44] | rw [ci_f c_44])
            all_goals (first | rfl | (rw [sg_self]) | (simp only [m_nil]; done) | (simp only [m_nil]; rfl))
          have hV : (-2) = R_revoke X i := by
            subst ez_11
            try simp only [m_nil]
            try unfold R_revoke R_rk
            try dsimp only
            all_goals repeat (first | rw [ci_t c_1] | rw [ci_f c_1] | rw [ci_t c_11] | rw [ci_f c_11] | rw [ci_t c_33] | rw [ci_f c_33] | rw [ci_t c_44] | rw [ci_f c_44])
            all_goals (first | rfl | (rw [sg_self]) | (simp only [m_nil]; done) | (simp only [m_nil]; rfl))
          exact retWE hx hb hr hlocks (by rw [← hZ]; exact hP) hS dX5_revoke_52 hV
        · refine lv_if_eq (tgt := 53) hx hb dX5_revoke_47 (by decide) (fun _ => ?_) (fun h9 => absurd (by decide) h9)
          refine lv_aload_n hx hb dX5_revoke_53 rfl (lv_at hl 0 rfl) ?_
          refine xget (C := RX2) (T := TX2) (N := 6) (ci := 2) (w := .int (X 13 1 z_11)) hx hb hts hi_X2 hown hK hP ((221 + z_11)) (gd hz_11) rfl 2 (by decide) lk_169 rfl dX5_revoke_54 ?_
          refine lv_bipush (v := 8) hx hb dX5_revoke_57 (by decide) ?_
          refine lv_icmp_ne (tgt := 83) hx hb dX5_revoke_59 (by decide) (fun c_59 => ?_) (fun c_59 => ?_)
          · refine lv_aload_n hx hb dX5_revoke_83 rfl (lv_at hl 0 rfl) ?_
            refine xget (C := RX2) (T := TX2) (N := 6) (ci := 2) (w := .int (X 13 1 z_11)) hx hb hts hi_X2 hown hK hP ((221 + z_11)) (gd hz_11) rfl 2 (by decide) lk_169 rfl dX5_revoke_84 ?_
            refine lv_iconst (v := 5) hx hb dX5_revoke_87 (by decide) ?_
            refine lv_icmp_ne (tgt := 104) hx hb dX5_revoke_88 (by decide) (fun c_88 => ?_) (fun c_88 => ?_)
            · refine lv_bipush (v := (-2)) hx hb dX5_revoke_104 (by decide) ?_
              have hZ : X = N_revoke X i := by
                subst ez_11
                try simp only [m_nil]
                try unfold N_revoke N_rk
                try dsimp only
                all_goals repeat (first | rw [ci_t c_1] | rw [ci_f c_1] | rw [ci_t c_11] | rw [ci_f c_11] | rw [ci_t c_33] | rw [ci_f c_33] | rw [ci_t c_44] | rw [ci_f c_44] | rw [ci_t c_59] | rw [ci_f c_59] | rw [ci_t c_88] | rw [ci_f c_88])
                all_goals (first | rfl | (rw [sg_self]) | (simp only [m_nil]; done) | (simp only [m_nil]; rfl))
              have hV : (-2) = R_revoke X i := by
                subst ez_11
                try simp only [m_nil]
                try unfold R_revoke R_rk
                try dsimp only
                all_goals repeat (first | rw [ci_t c_1] | rw [ci_f c_1] | rw [ci_t c_11] | rw [ci_f c_11] | rw [ci_t c_33] | rw [ci_f c_33] | rw [ci_t c_44] | rw [ci_f c_44] | rw [ci_t c_59] | rw [ci_f c_59] | rw [ci_t c_88] | rw [ci_f c_88])
                all_goals (first | rfl | (rw [sg_self]) | (simp only [m_nil]; done) | (simp only [m_nil]; rfl))
              exact retWE hx hb hr hlocks (by rw [← hZ]; exact hP) hS dX5_revoke_106 hV
            · refine lv_aload_n hx hb dX5_revoke_91 rfl (lv_at hl 1 rfl) ?_
              refine lv_aload_n hx hb dX5_revoke_92 rfl (lv_at hl 0 rfl) ?_
              refine xget (C := RX2) (T := TX2) (N := 6) (ci := 2) (w := .int (X 13 0 z_11)) hx hb hts hi_X2 hown hK hP ((221 + z_11)) (gd hz_11) rfl 1 (by decide) lk_163 rfl dX5_revoke_93 ?_
              refine lv_aload_n hx hb dX5_revoke_96 rfl (lv_at hl 0 rfl) ?_
              refine xget (C := RX2) (T := TX2) (N := 6) (ci := 2) (w := .int (X 13 2 z_11)) hx hb hts hi_X2 hown hK hP ((221 + z_11)) (gd hz_11) rfl 3 (by decide) lk_172 rfl dX5_revoke_97 ?_
              refine callWE (As := [.int (X 13 0 z_11), .int (X 13 2 z_11)]) (rest := []) ⟨hx, hb, hml, hown, hts⟩ (c_X5_revokeCommitment hdj X (X 13 0 z_11) (X 13 2 z_11)) (cwV 2 hts gX5_revoke_X5_revokeCommitment rfl rfl rfl (by decide +kernel) ⟨Nat.le_of_ble_eq_true rfl, Nat.le_of_ble_eq_true rfl⟩) hK hN hP 233 g0_233 rfl rfl hl.1 rfl (Nat.le_of_ble_eq_true rfl) dX5_revoke_100 ⟨Nat.zero_le _, Nat.zero_le _⟩ hS (fun _ h9 => h9) (fun H locs hP hS _ _ => ?_)
              obtain ⟨X_1, eX_1⟩ : ∃ Z : St, Z = opX X (g_rc (X 0) (X 13 2 z_11)) 10 (X 13 0 z_11) (-9) 0 (b_free0 (X 0) (X 13 2 z_11)) := ⟨_, rfl⟩
              rw [← eX_1] at hP
              have hZ : X_1 = N_revoke X i := by
                subst eX_1 ez_11
                try simp only [m_nil]
                try unfold N_revoke N_rk
                try dsimp only
                all_goals repeat (first | rw [ci_t c_1] | rw [ci_f c_1] | rw [ci_t c_11] | rw [ci_f c_11] | rw [ci_t c_33] | rw [ci_f c_33] | rw [ci_t c_44] | rw [ci_f c_44] | rw [ci_t c_59] | rw [ci_f c_59] | rw [ci_t c_88] | rw [ci_f c_88])
                all_goals (first | rfl | (rw [sg_self]) | (simp only [m_nil]; done) | (simp only [m_nil]; rfl))
              have hV : opV (g_rc (X 0) (X 13 2 z_11)) (a_free0 (X 0) (X 13 2 z_11)) = R_revoke X i := by
                subst eX_1 ez_11
                try simp only [m_nil]
                try unfold R_revoke R_rk
                try dsimp only
                all_goals repeat (first | rw [ci_t c_1] | rw [ci_f c_1] | rw [ci_t c_11] | rw [ci_f c_11] | rw [ci_t c_33] | rw [ci_f c_33] | rw [ci_t c_44] | rw [ci_f c_44] | rw [ci_t c_59] | rw [ci_f c_59] | rw [ci_t c_88] | rw [ci_f c_88])
                all_goals (first | rfl | (rw [sg_self]) | (simp only [m_nil]; done) | (simp only [m_nil]; rfl))
              exact retWE hx hb hr hlocks (by rw [← hZ]; exact hP) hS dX5_revoke_103 hV
          · refine lv_aload_n hx hb dX5_revoke_62 rfl (lv_at hl 1 rfl) ?_
            refine lv_aload_n hx hb dX5_revoke_63 rfl (lv_at hl 0 rfl) ?_
            refine xget (C := RX2) (T := TX2) (N := 6) (ci := 2) (w := .int (X 13 0 z_11)) hx hb hts hi_X2 hown hK hP ((221 + z_11)) (gd hz_11) rfl 1 (by decide) lk_163 rfl dX5_revoke_64 ?_
            refine lv_aload_n hx hb dX5_revoke_67 rfl (lv_at hl 0 rfl) ?_
            refine xget (C := RX2) (T := TX2) (N := 6) (ci := 2) (w := .int (X 13 2 z_11)) hx hb hts hi_X2 hown hK hP ((221 + z_11)) (gd hz_11) rfl 3 (by decide) lk_172 rfl dX5_revoke_68 ?_
            refine lv_aload_n hx hb dX5_revoke_71 rfl (lv_at hl 0 rfl) ?_
            refine xget (C := RX2) (T := TX2) (N := 6) (ci := 2) (w := .int (X 13 3 z_11)) hx hb hts hi_X2 hown hK hP ((221 + z_11)) (gd hz_11) rfl 4 (by decide) lk_175 rfl dX5_revoke_72 ?_
            refine lv_aload_n hx hb dX5_revoke_75 rfl (lv_at hl 0 rfl) ?_
            refine xget (C := RX2) (T := TX2) (N := 6) (ci := 2) (w := .int (X 13 4 z_11)) hx hb hts hi_X2 hown hK hP ((221 + z_11)) (gd hz_11) rfl 5 (by decide) lk_178 rfl dX5_revoke_76 ?_
            refine callWE (As := [.int (X 13 0 z_11), .int (X 13 2 z_11), .int (X 13 3 z_11), .int (X 13 4 z_11)]) (rest := []) ⟨hx, hb, hml, hown, hts⟩ (c_X5_revokeVirement hdj X (X 13 0 z_11) (X 13 2 z_11) (X 13 3 z_11) (X 13 4 z_11)) (cwV 4 hts gX5_revoke_X5_revokeVirement rfl rfl rfl (by decide +kernel) ⟨Nat.le_of_ble_eq_true rfl, Nat.le_of_ble_eq_true rfl⟩) hK hN hP 233 g0_233 rfl rfl hl.1 rfl (Nat.le_of_ble_eq_true rfl) dX5_revoke_79 ⟨Nat.zero_le _, Nat.zero_le _⟩ hS (fun _ h9 => h9) (fun H locs hP hS _ _ => ?_)
            obtain ⟨X_2, eX_2⟩ : ∃ Z : St, Z = opX X (g_rv (X 0) (X 13 3 z_11) (X 13 4 z_11)) 10 (X 13 0 z_11) (-9) 0 (b_mv (X 0) (X 13 2 z_11) (X 13 3 z_11) (-(X 13 4 z_11))) := ⟨_, rfl⟩
            rw [← eX_2] at hP
            have hZ : X_2 = N_revoke X i := by
              subst eX_2 ez_11
              try simp only [m_nil]
              try unfold N_revoke N_rk
              try dsimp only
              all_goals repeat (first | rw [ci_t c_1] | rw [ci_f c_1] | rw [ci_t c_11] | rw [ci_f c_11] | rw [ci_t c_33] | rw [ci_f c_33] | rw [ci_t c_44] | rw [ci_f c_44] | rw [ci_t c_59] | rw [ci_f c_59])
              all_goals (first | rfl | (rw [sg_self]) | (simp only [m_nil]; done) | (simp only [m_nil]; rfl))
            have hV : opV (g_rv (X 0) (X 13 3 z_11) (X 13 4 z_11)) (X 13 4 z_11) = R_revoke X i := by
              subst eX_2 ez_11
              try simp only [m_nil]
              try unfold R_revoke R_rk
              try dsimp only
              all_goals repeat (first | rw [ci_t c_1] | rw [ci_f c_1] | rw [ci_t c_11] | rw [ci_f c_11] | rw [ci_t c_33] | rw [ci_f c_33] | rw [ci_t c_44] | rw [ci_f c_44] | rw [ci_t c_59] | rw [ci_f c_59])
              all_goals (first | rfl | (rw [sg_self]) | (simp only [m_nil]; done) | (simp only [m_nil]; rfl))
            exact retWE hx hb hr hlocks (by rw [← hZ]; exact hP) hS dX5_revoke_82 hV
  · refine lv_iconst (v := (-1)) hx hb dX5_revoke_4 (by decide) ?_
    have hZ : X = N_revoke X i := by
      try simp only [m_nil]
      try unfold N_revoke N_rk
      try dsimp only
      all_goals repeat (first | rw [ci_t c_1] | rw [ci_f c_1])
      all_goals (first | rfl | (rw [sg_self]) | (simp only [m_nil]; done) | (simp only [m_nil]; rfl))
    have hV : (-1) = R_revoke X i := by
      try simp only [m_nil]
      try unfold R_revoke R_rk
      try dsimp only
      all_goals repeat (first | rw [ci_t c_1] | rw [ci_f c_1])
      all_goals (first | rfl | (rw [sg_self]) | (simp only [m_nil]; done) | (simp only [m_nil]; rfl))
    exact retWE hx hb hr hlocks (by rw [← hZ]; exact hP) hS dX5_revoke_5 hV
set_option maxHeartbeats 4000000 in
set_option maxRecDepth 100000 in
theorem c_X5_count {l : Launch} {D : va_G} {cI cR : ClassId} {ad : Nat → Nat} (X : St) (wh : Int32) : RoE l D cI cR (wC cI cR ad X) yX5_count wsX5_count ({ frames := 4, cells := 0, slots := 0, locals := 88 } : Room) [.ref (ad 233), .int wh] (v_count (X 0) (X 14 0 1) wh) := by
  refine OfW (cc := cX5_count) (maxL := 2) (ret := (some .int)) (by decide +kernel) rfl (Nat.le_of_ble_eq_true rfl) (fun p e s m below meth c hx hb hr hts hown hlocks hml hnm hP hK hN ls hl => ?_)
  have hl : lv_has ls 2 [(0, .ref (ad 233)), (1, .int wh)] := hl
  have lk_10 := hts (.fieldLink RX5 10 "HeadBudgets" "now" "LHeadBudgets$Books;") (by decide +kernel)
  have lk_97 := hts (.fieldLink RX5 97 "HeadBudgets$Books" "year" "I") (by decide +kernel)
  have lk_23 := hts (.fieldLink RX5 23 "HeadBudgets$Books" "heads" "LHeadBudgets$Heads;") (by decide +kernel)
  have lk_41 := hts (.fieldLink RX5 41 "HeadBudgets$Heads" "made" "I") (by decide +kernel)
  have lk_82 := hts (.fieldLink RX5 82 "HeadBudgets$Books" "commitments" "LHeadBudgets$Commitments;") (by decide +kernel)
  have lk_86 := hts (.fieldLink RX5 86 "HeadBudgets$Commitments" "made" "I") (by decide +kernel)
  have lk_72 := hts (.fieldLink RX5 72 "HeadBudgets$Books" "carriedPart" "I") (by decide +kernel)
  have lk_144 := hts (.fieldLink RX5 144 "HeadBudgets$Books" "lapsed" "I") (by decide +kernel)
  have lk_116 := hts (.fieldLink RX5 116 "HeadBudgets$Books" "spent" "I") (by decide +kernel)
  have lk_19 := hts (.fieldLink RX5 19 "HeadBudgets" "memory" "LHeadBudgets$Memory;") (by decide +kernel)
  have lk_197 := hts (.fieldLink RX5 197 "HeadBudgets$Memory" "held" "I") (by decide +kernel)
  have hi_X0 : ∀ w ∈ wsX00, w ∈ wsX5_count := by decide +kernel
  have hi_X1 : ∀ w ∈ wsX10, w ∈ wsX5_count := by decide +kernel
  have hi_X3 : ∀ w ∈ wsX30, w ∈ wsX5_count := by decide +kernel
  have hi_X4 : ∀ w ∈ wsX40, w ∈ wsX5_count := by decide +kernel
  have hi_X5 : ∀ w ∈ wsX50, w ∈ wsX5_count := by decide +kernel
  refine lv_iload_n hx hb dX5_count_0 rfl (lv_at hl 1 rfl) ?_
  by_cases s_1_0 : wh = 0
  · refine lv_tableIn (off := 55) (tgt := 56) hx hb dX5_count_1 (by rw [s_1_0]; decide) (by rw [s_1_0]; decide) (by rw [s_1_0]; rfl) (by decide) ?_
    refine lv_aload_n hx hb dX5_count_56 rfl (lv_at hl 0 rfl) ?_
    refine xget (C := RX5) (T := TX5) (N := 2) (ci := 5) (w := .ref (ad 0)) hx hb hts hi_X5 hown hK hP 233 g0_233 rfl 0 (by decide) lk_10 rfl dX5_count_57 ?_
    refine xget (C := RX0) (T := TX0) (N := 6) (ci := 0) (w := .int (X 0 14 0)) hx hb hts hi_X0 hown hK hP 0 g0_0 rfl 2 (by decide) lk_97 rfl dX5_count_60 ?_
    exact retE hx hb hr hlocks dX5_count_63 (by first | rfl | (unfold v_count; repeat (first | rw [ci_t s_1_0] | rw [ci_f s_1_0])))
  by_cases s_1_1 : wh = 1
  · refine lv_tableIn (off := 63) (tgt := 64) hx hb dX5_count_1 (by rw [s_1_1]; decide) (by rw [s_1_1]; decide) (by rw [s_1_1]; rfl) (by decide) ?_
    refine lv_aload_n hx hb dX5_count_64 rfl (lv_at hl 0 rfl) ?_
    refine xget (C := RX5) (T := TX5) (N := 2) (ci := 5) (w := .ref (ad 0)) hx hb hts hi_X5 hown hK hP 233 g0_233 rfl 0 (by decide) lk_10 rfl dX5_count_65 ?_
    refine xget (C := RX0) (T := TX0) (N := 6) (ci := 0) (w := .ref (ad 1)) hx hb hts hi_X0 hown hK hP 0 g0_0 rfl 0 (by decide) lk_23 rfl dX5_count_68 ?_
    refine xget (C := RX3) (T := TX3) (N := 11) (ci := 3) (w := .int (X 0 14 1)) hx hb hts hi_X3 hown hK hP 1 g0_1 rfl 10 (by decide) lk_41 rfl dX5_count_71 ?_
    exact retE hx hb hr hlocks dX5_count_74 (by first | rfl | (unfold v_count; repeat (first | rw [ci_t s_1_1] | rw [ci_f s_1_1] | rw [ci_t s_1_0] | rw [ci_f s_1_0])))
  by_cases s_1_2 : wh = 2
  · refine lv_tableIn (off := 74) (tgt := 75) hx hb dX5_count_1 (by rw [s_1_2]; decide) (by rw [s_1_2]; decide) (by rw [s_1_2]; rfl) (by decide) ?_
    refine lv_aload_n hx hb dX5_count_75 rfl (lv_at hl 0 rfl) ?_
    refine xget (C := RX5) (T := TX5) (N := 2) (ci := 5) (w := .ref (ad 0)) hx hb hts hi_X5 hown hK hP 233 g0_233 rfl 0 (by decide) lk_10 rfl dX5_count_76 ?_
    refine xget (C := RX0) (T := TX0) (N := 6) (ci := 0) (w := .ref (ad 12)) hx hb hts hi_X0 hown hK hP 0 g0_0 rfl 1 (by decide) lk_82 rfl dX5_count_79 ?_
    refine xget (C := RX1) (T := TX1) (N := 5) (ci := 1) (w := .int (X 0 14 2)) hx hb hts hi_X1 hown hK hP 12 g0_12 rfl 4 (by decide) lk_86 rfl dX5_count_82 ?_
    exact retE hx hb hr hlocks dX5_count_85 (by first | rfl | (unfold v_count; repeat (first | rw [ci_t s_1_2] | rw [ci_f s_1_2] | rw [ci_t s_1_0] | rw [ci_f s_1_0] | rw [ci_t s_1_1] | rw [ci_f s_1_1])))
  by_cases s_1_3 : wh = 3
  · refine lv_tableIn (off := 85) (tgt := 86) hx hb dX5_count_1 (by rw [s_1_3]; decide) (by rw [s_1_3]; decide) (by rw [s_1_3]; rfl) (by decide) ?_
    refine lv_aload_n hx hb dX5_count_86 rfl (lv_at hl 0 rfl) ?_
    refine xget (C := RX5) (T := TX5) (N := 2) (ci := 5) (w := .ref (ad 0)) hx hb hts hi_X5 hown hK hP 233 g0_233 rfl 0 (by decide) lk_10 rfl dX5_count_87 ?_
    refine xget (C := RX0) (T := TX0) (N := 6) (ci := 0) (w := .ref (ad 12)) hx hb hts hi_X0 hown hK hP 0 g0_0 rfl 1 (by decide) lk_82 rfl dX5_count_90 ?_
    refine callE (As := []) (rest := []) ⟨hx, hb, hml, hown, hts⟩ (c_X1_countOpen X) (cwV 0 hts gX5_count_X1_countOpen rfl rfl rfl (by decide +kernel) ⟨Nat.le_of_ble_eq_true rfl, Nat.le_of_ble_eq_true rfl⟩) hK hN hP 12 g0_12 rfl rfl hl.1 rfl (Nat.le_of_ble_eq_true rfl) dX5_count_93 ⟨Nat.zero_le _, Nat.zero_le _⟩ ?_
    exact retE hx hb hr hlocks dX5_count_96 (by first | rfl | (unfold v_count; repeat (first | rw [ci_t s_1_3] | rw [ci_f s_1_3] | rw [ci_t s_1_0] | rw [ci_f s_1_0] | rw [ci_t s_1_1] | rw [ci_f s_1_1] | rw [ci_t s_1_2] | rw [ci_f s_1_2])))
  by_cases s_1_4 : wh = 4
  · refine lv_tableIn (off := 96) (tgt := 97) hx hb dX5_count_1 (by rw [s_1_4]; decide) (by rw [s_1_4]; decide) (by rw [s_1_4]; rfl) (by decide) ?_
    refine lv_aload_n hx hb dX5_count_97 rfl (lv_at hl 0 rfl) ?_
    refine xget (C := RX5) (T := TX5) (N := 2) (ci := 5) (w := .ref (ad 0)) hx hb hts hi_X5 hown hK hP 233 g0_233 rfl 0 (by decide) lk_10 rfl dX5_count_98 ?_
    refine xget (C := RX0) (T := TX0) (N := 6) (ci := 0) (w := .ref (ad 1)) hx hb hts hi_X0 hown hK hP 0 g0_0 rfl 0 (by decide) lk_23 rfl dX5_count_101 ?_
    refine callE (As := []) (rest := []) ⟨hx, hb, hml, hown, hts⟩ (c_X3_countBarred X) (cwV 0 hts gX5_count_X3_countBarred rfl rfl rfl (by decide +kernel) ⟨Nat.le_of_ble_eq_true rfl, Nat.le_of_ble_eq_true rfl⟩) hK hN hP 1 g0_1 rfl rfl hl.1 rfl (Nat.le_of_ble_eq_true rfl) dX5_count_104 ⟨Nat.zero_le _, Nat.zero_le _⟩ ?_
    exact retE hx hb hr hlocks dX5_count_107 (by first | rfl | (unfold v_count; repeat (first | rw [ci_t s_1_4] | rw [ci_f s_1_4] | rw [ci_t s_1_0] | rw [ci_f s_1_0] | rw [ci_t s_1_1] | rw [ci_f s_1_1] | rw [ci_t s_1_2] | rw [ci_f s_1_2] | rw [ci_t s_1_3] | rw [ci_f s_1_3])))
  by_cases s_1_5 : wh = 5
  · refine lv_tableIn (off := 107) (tgt := 108) hx hb dX5_count_1 (by rw [s_1_5]; decide) (by rw [s_1_5]; decide) (by rw [s_1_5]; rfl) (by decide) ?_
    refine lv_aload_n hx hb dX5_count_108 rfl (lv_at hl 0 rfl) ?_
    refine xget (C := RX5) (T := TX5) (N := 2) (ci := 5) (w := .ref (ad 0)) hx hb hts hi_X5 hown hK hP 233 g0_233 rfl 0 (by decide) lk_10 rfl dX5_count_109 ?_
    refine xget (C := RX0) (T := TX0) (N := 6) (ci := 0) (w := .int (X 0 14 3)) hx hb hts hi_X0 hown hK hP 0 g0_0 rfl 3 (by decide) lk_72 rfl dX5_count_112 ?_
    exact retE hx hb hr hlocks dX5_count_115 (by first | rfl | (unfold v_count; repeat (first | rw [ci_t s_1_5] | rw [ci_f s_1_5] | rw [ci_t s_1_0] | rw [ci_f s_1_0] | rw [ci_t s_1_1] | rw [ci_f s_1_1] | rw [ci_t s_1_2] | rw [ci_f s_1_2] | rw [ci_t s_1_3] | rw [ci_f s_1_3] | rw [ci_t s_1_4] | rw [ci_f s_1_4])))
  by_cases s_1_6 : wh = 6
  · refine lv_tableIn (off := 115) (tgt := 116) hx hb dX5_count_1 (by rw [s_1_6]; decide) (by rw [s_1_6]; decide) (by rw [s_1_6]; rfl) (by decide) ?_
    refine lv_aload_n hx hb dX5_count_116 rfl (lv_at hl 0 rfl) ?_
    refine xget (C := RX5) (T := TX5) (N := 2) (ci := 5) (w := .ref (ad 0)) hx hb hts hi_X5 hown hK hP 233 g0_233 rfl 0 (by decide) lk_10 rfl dX5_count_117 ?_
    refine xget (C := RX0) (T := TX0) (N := 6) (ci := 0) (w := .ref (ad 1)) hx hb hts hi_X0 hown hK hP 0 g0_0 rfl 0 (by decide) lk_23 rfl dX5_count_120 ?_
    refine lv_iconst (v := 0) hx hb dX5_count_123 (by decide) ?_
    refine lv_iconst (v := 0) hx hb dX5_count_124 (by decide) ?_
    refine callE (As := [.int 0, .int 0]) (rest := []) ⟨hx, hb, hml, hown, hts⟩ (c_X3_sumWithin X 0 0) (cwV 2 hts gX5_count_X3_sumWithin rfl rfl rfl (by decide +kernel) ⟨Nat.le_of_ble_eq_true rfl, Nat.le_of_ble_eq_true rfl⟩) hK hN hP 1 g0_1 rfl rfl hl.1 rfl (Nat.le_of_ble_eq_true rfl) dX5_count_125 ⟨Nat.zero_le _, Nat.zero_le _⟩ ?_
    exact retE hx hb hr hlocks dX5_count_128 (by first | rfl | (unfold v_count; repeat (first | rw [ci_t s_1_6] | rw [ci_f s_1_6] | rw [ci_t s_1_0] | rw [ci_f s_1_0] | rw [ci_t s_1_1] | rw [ci_f s_1_1] | rw [ci_t s_1_2] | rw [ci_f s_1_2] | rw [ci_t s_1_3] | rw [ci_f s_1_3] | rw [ci_t s_1_4] | rw [ci_f s_1_4] | rw [ci_t s_1_5] | rw [ci_f s_1_5])))
  by_cases s_1_7 : wh = 7
  · refine lv_tableIn (off := 128) (tgt := 129) hx hb dX5_count_1 (by rw [s_1_7]; decide) (by rw [s_1_7]; decide) (by rw [s_1_7]; rfl) (by decide) ?_
    refine lv_aload_n hx hb dX5_count_129 rfl (lv_at hl 0 rfl) ?_
    refine xget (C := RX5) (T := TX5) (N := 2) (ci := 5) (w := .ref (ad 0)) hx hb hts hi_X5 hown hK hP 233 g0_233 rfl 0 (by decide) lk_10 rfl dX5_count_130 ?_
    refine xget (C := RX0) (T := TX0) (N := 6) (ci := 0) (w := .int (X 0 14 4)) hx hb hts hi_X0 hown hK hP 0 g0_0 rfl 4 (by decide) lk_144 rfl dX5_count_133 ?_
    exact retE hx hb hr hlocks dX5_count_136 (by first | rfl | (unfold v_count; repeat (first | rw [ci_t s_1_7] | rw [ci_f s_1_7] | rw [ci_t s_1_0] | rw [ci_f s_1_0] | rw [ci_t s_1_1] | rw [ci_f s_1_1] | rw [ci_t s_1_2] | rw [ci_f s_1_2] | rw [ci_t s_1_3] | rw [ci_f s_1_3] | rw [ci_t s_1_4] | rw [ci_f s_1_4] | rw [ci_t s_1_5] | rw [ci_f s_1_5] | rw [ci_t s_1_6] | rw [ci_f s_1_6])))
  by_cases s_1_8 : wh = 8
  · refine lv_tableIn (off := 136) (tgt := 137) hx hb dX5_count_1 (by rw [s_1_8]; decide) (by rw [s_1_8]; decide) (by rw [s_1_8]; rfl) (by decide) ?_
    refine lv_aload_n hx hb dX5_count_137 rfl (lv_at hl 0 rfl) ?_
    refine xget (C := RX5) (T := TX5) (N := 2) (ci := 5) (w := .ref (ad 0)) hx hb hts hi_X5 hown hK hP 233 g0_233 rfl 0 (by decide) lk_10 rfl dX5_count_138 ?_
    refine xget (C := RX0) (T := TX0) (N := 6) (ci := 0) (w := .int (X 0 14 5)) hx hb hts hi_X0 hown hK hP 0 g0_0 rfl 5 (by decide) lk_116 rfl dX5_count_141 ?_
    exact retE hx hb hr hlocks dX5_count_144 (by first | rfl | (unfold v_count; repeat (first | rw [ci_t s_1_8] | rw [ci_f s_1_8] | rw [ci_t s_1_0] | rw [ci_f s_1_0] | rw [ci_t s_1_1] | rw [ci_f s_1_1] | rw [ci_t s_1_2] | rw [ci_f s_1_2] | rw [ci_t s_1_3] | rw [ci_f s_1_3] | rw [ci_t s_1_4] | rw [ci_f s_1_4] | rw [ci_t s_1_5] | rw [ci_f s_1_5] | rw [ci_t s_1_6] | rw [ci_f s_1_6] | rw [ci_t s_1_7] | rw [ci_f s_1_7])))
  by_cases s_1_9 : wh = 9
  · refine lv_tableIn (off := 144) (tgt := 145) hx hb dX5_count_1 (by rw [s_1_9]; decide) (by rw [s_1_9]; decide) (by rw [s_1_9]; rfl) (by decide) ?_
    refine lv_aload_n hx hb dX5_count_145 rfl (lv_at hl 0 rfl) ?_
    refine xget (C := RX5) (T := TX5) (N := 2) (ci := 5) (w := .ref (ad 234)) hx hb hts hi_X5 hown hK hP 233 g0_233 rfl 1 (by decide) lk_19 rfl dX5_count_146 ?_
    refine xget (C := RX4) (T := TX4) (N := 4) (ci := 4) (w := .int (X 14 0 1)) hx hb hts hi_X4 hown hK hP 234 g0_234 rfl 2 (by decide) lk_197 rfl dX5_count_149 ?_
    exact retE hx hb hr hlocks dX5_count_152 (by first | rfl | (unfold v_count; repeat (first | rw [ci_t s_1_9] | rw [ci_f s_1_9] | rw [ci_t s_1_0] | rw [ci_f s_1_0] | rw [ci_t s_1_1] | rw [ci_f s_1_1] | rw [ci_t s_1_2] | rw [ci_f s_1_2] | rw [ci_t s_1_3] | rw [ci_f s_1_3] | rw [ci_t s_1_4] | rw [ci_f s_1_4] | rw [ci_t s_1_5] | rw [ci_f s_1_5] | rw [ci_t s_1_6] | rw [ci_f s_1_6] | rw [ci_t s_1_7] | rw [ci_f s_1_7] | rw [ci_t s_1_8] | rw [ci_f s_1_8])))
  have h9 : (wh).toInt < 0 ∨ 9 < (wh).toInt := by
    have q_0 := lv_neT (a := 0) s_1_0 rfl
    have q_1 := lv_neT (a := 1) s_1_1 rfl
    have q_2 := lv_neT (a := 2) s_1_2 rfl
    have q_3 := lv_neT (a := 3) s_1_3 rfl
    have q_4 := lv_neT (a := 4) s_1_4 rfl
    have q_5 := lv_neT (a := 5) s_1_5 rfl
    have q_6 := lv_neT (a := 6) s_1_6 rfl
    have q_7 := lv_neT (a := 7) s_1_7 rfl
    have q_8 := lv_neT (a := 8) s_1_8 rfl
    have q_9 := lv_neT (a := 9) s_1_9 rfl
    omega
  refine lv_tableOut (tgt := 153) hx hb dX5_count_1 h9 (by decide) ?_
  refine lv_iconst (v := (-1)) hx hb dX5_count_153 (by decide) ?_
  exact retE hx hb hr hlocks dX5_count_154 (by first | rfl | (unfold v_count; repeat (first | rw [ci_t s_1_0] | rw [ci_f s_1_0] | rw [ci_t s_1_1] | rw [ci_f s_1_1] | rw [ci_t s_1_2] | rw [ci_f s_1_2] | rw [ci_t s_1_3] | rw [ci_f s_1_3] | rw [ci_t s_1_4] | rw [ci_f s_1_4] | rw [ci_t s_1_5] | rw [ci_f s_1_5] | rw [ci_t s_1_6] | rw [ci_f s_1_6] | rw [ci_t s_1_7] | rw [ci_f s_1_7] | rw [ci_t s_1_8] | rw [ci_f s_1_8] | rw [ci_t s_1_9] | rw [ci_f s_1_9])))
set_option maxHeartbeats 4000000 in
set_option maxRecDepth 100000 in
theorem c_X5_head {l : Launch} {D : va_G} {cI cR : ClassId} {ad : Nat → Nat} (X : St) (h : Int32) (wh : Int32) : RoE l D cI cR (wC cI cR ad X) yX5_head wsX5_head ({ frames := 2, cells := 0, slots := 0, locals := 44 } : Room) [.ref (ad 233), .int h, .int wh] (v_head (X 0) h wh) := by
  refine OfW (cc := cX5_head) (maxL := 4) (ret := (some .int)) (by decide +kernel) rfl (Nat.le_of_ble_eq_true rfl) (fun p e s m below meth c hx hb hr hts hown hlocks hml hnm hP hK hN ls hl => ?_)
  have hl : lv_has ls 4 [(0, .ref (ad 233)), (1, .int h), (2, .int wh)] := hl
  have lk_10 := hts (.fieldLink RX5 10 "HeadBudgets" "now" "LHeadBudgets$Books;") (by decide +kernel)
  have lk_23 := hts (.fieldLink RX5 23 "HeadBudgets$Books" "heads" "LHeadBudgets$Heads;") (by decide +kernel)
  have lk_200 := hts (.fieldLink RX5 200 "HeadBudgets$Heads" "above" "[I") (by decide +kernel)
  have lk_37 := hts (.fieldLink RX5 37 "HeadBudgets$Heads" "depth" "[I") (by decide +kernel)
  have lk_203 := hts (.fieldLink RX5 203 "HeadBudgets$Heads" "rank" "[I") (by decide +kernel)
  have lk_59 := hts (.fieldLink RX5 59 "HeadBudgets$Heads" "frozen" "[I") (by decide +kernel)
  have lk_52 := hts (.fieldLink RX5 52 "HeadBudgets$Heads" "allotment" "[I") (by decide +kernel)
  have lk_206 := hts (.fieldLink RX5 206 "HeadBudgets$Heads" "committed" "[I") (by decide +kernel)
  have lk_209 := hts (.fieldLink RX5 209 "HeadBudgets$Heads" "spent" "[I") (by decide +kernel)
  have lk_56 := hts (.fieldLink RX5 56 "HeadBudgets$Heads" "allotted" "[I") (by decide +kernel)
  have lk_211 := hts (.fieldLink RX5 211 "HeadBudgets$Heads" "left" "[I") (by decide +kernel)
  have lk_69 := hts (.fieldLink RX5 69 "HeadBudgets$Heads" "share" "[I") (by decide +kernel)
  have hi_X0 : ∀ w ∈ wsX00, w ∈ wsX5_head := by decide +kernel
  have hi_X3 : ∀ w ∈ wsX30, w ∈ wsX5_head := by decide +kernel
  have hi_X5 : ∀ w ∈ wsX50, w ∈ wsX5_head := by decide +kernel
  refine lv_aload_n hx hb dX5_head_0 rfl (lv_at hl 0 rfl) ?_
  refine xget (C := RX5) (T := TX5) (N := 2) (ci := 5) (w := .ref (ad 0)) hx hb hts hi_X5 hown hK hP 233 g0_233 rfl 0 (by decide) lk_10 rfl dX5_head_1 ?_
  refine xget (C := RX0) (T := TX0) (N := 6) (ci := 0) (w := .ref (ad 1)) hx hb hts hi_X0 hown hK hP 0 g0_0 rfl 0 (by decide) lk_23 rfl dX5_head_4 ?_
  refine lv_astore_n (lv' := [(3, .ref (ad 1)), (0, .ref (ad 233)), (1, .int h), (2, .int wh)]) hx hb dX5_head_7 rfl hl (by decide) rfl (fun ls hl => ?_)
  refine lv_aload_n hx hb dX5_head_8 rfl (lv_at hl 0 rfl) ?_
  refine lv_iload_n hx hb dX5_head_9 rfl (lv_at hl 2 rfl) ?_
  refine callB (As := [.int h]) (rest := []) ⟨hx, hb, hml, hown, hts⟩ (c_X3_has X h) (cwV 1 hts gX5_head_X3_has rfl rfl rfl (by decide +kernel) ⟨Nat.le_of_ble_eq_true rfl, Nat.le_of_ble_eq_true rfl⟩) hK hN hP 1 g0_1 rfl rfl hl.1 rfl (Nat.le_of_ble_eq_true rfl) dX5_head_10 ⟨Nat.zero_le _, Nat.zero_le _⟩ (fun c_10 => ?_) (fun c_10 => ?_)
  · refine lv_if_ne (tgt := 18) hx hb dX5_head_13 (by decide) (fun _ => ?_) (fun h9 => absurd h9 (by decide))
    refine lv_iload_n hx hb dX5_head_18 rfl (lv_at hl 3 rfl) ?_
    by_cases s_19_0 : wh = 0
    · refine lv_tableIn (off := 61) (tgt := 80) hx hb dX5_head_19 (by rw [s_19_0]; decide) (by rw [s_19_0]; decide) (by rw [s_19_0]; rfl) (by decide) ?_
      refine lv_aload_n hx hb dX5_head_80 rfl (lv_at hl 0 rfl) ?_
      refine xget (C := RX3) (T := TX3) (N := 11) (ci := 3) (w := .ref (ad 2)) hx hb hts hi_X3 hown hK hP 1 g0_1 rfl 0 (by decide) lk_200 rfl dX5_head_81 ?_
      refine lv_iload_n hx hb dX5_head_84 rfl (lv_at hl 2 rfl) ?_
      refine xald (x := qv (X 0) 0 h) hx hb hK hP 2 g0_2 (in20h c_10) rfl dX5_head_85 ?_
      exact retE hx hb hr hlocks dX5_head_86 (by first | rfl | (unfold v_head; repeat (first | rw [ci_t c_10] | rw [ci_f c_10] | rw [ci_t s_19_0] | rw [ci_f s_19_0])))
    by_cases s_19_1 : wh = 1
    · refine lv_tableIn (off := 68) (tgt := 87) hx hb dX5_head_19 (by rw [s_19_1]; decide) (by rw [s_19_1]; decide) (by rw [s_19_1]; rfl) (by decide) ?_
      refine lv_aload_n hx hb dX5_head_87 rfl (lv_at hl 0 rfl) ?_
      refine xget (C := RX3) (T := TX3) (N := 11) (ci := 3) (w := .ref (ad 3)) hx hb hts hi_X3 hown hK hP 1 g0_1 rfl 1 (by decide) lk_37 rfl dX5_head_88 ?_
      refine lv_iload_n hx hb dX5_head_91 rfl (lv_at hl 2 rfl) ?_
      refine xald (x := qv (X 0) 9 h) hx hb hK hP 3 g0_3 (in20h c_10) rfl dX5_head_92 ?_
      exact retE hx hb hr hlocks dX5_head_93 (by first | rfl | (unfold v_head; repeat (first | rw [ci_t c_10] | rw [ci_f c_10] | rw [ci_t s_19_1] | rw [ci_f s_19_1] | rw [ci_t s_19_0] | rw [ci_f s_19_0])))
    by_cases s_19_2 : wh = 2
    · refine lv_tableIn (off := 75) (tgt := 94) hx hb dX5_head_19 (by rw [s_19_2]; decide) (by rw [s_19_2]; decide) (by rw [s_19_2]; rfl) (by decide) ?_
      refine lv_aload_n hx hb dX5_head_94 rfl (lv_at hl 0 rfl) ?_
      refine xget (C := RX3) (T := TX3) (N := 11) (ci := 3) (w := .ref (ad 4)) hx hb hts hi_X3 hown hK hP 1 g0_1 rfl 2 (by decide) lk_203 rfl dX5_head_95 ?_
      refine lv_iload_n hx hb dX5_head_98 rfl (lv_at hl 2 rfl) ?_
      refine xald (x := qv (X 0) 1 h) hx hb hK hP 4 g0_4 (in20h c_10) rfl dX5_head_99 ?_
      exact retE hx hb hr hlocks dX5_head_100 (by first | rfl | (unfold v_head; repeat (first | rw [ci_t c_10] | rw [ci_f c_10] | rw [ci_t s_19_2] | rw [ci_f s_19_2] | rw [ci_t s_19_0] | rw [ci_f s_19_0] | rw [ci_t s_19_1] | rw [ci_f s_19_1])))
    by_cases s_19_3 : wh = 3
    · refine lv_tableIn (off := 82) (tgt := 101) hx hb dX5_head_19 (by rw [s_19_3]; decide) (by rw [s_19_3]; decide) (by rw [s_19_3]; rfl) (by decide) ?_
      refine lv_aload_n hx hb dX5_head_101 rfl (lv_at hl 0 rfl) ?_
      refine xget (C := RX3) (T := TX3) (N := 11) (ci := 3) (w := .ref (ad 5)) hx hb hts hi_X3 hown hK hP 1 g0_1 rfl 3 (by decide) lk_59 rfl dX5_head_102 ?_
      refine lv_iload_n hx hb dX5_head_105 rfl (lv_at hl 2 rfl) ?_
      refine xald (x := qv (X 0) 2 h) hx hb hK hP 5 g0_5 (in20h c_10) rfl dX5_head_106 ?_
      exact retE hx hb hr hlocks dX5_head_107 (by first | rfl | (unfold v_head; repeat (first | rw [ci_t c_10] | rw [ci_f c_10] | rw [ci_t s_19_3] | rw [ci_f s_19_3] | rw [ci_t s_19_0] | rw [ci_f s_19_0] | rw [ci_t s_19_1] | rw [ci_f s_19_1] | rw [ci_t s_19_2] | rw [ci_f s_19_2])))
    by_cases s_19_4 : wh = 4
    · refine lv_tableIn (off := 89) (tgt := 108) hx hb dX5_head_19 (by rw [s_19_4]; decide) (by rw [s_19_4]; decide) (by rw [s_19_4]; rfl) (by decide) ?_
      refine lv_aload_n hx hb dX5_head_108 rfl (lv_at hl 0 rfl) ?_
      refine lv_iload_n hx hb dX5_head_109 rfl (lv_at hl 2 rfl) ?_
      refine callB (As := [.int h]) (rest := []) ⟨hx, hb, hml, hown, hts⟩ (c_X3_isBarred X h) (cwV 1 hts gX5_head_X3_isBarred rfl rfl rfl (by decide +kernel) ⟨Nat.le_of_ble_eq_true rfl, Nat.le_of_ble_eq_true rfl⟩) hK hN hP 1 g0_1 rfl rfl hl.1 rfl (Nat.le_of_ble_eq_true rfl) dX5_head_110 ⟨Nat.zero_le _, Nat.zero_le _⟩ (fun c_110 => ?_) (fun c_110 => ?_)
      · refine lv_if_eq (tgt := 120) hx hb dX5_head_113 (by decide) (fun h9 => absurd h9 (by decide)) (fun _ => ?_)
        refine lv_iconst (v := 1) hx hb dX5_head_116 (by decide) ?_
        refine lv_goto (tgt := 121) hx hb dX5_head_117 (by decide) ?_
        exact retE hx hb hr hlocks dX5_head_121 (by first | rfl | (unfold v_head; repeat (first | rw [ci_t c_10] | rw [ci_f c_10] | rw [ci_t s_19_4] | rw [ci_f s_19_4] | rw [ci_t s_19_0] | rw [ci_f s_19_0] | rw [ci_t s_19_1] | rw [ci_f s_19_1] | rw [ci_t s_19_2] | rw [ci_f s_19_2] | rw [ci_t s_19_3] | rw [ci_f s_19_3] | rw [ci_t c_110] | rw [ci_f c_110])))
      · refine lv_if_eq (tgt := 120) hx hb dX5_head_113 (by decide) (fun _ => ?_) (fun h9 => absurd (by decide) h9)
        refine lv_iconst (v := 0) hx hb dX5_head_120 (by decide) ?_
        exact retE hx hb hr hlocks dX5_head_121 (by first | rfl | (unfold v_head; repeat (first | rw [ci_t c_10] | rw [ci_f c_10] | rw [ci_t s_19_4] | rw [ci_f s_19_4] | rw [ci_t s_19_0] | rw [ci_f s_19_0] | rw [ci_t s_19_1] | rw [ci_f s_19_1] | rw [ci_t s_19_2] | rw [ci_f s_19_2] | rw [ci_t s_19_3] | rw [ci_f s_19_3] | rw [ci_t c_110] | rw [ci_f c_110])))
    by_cases s_19_5 : wh = 5
    · refine lv_tableIn (off := 103) (tgt := 122) hx hb dX5_head_19 (by rw [s_19_5]; decide) (by rw [s_19_5]; decide) (by rw [s_19_5]; rfl) (by decide) ?_
      refine lv_aload_n hx hb dX5_head_122 rfl (lv_at hl 0 rfl) ?_
      refine xget (C := RX3) (T := TX3) (N := 11) (ci := 3) (w := .ref (ad 6)) hx hb hts hi_X3 hown hK hP 1 g0_1 rfl 4 (by decide) lk_52 rfl dX5_head_123 ?_
      refine lv_iload_n hx hb dX5_head_126 rfl (lv_at hl 2 rfl) ?_
      refine xald (x := qv (X 0) 3 h) hx hb hK hP 6 g0_6 (in20h c_10) rfl dX5_head_127 ?_
      exact retE hx hb hr hlocks dX5_head_128 (by first | rfl | (unfold v_head; repeat (first | rw [ci_t c_10] | rw [ci_f c_10] | rw [ci_t s_19_5] | rw [ci_f s_19_5] | rw [ci_t s_19_0] | rw [ci_f s_19_0] | rw [ci_t s_19_1] | rw [ci_f s_19_1] | rw [ci_t s_19_2] | rw [ci_f s_19_2] | rw [ci_t s_19_3] | rw [ci_f s_19_3] | rw [ci_t s_19_4] | rw [ci_f s_19_4])))
    by_cases s_19_6 : wh = 6
    · refine lv_tableIn (off := 110) (tgt := 129) hx hb dX5_head_19 (by rw [s_19_6]; decide) (by rw [s_19_6]; decide) (by rw [s_19_6]; rfl) (by decide) ?_
      refine lv_aload_n hx hb dX5_head_129 rfl (lv_at hl 0 rfl) ?_
      refine xget (C := RX3) (T := TX3) (N := 11) (ci := 3) (w := .ref (ad 7)) hx hb hts hi_X3 hown hK hP 1 g0_1 rfl 5 (by decide) lk_206 rfl dX5_head_130 ?_
      refine lv_iload_n hx hb dX5_head_133 rfl (lv_at hl 2 rfl) ?_
      refine xald (x := qv (X 0) 4 h) hx hb hK hP 7 g0_7 (in20h c_10) rfl dX5_head_134 ?_
      exact retE hx hb hr hlocks dX5_head_135 (by first | rfl | (unfold v_head; repeat (first | rw [ci_t c_10] | rw [ci_f c_10] | rw [ci_t s_19_6] | rw [ci_f s_19_6] | rw [ci_t s_19_0] | rw [ci_f s_19_0] | rw [ci_t s_19_1] | rw [ci_f s_19_1] | rw [ci_t s_19_2] | rw [ci_f s_19_2] | rw [ci_t s_19_3] | rw [ci_f s_19_3] | rw [ci_t s_19_4] | rw [ci_f s_19_4] | rw [ci_t s_19_5] | rw [ci_f s_19_5])))
    by_cases s_19_7 : wh = 7
    · refine lv_tableIn (off := 117) (tgt := 136) hx hb dX5_head_19 (by rw [s_19_7]; decide) (by rw [s_19_7]; decide) (by rw [s_19_7]; rfl) (by decide) ?_
      refine lv_aload_n hx hb dX5_head_136 rfl (lv_at hl 0 rfl) ?_
      refine xget (C := RX3) (T := TX3) (N := 11) (ci := 3) (w := .ref (ad 8)) hx hb hts hi_X3 hown hK hP 1 g0_1 rfl 6 (by decide) lk_209 rfl dX5_head_137 ?_
      refine lv_iload_n hx hb dX5_head_140 rfl (lv_at hl 2 rfl) ?_
      refine xald (x := qv (X 0) 5 h) hx hb hK hP 8 g0_8 (in20h c_10) rfl dX5_head_141 ?_
      exact retE hx hb hr hlocks dX5_head_142 (by first | rfl | (unfold v_head; repeat (first | rw [ci_t c_10] | rw [ci_f c_10] | rw [ci_t s_19_7] | rw [ci_f s_19_7] | rw [ci_t s_19_0] | rw [ci_f s_19_0] | rw [ci_t s_19_1] | rw [ci_f s_19_1] | rw [ci_t s_19_2] | rw [ci_f s_19_2] | rw [ci_t s_19_3] | rw [ci_f s_19_3] | rw [ci_t s_19_4] | rw [ci_f s_19_4] | rw [ci_t s_19_5] | rw [ci_f s_19_5] | rw [ci_t s_19_6] | rw [ci_f s_19_6])))
    by_cases s_19_8 : wh = 8
    · refine lv_tableIn (off := 124) (tgt := 143) hx hb dX5_head_19 (by rw [s_19_8]; decide) (by rw [s_19_8]; decide) (by rw [s_19_8]; rfl) (by decide) ?_
      refine lv_aload_n hx hb dX5_head_143 rfl (lv_at hl 0 rfl) ?_
      refine lv_iload_n hx hb dX5_head_144 rfl (lv_at hl 2 rfl) ?_
      refine callE (As := [.int h]) (rest := []) ⟨hx, hb, hml, hown, hts⟩ (c_X3_freeOf X h) (cwV 1 hts gX5_head_X3_freeOf rfl rfl rfl (by decide +kernel) ⟨Nat.le_of_ble_eq_true rfl, Nat.le_of_ble_eq_true rfl⟩) hK hN hP 1 g0_1 rfl rfl hl.1 rfl (Nat.le_of_ble_eq_true rfl) dX5_head_145 ⟨Nat.zero_le _, Nat.zero_le _⟩ ?_
      exact retE hx hb hr hlocks dX5_head_148 (by first | rfl | (unfold v_head; repeat (first | rw [ci_t c_10] | rw [ci_f c_10] | rw [ci_t s_19_8] | rw [ci_f s_19_8] | rw [ci_t s_19_0] | rw [ci_f s_19_0] | rw [ci_t s_19_1] | rw [ci_f s_19_1] | rw [ci_t s_19_2] | rw [ci_f s_19_2] | rw [ci_t s_19_3] | rw [ci_f s_19_3] | rw [ci_t s_19_4] | rw [ci_f s_19_4] | rw [ci_t s_19_5] | rw [ci_f s_19_5] | rw [ci_t s_19_6] | rw [ci_f s_19_6] | rw [ci_t s_19_7] | rw [ci_f s_19_7])))
    by_cases s_19_9 : wh = 9
    · refine lv_tableIn (off := 130) (tgt := 149) hx hb dX5_head_19 (by rw [s_19_9]; decide) (by rw [s_19_9]; decide) (by rw [s_19_9]; rfl) (by decide) ?_
      refine lv_aload_n hx hb dX5_head_149 rfl (lv_at hl 0 rfl) ?_
      refine xget (C := RX3) (T := TX3) (N := 11) (ci := 3) (w := .ref (ad 9)) hx hb hts hi_X3 hown hK hP 1 g0_1 rfl 7 (by decide) lk_56 rfl dX5_head_150 ?_
      refine lv_iload_n hx hb dX5_head_153 rfl (lv_at hl 2 rfl) ?_
      refine xald (x := qv (X 0) 6 h) hx hb hK hP 9 g0_9 (in20h c_10) rfl dX5_head_154 ?_
      exact retE hx hb hr hlocks dX5_head_155 (by first | rfl | (unfold v_head; repeat (first | rw [ci_t c_10] | rw [ci_f c_10] | rw [ci_t s_19_9] | rw [ci_f s_19_9] | rw [ci_t s_19_0] | rw [ci_f s_19_0] | rw [ci_t s_19_1] | rw [ci_f s_19_1] | rw [ci_t s_19_2] | rw [ci_f s_19_2] | rw [ci_t s_19_3] | rw [ci_f s_19_3] | rw [ci_t s_19_4] | rw [ci_f s_19_4] | rw [ci_t s_19_5] | rw [ci_f s_19_5] | rw [ci_t s_19_6] | rw [ci_f s_19_6] | rw [ci_t s_19_7] | rw [ci_f s_19_7] | rw [ci_t s_19_8] | rw [ci_f s_19_8])))
    by_cases s_19_10 : wh = 10
    · refine lv_tableIn (off := 137) (tgt := 156) hx hb dX5_head_19 (by rw [s_19_10]; decide) (by rw [s_19_10]; decide) (by rw [s_19_10]; rfl) (by decide) ?_
      refine lv_aload_n hx hb dX5_head_156 rfl (lv_at hl 0 rfl) ?_
      refine xget (C := RX3) (T := TX3) (N := 11) (ci := 3) (w := .ref (ad 10)) hx hb hts hi_X3 hown hK hP 1 g0_1 rfl 8 (by decide) lk_211 rfl dX5_head_157 ?_
      refine lv_iload_n hx hb dX5_head_160 rfl (lv_at hl 2 rfl) ?_
      refine xald (x := qv (X 0) 7 h) hx hb hK hP 10 g0_10 (in20h c_10) rfl dX5_head_161 ?_
      exact retE hx hb hr hlocks dX5_head_162 (by first | rfl | (unfold v_head; repeat (first | rw [ci_t c_10] | rw [ci_f c_10] | rw [ci_t s_19_10] | rw [ci_f s_19_10] | rw [ci_t s_19_0] | rw [ci_f s_19_0] | rw [ci_t s_19_1] | rw [ci_f s_19_1] | rw [ci_t s_19_2] | rw [ci_f s_19_2] | rw [ci_t s_19_3] | rw [ci_f s_19_3] | rw [ci_t s_19_4] | rw [ci_f s_19_4] | rw [ci_t s_19_5] | rw [ci_f s_19_5] | rw [ci_t s_19_6] | rw [ci_f s_19_6] | rw [ci_t s_19_7] | rw [ci_f s_19_7] | rw [ci_t s_19_8] | rw [ci_f s_19_8] | rw [ci_t s_19_9] | rw [ci_f s_19_9])))
    by_cases s_19_11 : wh = 11
    · refine lv_tableIn (off := 144) (tgt := 163) hx hb dX5_head_19 (by rw [s_19_11]; decide) (by rw [s_19_11]; decide) (by rw [s_19_11]; rfl) (by decide) ?_
      refine lv_aload_n hx hb dX5_head_163 rfl (lv_at hl 0 rfl) ?_
      refine xget (C := RX3) (T := TX3) (N := 11) (ci := 3) (w := .ref (ad 11)) hx hb hts hi_X3 hown hK hP 1 g0_1 rfl 9 (by decide) lk_69 rfl dX5_head_164 ?_
      refine lv_iload_n hx hb dX5_head_167 rfl (lv_at hl 2 rfl) ?_
      refine xald (x := qv (X 0) 8 h) hx hb hK hP 11 g0_11 (in20h c_10) rfl dX5_head_168 ?_
      exact retE hx hb hr hlocks dX5_head_169 (by first | rfl | (unfold v_head; repeat (first | rw [ci_t c_10] | rw [ci_f c_10] | rw [ci_t s_19_11] | rw [ci_f s_19_11] | rw [ci_t s_19_0] | rw [ci_f s_19_0] | rw [ci_t s_19_1] | rw [ci_f s_19_1] | rw [ci_t s_19_2] | rw [ci_f s_19_2] | rw [ci_t s_19_3] | rw [ci_f s_19_3] | rw [ci_t s_19_4] | rw [ci_f s_19_4] | rw [ci_t s_19_5] | rw [ci_f s_19_5] | rw [ci_t s_19_6] | rw [ci_f s_19_6] | rw [ci_t s_19_7] | rw [ci_f s_19_7] | rw [ci_t s_19_8] | rw [ci_f s_19_8] | rw [ci_t s_19_9] | rw [ci_f s_19_9] | rw [ci_t s_19_10] | rw [ci_f s_19_10])))
    have h9 : (wh).toInt < 0 ∨ 11 < (wh).toInt := by
      have q_0 := lv_neT (a := 0) s_19_0 rfl
      have q_1 := lv_neT (a := 1) s_19_1 rfl
      have q_2 := lv_neT (a := 2) s_19_2 rfl
      have q_3 := lv_neT (a := 3) s_19_3 rfl
      have q_4 := lv_neT (a := 4) s_19_4 rfl
      have q_5 := lv_neT (a := 5) s_19_5 rfl
      have q_6 := lv_neT (a := 6) s_19_6 rfl
      have q_7 := lv_neT (a := 7) s_19_7 rfl
      have q_8 := lv_neT (a := 8) s_19_8 rfl
      have q_9 := lv_neT (a := 9) s_19_9 rfl
      have q_10 := lv_neT (a := 10) s_19_10 rfl
      have q_11 := lv_neT (a := 11) s_19_11 rfl
      omega
    refine lv_tableOut (tgt := 170) hx hb dX5_head_19 h9 (by decide) ?_
    refine lv_iconst (v := (-1)) hx hb dX5_head_170 (by decide) ?_
    exact retE hx hb hr hlocks dX5_head_171 (by first | rfl | (unfold v_head; repeat (first | rw [ci_t c_10] | rw [ci_f c_10] | rw [ci_t s_19_0] | rw [ci_f s_19_0] | rw [ci_t s_19_1] | rw [ci_f s_19_1] | rw [ci_t s_19_2] | rw [ci_f s_19_2] | rw [ci_t s_19_3] | rw [ci_f s_19_3] | rw [ci_t s_19_4] | rw [ci_f s_19_4] | rw [ci_t s_19_5] | rw [ci_f s_19_5] | rw [ci_t s_19_6] | rw [ci_f s_19_6] | rw [ci_t s_19_7] | rw [ci_f s_19_7] | rw [ci_t s_19_8] | rw [ci_f s_19_8] | rw [ci_t s_19_9] | rw [ci_f s_19_9] | rw [ci_t s_19_10] | rw [ci_f s_19_10] | rw [ci_t s_19_11] | rw [ci_f s_19_11])))
  · refine lv_if_ne (tgt := 18) hx hb dX5_head_13 (by decide) (fun h9 => absurd (by decide) h9) (fun _ => ?_)
    refine lv_iconst (v := (-1)) hx hb dX5_head_16 (by decide) ?_
    exact retE hx hb hr hlocks dX5_head_17 (by first | rfl | (unfold v_head; repeat (first | rw [ci_t c_10] | rw [ci_f c_10])))
set_option maxHeartbeats 4000000 in
set_option maxRecDepth 100000 in
theorem c_X5_total {l : Launch} {D : va_G} {cI cR : ClassId} {ad : Nat → Nat} (X : St) (h : Int32) (wh : Int32) : RoE l D cI cR (wC cI cR ad X) yX5_total wsX5_total ({ frames := 4, cells := 0, slots := 0, locals := 88 } : Room) [.ref (ad 233), .int h, .int wh] (v_total (X 0) h wh) := by
  refine OfW (cc := cX5_total) (maxL := 3) (ret := (some .int)) (by decide +kernel) rfl (Nat.le_of_ble_eq_true rfl) (fun p e s m below meth c hx hb hr hts hown hlocks hml hnm hP hK hN ls hl => ?_)
  have hl : lv_has ls 3 [(0, .ref (ad 233)), (1, .int h), (2, .int wh)] := hl
  have lk_10 := hts (.fieldLink RX5 10 "HeadBudgets" "now" "LHeadBudgets$Books;") (by decide +kernel)
  have lk_23 := hts (.fieldLink RX5 23 "HeadBudgets$Books" "heads" "LHeadBudgets$Heads;") (by decide +kernel)
  have hi_X0 : ∀ w ∈ wsX00, w ∈ wsX5_total := by decide +kernel
  have hi_X5 : ∀ w ∈ wsX50, w ∈ wsX5_total := by decide +kernel
  refine lv_aload_n hx hb dX5_total_0 rfl (lv_at hl 0 rfl) ?_
  refine xget (C := RX5) (T := TX5) (N := 2) (ci := 5) (w := .ref (ad 0)) hx hb hts hi_X5 hown hK hP 233 g0_233 rfl 0 (by decide) lk_10 rfl dX5_total_1 ?_
  refine xget (C := RX0) (T := TX0) (N := 6) (ci := 0) (w := .ref (ad 1)) hx hb hts hi_X0 hown hK hP 0 g0_0 rfl 0 (by decide) lk_23 rfl dX5_total_4 ?_
  refine lv_iload_n hx hb dX5_total_7 rfl (lv_at hl 1 rfl) ?_
  refine callB (As := [.int h]) (rest := []) ⟨hx, hb, hml, hown, hts⟩ (c_X3_has X h) (cwV 1 hts gX5_total_X3_has rfl rfl rfl (by decide +kernel) ⟨Nat.le_of_ble_eq_true rfl, Nat.le_of_ble_eq_true rfl⟩) hK hN hP 1 g0_1 rfl rfl hl.1 rfl (Nat.le_of_ble_eq_true rfl) dX5_total_8 ⟨Nat.zero_le _, Nat.zero_le _⟩ (fun c_8 => ?_) (fun c_8 => ?_)
  · refine lv_if_eq (tgt := 23) hx hb dX5_total_11 (by decide) (fun h9 => absurd h9 (by decide)) (fun _ => ?_)
    refine lv_iload_n hx hb dX5_total_14 rfl (lv_at hl 2 rfl) ?_
    refine lv_if_lt (tgt := 23) hx hb dX5_total_15 (by decide) (fun c_15 => ?_) (fun c_15 => ?_)
    · refine lv_iconst (v := (-1)) hx hb dX5_total_23 (by decide) ?_
      exact retE hx hb hr hlocks dX5_total_24 (by first | rfl | (unfold v_total; repeat (first | rw [ci_t c_8] | rw [ci_f c_8] | rw [ci_t c_15] | rw [ci_f c_15])))
    · refine lv_iload_n hx hb dX5_total_18 rfl (lv_at hl 2 rfl) ?_
      refine lv_iconst (v := 4) hx hb dX5_total_19 (by decide) ?_
      refine lv_icmp_le (tgt := 25) hx hb dX5_total_20 (by decide) (fun c_20 => ?_) (fun c_20 => ?_)
      · refine lv_aload_n hx hb dX5_total_25 rfl (lv_at hl 0 rfl) ?_
        refine xget (C := RX5) (T := TX5) (N := 2) (ci := 5) (w := .ref (ad 0)) hx hb hts hi_X5 hown hK hP 233 g0_233 rfl 0 (by decide) lk_10 rfl dX5_total_26 ?_
        refine xget (C := RX0) (T := TX0) (N := 6) (ci := 0) (w := .ref (ad 1)) hx hb hts hi_X0 hown hK hP 0 g0_0 rfl 0 (by decide) lk_23 rfl dX5_total_29 ?_
        refine lv_iload_n hx hb dX5_total_32 rfl (lv_at hl 1 rfl) ?_
        refine lv_iload_n hx hb dX5_total_33 rfl (lv_at hl 2 rfl) ?_
        refine callE (As := [.int h, .int wh]) (rest := []) ⟨hx, hb, hml, hown, hts⟩ (c_X3_sumWithin X h wh) (cwV 2 hts gX5_total_X3_sumWithin rfl rfl rfl (by decide +kernel) ⟨Nat.le_of_ble_eq_true rfl, Nat.le_of_ble_eq_true rfl⟩) hK hN hP 1 g0_1 rfl rfl hl.1 rfl (Nat.le_of_ble_eq_true rfl) dX5_total_34 ⟨Nat.zero_le _, Nat.zero_le _⟩ ?_
        exact retE hx hb hr hlocks dX5_total_37 (by first | rfl | (unfold v_total; repeat (first | rw [ci_t c_8] | rw [ci_f c_8] | rw [ci_t c_15] | rw [ci_f c_15] | rw [ci_t c_20] | rw [ci_f c_20])))
      · refine lv_iconst (v := (-1)) hx hb dX5_total_23 (by decide) ?_
        exact retE hx hb hr hlocks dX5_total_24 (by first | rfl | (unfold v_total; repeat (first | rw [ci_t c_8] | rw [ci_f c_8] | rw [ci_t c_15] | rw [ci_f c_15] | rw [ci_t c_20] | rw [ci_f c_20])))
  · refine lv_if_eq (tgt := 23) hx hb dX5_total_11 (by decide) (fun _ => ?_) (fun h9 => absurd (by decide) h9)
    refine lv_iconst (v := (-1)) hx hb dX5_total_23 (by decide) ?_
    exact retE hx hb hr hlocks dX5_total_24 (by first | rfl | (unfold v_total; repeat (first | rw [ci_t c_8] | rw [ci_f c_8])))
set_option maxHeartbeats 4000000 in
set_option maxRecDepth 100000 in
theorem c_X5_commitment {l : Launch} {D : va_G} {cI cR : ClassId} {ad : Nat → Nat} (X : St) (q : Int32) (wh : Int32) : RoE l D cI cR (wC cI cR ad X) yX5_commitment wsX5_commitment ({ frames := 1, cells := 0, slots := 0, locals := 21 } : Room) [.ref (ad 233), .int q, .int wh] (v_comm (X 0) q wh) := by
  refine OfW (cc := cX5_commitment) (maxL := 4) (ret := (some .int)) (by decide +kernel) rfl (Nat.le_of_ble_eq_true rfl) (fun p e s m below meth c hx hb hr hts hown hlocks hml hnm hP hK hN ls hl => ?_)
  have hl : lv_has ls 4 [(0, .ref (ad 233)), (1, .int q), (2, .int wh)] := hl
  have lk_10 := hts (.fieldLink RX5 10 "HeadBudgets" "now" "LHeadBudgets$Books;") (by decide +kernel)
  have lk_82 := hts (.fieldLink RX5 82 "HeadBudgets$Books" "commitments" "LHeadBudgets$Commitments;") (by decide +kernel)
  have lk_110 := hts (.fieldLink RX5 110 "HeadBudgets$Commitments" "head" "[I") (by decide +kernel)
  have lk_104 := hts (.fieldLink RX5 104 "HeadBudgets$Commitments" "open" "[I") (by decide +kernel)
  have lk_107 := hts (.fieldLink RX5 107 "HeadBudgets$Commitments" "paid" "[I") (by decide +kernel)
  have lk_214 := hts (.fieldLink RX5 214 "HeadBudgets$Commitments" "year" "[I") (by decide +kernel)
  have hi_X0 : ∀ w ∈ wsX00, w ∈ wsX5_commitment := by decide +kernel
  have hi_X1 : ∀ w ∈ wsX10, w ∈ wsX5_commitment := by decide +kernel
  have hi_X5 : ∀ w ∈ wsX50, w ∈ wsX5_commitment := by decide +kernel
  refine lv_aload_n hx hb dX5_commitment_0 rfl (lv_at hl 0 rfl) ?_
  refine xget (C := RX5) (T := TX5) (N := 2) (ci := 5) (w := .ref (ad 0)) hx hb hts hi_X5 hown hK hP 233 g0_233 rfl 0 (by decide) lk_10 rfl dX5_commitment_1 ?_
  refine xget (C := RX0) (T := TX0) (N := 6) (ci := 0) (w := .ref (ad 12)) hx hb hts hi_X0 hown hK hP 0 g0_0 rfl 1 (by decide) lk_82 rfl dX5_commitment_4 ?_
  refine lv_astore_n (lv' := [(3, .ref (ad 12)), (0, .ref (ad 233)), (1, .int q), (2, .int wh)]) hx hb dX5_commitment_7 rfl hl (by decide) rfl (fun ls hl => ?_)
  refine lv_aload_n hx hb dX5_commitment_8 rfl (lv_at hl 0 rfl) ?_
  refine lv_iload_n hx hb dX5_commitment_9 rfl (lv_at hl 2 rfl) ?_
  refine callB (As := [.int q]) (rest := []) ⟨hx, hb, hml, hown, hts⟩ (c_X1_has X q) (cwV 1 hts gX5_commitment_X1_has rfl rfl rfl (by decide +kernel) ⟨Nat.le_of_ble_eq_true rfl, Nat.le_of_ble_eq_true rfl⟩) hK hN hP 12 g0_12 rfl rfl hl.1 rfl (Nat.le_of_ble_eq_true rfl) dX5_commitment_10 ⟨Nat.zero_le _, Nat.zero_le _⟩ (fun c_10 => ?_) (fun c_10 => ?_)
  · refine lv_if_ne (tgt := 18) hx hb dX5_commitment_13 (by decide) (fun _ => ?_) (fun h9 => absurd h9 (by decide))
    refine lv_iload_n hx hb dX5_commitment_18 rfl (lv_at hl 3 rfl) ?_
    by_cases s_19_0 : wh = 0
    · refine lv_tableIn (off := 29) (tgt := 48) hx hb dX5_commitment_19 (by rw [s_19_0]; decide) (by rw [s_19_0]; decide) (by rw [s_19_0]; rfl) (by decide) ?_
      refine lv_aload_n hx hb dX5_commitment_48 rfl (lv_at hl 0 rfl) ?_
      refine xget (C := RX1) (T := TX1) (N := 5) (ci := 1) (w := .ref (ad 13)) hx hb hts hi_X1 hown hK hP 12 g0_12 rfl 0 (by decide) lk_110 rfl dX5_commitment_49 ?_
      refine lv_iload_n hx hb dX5_commitment_52 rfl (lv_at hl 2 rfl) ?_
      refine xald (x := qv (X 0) 10 q) hx hb hK hP 13 g0_13 (in40h c_10) rfl dX5_commitment_53 ?_
      exact retE hx hb hr hlocks dX5_commitment_54 (by first | rfl | (unfold v_comm; repeat (first | rw [ci_t c_10] | rw [ci_f c_10] | rw [ci_t s_19_0] | rw [ci_f s_19_0])))
    by_cases s_19_1 : wh = 1
    · refine lv_tableIn (off := 36) (tgt := 55) hx hb dX5_commitment_19 (by rw [s_19_1]; decide) (by rw [s_19_1]; decide) (by rw [s_19_1]; rfl) (by decide) ?_
      refine lv_aload_n hx hb dX5_commitment_55 rfl (lv_at hl 0 rfl) ?_
      refine xget (C := RX1) (T := TX1) (N := 5) (ci := 1) (w := .ref (ad 14)) hx hb hts hi_X1 hown hK hP 12 g0_12 rfl 1 (by decide) lk_104 rfl dX5_commitment_56 ?_
      refine lv_iload_n hx hb dX5_commitment_59 rfl (lv_at hl 2 rfl) ?_
      refine xald (x := qv (X 0) 11 q) hx hb hK hP 14 g0_14 (in40h c_10) rfl dX5_commitment_60 ?_
      exact retE hx hb hr hlocks dX5_commitment_61 (by first | rfl | (unfold v_comm; repeat (first | rw [ci_t c_10] | rw [ci_f c_10] | rw [ci_t s_19_1] | rw [ci_f s_19_1] | rw [ci_t s_19_0] | rw [ci_f s_19_0])))
    by_cases s_19_2 : wh = 2
    · refine lv_tableIn (off := 43) (tgt := 62) hx hb dX5_commitment_19 (by rw [s_19_2]; decide) (by rw [s_19_2]; decide) (by rw [s_19_2]; rfl) (by decide) ?_
      refine lv_aload_n hx hb dX5_commitment_62 rfl (lv_at hl 0 rfl) ?_
      refine xget (C := RX1) (T := TX1) (N := 5) (ci := 1) (w := .ref (ad 15)) hx hb hts hi_X1 hown hK hP 12 g0_12 rfl 2 (by decide) lk_107 rfl dX5_commitment_63 ?_
      refine lv_iload_n hx hb dX5_commitment_66 rfl (lv_at hl 2 rfl) ?_
      refine xald (x := qv (X 0) 12 q) hx hb hK hP 15 g0_15 (in40h c_10) rfl dX5_commitment_67 ?_
      exact retE hx hb hr hlocks dX5_commitment_68 (by first | rfl | (unfold v_comm; repeat (first | rw [ci_t c_10] | rw [ci_f c_10] | rw [ci_t s_19_2] | rw [ci_f s_19_2] | rw [ci_t s_19_0] | rw [ci_f s_19_0] | rw [ci_t s_19_1] | rw [ci_f s_19_1])))
    by_cases s_19_3 : wh = 3
    · refine lv_tableIn (off := 50) (tgt := 69) hx hb dX5_commitment_19 (by rw [s_19_3]; decide) (by rw [s_19_3]; decide) (by rw [s_19_3]; rfl) (by decide) ?_
      refine lv_aload_n hx hb dX5_commitment_69 rfl (lv_at hl 0 rfl) ?_
      refine xget (C := RX1) (T := TX1) (N := 5) (ci := 1) (w := .ref (ad 16)) hx hb hts hi_X1 hown hK hP 12 g0_12 rfl 3 (by decide) lk_214 rfl dX5_commitment_70 ?_
      refine lv_iload_n hx hb dX5_commitment_73 rfl (lv_at hl 2 rfl) ?_
      refine xald (x := qv (X 0) 13 q) hx hb hK hP 16 g0_16 (in40h c_10) rfl dX5_commitment_74 ?_
      exact retE hx hb hr hlocks dX5_commitment_75 (by first | rfl | (unfold v_comm; repeat (first | rw [ci_t c_10] | rw [ci_f c_10] | rw [ci_t s_19_3] | rw [ci_f s_19_3] | rw [ci_t s_19_0] | rw [ci_f s_19_0] | rw [ci_t s_19_1] | rw [ci_f s_19_1] | rw [ci_t s_19_2] | rw [ci_f s_19_2])))
    have h9 : (wh).toInt < 0 ∨ 3 < (wh).toInt := by
      have q_0 := lv_neT (a := 0) s_19_0 rfl
      have q_1 := lv_neT (a := 1) s_19_1 rfl
      have q_2 := lv_neT (a := 2) s_19_2 rfl
      have q_3 := lv_neT (a := 3) s_19_3 rfl
      omega
    refine lv_tableOut (tgt := 76) hx hb dX5_commitment_19 h9 (by decide) ?_
    refine lv_iconst (v := (-1)) hx hb dX5_commitment_76 (by decide) ?_
    exact retE hx hb hr hlocks dX5_commitment_77 (by first | rfl | (unfold v_comm; repeat (first | rw [ci_t c_10] | rw [ci_f c_10] | rw [ci_t s_19_0] | rw [ci_f s_19_0] | rw [ci_t s_19_1] | rw [ci_f s_19_1] | rw [ci_t s_19_2] | rw [ci_f s_19_2] | rw [ci_t s_19_3] | rw [ci_f s_19_3])))
  · refine lv_if_ne (tgt := 18) hx hb dX5_commitment_13 (by decide) (fun h9 => absurd (by decide) h9) (fun _ => ?_)
    refine lv_iconst (v := (-1)) hx hb dX5_commitment_16 (by decide) ?_
    exact retE hx hb hr hlocks dX5_commitment_17 (by first | rfl | (unfold v_comm; repeat (first | rw [ci_t c_10] | rw [ci_f c_10])))
set_option maxHeartbeats 4000000 in
set_option maxRecDepth 100000 in
theorem c_X5_deed {l : Launch} {D : va_G} {cI cR : ClassId} {ad : Nat → Nat} (X : St) (i : Int32) : RoE l D cI cR (wC cI cR ad X) yX5_deed wsX5_deed ({ frames := 2, cells := 0, slots := 0, locals := 43 } : Room) [.ref (ad 233), .int i] (V_deed X i) := by
  refine OfW (cc := cX5_deed) (maxL := 3) (ret := (some .int)) (by decide +kernel) rfl (Nat.le_of_ble_eq_true rfl) (fun p e s m below meth c hx hb hr hts hown hlocks hml hnm hP hK hN ls hl => ?_)
  have hl : lv_has ls 3 [(0, .ref (ad 233)), (1, .int i)] := hl
  have lk_19 := hts (.fieldLink RX5 19 "HeadBudgets" "memory" "LHeadBudgets$Memory;") (by decide +kernel)
  have lk_169 := hts (.fieldLink RX5 169 "HeadBudgets$Deed" "kind" "I") (by decide +kernel)
  have hi_X2 : ∀ w ∈ wsX20, w ∈ wsX5_deed := by decide +kernel
  have hi_X5 : ∀ w ∈ wsX50, w ∈ wsX5_deed := by decide +kernel
  refine lv_iload_n hx hb dX5_deed_0 rfl (lv_at hl 1 rfl) ?_
  refine lv_if_ge (tgt := 6) hx hb dX5_deed_1 (by decide) (fun c_1 => ?_) (fun c_1 => ?_)
  · refine lv_aload_n hx hb dX5_deed_6 rfl (lv_at hl 0 rfl) ?_
    refine xget (C := RX5) (T := TX5) (N := 2) (ci := 5) (w := .ref (ad 234)) hx hb hts hi_X5 hown hK hP 233 g0_233 rfl 1 (by decide) lk_19 rfl dX5_deed_7 ?_
    refine lv_iload_n hx hb dX5_deed_10 rfl (lv_at hl 1 rfl) ?_
    refine callQ (As := [.int i]) (rest := []) ⟨hx, hb, hml, hown, hts⟩ (c_X4_recall X i) (cwV 1 hts gX5_deed_X4_recall rfl rfl rfl (by decide +kernel) ⟨Nat.le_of_ble_eq_true rfl, Nat.le_of_ble_eq_true rfl⟩) hK hN hP 234 g0_234 rfl rfl hl.1 rfl (Nat.le_of_ble_eq_true rfl) dX5_deed_11 ⟨Nat.zero_le _, Nat.zero_le _⟩ ?_
    by_cases c_11 : p_norec X i
    · rw [p_rec_none c_11]
      refine W.eq (g2 := F0 m 14 ls [.null]) rfl ?_
      refine lv_astore_nN (lv' := [(2, .null), (0, .ref (ad 233)), (1, .int i)]) hx hb dX5_deed_14 rfl hl (by decide) rfl (fun ls hl => ?_)
      refine lv_aload_nN hx hb dX5_deed_15 rfl (lv_at hl 0 rfl) ?_
      refine lv_ifnonnullN hx hb dX5_deed_16 ?_
      refine lv_bipush (v := (-9)) hx hb dX5_deed_19 (by decide) ?_
      refine lv_goto (tgt := 28) hx hb dX5_deed_21 (by decide) ?_
      exact retE hx hb hr hlocks dX5_deed_28 (by unfold V_deed; repeat (first | rw [ci_t c_1] | rw [ci_f c_1] | rw [ci_t c_11] | rw [ci_f c_11]))
    · rw [p_rec_some c_11]
      obtain ⟨z_11, ez_11, hz_11⟩ : ∃ z : Nat, z = (p_slot X i).toNatClampNeg ∧ z < 12 := ⟨_, rfl, slot_lt _ _⟩
      rw [← ez_11]
      refine W.eq (g2 := F0 m 14 ls [.ref (ad (221 + z_11))]) rfl ?_
      refine lv_astore_n (lv' := [(2, .ref (ad (221 + z_11))), (0, .ref (ad 233)), (1, .int i)]) hx hb dX5_deed_14 rfl hl (by decide) rfl (fun ls hl => ?_)
      refine lv_aload_n hx hb dX5_deed_15 rfl (lv_at hl 0 rfl) ?_
      refine lv_ifnonnull (tgt := 24) hx hb dX5_deed_16 (by decide) ?_
      refine lv_aload_n hx hb dX5_deed_24 rfl (lv_at hl 0 rfl) ?_
      refine xget (C := RX2) (T := TX2) (N := 6) (ci := 2) (w := .int (X 13 1 z_11)) hx hb hts hi_X2 hown hK hP ((221 + z_11)) (gd hz_11) rfl 2 (by decide) lk_169 rfl dX5_deed_25 ?_
      exact retE hx hb hr hlocks dX5_deed_28 (by rw [ez_11]; unfold V_deed; repeat (first | rw [ci_t c_1] | rw [ci_f c_1] | rw [ci_t c_11] | rw [ci_f c_11]))
  · refine lv_iconst (v := (-1)) hx hb dX5_deed_4 (by decide) ?_
    exact retE hx hb hr hlocks dX5_deed_5 (by unfold V_deed; repeat (first | rw [ci_t c_1] | rw [ci_f c_1]))
set_option maxHeartbeats 4000000 in
set_option maxRecDepth 100000 in
theorem c_X5_mostFrom {l : Launch} {D : va_G} {cI cR : ClassId} {ad : Nat → Nat} (X : St) (f : Int32) (t : Int32) : RoE l D cI cR (wC cI cR ad X) yX5_mostFrom wsX5_mostFrom ({ frames := 4, cells := 0, slots := 0, locals := 92 } : Room) [.ref (ad 233), .int f, .int t] (v_most (X 0) f t) := by
  refine OfW (cc := cX5_mostFrom) (maxL := 3) (ret := (some .int)) (by decide +kernel) rfl (Nat.le_of_ble_eq_true rfl) (fun p e s m below meth c hx hb hr hts hown hlocks hml hnm hP hK hN ls hl => ?_)
  have hl : lv_has ls 3 [(0, .ref (ad 233)), (1, .int f), (2, .int t)] := hl
  have lk_10 := hts (.fieldLink RX5 10 "HeadBudgets" "now" "LHeadBudgets$Books;") (by decide +kernel)
  have lk_23 := hts (.fieldLink RX5 23 "HeadBudgets$Books" "heads" "LHeadBudgets$Heads;") (by decide +kernel)
  have hi_X0 : ∀ w ∈ wsX00, w ∈ wsX5_mostFrom := by decide +kernel
  have hi_X5 : ∀ w ∈ wsX50, w ∈ wsX5_mostFrom := by decide +kernel
  refine lv_aload_n hx hb dX5_mostFrom_0 rfl (lv_at hl 0 rfl) ?_
  refine xget (C := RX5) (T := TX5) (N := 2) (ci := 5) (w := .ref (ad 0)) hx hb hts hi_X5 hown hK hP 233 g0_233 rfl 0 (by decide) lk_10 rfl dX5_mostFrom_1 ?_
  refine xget (C := RX0) (T := TX0) (N := 6) (ci := 0) (w := .ref (ad 1)) hx hb hts hi_X0 hown hK hP 0 g0_0 rfl 0 (by decide) lk_23 rfl dX5_mostFrom_4 ?_
  refine lv_iload_n hx hb dX5_mostFrom_7 rfl (lv_at hl 1 rfl) ?_
  refine lv_iload_n hx hb dX5_mostFrom_8 rfl (lv_at hl 2 rfl) ?_
  refine callB (As := [.int f, .int t]) (rest := []) ⟨hx, hb, hml, hown, hts⟩ (c_X3_hasBoth X f t) (cwV 2 hts gX5_mostFrom_X3_hasBoth rfl rfl rfl (by decide +kernel) ⟨Nat.le_of_ble_eq_true rfl, Nat.le_of_ble_eq_true rfl⟩) hK hN hP 1 g0_1 rfl rfl hl.1 rfl (Nat.le_of_ble_eq_true rfl) dX5_mostFrom_9 ⟨Nat.zero_le _, Nat.zero_le _⟩ (fun c_9 => ?_) (fun c_9 => ?_)
  · refine lv_if_ne (tgt := 17) hx hb dX5_mostFrom_12 (by decide) (fun _ => ?_) (fun h9 => absurd h9 (by decide))
    refine lv_aload_n hx hb dX5_mostFrom_17 rfl (lv_at hl 0 rfl) ?_
    refine xget (C := RX5) (T := TX5) (N := 2) (ci := 5) (w := .ref (ad 0)) hx hb hts hi_X5 hown hK hP 233 g0_233 rfl 0 (by decide) lk_10 rfl dX5_mostFrom_18 ?_
    refine xget (C := RX0) (T := TX0) (N := 6) (ci := 0) (w := .ref (ad 1)) hx hb hts hi_X0 hown hK hP 0 g0_0 rfl 0 (by decide) lk_23 rfl dX5_mostFrom_21 ?_
    refine lv_iload_n hx hb dX5_mostFrom_24 rfl (lv_at hl 1 rfl) ?_
    refine lv_iload_n hx hb dX5_mostFrom_25 rfl (lv_at hl 2 rfl) ?_
    refine callE (As := [.int f, .int t]) (rest := []) ⟨hx, hb, hml, hown, hts⟩ (c_X3_movable X f t) (cwV 2 hts gX5_mostFrom_X3_movable rfl rfl rfl (by decide +kernel) ⟨Nat.le_of_ble_eq_true rfl, Nat.le_of_ble_eq_true rfl⟩) hK hN hP 1 g0_1 rfl rfl hl.1 rfl (Nat.le_of_ble_eq_true rfl) dX5_mostFrom_26 ⟨Nat.zero_le _, Nat.zero_le _⟩ ?_
    exact retE hx hb hr hlocks dX5_mostFrom_29 (by first | rfl | (unfold v_most; repeat (first | rw [ci_t c_9] | rw [ci_f c_9])))
  · refine lv_if_ne (tgt := 17) hx hb dX5_mostFrom_12 (by decide) (fun h9 => absurd (by decide) h9) (fun _ => ?_)
    refine lv_iconst (v := (-1)) hx hb dX5_mostFrom_15 (by decide) ?_
    exact retE hx hb hr hlocks dX5_mostFrom_16 (by first | rfl | (unfold v_most; repeat (first | rw [ci_t c_9] | rw [ci_f c_9])))
set_option maxHeartbeats 4000000 in
set_option maxRecDepth 100000 in
theorem c_X5_bestGiver {l : Launch} {D : va_G} {cI cR : ClassId} {ad : Nat → Nat} (X : St) (t : Int32) : RoE l D cI cR (wC cI cR ad X) yX5_bestGiver wsX5_bestGiver ({ frames := 5, cells := 0, slots := 0, locals := 117 } : Room) [.ref (ad 233), .int t] (v_giver (X 0) t) := by
  refine OfW (cc := cX5_bestGiver) (maxL := 2) (ret := (some .int)) (by decide +kernel) rfl (Nat.le_of_ble_eq_true rfl) (fun p e s m below meth c hx hb hr hts hown hlocks hml hnm hP hK hN ls hl => ?_)
  have hl : lv_has ls 2 [(0, .ref (ad 233)), (1, .int t)] := hl
  have lk_10 := hts (.fieldLink RX5 10 "HeadBudgets" "now" "LHeadBudgets$Books;") (by decide +kernel)
  have lk_23 := hts (.fieldLink RX5 23 "HeadBudgets$Books" "heads" "LHeadBudgets$Heads;") (by decide +kernel)
  have hi_X0 : ∀ w ∈ wsX00, w ∈ wsX5_bestGiver := by decide +kernel
  have hi_X5 : ∀ w ∈ wsX50, w ∈ wsX5_bestGiver := by decide +kernel
  refine lv_aload_n hx hb dX5_bestGiver_0 rfl (lv_at hl 0 rfl) ?_
  refine xget (C := RX5) (T := TX5) (N := 2) (ci := 5) (w := .ref (ad 0)) hx hb hts hi_X5 hown hK hP 233 g0_233 rfl 0 (by decide) lk_10 rfl dX5_bestGiver_1 ?_
  refine xget (C := RX0) (T := TX0) (N := 6) (ci := 0) (w := .ref (ad 1)) hx hb hts hi_X0 hown hK hP 0 g0_0 rfl 0 (by decide) lk_23 rfl dX5_bestGiver_4 ?_
  refine lv_iload_n hx hb dX5_bestGiver_7 rfl (lv_at hl 1 rfl) ?_
  refine callB (As := [.int t]) (rest := []) ⟨hx, hb, hml, hown, hts⟩ (c_X3_has X t) (cwV 1 hts gX5_bestGiver_X3_has rfl rfl rfl (by decide +kernel) ⟨Nat.le_of_ble_eq_true rfl, Nat.le_of_ble_eq_true rfl⟩) hK hN hP 1 g0_1 rfl rfl hl.1 rfl (Nat.le_of_ble_eq_true rfl) dX5_bestGiver_8 ⟨Nat.zero_le _, Nat.zero_le _⟩ (fun c_8 => ?_) (fun c_8 => ?_)
  · refine lv_if_ne (tgt := 16) hx hb dX5_bestGiver_11 (by decide) (fun _ => ?_) (fun h9 => absurd h9 (by decide))
    refine lv_aload_n hx hb dX5_bestGiver_16 rfl (lv_at hl 0 rfl) ?_
    refine xget (C := RX5) (T := TX5) (N := 2) (ci := 5) (w := .ref (ad 0)) hx hb hts hi_X5 hown hK hP 233 g0_233 rfl 0 (by decide) lk_10 rfl dX5_bestGiver_17 ?_
    refine xget (C := RX0) (T := TX0) (N := 6) (ci := 0) (w := .ref (ad 1)) hx hb hts hi_X0 hown hK hP 0 g0_0 rfl 0 (by decide) lk_23 rfl dX5_bestGiver_20 ?_
    refine lv_iload_n hx hb dX5_bestGiver_23 rfl (lv_at hl 1 rfl) ?_
    refine callE (As := [.int t]) (rest := []) ⟨hx, hb, hml, hown, hts⟩ (c_X3_giverOfMost X t) (cwV 1 hts gX5_bestGiver_X3_giverOfMost rfl rfl rfl (by decide +kernel) ⟨Nat.le_of_ble_eq_true rfl, Nat.le_of_ble_eq_true rfl⟩) hK hN hP 1 g0_1 rfl rfl hl.1 rfl (Nat.le_of_ble_eq_true rfl) dX5_bestGiver_24 ⟨Nat.zero_le _, Nat.zero_le _⟩ ?_
    exact retE hx hb hr hlocks dX5_bestGiver_27 (by first | rfl | (unfold v_giver; repeat (first | rw [ci_t c_8] | rw [ci_f c_8])))
  · refine lv_if_ne (tgt := 16) hx hb dX5_bestGiver_11 (by decide) (fun h9 => absurd (by decide) h9) (fun _ => ?_)
    refine lv_iconst (v := (-1)) hx hb dX5_bestGiver_14 (by decide) ?_
    exact retE hx hb hr hlocks dX5_bestGiver_15 (by first | rfl | (unfold v_giver; repeat (first | rw [ci_t c_8] | rw [ci_f c_8])))
set_option maxHeartbeats 4000000 in
set_option maxRecDepth 100000 in
theorem c_X5_wouldLapse {l : Launch} {D : va_G} {cI cR : ClassId} {ad : Nat → Nat} (X : St) (h : Int32) : RoE l D cI cR (wC cI cR ad X) yX5_wouldLapse wsX5_wouldLapse ({ frames := 3, cells := 0, slots := 0, locals := 70 } : Room) [.ref (ad 233), .int h] (v_lapse (X 0) h) := by
  refine OfW (cc := cX5_wouldLapse) (maxL := 2) (ret := (some .int)) (by decide +kernel) rfl (Nat.le_of_ble_eq_true rfl) (fun p e s m below meth c hx hb hr hts hown hlocks hml hnm hP hK hN ls hl => ?_)
  have hl : lv_has ls 2 [(0, .ref (ad 233)), (1, .int h)] := hl
  have lk_10 := hts (.fieldLink RX5 10 "HeadBudgets" "now" "LHeadBudgets$Books;") (by decide +kernel)
  have lk_23 := hts (.fieldLink RX5 23 "HeadBudgets$Books" "heads" "LHeadBudgets$Heads;") (by decide +kernel)
  have lk_72 := hts (.fieldLink RX5 72 "HeadBudgets$Books" "carriedPart" "I") (by decide +kernel)
  have hi_X0 : ∀ w ∈ wsX00, w ∈ wsX5_wouldLapse := by decide +kernel
  have hi_X5 : ∀ w ∈ wsX50, w ∈ wsX5_wouldLapse := by decide +kernel
  refine lv_aload_n hx hb dX5_wouldLapse_0 rfl (lv_at hl 0 rfl) ?_
  refine xget (C := RX5) (T := TX5) (N := 2) (ci := 5) (w := .ref (ad 0)) hx hb hts hi_X5 hown hK hP 233 g0_233 rfl 0 (by decide) lk_10 rfl dX5_wouldLapse_1 ?_
  refine xget (C := RX0) (T := TX0) (N := 6) (ci := 0) (w := .ref (ad 1)) hx hb hts hi_X0 hown hK hP 0 g0_0 rfl 0 (by decide) lk_23 rfl dX5_wouldLapse_4 ?_
  refine lv_iload_n hx hb dX5_wouldLapse_7 rfl (lv_at hl 1 rfl) ?_
  refine callB (As := [.int h]) (rest := []) ⟨hx, hb, hml, hown, hts⟩ (c_X3_has X h) (cwV 1 hts gX5_wouldLapse_X3_has rfl rfl rfl (by decide +kernel) ⟨Nat.le_of_ble_eq_true rfl, Nat.le_of_ble_eq_true rfl⟩) hK hN hP 1 g0_1 rfl rfl hl.1 rfl (Nat.le_of_ble_eq_true rfl) dX5_wouldLapse_8 ⟨Nat.zero_le _, Nat.zero_le _⟩ (fun c_8 => ?_) (fun c_8 => ?_)
  · refine lv_if_ne (tgt := 16) hx hb dX5_wouldLapse_11 (by decide) (fun _ => ?_) (fun h9 => absurd h9 (by decide))
    refine lv_aload_n hx hb dX5_wouldLapse_16 rfl (lv_at hl 0 rfl) ?_
    refine xget (C := RX5) (T := TX5) (N := 2) (ci := 5) (w := .ref (ad 0)) hx hb hts hi_X5 hown hK hP 233 g0_233 rfl 0 (by decide) lk_10 rfl dX5_wouldLapse_17 ?_
    refine xget (C := RX0) (T := TX0) (N := 6) (ci := 0) (w := .ref (ad 1)) hx hb hts hi_X0 hown hK hP 0 g0_0 rfl 0 (by decide) lk_23 rfl dX5_wouldLapse_20 ?_
    refine lv_iload_n hx hb dX5_wouldLapse_23 rfl (lv_at hl 1 rfl) ?_
    refine lv_aload_n hx hb dX5_wouldLapse_24 rfl (lv_at hl 0 rfl) ?_
    refine xget (C := RX5) (T := TX5) (N := 2) (ci := 5) (w := .ref (ad 0)) hx hb hts hi_X5 hown hK hP 233 g0_233 rfl 0 (by decide) lk_10 rfl dX5_wouldLapse_25 ?_
    refine xget (C := RX0) (T := TX0) (N := 6) (ci := 0) (w := .int (X 0 14 3)) hx hb hts hi_X0 hown hK hP 0 g0_0 rfl 3 (by decide) lk_72 rfl dX5_wouldLapse_28 ?_
    refine callE (As := [.int h, .int (X 0 14 3)]) (rest := []) ⟨hx, hb, hml, hown, hts⟩ (c_X3_lapseWithin X h (X 0 14 3)) (cwV 2 hts gX5_wouldLapse_X3_lapseWithin rfl rfl rfl (by decide +kernel) ⟨Nat.le_of_ble_eq_true rfl, Nat.le_of_ble_eq_true rfl⟩) hK hN hP 1 g0_1 rfl rfl hl.1 rfl (Nat.le_of_ble_eq_true rfl) dX5_wouldLapse_31 ⟨Nat.zero_le _, Nat.zero_le _⟩ ?_
    exact retE hx hb hr hlocks dX5_wouldLapse_34 (by first | rfl | (unfold v_lapse; repeat (first | rw [ci_t c_8] | rw [ci_f c_8])))
  · refine lv_if_ne (tgt := 16) hx hb dX5_wouldLapse_11 (by decide) (fun h9 => absurd (by decide) h9) (fun _ => ?_)
    refine lv_iconst (v := (-1)) hx hb dX5_wouldLapse_14 (by decide) ?_
    exact retE hx hb hr hlocks dX5_wouldLapse_15 (by first | rfl | (unfold v_lapse; repeat (first | rw [ci_t c_8] | rw [ci_f c_8])))
end
section
/-! WHAT HOLDS OF A BOOK in every run (Ok K r; K: a bound of all money), and what the reference's loops rest on. -/
def OkS (r : Bk) : Prop := (1 ≤ (r 14 1).toInt ∧ (r 14 1).toInt ≤ 20) ∧ r 0 0 = -9 ∧ (r 9 0).toInt = 0 ∧ (∀ h : Nat, 1 ≤ h → (h : Int) < (r 14 1).toInt → 0 ≤ (r 0 h).toInt ∧ (r 0 h).toInt < h ∧ (r 9 h).toInt = (r 9 (r 0 h).toNatClampNeg).toInt + 1) ∧ (∀ h : Nat, (h : Int) < (r 14 1).toInt → 0 ≤ (r 9 h).toInt ∧ (r 9 h).toInt ≤ 4)
def OkF (r : Bk) : Prop := ∀ h : Nat, h < 20 → r 2 h = 0 ∨ r 2 h = 1
def OkN (r : Bk) : Prop := (0 ≤ (r 14 2).toInt ∧ (r 14 2).toInt ≤ 40) ∧ (0 ≤ (r 14 0).toInt ∧ (r 14 0).toInt ≤ 99) ∧ (0 ≤ (r 14 3).toInt ∧ (r 14 3).toInt ≤ 100)
def OkM (K : Int) (r : Bk) : Prop := ∀ h : Nat, h < 20 → (-K ≤ (r 4 h).toInt ∧ (r 4 h).toInt ≤ K) ∧ (0 ≤ (r 5 h).toInt ∧ (r 5 h).toInt ≤ K) ∧ (r 3 h).toInt ≤ K ∧ 0 ≤ (r 3 h).toInt - (r 4 h).toInt - (r 5 h).toInt
def OkR (r : Bk) : Prop := ∀ h : Nat, h < 20 → 0 ≤ (r 1 h).toInt ∧ (r 1 h).toInt ≤ 9
def OkU (r : Bk) : Prop := ∀ h : Nat, h < 20 → (r 14 1).toInt ≤ h → r 3 h = 0 ∧ r 4 h = 0 ∧ r 5 h = 0 ∧ r 6 h = 0 ∧ r 7 h = 0
def OkC (r : Bk) : Prop := ∀ k : Nat, k < 40 → ((k : Int) < (r 14 2).toInt → (0 ≤ (r 10 k).toInt ∧ (r 10 k).toInt < (r 14 1).toInt) ∧ 0 ≤ (r 11 k).toInt ∧ (r 11 k).toInt ≤ 100000) ∧ ((r 14 2).toInt ≤ k → r 11 k = 0 ∧ r 12 k = 0)
def Ok (K : Int) (r : Bk) : Prop := (0 ≤ K ∧ K ≤ 60000000) ∧ OkS r ∧ OkF r ∧ OkN r ∧ OkM K r ∧ OkR r ∧ OkU r ∧ OkC r
section
variable {K : Int} {r : Bk} {h t k q : Int32}
theorem Ok.B (o : Ok K r) : 0 ≤ K ∧ K ≤ 60000000 := o.1
theorem Ok.S (o : Ok K r) : OkS r := o.2.1
theorem Ok.F (o : Ok K r) : OkF r := o.2.2.1
theorem Ok.N (o : Ok K r) : OkN r := o.2.2.2.1
theorem Ok.M (o : Ok K r) : OkM K r := o.2.2.2.2.1
theorem Ok.R (o : Ok K r) : OkR r := o.2.2.2.2.2.1
theorem Ok.U (o : Ok K r) : OkU r := o.2.2.2.2.2.2.1
theorem Ok.C (o : Ok K r) : OkC r := o.2.2.2.2.2.2.2
/-- an index by its number -/
theorem ix_t (x : Int32) : x.toNatClampNeg = x.toInt.toNat := rfl
theorem hin_nI (p : hin h) : ∃ n : Nat, n < 20 ∧ h = nI n ∧ h.toNatClampNeg = n ∧ h.toInt = n := by
  have h1 := p.1
  have h2 := p.2
  refine ⟨h.toInt.toNat, by omega, ?_, rfl, by omega⟩
  rw [i3_eq, nI_toInt (by omega)]
  omega
theorem cin_nI (p : cin h) : ∃ n : Nat, n < 40 ∧ h = nI n ∧ h.toNatClampNeg = n ∧ h.toInt = n := by
  have h1 := p.1
  have h2 := p.2
  refine ⟨h.toInt.toNat, by omega, ?_, rfl, by omega⟩
  rw [i3_eq, nI_toInt (by omega)]
  omega
def md (r : Bk) : Nat := (r 14 1).toInt.toNat
theorem md_20 (o : Ok K r) : 1 ≤ md r ∧ md r ≤ 20 ∧ ((md r : Nat) : Int) = (r 14 1).toInt := by
  have h1 := o.S.1
  unfold md
  omega
theorem has_nI (o : Ok K r) {n : Nat} (hn : n < md r) : p_has r (nI n) := by
  have h1 := md_20 o
  have h2 : (nI n).toInt = n := nI_t (by omega)
  exact ⟨by omega, by omega, by omega⟩
theorem has_no (o : Ok K r) {n : Nat} (hn : md r ≤ n) (h40 : n ≤ 40) : ¬ p_has r (nI n) := by
  intro p
  have h1 := md_20 o
  have h2 : (nI n).toInt = n := nI_t (by omega)
  have := p.2.1
  omega
theorem has_at (o : Ok K r) (p : p_has r h) : ∃ n : Nat, n < md r ∧ n < 20 ∧ h = nI n ∧ h.toNatClampNeg = n ∧ h.toInt = n := by
  obtain ⟨n, h1, h2, h3, h4⟩ := hin_nI (hin_has p)
  have := md_20 o
  have := p.2.1
  exact ⟨n, by omega, h1, h2, h3, h4⟩
theorem md_ge (o : Ok K r) {n : Nat} (hn : n ≤ md r) (c : r 14 1 ≤ nI n) : n = md r := by
  have h1 := md_20 o
  rw [i3_le, nI_t (by omega)] at c
  omega
theorem md_lt (o : Ok K r) {n : Nat} (hn : n ≤ md r) (c : ¬ r 14 1 ≤ nI n) : n < md r ∧ n < 20 := by
  have h1 := md_20 o
  rw [i3_le, nI_t (by omega)] at c
  omega
def mc (r : Bk) : Nat := (r 14 2).toInt.toNat
theorem mc_40 (o : Ok K r) : mc r ≤ 40 ∧ ((mc r : Nat) : Int) = (r 14 2).toInt := by
  have h1 := o.N.1
  unfold mc
  omega
theorem mc_ge (o : Ok K r) {n : Nat} (hn : n ≤ mc r) (c : r 14 2 ≤ nI n) : n = mc r := by
  have h1 := mc_40 o
  rw [i3_le, nI_t (by omega)] at c
  omega
theorem mc_lt (o : Ok K r) {n : Nat} (hn : n ≤ mc r) (c : ¬ r 14 2 ≤ nI n) : n < mc r ∧ n < 40 := by
  have h1 := mc_40 o
  rw [i3_le, nI_t (by omega)] at c
  omega
theorem hasC_at (o : Ok K r) (p : p_hasC r h) : ∃ n : Nat, n < mc r ∧ n < 40 ∧ h = nI n ∧ h.toNatClampNeg = n ∧ h.toInt = n := by
  obtain ⟨n, h1, h2, h3, h4⟩ := cin_nI (cin_has p)
  have := mc_40 o
  have := p.2.1
  exact ⟨n, by omega, h1, h2, h3, h4⟩
/-- a commitment's head is a head -/
theorem hasC_head (o : Ok K r) (p : p_hasC r q) : p_has r (qv r 10 q) := by
  obtain ⟨n, h1, h2, h3, h4, h5⟩ := hasC_at o p
  have h6 := (o.C n h2).1 (by have := mc_40 o; omega)
  have h7 := md_20 o
  unfold qv
  rw [h4]
  exact ⟨h6.1.1, h6.1.2, by omega⟩
theorem has_ne9 (p : p_has r h) : h ≠ -9 := by
  intro e
  have := p.1
  rw [e, t_m9] at this
  omega
theorem ok_up (o : Ok K r) (p : p_has r h) : (qv r 0 h = -9 ∧ (qv r 9 h).toInt = 0) ∨ (p_has r (qv r 0 h) ∧ (qv r 9 h).toInt = (qv r 9 (qv r 0 h)).toInt + 1) := by
  obtain ⟨n, h1, h2, h3, h4, h5⟩ := has_at o p
  have h6 := md_20 o
  unfold qv
  rw [h4]
  by_cases e : n = 0
  · subst e
    exact Or.inl ⟨o.S.2.1, o.S.2.2.1⟩
  · have h7 := o.S.2.2.2.1 n (by omega) (by omega)
    exact Or.inr ⟨⟨h7.1, by omega, by omega⟩, h7.2.2⟩
theorem ok_dep (o : Ok K r) (p : p_has r h) : 0 ≤ (qv r 9 h).toInt ∧ (qv r 9 h).toInt ≤ 4 := by
  obtain ⟨n, h1, h2, h3, h4, h5⟩ := has_at o p
  have h6 := md_20 o
  unfold qv
  rw [h4]
  exact o.S.2.2.2.2 n (by omega)
/-- a walk upwards that still has n steps -/
def up_ok (r : Bk) (x : Int32) (n : Nat) : Prop := (x = -9 ∧ 1 ≤ n) ∨ (p_has r x ∧ (qv r 9 x).toInt + 1 < n)
theorem up_0 (o : Ok K r) : ¬ up_ok r h 0 := by
  intro u
  rcases u with ⟨_, u⟩ | ⟨p, u⟩
  · omega
  · have := ok_dep o p
    omega
theorem up_has {n : Nat} (u : up_ok r h n) (e : ¬ h = -9) : p_has r h := u.elim (fun z => absurd z.1 e) (fun z => z.1)
theorem up_next (o : Ok K r) {n : Nat} (u : up_ok r h (n + 1)) (e : ¬ h = -9) : up_ok r (qv r 0 h) n := by
  rcases u with ⟨u, _⟩ | ⟨p, u⟩
  · exact absurd u e
  · have h0 := ok_dep o p
    rcases ok_up o p with ⟨h1, h2⟩ | ⟨h1, h2⟩
    · exact Or.inl ⟨h1, by omega⟩
    · exact Or.inr ⟨h1, by omega⟩
theorem up_start (o : Ok K r) (p : p_has r h) : up_ok r h 6 := Or.inr ⟨p, by have := ok_dep o p; omega⟩
theorem up_start1 (o : Ok K r) (p : p_has r h) : up_ok r (qv r 0 h) 6 := by
  have h0 := ok_dep o p
  rcases ok_up o p with ⟨h1, h2⟩ | ⟨h1, h2⟩
  · exact Or.inl ⟨h1, by omega⟩
  · exact Or.inr ⟨h1, by omega⟩
theorem no9 : ¬ p_has r (-9) := fun p => has_ne9 p rfl
theorem wit_no9 {n : Nat} : ¬ p_wit r n (-9) t := by
  cases n with
  | zero => exact fun z => z
  | succ n => exact fun z => no9 z.1
theorem bar_no9 {n : Nat} : ¬ p_bar r n (-9) := by
  cases n with
  | zero => exact fun z => z
  | succ n => exact fun z => no9 z.1
theorem wit_fuel (o : Ok K r) : ∀ (n : Nat) (h : Int32), p_has r h → (qv r 9 h).toInt < n → (p_wit r n h t ↔ p_wit r (n + 1) h t) := by
  intro n
  induction n with
  | zero =>
    intro h p hd
    have := ok_dep o p
    omega
  | succ n ih =>
    intro h p hd
    show (p_has r h ∧ (h = t ∨ p_wit r n (qv r 0 h) t)) ↔ (p_has r h ∧ (h = t ∨ p_wit r (n + 1) (qv r 0 h) t))
    rcases ok_up o p with ⟨h1, h2⟩ | ⟨h1, h2⟩
    · rw [h1]
      simp only [wit_no9]
    · rw [ih _ h1 (by omega)]
theorem bar_fuel (o : Ok K r) : ∀ (n : Nat) (h : Int32), p_has r h → (qv r 9 h).toInt < n → (p_bar r n h ↔ p_bar r (n + 1) h) := by
  intro n
  induction n with
  | zero =>
    intro h p hd
    have := ok_dep o p
    omega
  | succ n ih =>
    intro h p hd
    show (p_has r h ∧ (qv r 2 h = 1 ∨ p_bar r n (qv r 0 h))) ↔ (p_has r h ∧ (qv r 2 h = 1 ∨ p_bar r (n + 1) (qv r 0 h)))
    rcases ok_up o p with ⟨h1, h2⟩ | ⟨h1, h2⟩
    · rw [h1]
      simp only [bar_no9]
    · rw [ih _ h1 (by omega)]
/-- h is below t, as the reference walks -/
def mb (r : Bk) (h t : Int32) : Prop := p_wit r 5 (qv r 0 h) t
theorem wit_mb (o : Ok K r) (p : p_has r h) : p_wit r 5 h t ↔ h = t ∨ mb r h t := by
  have h0 := ok_dep o p
  have e : p_wit r 4 (qv r 0 h) t ↔ p_wit r 5 (qv r 0 h) t := by
    rcases ok_up o p with ⟨h1, h2⟩ | ⟨h1, h2⟩
    · rw [h1]
      simp only [wit_no9]
    · exact wit_fuel o 4 _ h1 (by omega)
  show (p_has r h ∧ (h = t ∨ p_wit r 4 (qv r 0 h) t)) ↔ _
  rw [e]
  exact ⟨fun z => z.2, fun z => ⟨p, z⟩⟩
theorem wit_step (o : Ok K r) (p : p_has r h) (n : ¬ h = t) : p_wit r 5 h t ↔ p_wit r 5 (qv r 0 h) t := by
  rw [wit_mb o p]
  exact ⟨fun z => z.elim (fun z => absurd z n) id, Or.inr⟩
theorem bar_up (o : Ok K r) (p : p_has r h) : p_bar r 5 h ↔ qv r 2 h = 1 ∨ p_bar r 5 (qv r 0 h) := by
  have h0 := ok_dep o p
  have e : p_bar r 4 (qv r 0 h) ↔ p_bar r 5 (qv r 0 h) := by
    rcases ok_up o p with ⟨h1, h2⟩ | ⟨h1, h2⟩
    · rw [h1]
      simp only [bar_no9]
    · exact bar_fuel o 4 _ h1 (by omega)
  show (p_has r h ∧ (qv r 2 h = 1 ∨ p_bar r 4 (qv r 0 h))) ↔ _
  rw [e]
  exact ⟨fun z => z.2, fun z => ⟨p, z⟩⟩
theorem frz (o : Ok K r) (p : p_has r h) : qv r 2 h = 0 ∨ qv r 2 h = 1 := by
  obtain ⟨n, h1, h2, h3, h4, h5⟩ := has_at o p
  unfold qv
  rw [h4]
  exact o.F n h2
theorem bar_step (o : Ok K r) (p : p_has r h) (z : qv r 2 h = 0) : p_bar r 5 h ↔ p_bar r 5 (qv r 0 h) := by
  rw [bar_up o p, z]
  exact ⟨fun q => q.elim (fun e => absurd e (by decide)) id, Or.inr⟩
theorem bar_top (o : Ok K r) (p : p_has r h) (z : ¬ qv r 2 h = 0) : p_bar r 5 h := by
  rw [bar_up o p]
  exact Or.inl ((frz o p).resolve_left z)
theorem wit_dep (o : Ok K r) (pt : p_has r t) : ∀ (n : Nat) (x : Int32), p_has r x → p_wit r n x t → (qv r 9 t).toInt ≤ (qv r 9 x).toInt := by
  intro n
  induction n with
  | zero => exact fun x _ z => z.elim
  | succ n ih =>
    intro x p z
    rcases z.2 with e | z
    · rw [e]
      exact Int.le_refl _
    · rcases ok_up o p with ⟨h1, h2⟩ | ⟨h1, h2⟩
      · rw [h1] at z
        exact absurd z wit_no9
      · have := ih _ h1 z
        omega
theorem mb_ne (o : Ok K r) (p : p_has r h) (pt : p_has r t) (z : mb r h t) : h ≠ t := by
  intro e
  rcases ok_up o p with ⟨h1, h2⟩ | ⟨h1, h2⟩
  · unfold mb at z
    rw [h1] at z
    exact wit_no9 z
  · have := wit_dep o pt 5 _ h1 z
    rw [e] at this h2
    omega
theorem mb_iff (o : Ok K r) (p : p_has r h) (pt : p_has r t) : mb r h t ↔ h ≠ t ∧ p_wit r 5 h t := by
  rw [wit_mb o p]
  exact ⟨fun z => ⟨mb_ne o p pt z, Or.inr z⟩, fun z => z.2.resolve_left z.1⟩
/-- free money, without a look whether the head is there -/
def fr (r : Bk) (h : Int32) : Int32 := qv r 3 h - qv r 4 h - qv r 5 h
theorem free_fr (p : p_has r h) : p_free r h = fr r h := ci_t p
def lp (r : Bk) (h : Int32) : Int32 := fr r h - p_part (fr r h) (r 14 3)
theorem fr_t (o : Ok K r) (p : p_has r h) : (fr r h).toInt = (qv r 3 h).toInt - (qv r 4 h).toInt - (qv r 5 h).toInt ∧ 0 ≤ (fr r h).toInt ∧ (fr r h).toInt ≤ 2 * K := by
  obtain ⟨n, h1, h2, h3, h4, h5⟩ := has_at o p
  have h6 := o.M n h2
  have h7 := o.B
  unfold fr qv
  rw [h4, Int32.toInt_sub, Int32.toInt_sub, Int.bmod_eq_of_le (n := (r 3 n).toInt - (r 4 n).toInt) (by omega) (by omega), Int.bmod_eq_of_le (by omega) (by omega)]
  omega
theorem sumI_cut {f : Nat → Int32} {n m : Nat} (hnm : n ≤ m) (h : ∀ k, n ≤ k → k < m → f k = 0) : sumI f m = sumI f n := by
  induction m with
  | zero =>
    have : n = 0 := by omega
    rw [this]
  | succ m ih =>
    by_cases e : n = m + 1
    · rw [e]
    · show sumI f m + f m = _
      rw [h m (by omega) (by omega), Int32.add_zero]
      exact ih (by omega) (fun k h1 h2 => h k h1 (by omega))
theorem sumI_congr {f g : Nat → Int32} : ∀ {n : Nat}, (∀ k, k < n → f k = g k) → sumI f n = sumI g n := by
  intro n
  induction n with
  | zero => exact fun _ => rfl
  | succ n ih =>
    intro h
    show sumI f n + f n = sumI g n + g n
    rw [ih (fun k hk => h k (by omega)), h n (by omega)]
theorem bar_has {n : Nat} (z : p_bar r n h) : p_has r h := by
  cases n with
  | zero => exact z.elim
  | succ n => exact z.1
theorem wit_has {n : Nat} (z : p_wit r n h t) : p_has r h := by
  cases n with
  | zero => exact z.elim
  | succ n => exact z.1
theorem cntb_md (o : Ok K r) : p_cntb r 20 = p_cntb r (md r) :=
  sumI_cut (md_20 o).2.1 (fun k h1 h2 => ci_f (fun z => has_no o h1 (by omega) (bar_has z)))
theorem open_mc (o : Ok K r) : p_open r 40 = p_open r (mc r) :=
  sumI_cut (mc_40 o).1 (fun k h1 h2 => ci_f (by
    rw [((o.C k h2).2 (by have := mc_40 o; omega)).1]
    decide))
/-- what the reference's totals add for a head -/
noncomputable def p_val (r : Bk) (h w : Int32) : Int32 := ci (w = 0) (qv r 3 h) (ci (w = 1) (qv r 4 h) (ci (w = 2) (qv r 5 h) (ci (w = 3) (fr r h) (ci (w = 4) 1 (lp r h)))))
noncomputable def p_tot (r : Bk) (t w : Int32) (n : Nat) : Int32 := sumI (fun k => ci (nI k = t ∨ mb r (nI k) t) (p_val r (nI k) w) 0) n
theorem tot_gen (o : Ok K r) {f : Int32 → Int32} {g : Int32 → Int32} (hf : ∀ k, k < md r → f (nI k) = g (nI k)) : sumI (fun k => ci (nI k = t ∨ mb r (nI k) t) (f (nI k)) 0) (md r) = sumI (fun k => ci (p_wit r 5 (nI k) t) (g (nI k)) 0) 20 := by
  rw [sumI_cut (f := fun k => ci (p_wit r 5 (nI k) t) (g (nI k)) 0) (md_20 o).2.1 (fun k h1 h2 => ci_f (fun z => has_no o h1 (by omega) (wit_has z)))]
  refine sumI_congr (fun k hk => ?_)
  show ci _ _ _ = ci _ _ _
  rw [hf k hk]
  exact congrArg (fun P => ci P (g (nI k)) 0) (propext (wit_mb o (has_nI o hk)).symm)
theorem tot_sum (o : Ok K r) {w : Int32} (h0 : 0 ≤ w.toInt) (h4 : w.toInt ≤ 4) : p_tot r t w (md r) = p_sum r t w 20 := by
  refine tot_gen o (f := fun h => p_val r h w) (g := fun h => p_smd r h w) (fun k hk => ?_)
  show p_val r (nI k) w = p_smd r (nI k) w
  unfold p_val p_smd
  rw [ci_t (has_nI o hk), free_fr (has_nI o hk)]
  by_cases e0 : w = 0
  · rw [ci_t e0, ci_t e0]
  · by_cases e1 : w = 1
    · rw [ci_f e0, ci_f e0, ci_t e1, ci_t e1]
    · by_cases e2 : w = 2
      · rw [ci_f e0, ci_f e0, ci_f e1, ci_f e1, ci_t e2, ci_t e2]
      · by_cases e3 : w = 3
        · rw [ci_f e0, ci_f e0, ci_f e1, ci_f e1, ci_f e2, ci_f e2, ci_t e3, ci_t e3]
        · have e4 : w = 4 := by
            rw [i3_eq, t_4]
            rw [i3_eq, t_0] at e0
            rw [i3_eq, t_1] at e1
            rw [i3_eq, t_2] at e2
            rw [i3_eq, show (3 : Int32).toInt = 3 by decide] at e3
            omega
          rw [ci_f e0, ci_f e0, ci_f e1, ci_f e1, ci_f e2, ci_f e2, ci_f e3, ci_f e3, ci_t e4]
theorem tot_lapse (o : Ok K r) : p_tot r t 5 (md r) = p_lapse r t (r 14 3) 20 := by
  refine tot_gen o (f := fun h => p_val r h 5) (g := fun h => p_free r h - p_part (p_free r h) (r 14 3)) (fun k hk => ?_)
  show p_val r (nI k) 5 = _
  unfold p_val
  rw [ci_f (by decide), ci_f (by decide), ci_f (by decide), ci_f (by decide), ci_f (by decide), free_fr (has_nI o hk)]
  rfl
theorem sum_all (o : Ok K r) : sumI (fun k => qv r 3 (nI k)) (md r) = p_sum r 0 0 20 := by
  rw [← tot_sum o (by decide) (by decide)]
  refine sumI_congr (fun k hk => ?_)
  show _ = ci _ _ _
  have root : ∀ n : Nat, n < md r → nI n = 0 ∨ mb r (nI n) 0 := by
    have h6 := md_20 o
    intro n
    induction n using Nat.strongRecOn with
    | _ n ih =>
      intro hn
      by_cases e : n = 0
      · exact Or.inl (by rw [e]; rfl)
      · refine Or.inr ?_
        have h7 := o.S.2.2.2.1 n (by omega) (by omega)
        have e1 : qv r 0 (nI n) = nI (r 0 n).toInt.toNat := by
          unfold qv
          rw [nI_c (by omega), i3_eq, nI_toInt (by omega)]
          omega
        unfold mb
        rw [e1, wit_mb o (has_nI o (by omega))]
        exact ih _ (by omega) (by omega)
  rw [ci_t (root k hk)]
  unfold p_val
  rw [ci_t rfl]
/-- no place, no giver among the heads that are not made -/
theorem place_cut (o : Ok K r) {w : Int32} (e : p_place r t w (md r) = -9) : p_place r t w 20 = -9 := by
  have h6 := md_20 o
  have h2 : ∀ j, md r + j ≤ 20 → p_place r t w (md r + j) = -9 := by
    intro j
    induction j with
    | zero => exact fun _ => e
    | succ j ih =>
      intro hj
      show p_place r t w (md r + j + 1) = -9
      exact place_no (k := md r + j) (ih (by omega)) (fun z => has_no o (by omega) (by omega) (wit_has z.2.1))
  have := h2 (20 - md r) (by omega)
  rwa [show md r + (20 - md r) = 20 by omega] at this
theorem mov_no (n : ¬ p_has r h) : p_mov r h t = 0 := ci_f (fun z => n z.1)
theorem mov_self : p_mov r h h = 0 := ci_f (fun z => z.2.2.1 rfl)
theorem i3max_nn (x : Int32) : ¬ i3max 0 x < 0 := by
  unfold i3max
  by_cases c : 0 < x
  · rw [if_pos c]
    rw [i3_lt, t_0] at c ⊢
    omega
  · rw [if_neg c]
    decide
theorem mov_nn : ¬ p_mov r h t < 0 := by
  unfold p_mov
  by_cases c : p_may r h t
  · rw [ci_t c]
    exact i3max_nn _
  · rw [ci_f c]
    decide
theorem best_inv (n : Nat) : ((p_best r t n).1 = -9 ∧ (p_best r t n).2 = 0) ∨ (p_has r (p_best r t n).1 ∧ 0 < (p_best r t n).2) := by
  induction n with
  | zero => exact Or.inl ⟨rfl, rfl⟩
  | succ n ih =>
    by_cases c : (p_best r t n).2 < p_mov r (nI n) t ∨ (p_mov r (nI n) t = (p_best r t n).2 ∧ p_has r (p_best r t n).1 ∧ qv r 1 (p_best r t n).1 < qv r 1 (nI n))
    · have e : p_best r t (n + 1) = (nI n, p_mov r (nI n) t) := ci_t c
      rw [e]
      refine Or.inr ?_
      have hp : 0 < p_mov r (nI n) t := by
        rw [i3_lt, t_0]
        rcases c with c | c
        · rw [i3_lt] at c
          rcases ih with i | i
          · rw [i.2, t_0] at c
            exact c
          · have := i.2
            rw [i3_lt, t_0] at this
            omega
        · rcases ih with i | i
          · exact absurd c.2.1 (by rw [i.1]; exact no9)
          · have := i.2
            rw [← c.1, i3_lt, t_0] at this
            exact this
      refine ⟨?_, hp⟩
      refine Classical.byContradiction (fun z => ?_)
      rw [mov_no z] at hp
      exact absurd hp (by decide)
    · have e : p_best r t (n + 1) = p_best r t n := ci_f c
      rw [e]
      exact ih
theorem best_cut (o : Ok K r) : p_best r t 20 = p_best r t (md r) := by
  have h6 := md_20 o
  have h2 : ∀ j, md r + j ≤ 20 → p_best r t (md r + j) = p_best r t (md r) := by
    intro j
    induction j with
    | zero => exact fun _ => rfl
    | succ j ih =>
      intro hj
      have e : p_best r t (md r + j + 1) = p_best r t (md r + j) := by
        refine ci_f (fun z => ?_)
        rw [mov_no (has_no o (by omega) (by omega))] at z
        rcases best_inv (r := r) (t := t) (md r + j) with i | i
        · rcases z with z | z
          · rw [i.2] at z
            exact absurd z (by decide)
          · exact absurd z.2.1 (by rw [i.1]; exact no9)
        · have i2 := i.2
          rcases z with z | z
          · rw [i3_lt, t_0] at z i2
            omega
          · rw [← z.1] at i2
            exact absurd i2 (by decide)
      exact e.trans (ih (by omega))
  have := h2 (20 - md r) (by omega)
  rwa [show md r + (20 - md r) = 20 by omega] at this
end
end
section
/-! THE DEEDS' BOOKS by one cell after another (m_ ..), and what keeps a book in order (from the claim whole) -/
section
variable {K : Int} {r : Bk} {h t k q : Int32}
def p_in (v a b : Int32) : Prop := a.toInt ≤ v.toInt ∧ v.toInt ≤ b.toInt
theorem in12 {x : Int32} {n : Nat} (e : x = nI n) (h : n < 12) : vp_in x 12 := by
  rw [e]
  exact vp_in_nI h (by omega)
theorem isHead_iff {K : Int} {r : Bk} {h : Int32} (o : Ok K r) : p_in h 0 (r 14 1 - 1) ↔ p_has r h := by
  have h1 := md_20 o
  have e : (r 14 1 - 1).toInt = (r 14 1).toInt - 1 := by
    rw [Int32.toInt_sub, t_1]
    exact Int.bmod_eq_of_le (by omega) (by omega)
  unfold p_in p_has
  rw [e, t_0]
  omega
theorem isComm_iff {K : Int} {r : Bk} {h : Int32} (o : Ok K r) : p_in h 0 (r 14 2 - 1) ↔ p_hasC r h := by
  have h1 := mc_40 o
  have e : (r 14 2 - 1).toInt = (r 14 2).toInt - 1 := by
    rw [Int32.toInt_sub, t_1]
    exact Int.bmod_eq_of_le (by omega) (by omega)
  unfold p_in p_hasC
  rw [e, t_0]
  omega
theorem amt_iff {a : Int32} : p_in a 1 100000 ↔ p_amt a := by
  unfold p_in p_amt
  rw [t_1, t_h]
theorem pct_iff {a : Int32} : p_in a 0 100 ↔ p_pct a := by
  unfold p_in p_pct
  rw [t_0, t_100]
end
-- the deeds' books
def m_make (r : Bk) (a k : Int32) : Bk :=
  let h := (r 14 1).toNatClampNeg
  let r1 := b2 r 0 h a
  let r2 := b2 r1 1 h k
  let r3 := b2 r2 8 h 50
  b2 r3 14 1 (r3 14 1 + 1)
def m_commit (r : Bk) (h a : Int32) : Bk :=
  let i := (r 14 2).toNatClampNeg
  let r1 := b2 r 10 i h
  let r2 := b2 r1 11 i a
  let r3 := b2 r2 12 i 0
  let r4 := b2 r3 13 i (r3 14 0)
  let r5 := b2 r4 4 h.toNatClampNeg (qv r4 4 h + a)
  b2 r5 14 2 (r5 14 2 + 1)
def m_pay (r : Bk) (q a : Int32) : Bk :=
  let h := qv r 10 q
  let r1 := b2 r 11 q.toNatClampNeg (qv r 11 q - a)
  let r2 := b2 r1 12 q.toNatClampNeg (qv r1 12 q + a)
  let r3 := b2 r2 4 h.toNatClampNeg (qv r2 4 h - a)
  let r4 := b2 r3 5 h.toNatClampNeg (qv r3 5 h + a)
  b2 r4 14 5 (r4 14 5 + a)
def m_free0 (r : Bk) (q : Int32) : Bk :=
  let h := qv r 10 q
  let r1 := b2 r 4 h.toNatClampNeg (qv r 4 h - qv r 11 q)
  b2 r1 11 q.toNatClampNeg 0
def m_mv (r : Bk) (f t a : Int32) : Bk :=
  let r1 := b2 r 3 f.toNatClampNeg (qv r 3 f - a)
  b2 r1 3 t.toNatClampNeg (qv r1 3 t + a)
def m_vire (r : Bk) (f t a : Int32) : Bk := b2 (m_mv r f t a) 7 f.toNatClampNeg (qv (m_mv r f t a) 7 f + a)
def m_rv (r : Bk) (f t a : Int32) : Bk := b2 (m_mv r t f a) 7 f.toNatClampNeg (qv (m_mv r t f a) 7 f - a)
def m_ey1 (r : Bk) (h : Int32) : Bk :=
  let L := lp r h
  let r1 := b2 r 6 h.toNatClampNeg (fr r h - L)
  let r2 := b2 r1 3 h.toNatClampNeg (qv r1 3 h - (L + qv r1 5 h))
  let r3 := b2 r2 5 h.toNatClampNeg 0
  b2 r3 7 h.toNatClampNeg 0
def m_ey (r : Bk) : Nat → Bk
  | 0 => r
  | k + 1 => m_ey1 (m_ey r k) (nI k)
def m_eyS (r : Bk) (n : Nat) : Int32 := sumI (fun k => lp (m_ey r k) (nI k)) n
def m_endYear (r : Bk) : Bk :=
  let r1 := m_ey r (md r)
  let r2 := b2 r1 14 4 (r1 14 4 + m_eyS r (md r))
  b2 r2 14 0 (r2 14 0 + 1)
theorem m_ey1_14 (r : Bk) (h : Int32) : m_ey1 r h 14 = r 14 := by
  unfold m_ey1
  rw [b2_coln _ _ _ _ (by omega), b2_coln _ _ _ _ (by omega), b2_coln _ _ _ _ (by omega), b2_coln _ _ _ _ (by omega)]
theorem m_ey_14 (r : Bk) : ∀ k, m_ey r k 14 = r 14 := by
  intro k
  induction k with
  | zero => rfl
  | succ k ih =>
    show m_ey1 (m_ey r k) (nI k) 14 = r 14
    rw [m_ey1_14, ih]
theorem min_a {f l : Int32} (h : l ≤ f) : i3min f l = l := by
  unfold i3min
  by_cases z : l < f
  · rw [if_pos z]
  · rw [if_neg z, i3_eq]
    rw [i3_le] at h
    rw [i3_lt] at z
    omega
theorem min_b {f l : Int32} (h : ¬ l ≤ f) : i3min f l = f := by
  unfold i3min
  rw [if_neg (fun z => h (Int32.le_of_lt z))]
theorem mov_1 {r : Bk} {a b : Int32} (p : p_may r a b) (f l : Int32) (hf : p_free r a = f) (hl : p_lv r a = l) : p_mov r a b = i3max 0 (i3min 100000 (i3min f l)) := by
  unfold p_mov
  rw [ci_t p, hf, hl]
theorem mx_big {x : Int32} (h2 : 100000 ≤ x) : i3max 0 (i3min 100000 x) = 100000 := by
  by_cases e : x ≤ 100000
  · have : x = 100000 := by
      rw [i3_eq]
      rw [i3_le] at h2 e
      omega
    rw [this]
    decide
  · rw [min_b e]
    decide
theorem mx_mid {x : Int32} (h : 0 ≤ x) (h2 : ¬ 100000 ≤ x) : i3max 0 (i3min 100000 x) = x := by
  rw [i3_le, t_0] at h
  rw [i3_le, t_h] at h2
  rw [min_a (by rw [i3_le, t_h]; omega)]
  unfold i3max
  by_cases z : 0 < x
  · rw [if_pos z]
  · rw [if_neg z, i3_eq, t_0]
    rw [i3_lt, t_0] at z
    omega
theorem mx_neg {x : Int32} (h : ¬ 0 ≤ x) : i3max 0 (i3min 100000 x) = 0 := by
  rw [i3_le, t_0] at h
  rw [min_a (by rw [i3_le, t_h]; omega)]
  unfold i3max
  rw [if_neg (by rw [i3_lt, t_0]; omega)]
theorem amt_mov {r : Bk} {a b m : Int32} (ha : p_amt m) (p : p_may r a b) : m ≤ p_mov r a b ↔ m ≤ p_free r a ∧ m ≤ p_lv r a := by
  rw [mov_1 p _ _ rfl rfl]
  unfold p_amt at ha
  by_cases c : p_lv r a ≤ p_free r a
  · rw [min_a c]
    rw [i3_le] at c
    by_cases d : 0 ≤ p_lv r a
    · by_cases e : 100000 ≤ p_lv r a
      · rw [mx_big e]
        rw [i3_le] at e
        simp only [i3_le, t_h] at *
        omega
      · rw [mx_mid d e]
        simp only [i3_le] at *
        omega
    · rw [mx_neg d]
      simp only [i3_le, t_0] at *
      omega
  · rw [min_b c]
    rw [i3_le] at c
    by_cases d : 0 ≤ p_free r a
    · by_cases e : 100000 ≤ p_free r a
      · rw [mx_big e]
        rw [i3_le] at e
        simp only [i3_le, t_h] at *
        omega
      · rw [mx_mid d e]
        simp only [i3_le] at *
        omega
    · rw [mx_neg d]
      simp only [i3_le, t_0] at *
      omega
theorem amt_mov0 {r : Bk} {a b m : Int32} (ha : p_amt m) (p : ¬ p_may r a b) : ¬ m ≤ p_mov r a b := by
  unfold p_mov
  rw [ci_f p, i3_le, t_0]
  unfold p_amt at ha
  omega
end
section
/-! THE REFERENCE's guards are the class's, word by word -/
section
variable {K : Int} {r : Bk}
theorem in_iff {v a b : Int32} : p_in v a b ↔ ¬ v < a ∧ v ≤ b := by
  unfold p_in
  simp only [i3_lt, i3_le]
  omega
theorem t_50 : (50 : Int32).toInt = 50 := by decide
theorem gm_make {a k : Int32} (o : Ok K r) : g_make r a k = ci (p_has r a) (ci (p_in k 0 9) (ci (qv r 9 a = 4) (-2) (ci (r 14 1 = 20) (-3) 0)) (-1)) (-1) := by
  unfold g_make
  by_cases p : p_has r a
  · rw [ci_t p, ci_t p]
    have h1 := ok_dep o p
    have h2 := o.S.1
    by_cases k0 : k < 0
    · rw [ci_t k0, ci_f (fun z => (in_iff.mp z).1 k0)]
    · rw [ci_f k0]
      by_cases k9 : k ≤ 9
      · rw [ci_t k9, ci_t (in_iff.mpr ⟨k0, k9⟩)]
        by_cases d : qv r 9 a = 4
        · rw [ci_t d, ci_f (by rw [d]; decide)]
        · rw [ci_f d, ci_t (by rw [i3_lt, t_4]; rw [i3_eq, t_4] at d; omega)]
          by_cases m : r 14 1 = 20
          · rw [ci_t m, ci_f (by rw [m]; decide)]
          · rw [ci_f m, ci_t (by rw [i3_lt, t_20]; rw [i3_eq, t_20] at m; omega)]
      · rw [ci_f k9, ci_f (fun z => k9 (in_iff.mp z).2)]
  · rw [ci_f p, ci_f p]
theorem al_t {h : Int32} (o : Ok K r) (p : p_has r h) : -60000000 ≤ (qv r 3 h).toInt ∧ (qv r 3 h).toInt ≤ 60000000 := by
  obtain ⟨n, h1, h2, h3, h4, h5⟩ := has_at o p
  have h6 := o.M n h2
  have h7 := o.B
  unfold qv
  rw [h4]
  omega
theorem gm_allot {h a : Int32} (o : Ok K r) : g_allot r h a = ci (p_has r h) (ci (p_amt a) (ci (qv r 3 h + a ≤ 1000000) 0 (-3)) (-1)) (-1) := by
  unfold g_allot
  by_cases p : p_has r h
  · rw [ci_t p, ci_t p]
    by_cases q : p_amt a
    · rw [ci_t q, ci_t q]
      have h1 := al_t o p
      have h2 := q
      unfold p_amt at h2
      have e1 : (qv r 3 h + a).toInt = (qv r 3 h).toInt + a.toInt := by
        rw [Int32.toInt_add]
        exact Int.bmod_eq_of_le (by omega) (by omega)
      have e2 : (1000000 - a).toInt = 1000000 - a.toInt := by
        rw [Int32.toInt_sub, t_m]
        exact Int.bmod_eq_of_le (by omega) (by omega)
      have e3 : (qv r 3 h ≤ 1000000 - a) = (qv r 3 h + a ≤ 1000000) := by
        rw [eq_iff_iff, i3_le, i3_le, e1, e2, t_m]
        omega
      rw [e3]
    · rw [ci_f q, ci_f q]
  · rw [ci_f p, ci_f p]
theorem gm_freeze {h x : Int32} : g_freeze r h x = ci (p_has r h) (ci (p_in x 0 1) (ci (qv r 2 h = x) (-2) 0) (-1)) (-1) := by
  unfold g_freeze
  by_cases p : p_has r h
  · rw [ci_t p, ci_t p]
    by_cases k0 : x < 0
    · rw [ci_t k0, ci_f (fun z => (in_iff.mp z).1 k0)]
    · rw [ci_f k0]
      by_cases k9 : x ≤ 1
      · rw [ci_t k9, ci_t (in_iff.mpr ⟨k0, k9⟩)]
      · rw [ci_f k9, ci_f (fun z => k9 (in_iff.mp z).2)]
  · rw [ci_f p, ci_f p]
theorem gm_setShare {h x : Int32} : g_setShare r h x = ci (p_has r h) (ci (p_in x 0 100) 0 (-1)) (-1) := by
  unfold g_setShare
  rw [show p_in x 0 100 = p_pct x from propext pct_iff]
theorem gm_setCarried {x : Int32} : g_setCarried x = ci (p_in x 0 100) 0 (-1) := by
  unfold g_setCarried
  rw [show p_in x 0 100 = p_pct x from propext pct_iff]
theorem gm_commit {h a : Int32} (o : Ok K r) : g_commit r h a = ci (p_has r h) (ci (p_amt a) (ci (p_bar r 5 h) (-2) (ci (a ≤ fr r h) (ci (r 14 2 = 40) (-3) 0) (-2))) (-1)) (-1) := by
  unfold g_commit
  by_cases p : p_has r h
  · rw [ci_t p, ci_t p, free_fr p]
    have h1 := (o.N).1
    by_cases e : r 14 2 = 40
    · rw [ci_t (P := r 14 2 = 40) e, ci_f (P := r 14 2 < 40) (by rw [e]; decide)]
    · rw [ci_f (P := r 14 2 = 40) e, ci_t (P := r 14 2 < 40) (by rw [i3_lt, t_40]; rw [i3_eq, t_40] at e; omega)]
  · rw [ci_f p, ci_f p]
theorem gm_vire {f t a : Int32} : g_vire r f t a = ci (p_has r f ∧ p_has r t ∧ f ≠ t) (ci (p_amt a) (ci (fr r f < a) (-2) (ci (p_may r f t) (ci (a ≤ p_lv r f) 0 (-2)) (-2))) (-1)) (-1) := by
  unfold g_vire
  by_cases p : p_has r f ∧ p_has r t ∧ f ≠ t
  · rw [ci_t p, ci_t p]
    by_cases q : p_amt a
    · rw [ci_t q, ci_t q]
      by_cases m : p_may r f t
      · rw [ci_t (P := p_may r f t) m, show (a ≤ p_mov r f t) = (a ≤ p_free r f ∧ a ≤ p_lv r f) from propext (amt_mov q m), free_fr p.1]
        by_cases z : fr r f < a
        · rw [ci_t z, ci_f (fun y => Int32.not_le.mpr z y.1)]
        · rw [ci_f z]
          by_cases y : a ≤ p_lv r f
          · rw [ci_t y, ci_t ⟨Int32.not_lt.mp z, y⟩]
          · rw [ci_f y, ci_f (fun w => y w.2)]
      · rw [ci_f (P := p_may r f t) m, ci_f (P := a ≤ p_mov r f t) (amt_mov0 q m)]
        by_cases z : fr r f < a
        · rw [ci_t z]
        · rw [ci_f z]
    · rw [ci_f q, ci_f q]
  · rw [ci_f p, ci_f p]
theorem gm_endYear (o : Ok K r) : g_endYear r = ci (r 14 0 = 99) (-2) 0 := by
  unfold g_endYear
  have h1 := o.N.2.1
  by_cases e : r 14 0 = 99
  · rw [ci_t e, ci_f (by rw [e]; decide)]
  · rw [ci_f e, ci_t (by rw [i3_lt, t_99]; rw [i3_eq, t_99] at e; omega)]
theorem cin_new (o : Ok K r) (e : ¬ r 14 2 = 40) : cin (r 14 2) := by
  have h1 := o.N.1
  refine ⟨h1.1, ?_⟩
  rw [i3_eq, t_40] at e
  omega
theorem hin_new (o : Ok K r) (e : ¬ r 14 1 = 20) : hin (r 14 1) := by
  have h1 := o.S.1
  refine ⟨by omega, ?_⟩
  rw [i3_eq, t_20] at e
  omega
theorem ok_freeze {h x : Int32} (o : Ok K r) (p : p_in x 0 1) : Ok K (b2 r 2 h.toNatClampNeg x) := by
  obtain ⟨o1, o2, o3, o4, o5, o6, o7, o8⟩ := o
  have q : ∀ a b : Nat, a ≠ 2 → b2 r 2 h.toNatClampNeg x a b = r a b := fun a b z => b2_nf _ _ _ _ z
  refine ⟨o1, ?_, ?_, ?_, ?_, ?_, ?_, ?_⟩
  · unfold OkS
    simp only [q _ _ (show (14 : Nat) ≠ 2 by omega), q _ _ (show (0 : Nat) ≠ 2 by omega), q _ _ (show (9 : Nat) ≠ 2 by omega), q _ _ (show (1 : Nat) ≠ 2 by omega)]
    exact o2
  · intro k hk
    by_cases e : k = h.toNatClampNeg
    · rw [e, b2_s]
      unfold p_in at p
      rw [t_0, t_1] at p
      rcases (show x.toInt = 0 ∨ x.toInt = 1 by omega) with z | z
      · exact Or.inl (i3_eq.mpr z)
      · exact Or.inr (i3_eq.mpr z)
    · rw [b2_ni _ _ _ _ e]
      exact o3 k hk
  · unfold OkN
    simp only [q _ _ (show (14 : Nat) ≠ 2 by omega)]
    exact o4
  · intro k hk
    simp only [q _ _ (show (3 : Nat) ≠ 2 by omega), q _ _ (show (4 : Nat) ≠ 2 by omega), q _ _ (show (5 : Nat) ≠ 2 by omega)]
    exact o5 k hk
  · intro k hk
    simp only [q _ _ (show (1 : Nat) ≠ 2 by omega)]
    exact o6 k hk
  · intro k hk
    simp only [q _ _ (show (14 : Nat) ≠ 2 by omega), q _ _ (show (3 : Nat) ≠ 2 by omega), q _ _ (show (4 : Nat) ≠ 2 by omega), q _ _ (show (5 : Nat) ≠ 2 by omega), q _ _ (show (6 : Nat) ≠ 2 by omega), q _ _ (show (7 : Nat) ≠ 2 by omega)]
    exact o7 k hk
  · intro k hk
    simp only [q _ _ (show (14 : Nat) ≠ 2 by omega), q _ _ (show (10 : Nat) ≠ 2 by omega), q _ _ (show (11 : Nat) ≠ 2 by omega), q _ _ (show (12 : Nat) ≠ 2 by omega)]
    exact o8 k hk
end
-- revoking
noncomputable def R_rkM (Y : St) (z : Nat) : Int32 := ci (Y 13 0 z = 5) (qv (Y 0) 11 (Y 13 1 z)) (Y 13 3 z)
def h_rv (Y : St) (n : Nat) : Prop := ∀ z : Nat, z < n → (Y 13 0 z = 8 → hin (Y 13 1 z) ∧ hin (Y 13 2 z)) ∧ (Y 13 0 z = 5 → cin (Y 13 1 z) ∧ hin (qv (Y 0) 10 (Y 13 1 z)))
end
section
/-! THE DEEDS' BOOKS: the reference's are the class's, and each keeps the books in order -/
theorem part_t {a b : Int32} (h : 0 ≤ a.toInt) (h2 : 0 ≤ b.toInt ∧ b.toInt ≤ 100) : 0 ≤ (p_part a b).toInt ∧ (p_part a b).toInt ≤ a.toInt := by
  unfold p_part
  have ha : a.toInt < 2147483648 := Int32.toInt_lt a
  have h3 : a.toInt * b.toInt ≤ a.toInt * 100 := Int.mul_le_mul_of_nonneg_left h2.2 h
  have h4 : 0 ≤ a.toInt * b.toInt := Int.mul_nonneg h h2.1
  have e1 : (a.toInt64 * b.toInt64).toInt = a.toInt * b.toInt := by
    rw [Int64.toInt_mul, Int32.toInt_toInt64, Int32.toInt_toInt64]
    exact Int.bmod_eq_of_le (by omega) (by omega)
  have e2 : (a.toInt64 * b.toInt64 / 100).toInt = a.toInt * b.toInt / 100 := by
    rw [Int64.toInt_div, e1, show (100 : Int64).toInt = 100 by decide, Int.tdiv_eq_ediv_of_nonneg h4]
    exact Int.bmod_eq_of_le (by omega) (by omega)
  rw [Int64.toInt_toInt32, e2, Int.bmod_eq_of_le (by omega) (by omega)]
  omega
theorem ad_t {x y : Int32} (h : -2000000000 ≤ x.toInt + y.toInt ∧ x.toInt + y.toInt ≤ 2000000000) : (x + y).toInt = x.toInt + y.toInt := by
  rw [Int32.toInt_add]
  exact Int.bmod_eq_of_le (by omega) (by omega)
theorem su_t {x y : Int32} (h : -2000000000 ≤ x.toInt - y.toInt ∧ x.toInt - y.toInt ≤ 2000000000) : (x - y).toInt = x.toInt - y.toInt := by
  rw [Int32.toInt_sub]
  exact Int.bmod_eq_of_le (by omega) (by omega)
section
variable {K : Int} {r r' : Bk} {h a q f t k x : Int32}
theorem OkS_c (e : r' 14 1 = r 14 1) (e0 : r' 0 = r 0) (e9 : r' 9 = r 9) (o : OkS r) : OkS r' := by
  unfold OkS at o ⊢
  rw [e, e0, e9]
  exact o
theorem OkF_c (e : r' 2 = r 2) (o : OkF r) : OkF r' := by
  unfold OkF at o ⊢
  rw [e]
  exact o
theorem OkN_c (e2 : r' 14 2 = r 14 2) (e0 : r' 14 0 = r 14 0) (e3 : r' 14 3 = r 14 3) (o : OkN r) : OkN r' := by
  unfold OkN at o ⊢
  rw [e0, e2, e3]
  exact o
theorem OkR_c (e : r' 1 = r 1) (o : OkR r) : OkR r' := by
  unfold OkR at o ⊢
  rw [e]
  exact o
theorem OkC_c (e2 : r' 14 2 = r 14 2) (e1 : r' 14 1 = r 14 1) (e10 : r' 10 = r 10) (e11 : r' 11 = r 11) (e12 : r' 12 = r 12) (o : OkC r) : OkC r' := by
  unfold OkC at o ⊢
  rw [e1, e2, e10, e11, e12]
  exact o
theorem OkU_c (e1 : r' 14 1 = r 14 1) (e3 : ∀ n : Nat, n < 20 → (r 14 1).toInt ≤ n → r' 3 n = r 3 n ∧ r' 4 n = r 4 n ∧ r' 5 n = r 5 n ∧ r' 6 n = r 6 n ∧ r' 7 n = r 7 n) (o : OkU r) : OkU r' := by
  intro n hn hm
  rw [e1] at hm
  have h1 := e3 n hn hm
  rw [h1.1, h1.2.1, h1.2.2.1, h1.2.2.2.1, h1.2.2.2.2]
  exact o n hn hm
theorem OkM_mono {K' : Int} (hK : K ≤ K') (o : OkM K r) : OkM K' r := by
  intro n hn
  have := o n hn
  omega
theorem Ok_mono {K' : Int} (hK : K ≤ K') (hB : K' ≤ 60000000) (o : Ok K r) : Ok K' r := by
  have h0 := o.B
  exact ⟨⟨by omega, hB⟩, o.S, o.F, o.N, OkM_mono hK o.M, o.R, o.U, o.C⟩
-- more heads, more commitments
def le_bk (r r' : Bk) : Prop := (r 14 1).toInt ≤ (r' 14 1).toInt ∧ (r 14 2).toInt ≤ (r' 14 2).toInt
theorem le_has (l : le_bk r r') (p : p_has r h) : p_has r' h := ⟨p.1, by have := p.2.1; have := l.1; omega, p.2.2⟩
theorem le_hasC (l : le_bk r r') (p : p_hasC r h) : p_hasC r' h := ⟨p.1, by have := p.2.1; have := l.2; omega, p.2.2⟩
theorem le_of (e1 : r' 14 1 = r 14 1) (e2 : r' 14 2 = r 14 2) : le_bk r r' := by
  unfold le_bk
  rw [e1, e2]
  omega
/-- one head's numbers changed, the rest kept -/
theorem OkM_1 {K' : Int} {n : Nat} (hK : K ≤ K') (o : OkM K r) (e : ∀ k : Nat, k ≠ n → r' 3 k = r 3 k ∧ r' 4 k = r 4 k ∧ r' 5 k = r 5 k)
  (w : (-K' ≤ (r' 4 n).toInt ∧ (r' 4 n).toInt ≤ K') ∧ (0 ≤ (r' 5 n).toInt ∧ (r' 5 n).toInt ≤ K') ∧ (r' 3 n).toInt ≤ K' ∧ 0 ≤ (r' 3 n).toInt - (r' 4 n).toInt - (r' 5 n).toInt) : OkM K' r' := by
  intro k hk
  by_cases z : k = n
  · rw [z]
    exact w
  · have h1 := e k z
    rw [h1.1, h1.2.1, h1.2.2]
    have := o k hk
    omega
theorem ok_allot (o : Ok K r) (p : p_has r h) (am : p_amt a) (hB : K + 100000 ≤ 60000000) : Ok (K + 100000) (n_allot r h a) ∧ le_bk r (n_allot r h a) := by
  obtain ⟨n, h1, h2, h3, h4, h5⟩ := has_at o p
  have h6 := o.B
  have h7 := o.M n h2
  have h8 := am
  unfold p_amt at h8
  have h9 := md_20 o
  have E : ∀ b c : Nat, b ≠ 3 → b ≠ 6 → n_allot r h a b c = r b c := fun b c y z => by simp [n_allot, b2, y, z]
  have E3 : ∀ c : Nat, c ≠ n → n_allot r h a 3 c = r 3 c := fun c z => by simp [n_allot, b2, h4, z]
  have E6 : ∀ c : Nat, c ≠ n → n_allot r h a 6 c = r 6 c := fun c z => by simp [n_allot, b2, h4, z]
  have En : n_allot r h a 3 n = r 3 n + a := by simp [n_allot, b2, h4, qv]
  refine ⟨⟨⟨by omega, hB⟩, OkS_c (E _ _ (by omega) (by omega)) (funext fun c => E _ _ (by omega) (by omega)) (funext fun c => E _ _ (by omega) (by omega)) o.S, OkF_c (funext fun c => E _ _ (by omega) (by omega)) o.F,
    OkN_c (E _ _ (by omega) (by omega)) (E _ _ (by omega) (by omega)) (E _ _ (by omega) (by omega)) o.N, OkM_1 (n := n) (by omega) o.M (fun k z => ⟨E3 k z, E _ _ (by omega) (by omega), E _ _ (by omega) (by omega)⟩) ?_,
    OkR_c (funext fun c => E _ _ (by omega) (by omega)) o.R, OkU_c (E _ _ (by omega) (by omega)) (fun k hk hm => ⟨E3 k (by omega), E _ _ (by omega) (by omega), E _ _ (by omega) (by omega), E6 k (by omega), E _ _ (by omega) (by omega)⟩) o.U,
    OkC_c (E _ _ (by omega) (by omega)) (E _ _ (by omega) (by omega)) (funext fun c => E _ _ (by omega) (by omega)) (funext fun c => E _ _ (by omega) (by omega)) (funext fun c => E _ _ (by omega) (by omega)) o.C⟩, le_of (E _ _ (by omega) (by omega)) (E _ _ (by omega) (by omega))⟩
  rw [En, E 4 n (by omega) (by omega), E 5 n (by omega) (by omega), ad_t (by omega)]
  omega
theorem ok_share (o : Ok K r) (n : Nat) (x : Int32) : Ok K (b2 r 8 n x) ∧ le_bk r (b2 r 8 n x) := by
  have E : ∀ b c : Nat, b ≠ 8 → b2 r 8 n x b c = r b c := fun b c y => b2_nf _ _ _ _ y
  exact ⟨⟨o.B, OkS_c (E _ _ (by omega)) (funext fun c => E _ _ (by omega)) (funext fun c => E _ _ (by omega)) o.S, OkF_c (funext fun c => E _ _ (by omega)) o.F, OkN_c (E _ _ (by omega)) (E _ _ (by omega)) (E _ _ (by omega)) o.N,
    (fun k hk => by rw [E 3 k (by omega), E 4 k (by omega), E 5 k (by omega)]; exact o.M k hk), OkR_c (funext fun c => E _ _ (by omega)) o.R, OkU_c (E _ _ (by omega)) (fun k hk hm => ⟨E _ _ (by omega), E _ _ (by omega), E _ _ (by omega), E _ _ (by omega), E _ _ (by omega)⟩) o.U,
    OkC_c (E _ _ (by omega)) (E _ _ (by omega)) (funext fun c => E _ _ (by omega)) (funext fun c => E _ _ (by omega)) (funext fun c => E _ _ (by omega)) o.C⟩, le_of (E _ _ (by omega)) (E _ _ (by omega))⟩
theorem ok_frz (o : Ok K r) (p : p_in x 0 1) : Ok K (n_freeze r h x) ∧ le_bk r (n_freeze r h x) :=
  ⟨ok_freeze o p, le_of (b2_nf _ _ _ _ (by omega)) (b2_nf _ _ _ _ (by omega))⟩
/-- a number of the book's own: not the heads', not the commitments' -/
theorem ok_num (o : Ok K r) {i : Nat} {v : Int32} (h1 : i ≠ 1) (h2 : i ≠ 2) (h0 : i = 0 → 0 ≤ v.toInt ∧ v.toInt ≤ 99) (h3 : i = 3 → 0 ≤ v.toInt ∧ v.toInt ≤ 100) : Ok K (b2 r 14 i v) ∧ le_bk r (b2 r 14 i v) := by
  have E : ∀ b c : Nat, b ≠ 14 → b2 r 14 i v b c = r b c := fun b c y => b2_nf _ _ _ _ y
  have e1 : b2 r 14 i v 14 1 = r 14 1 := b2_ni _ _ _ _ (fun z => h1 z.symm)
  have e2 : b2 r 14 i v 14 2 = r 14 2 := b2_ni _ _ _ _ (fun z => h2 z.symm)
  refine ⟨⟨o.B, OkS_c e1 (funext fun c => E _ _ (by omega)) (funext fun c => E _ _ (by omega)) o.S, OkF_c (funext fun c => E _ _ (by omega)) o.F, ?_,
    (fun k hk => by rw [E 3 k (by omega), E 4 k (by omega), E 5 k (by omega)]; exact o.M k hk), OkR_c (funext fun c => E _ _ (by omega)) o.R, OkU_c e1 (fun k hk hm => ⟨E _ _ (by omega), E _ _ (by omega), E _ _ (by omega), E _ _ (by omega), E _ _ (by omega)⟩) o.U,
    OkC_c e2 e1 (funext fun c => E _ _ (by omega)) (funext fun c => E _ _ (by omega)) (funext fun c => E _ _ (by omega)) o.C⟩, le_of e1 e2⟩
  have h4 := o.N
  unfold OkN at h4 ⊢
  rw [e2]
  refine ⟨h4.1, ?_, ?_⟩
  · by_cases z : i = 0
    · rw [z, b2_s]
      exact h0 z
    · rw [b2_ni _ _ _ _ (fun y => z y.symm)]
      exact h4.2.1
  · by_cases z : i = 3
    · rw [z, b2_s]
      exact h3 z
    · rw [b2_ni _ _ _ _ (fun y => z y.symm)]
      exact h4.2.2
theorem ok_mv (o : Ok K r) (p : p_has r f) (p2 : p_has r t) (ne : f ≠ t) (hB : K + 100000 ≤ 60000000) (am : -100000 ≤ a.toInt ∧ a.toInt ≤ 100000) (h1 : a.toInt ≤ (fr r f).toInt) (h2 : -a.toInt ≤ (fr r t).toInt) : Ok (K + 100000) (n_mv r f t a) ∧ le_bk r (n_mv r f t a) := by
  have f1 := fr_t o p
  have f2 := fr_t o p2
  obtain ⟨n, hn1, hn2, hn3, hn4, hn5⟩ := has_at o p
  obtain ⟨m, hm1, hm2, hm3, hm4, hm5⟩ := has_at o p2
  have nm : n ≠ m := fun z => ne (by rw [hn3, hm3, z])
  have h6 := o.B
  have h7 := o.M n hn2
  have h8 := o.M m hm2
  have h9 := md_20 o
  unfold qv at f1 f2
  rw [hn4] at f1
  rw [hm4] at f2
  have E : ∀ b c : Nat, b ≠ 3 → b ≠ 7 → n_mv r f t a b c = r b c := fun b c y z => by simp [n_mv, b2, y, z]
  have E3 : ∀ c : Nat, c ≠ n → c ≠ m → n_mv r f t a 3 c = r 3 c := fun c y z => by simp [n_mv, b2, hn4, hm4, y, z]
  have E7 : ∀ c : Nat, c ≠ n → n_mv r f t a 7 c = r 7 c := fun c y => by simp [n_mv, b2, hn4, hm4, y]
  have En : n_mv r f t a 3 n = r 3 n - a := by simp [n_mv, b2, hn4, hm4, qv, nm]
  have Em : n_mv r f t a 3 m = r 3 m + a := by simp [n_mv, b2, hn4, hm4, qv, nm.symm]
  refine ⟨⟨⟨by omega, hB⟩, OkS_c (E _ _ (by omega) (by omega)) (funext fun c => E _ _ (by omega) (by omega)) (funext fun c => E _ _ (by omega) (by omega)) o.S, OkF_c (funext fun c => E _ _ (by omega) (by omega)) o.F,
    OkN_c (E _ _ (by omega) (by omega)) (E _ _ (by omega) (by omega)) (E _ _ (by omega) (by omega)) o.N, ?_,
    OkR_c (funext fun c => E _ _ (by omega) (by omega)) o.R, OkU_c (E _ _ (by omega) (by omega)) (fun k hk hm => ⟨E3 k (by omega) (by omega), E _ _ (by omega) (by omega), E _ _ (by omega) (by omega), E _ _ (by omega) (by omega), E7 k (by omega)⟩) o.U,
    OkC_c (E _ _ (by omega) (by omega)) (E _ _ (by omega) (by omega)) (funext fun c => E _ _ (by omega) (by omega)) (funext fun c => E _ _ (by omega) (by omega)) (funext fun c => E _ _ (by omega) (by omega)) o.C⟩, le_of (E _ _ (by omega) (by omega)) (E _ _ (by omega) (by omega))⟩
  intro k hk
  rw [E 4 k (by omega) (by omega), E 5 k (by omega) (by omega)]
  by_cases y : k = n
  · rw [y, En, su_t (by omega)]
    omega
  · by_cases z : k = m
    · rw [z, Em, ad_t (by omega)]
      omega
    · rw [E3 k y z]
      have := o.M k hk
      omega
end
end
section
section
variable {K : Int} {r r' : Bk} {h a q f t k x : Int32}
theorem mk_val (o : Ok K r) (c : r 14 1 < 20) : a_add r = r 14 1 := by
  have h1 := o.S.1
  unfold a_add
  rw [ci_f (by rw [i3_lt, t_0]; omega), ci_t c]
theorem mk_add (o : Ok K r) (c : r 14 1 < 20) : n_make r a k = n_add r a k := by
  have h1 := o.S.1
  unfold n_make b_add
  rw [ci_f (by rw [i3_lt, t_0]; omega), ci_t c]
theorem mk_eq (o : Ok K r) (p : p_has r a) (c : r 14 1 < 20) : n_make r a k = b2 (m_make r a k) 9 (r 14 1).toNatClampNeg (qv r 9 a + 1) := by
  rw [mk_add o c]
  have e : p_has (b2 r 0 (r 14 1).toNatClampNeg a) a := p
  have e2 : qv (b2 r 0 (r 14 1).toNatClampNeg a) 9 a = qv r 9 a := b2_nf _ _ _ _ (by omega)
  unfold n_add m_make
  dsimp only
  rw [ci_t e, e2]
  funext b c
  simp only [b2]
  grind
theorem ok_make (o : Ok K r) (p : p_has r a) (pk : p_in k 0 9) (d : ¬ qv r 9 a = 4) (c : ¬ r 14 1 = 20) : Ok K (n_make r a k) ∧ le_bk r (n_make r a k) := by
  have h1 := o.S.1
  have c2 : r 14 1 < 20 := by rw [i3_lt, t_20]; rw [i3_eq, t_20] at c; omega
  rw [mk_eq o p c2]
  have c3 := c2
  rw [i3_lt, t_20] at c3
  have hd := ok_dep o p
  have d4 : (qv r 9 a).toInt < 4 := by rw [i3_eq, t_4] at d; omega
  obtain ⟨j, hj1, hj2, hj3, hj4, hj5⟩ := has_at o p
  have h9 := md_20 o
  obtain ⟨n, en⟩ : ∃ n : Nat, n = md r := ⟨_, rfl⟩
  have en2 : (r 14 1).toNatClampNeg = n := by rw [en]; rfl
  have en3 : (n : Int) = (r 14 1).toInt := by rw [en]; exact h9.2.2
  have z1 : (r 14 1 + 1).toInt = (r 14 1).toInt + 1 := by rw [ad_t (by rw [t_1]; omega), t_1]
  have z2 : (qv r 9 a + 1).toInt = (qv r 9 a).toInt + 1 := by rw [ad_t (by rw [t_1]; omega), t_1]
  obtain ⟨R, eR⟩ : ∃ R : Bk, R = b2 (m_make r a k) 9 (r 14 1).toNatClampNeg (qv r 9 a + 1) := ⟨_, rfl⟩
  rw [← eR]
  have E : ∀ b i : Nat, b ≠ 0 → b ≠ 1 → b ≠ 8 → b ≠ 9 → b ≠ 14 → R b i = r b i := fun b i q1 q2 q3 q4 q5 => by rw [eR]; simp [m_make, b2, q1, q2, q3, q4, q5]
  have E0 : ∀ i : Nat, i ≠ n → R 0 i = r 0 i ∧ R 1 i = r 1 i ∧ R 9 i = r 9 i := fun i z => by rw [eR, en2]; simp [m_make, b2, en2, z]
  have E14 : ∀ i : Nat, i ≠ 1 → R 14 i = r 14 i := fun i z => by rw [eR]; simp [m_make, b2, z]
  have En : R 0 n = a ∧ R 1 n = k ∧ R 9 n = qv r 9 a + 1 := by rw [eR, en2]; simp [m_make, b2, en2]
  have E1 : R 14 1 = r 14 1 + 1 := by rw [eR]; simp [m_make, b2]
  have pk2 := pk
  unfold p_in at pk2
  rw [t_0, t_9] at pk2
  refine ⟨⟨o.B, ?_, OkF_c (funext fun c => E _ _ (by omega) (by omega) (by omega) (by omega) (by omega)) o.F, OkN_c (E14 _ (by omega)) (E14 _ (by omega)) (E14 _ (by omega)) o.N, ?_, ?_, ?_, ?_⟩, ?_⟩
  · unfold OkS
    rw [E1, z1]
    have s := o.S
    unfold OkS at s
    refine ⟨by omega, ?_, ?_, ?_, ?_⟩
    · rw [(E0 0 (by omega)).1]
      exact s.2.1
    · rw [(E0 0 (by omega)).2.2]
      exact s.2.2.1
    · intro i hi1 hi2
      by_cases z : i = n
      · rw [z, En.1, En.2.2, hj4, (E0 j (by omega)).2.2, z2]
        refine ⟨by omega, by omega, ?_⟩
        unfold qv
        rw [hj4]
      · have s4 := s.2.2.2.1 i hi1 (by omega)
        rw [(E0 i z).1, (E0 i z).2.2, (E0 _ (show (r 0 i).toNatClampNeg ≠ n by rw [ix_t]; omega)).2.2]
        exact s4
    · intro i hi
      by_cases z : i = n
      · rw [z, En.2.2, z2]
        omega
      · rw [(E0 i z).2.2]
        exact s.2.2.2.2 i (by omega)
  · intro i hi
    rw [E 3 i (by omega) (by omega) (by omega) (by omega) (by omega), E 4 i (by omega) (by omega) (by omega) (by omega) (by omega), E 5 i (by omega) (by omega) (by omega) (by omega) (by omega)]
    exact o.M i hi
  · intro i hi
    by_cases z : i = n
    · rw [z, En.2.1]
      omega
    · rw [(E0 i z).2.1]
      exact o.R i hi
  · intro i hi hm
    rw [E1, z1] at hm
    rw [E 3 i (by omega) (by omega) (by omega) (by omega) (by omega), E 4 i (by omega) (by omega) (by omega) (by omega) (by omega), E 5 i (by omega) (by omega) (by omega) (by omega) (by omega), E 6 i (by omega) (by omega) (by omega) (by omega) (by omega), E 7 i (by omega) (by omega) (by omega) (by omega) (by omega)]
    exact o.U i hi (by omega)
  · intro i hi
    rw [E1, z1, E14 2 (by omega), E 10 i (by omega) (by omega) (by omega) (by omega) (by omega), E 11 i (by omega) (by omega) (by omega) (by omega) (by omega), E 12 i (by omega) (by omega) (by omega) (by omega) (by omega)]
    have := o.C i hi
    refine ⟨fun z => ?_, this.2⟩
    have := this.1 z
    omega
  · unfold le_bk
    rw [E1, z1, E14 2 (by omega)]
    omega
-- commit
theorem cmt_eq (o : Ok K r) (p : p_has r h) (c : ¬ r 14 2 = 40) : n_commit r h a = m_commit r h a ∧ a_addC (b_cc r h a) = r 14 2 := by
  have h1 := o.N.1
  have c2 : r 14 2 < 40 := by rw [i3_lt, t_40]; rw [i3_eq, t_40] at c; omega
  have c3 : ¬ r 14 2 < 0 := by rw [i3_lt, t_0]; omega
  have h2 := (o.C (r 14 2).toNatClampNeg (by rw [ix_t]; rw [i3_lt, t_40] at c2; omega)).2 (by rw [ix_t]; omega)
  unfold n_commit a_addC b_addC b_cc
  rw [ci_t p]
  have e : b2 r 4 h.toNatClampNeg (qv r 4 h + a) 14 2 = r 14 2 := b2_nf _ _ _ _ (by omega)
  rw [e, ci_f c3, ci_t c2, ci_f c3, ci_t c2]
  refine ⟨?_, rfl⟩
  unfold n_addC m_commit
  funext b i
  simp only [b2, qv]
  grind
theorem ok_commit (o : Ok K r) (p : p_has r h) (am : p_amt a) (le : a ≤ fr r h) (c : ¬ r 14 2 = 40) (hB : K + 100000 ≤ 60000000) : Ok (K + 100000) (m_commit r h a) ∧ le_bk r (m_commit r h a) ∧ p_hasC (m_commit r h a) (r 14 2) := by
  have h1 := o.N.1
  have c2 : (r 14 2).toInt < 40 := by rw [i3_eq, t_40] at c; omega
  have f1 := fr_t o p
  obtain ⟨n, hn1, hn2, hn3, hn4, hn5⟩ := has_at o p
  have h6 := o.B
  have h7 := o.M n hn2
  have h9 := md_20 o
  have h8 := am
  unfold p_amt at h8
  rw [i3_le] at le
  unfold qv at f1
  rw [hn4] at f1
  obtain ⟨i, ei⟩ : ∃ i : Nat, i = (r 14 2).toNatClampNeg := ⟨_, rfl⟩
  have ei2 : (i : Int) = (r 14 2).toInt := by rw [ei, ix_t]; omega
  have z1 : (r 14 2 + 1).toInt = (r 14 2).toInt + 1 := by rw [ad_t (by rw [t_1]; omega), t_1]
  obtain ⟨R, eR⟩ : ∃ R : Bk, R = m_commit r h a := ⟨_, rfl⟩
  rw [← eR]
  have E : ∀ b j : Nat, b ≠ 4 → b ≠ 10 → b ≠ 11 → b ≠ 12 → b ≠ 13 → b ≠ 14 → R b j = r b j := fun b j q1 q2 q3 q4 q5 q6 => by rw [eR]; simp [m_commit, b2, q1, q2, q3, q4, q5, q6]
  have E4 : ∀ j : Nat, j ≠ n → R 4 j = r 4 j := fun j z => by rw [eR]; simp [m_commit, b2, hn4, z]
  have En : R 4 n = r 4 n + a := by rw [eR]; simp [m_commit, b2, hn4, qv]
  have E10 : ∀ j : Nat, j ≠ i → R 10 j = r 10 j ∧ R 11 j = r 11 j ∧ R 12 j = r 12 j := fun j z => by rw [eR]; simp [m_commit, b2, ← ei, z]
  have Ei : R 10 i = h ∧ R 11 i = a := by rw [eR]; simp [m_commit, b2, ← ei]
  have E14 : ∀ j : Nat, j ≠ 2 → R 14 j = r 14 j := fun j z => by rw [eR]; simp [m_commit, b2, z]
  have E2 : R 14 2 = r 14 2 + 1 := by rw [eR]; simp [m_commit, b2]
  refine ⟨⟨⟨by omega, hB⟩, OkS_c (E14 _ (by omega)) (funext fun c => E _ _ (by omega) (by omega) (by omega) (by omega) (by omega) (by omega)) (funext fun c => E _ _ (by omega) (by omega) (by omega) (by omega) (by omega) (by omega)) o.S, OkF_c (funext fun c => E _ _ (by omega) (by omega) (by omega) (by omega) (by omega) (by omega)) o.F, ?_, OkM_1 (n := n) (by omega) o.M (fun k z => ⟨E _ _ (by omega) (by omega) (by omega) (by omega) (by omega) (by omega), E4 k z, E _ _ (by omega) (by omega) (by omega) (by omega) (by omega) (by omega)⟩) ?_,
    OkR_c (funext fun c => E _ _ (by omega) (by omega) (by omega) (by omega) (by omega) (by omega)) o.R, OkU_c (E14 _ (by omega)) (fun k hk hm => ⟨E _ _ (by omega) (by omega) (by omega) (by omega) (by omega) (by omega), E4 k (by omega), E _ _ (by omega) (by omega) (by omega) (by omega) (by omega) (by omega), E _ _ (by omega) (by omega) (by omega) (by omega) (by omega) (by omega), E _ _ (by omega) (by omega) (by omega) (by omega) (by omega) (by omega)⟩) o.U, ?_⟩, ?_, ?_⟩
  · unfold OkN
    rw [E2, z1, E14 0 (by omega), E14 3 (by omega)]
    have := o.N
    unfold OkN at this
    omega
  · rw [En, E 3 n (by omega) (by omega) (by omega) (by omega) (by omega) (by omega), E 5 n (by omega) (by omega) (by omega) (by omega) (by omega) (by omega), ad_t (by omega)]
    omega
  · intro j hj
    rw [E2, z1, E14 1 (by omega)]
    by_cases z : j = i
    · rw [z, Ei.1, Ei.2]
      refine ⟨fun _ => ⟨by omega, by omega⟩, fun y => ?_⟩
      omega
    · rw [(E10 j z).1, (E10 j z).2.1, (E10 j z).2.2]
      have := o.C j hj
      exact ⟨fun y => this.1 (by omega), fun y => this.2 (by omega)⟩
  · unfold le_bk
    rw [E2, z1, E14 1 (by omega)]
    omega
  · unfold p_hasC
    rw [E2, z1]
    omega
-- pay
theorem py_eq (o : Ok K r) (p : p_hasC r q) : n_pay r q a = m_pay r q a := by
  have e := hasC_head o p
  unfold n_pay m_pay b_sc
  dsimp only
  have e2 : p_has (b2 (b2 r 11 q.toNatClampNeg (qv r 11 q - a)) 12 q.toNatClampNeg (qv (b2 r 11 q.toNatClampNeg (qv r 11 q - a)) 12 q + a)) (qv (b2 (b2 r 11 q.toNatClampNeg (qv r 11 q - a)) 12 q.toNatClampNeg (qv (b2 r 11 q.toNatClampNeg (qv r 11 q - a)) 12 q + a)) 10 q) := e
  rw [ci_t e2]
  rfl
theorem opn_t (o : Ok K r) (p : p_hasC r q) : 0 ≤ (qv r 11 q).toInt ∧ (qv r 11 q).toInt ≤ 100000 := by
  obtain ⟨n, h1, h2, h3, h4, h5⟩ := hasC_at o p
  have h9 := mc_40 o
  have := (o.C n h2).1 (by omega)
  unfold qv
  rw [h4]
  exact this.2
/-- what a head has committed and spent, and what a commitment has open, changed -/
theorem ok_hc {R : Bk} {n i : Nat} {K' : Int} (hK : K ≤ K') (hB : K' ≤ 60000000) (o : Ok K r) (hn : n < md r) (hi : i < mc r)
  (E : ∀ b j : Nat, b ≠ 4 → b ≠ 5 → b ≠ 11 → b ≠ 12 → b ≠ 14 → R b j = r b j) (E4 : ∀ j : Nat, j ≠ n → R 4 j = r 4 j ∧ R 5 j = r 5 j) (E11 : ∀ j : Nat, j ≠ i → R 11 j = r 11 j ∧ R 12 j = r 12 j) (E14 : ∀ j : Nat, j ≠ 5 → R 14 j = r 14 j)
  (w : (-K' ≤ (R 4 n).toInt ∧ (R 4 n).toInt ≤ K') ∧ (0 ≤ (R 5 n).toInt ∧ (R 5 n).toInt ≤ K') ∧ (r 3 n).toInt ≤ K' ∧ 0 ≤ (r 3 n).toInt - (R 4 n).toInt - (R 5 n).toInt) (w2 : 0 ≤ (R 11 i).toInt ∧ (R 11 i).toInt ≤ 100000) : Ok K' R ∧ le_bk r R := by
  have h6 := o.B
  have h9 := md_20 o
  have h10 := mc_40 o
  have F : ∀ b : Nat, b ≠ 4 → b ≠ 5 → b ≠ 11 → b ≠ 12 → b ≠ 14 → R b = r b := fun b q1 q2 q3 q4 q5 => funext fun c => E b c q1 q2 q3 q4 q5
  refine ⟨⟨⟨by omega, hB⟩, OkS_c (E14 _ (by omega)) (F _ (by omega) (by omega) (by omega) (by omega) (by omega)) (F _ (by omega) (by omega) (by omega) (by omega) (by omega)) o.S, OkF_c (F _ (by omega) (by omega) (by omega) (by omega) (by omega)) o.F, OkN_c (E14 _ (by omega)) (E14 _ (by omega)) (E14 _ (by omega)) o.N,
    OkM_1 (n := n) (by omega) o.M (fun k z => ⟨E _ _ (by omega) (by omega) (by omega) (by omega) (by omega), (E4 k z).1, (E4 k z).2⟩) (by rw [E 3 n (by omega) (by omega) (by omega) (by omega) (by omega)]; exact w),
    OkR_c (F _ (by omega) (by omega) (by omega) (by omega) (by omega)) o.R, OkU_c (E14 _ (by omega)) (fun k hk hm => ⟨E _ _ (by omega) (by omega) (by omega) (by omega) (by omega), (E4 k (by omega)).1, (E4 k (by omega)).2, E _ _ (by omega) (by omega) (by omega) (by omega) (by omega), E _ _ (by omega) (by omega) (by omega) (by omega) (by omega)⟩) o.U, ?_⟩, le_of (E14 _ (by omega)) (E14 _ (by omega))⟩
  intro j hj
  rw [E14 2 (by omega), E14 1 (by omega), E 10 j (by omega) (by omega) (by omega) (by omega) (by omega)]
  have := o.C j hj
  by_cases z : j = i
  · rw [z] at this ⊢
    refine ⟨fun y => ⟨(this.1 y).1, w2⟩, fun y => ?_⟩
    omega
  · rw [(E11 j z).1, (E11 j z).2]
    exact this
theorem ok_pay (o : Ok K r) (p : p_hasC r q) (am : p_amt a) (le : a ≤ qv r 11 q) (hB : K + 100000 ≤ 60000000) : Ok (K + 100000) (m_pay r q a) ∧ le_bk r (m_pay r q a) := by
  have e := hasC_head o p
  have h1 := opn_t o p
  obtain ⟨n, hn1, hn2, hn3, hn4, hn5⟩ := has_at o e
  obtain ⟨i, hi1, hi2, hi3, hi4, hi5⟩ := hasC_at o p
  have h6 := o.B
  have h7 := o.M n hn2
  have h8 := am
  unfold p_amt at h8
  rw [i3_le] at le
  have q10 : (r 10 i).toNatClampNeg = n := by unfold qv at hn4; rw [hi4] at hn4; exact hn4
  unfold qv at h1 le
  rw [hi4] at h1 le
  have Rn : m_pay r q a 4 n = r 4 n - a ∧ m_pay r q a 5 n = r 5 n + a := by simp [m_pay, b2, hi4, q10, qv]
  have Ri : m_pay r q a 11 i = r 11 i - a := by simp [m_pay, b2, hi4, qv]
  refine ok_hc (n := n) (i := i) (by omega) hB o hn1 hi1 (fun b j q1 q2 q3 q4 q5 => by simp [m_pay, b2, q1, q2, q3, q4, q5]) (fun j z => by simp [m_pay, b2, hi4, q10, qv, z]) (fun j z => by simp [m_pay, b2, hi4, z]) (fun j z => by simp [m_pay, b2, z]) ?_ ?_
  · rw [Rn.1, Rn.2, su_t (by omega), ad_t (by omega)]
    omega
  · rw [Ri, su_t (by omega)]
    omega
theorem fre_eq (o : Ok K r) (p : p_hasC r q) : b_free0 r q = m_free0 r q ∧ a_free0 r q = qv r 11 q := by
  have e := hasC_head o p
  unfold b_free0 a_free0
  rw [ci_t p, ci_t p]
  refine ⟨?_, rfl⟩
  have e2 : p_has (b2 r 11 q.toNatClampNeg 0) (qv (b2 r 11 q.toNatClampNeg 0) 10 q) := e
  unfold b_cc m_free0
  rw [ci_t e2]
  have e3 : qv (b2 r 11 q.toNatClampNeg 0) 10 q = qv r 10 q := rfl
  have e4 : qv (b2 r 11 q.toNatClampNeg 0) 4 (qv r 10 q) = qv r 4 (qv r 10 q) := rfl
  rw [e3, e4, ← Int32.sub_eq_add_neg]
  funext b c
  simp only [b2]
  grind
theorem ok_free (o : Ok K r) (p : p_hasC r q) (hB : K + 100000 ≤ 60000000) : Ok (K + 100000) (m_free0 r q) ∧ le_bk r (m_free0 r q) := by
  have e := hasC_head o p
  have h1 := opn_t o p
  obtain ⟨n, hn1, hn2, hn3, hn4, hn5⟩ := has_at o e
  obtain ⟨i, hi1, hi2, hi3, hi4, hi5⟩ := hasC_at o p
  have h6 := o.B
  have h7 := o.M n hn2
  have q10 : (r 10 i).toNatClampNeg = n := by unfold qv at hn4; rw [hi4] at hn4; exact hn4
  unfold qv at h1
  rw [hi4] at h1
  have Rn : m_free0 r q 4 n = r 4 n - r 11 i ∧ m_free0 r q 5 n = r 5 n := by simp [m_free0, b2, hi4, q10, qv]
  have Ri : m_free0 r q 11 i = 0 := by simp [m_free0, b2, hi4]
  refine ok_hc (n := n) (i := i) (by omega) hB o hn1 hi1 (fun b j q1 q2 q3 q4 q5 => by simp [m_free0, b2, q1, q3]) (fun j z => by simp [m_free0, b2, hi4, q10, qv, z]) (fun j z => by simp [m_free0, b2, hi4, z]) (fun j z => by simp [m_free0, b2]) ?_ ?_
  · rw [Rn.1, Rn.2, su_t (by omega)]
    omega
  · rw [Ri, t_0]
    omega
-- virements
theorem vr_eq (p : p_has r f ∧ p_has r t ∧ f ≠ t) : b_mv r f t a = m_vire r f t a := by
  unfold b_mv
  rw [ci_t p]
  unfold n_mv m_vire m_mv
  funext b c
  simp only [b2, qv]
  grind
theorem rv_eq (o : Ok K r) (p : p_has r f ∧ p_has r t ∧ f ≠ t) : b_mv r f t (-a) = m_rv r f t a := by
  unfold b_mv
  rw [ci_t p]
  obtain ⟨n, hn1, hn2, hn3, hn4, hn5⟩ := has_at o p.1
  obtain ⟨m, hm1, hm2, hm3, hm4, hm5⟩ := has_at o p.2.1
  have nm : n ≠ m := fun z => p.2.2 (by rw [hn3, hm3, z])
  unfold n_mv m_rv m_mv
  funext b c
  simp only [b2, qv, hn4, hm4]
  grind
end
end
section
section
variable {K : Int} {r r' : Bk} {h a q f t k x : Int32}
/-- the end of a year for the heads below n -/
def eyR (r : Bk) (n : Nat) : Bk := fun b c => if c < n ∧ b = 3 then r 4 c + p_part (fr r (nI c)) (r 14 3) else if c < n ∧ b = 6 then p_part (fr r (nI c)) (r 14 3) else if c < n ∧ (b = 5 ∨ b = 7) then 0 else r b c
theorem eyR_n (r : Bk) {n b c : Nat} (h : n ≤ c) : eyR r n b c = r b c := by
  unfold eyR
  rw [if_neg (by omega), if_neg (by omega), if_neg (by omega)]
theorem eyR_o (r : Bk) {n b c : Nat} (h3 : b ≠ 3) (h5 : b ≠ 5) (h6 : b ≠ 6) (h7 : b ≠ 7) : eyR r n b c = r b c := by
  unfold eyR
  rw [if_neg (by omega), if_neg (by omega), if_neg (by omega)]
theorem eyR_fr (r : Bk) {n k : Nat} (h : n ≤ k) (hk : k < 20) : fr (eyR r n) (nI k) = fr r (nI k) := by
  unfold fr qv
  rw [nI_c (by omega), eyR_n r h, eyR_n r h, eyR_n r h]
theorem eyR_q (r : Bk) {n : Nat} : eyR r n 14 3 = r 14 3 := eyR_o r (by omega) (by omega) (by omega) (by omega)
theorem eyR_0 (r : Bk) : eyR r 0 = r := by
  funext b c
  exact eyR_n r (Nat.zero_le c)
theorem eyR_s1 (r : Bk) {n : Nat} (hn : n < 20) : m_ey1 (eyR r n) (nI n) = eyR r (n + 1) := by
  unfold m_ey1 lp
  rw [eyR_fr r (Nat.le_refl n) hn, eyR_q r]
  have e : fr r (nI n) = r 3 n - r 4 n - r 5 n := by unfold fr qv; rw [nI_c (by omega)]
  funext b c
  simp only [b2, qv, nI_c (show n ≤ 40 by omega), eyR]
  by_cases z : c = n
  · subst z
    by_cases b3 : b = 3
    · subst b3
      simp
      rw [e]
      grind
    · by_cases b5 : b = 5
      · subst b5
        simp
      · by_cases b6 : b = 6
        · subst b6
          simp
          grind
        · by_cases b7 : b = 7
          · subst b7
            simp
          · simp [b3, b5, b6, b7]
  · have z2 : (c < n + 1) = (c < n) := by rw [eq_iff_iff]; omega
    simp [z, z2]
theorem eyR_s2 (o : Ok K r) {n : Nat} (hn : n < md r) : cf1 (eyR r n) (r 14 3) (nI n) = eyR r (n + 1) := by
  have h9 := md_20 o
  unfold cf1
  have p : p_has (eyR r n) (nI n) := by
    unfold p_has
    rw [eyR_o r (by omega) (by omega) (by omega) (by omega)]
    exact has_nI o hn
  rw [free_fr p, eyR_fr r (Nat.le_refl n) (by omega)]
  funext b c
  simp only [b2, qv, nI_c (show n ≤ 40 by omega), eyR]
  by_cases z : c = n
  · subst z
    by_cases b3 : b = 3
    · subst b3
      simp
    · by_cases b5 : b = 5
      · subst b5
        simp
      · by_cases b6 : b = 6
        · subst b6
          simp
        · by_cases b7 : b = 7
          · subst b7
            simp
          · simp [b3, b5, b6, b7]
  · have z2 : (c < n + 1) = (c < n) := by rw [eq_iff_iff]; omega
    simp [z, z2]
theorem part_0 (q : Int32) : p_part 0 q = 0 := by
  unfold p_part
  simp
theorem eyR_s3 (o : Ok K r) {n : Nat} (hn : md r ≤ n) (h20 : n < 20) : cf1 (eyR r (md r)) (r 14 3) (nI n) = eyR r (md r) := by
  have h9 := md_20 o
  have u := o.U n h20 (by omega)
  have p : ¬ p_has (eyR r (md r)) (nI n) := by
    unfold p_has
    rw [eyR_o r (by omega) (by omega) (by omega) (by omega)]
    exact has_no o hn (by omega)
  unfold cf1 p_free
  rw [ci_f p, part_0]
  funext b c
  simp only [b2, qv, nI_c (show n ≤ 40 by omega)]
  by_cases z : c = n
  · subst z
    simp only [eyR_n r hn]
    by_cases b3 : b = 3
    · subst b3
      simp [u.1, u.2.1]
    · by_cases b5 : b = 5
      · subst b5
        simp [u.2.2.1]
      · by_cases b6 : b = 6
        · subst b6
          simp [u.2.2.2.1]
        · by_cases b7 : b = 7
          · subst b7
            simp [u.2.2.2.2]
          · simp [b3, b5, b6, b7]
  · simp [z]
theorem ey_m (r : Bk) : ∀ n : Nat, n ≤ 20 → m_ey r n = eyR r n := by
  intro n
  induction n with
  | zero => exact fun _ => (eyR_0 r).symm
  | succ n ih =>
    intro hn
    show m_ey1 (m_ey r n) (nI n) = _
    rw [ih (by omega)]
    exact eyR_s1 r (by omega)
theorem ey_c1 (o : Ok K r) : ∀ n : Nat, n ≤ md r → b_cf r (r 14 3) n = eyR r n := by
  intro n
  induction n with
  | zero => exact fun _ => (eyR_0 r).symm
  | succ n ih =>
    intro hn
    show cf1 (b_cf r (r 14 3) n) (r 14 3) (nI n) = _
    rw [ih (by omega)]
    exact eyR_s2 o (by omega)
theorem ey_c2 (o : Ok K r) : ∀ d : Nat, md r + d ≤ 20 → b_cf r (r 14 3) (md r + d) = eyR r (md r) := by
  intro d
  induction d with
  | zero => exact fun _ => ey_c1 o _ (Nat.le_refl _)
  | succ d ih =>
    intro hd
    show cf1 (b_cf r (r 14 3) (md r + d)) (r 14 3) (nI (md r + d)) = _
    rw [ih (by omega)]
    exact eyR_s3 o (by omega) (by omega)
theorem root_wit (o : Ok K r) : ∀ n : Nat, n < md r → p_wit r 5 (nI n) 0 := by
  have h6 := md_20 o
  intro n hn
  rw [wit_mb o (has_nI o hn)]
  induction n using Nat.strongRecOn with
  | _ n ih =>
    by_cases e : n = 0
    · exact Or.inl (by rw [e]; rfl)
    · refine Or.inr ?_
      have h7 := o.S.2.2.2.1 n (by omega) (by omega)
      have e1 : qv r 0 (nI n) = nI (r 0 n).toInt.toNat := by
        unfold qv
        rw [nI_c (by omega), i3_eq, nI_toInt (by omega)]
        omega
      unfold mb
      rw [e1, wit_mb o (has_nI o (by omega))]
      exact ih _ (by omega) (by omega)
theorem ey_sum (o : Ok K r) : p_lapse r 0 (r 14 3) 20 = m_eyS r (md r) := by
  have h9 := md_20 o
  unfold p_lapse m_eyS
  rw [sumI_cut h9.2.1 (fun k h1 h2 => ci_f (fun z => has_no o h1 (by omega) (wit_has z)))]
  refine sumI_congr (fun k hk => ?_)
  rw [ci_t (root_wit o k hk), free_fr (has_nI o hk), ey_m r k (by omega)]
  unfold lp
  rw [eyR_fr r (Nat.le_refl k) (by omega), eyR_q r]
theorem ey_eq (o : Ok K r) : n_endYear r = m_endYear r := by
  have h9 := md_20 o
  have e := ey_c2 o (20 - md r) (by omega)
  rw [show md r + (20 - md r) = 20 by omega] at e
  unfold n_endYear m_endYear
  rw [ey_sum o, e, ey_m r _ h9.2.1]
theorem ok_eyR (o : Ok K r) : Ok K (eyR r (md r)) ∧ le_bk r (eyR r (md r)) := by
  have h9 := md_20 o
  have h6 := o.B
  have F : ∀ b : Nat, b ≠ 3 → b ≠ 5 → b ≠ 6 → b ≠ 7 → eyR r (md r) b = r b := fun b q1 q2 q3 q4 => funext fun c => eyR_o r q1 q2 q3 q4
  have e14 := F 14 (by omega) (by omega) (by omega) (by omega)
  refine ⟨⟨o.B, OkS_c (by rw [e14]) (F _ (by omega) (by omega) (by omega) (by omega)) (F _ (by omega) (by omega) (by omega) (by omega)) o.S, OkF_c (F _ (by omega) (by omega) (by omega) (by omega)) o.F, OkN_c (by rw [e14]) (by rw [e14]) (by rw [e14]) o.N, ?_,
    OkR_c (F _ (by omega) (by omega) (by omega) (by omega)) o.R, OkU_c (by rw [e14]) (fun k hk hm => ⟨eyR_n r (by omega), eyR_n r (by omega), eyR_n r (by omega), eyR_n r (by omega), eyR_n r (by omega)⟩) o.U,
    OkC_c (by rw [e14]) (by rw [e14]) (F _ (by omega) (by omega) (by omega) (by omega)) (F _ (by omega) (by omega) (by omega) (by omega)) (F _ (by omega) (by omega) (by omega) (by omega)) o.C⟩, le_of (by rw [e14]) (by rw [e14])⟩
  intro j hj
  have h7 := o.M j hj
  by_cases z : j < md r
  · have p := has_nI o z
    have f1 := fr_t o p
    have pt := part_t f1.2.1 o.N.2.2
    unfold qv at f1
    rw [nI_c (by omega)] at f1
    have e3 : eyR r (md r) 3 j = r 4 j + p_part (fr r (nI j)) (r 14 3) := by unfold eyR; rw [if_pos ⟨z, rfl⟩]
    have e5 : eyR r (md r) 5 j = 0 := by unfold eyR; rw [if_neg (by omega), if_neg (by omega), if_pos ⟨z, Or.inl rfl⟩]
    rw [e3, e5, F 4 (by omega) (by omega) (by omega) (by omega), ad_t (by omega), t_0]
    omega
  · rw [eyR_n r (by omega), eyR_n r (by omega), eyR_n r (by omega)]
    exact h7
theorem ok_endYear (o : Ok K r) (c : ¬ r 14 0 = 99) : Ok K (m_endYear r) ∧ le_bk r (m_endYear r) := by
  have h9 := md_20 o
  have a1 := ok_eyR o
  have hN := o.N.2.1
  unfold m_endYear
  rw [ey_m r _ h9.2.1]
  have a2 := ok_num a1.1 (i := 4) (v := eyR r (md r) 14 4 + m_eyS r (md r)) (by omega) (by omega) (fun z => by omega) (fun z => by omega)
  have e0 : b2 (eyR r (md r)) 14 4 (eyR r (md r) 14 4 + m_eyS r (md r)) 14 0 = r 14 0 := (b2_ni _ _ _ _ (by omega)).trans (eyR_o r (by omega) (by omega) (by omega) (by omega))
  have a3 := ok_num a2.1 (i := 0) (v := b2 (eyR r (md r)) 14 4 (eyR r (md r) 14 4 + m_eyS r (md r)) 14 0 + 1) (by omega) (by omega) (fun _ => by
    rw [e0, ad_t (by rw [t_1]; omega), t_1]
    rw [i3_eq, t_99] at c
    omega) (fun z => by omega)
  refine ⟨a3.1, ?_⟩
  have l1 := a1.2
  have l2 := a2.2
  have l3 := a3.2
  unfold le_bk at *
  dsimp only
  omega
end
end
section
/-! THE MEMORY, as the class keeps it: n deeds, the i-th with the books before it (B i) and its numbers (F f i) -/
def pB (B : Nat → Bk) (n : Nat) (r : Bk) : Nat → Bk := fun i => if i = n then r else B i
def pF (F : Nat → Nat → Int32) (n : Nat) (v : Nat → Int32) : Nat → Nat → Int32 := fun f i => if i = n then v f else F f i
def pN (N : Nat → Nat) (n L : Nat) : Nat → Nat := fun i => if i = n then L else N i
def vF (k o1 o2 a yr num : Int32) : Nat → Int32 := fun f => if f = 0 then k else if f = 1 then o1 else if f = 2 then o2 else if f = 3 then a else if f = 4 then yr else if f = 5 then 0 else num
section
variable {K : Int} {n L : Nat} {r : Bk} {B : Nat → Bk} {F : Nat → Nat → Int32} {N : Nat → Nat}
theorem pB_n : pB B n r n = r := if_pos rfl
theorem pB_o {i : Nat} (h : i ≠ n) : pB B n r i = B i := if_neg h
theorem pF_n {v : Nat → Int32} {f : Nat} : pF F n v f n = v f := if_pos rfl
theorem pF_o {v : Nat → Int32} {f i : Nat} (h : i ≠ n) : pF F n v f i = F f i := if_neg h
def uF (F : Nat → Nat → Int32) (n : Nat) : Nat → Nat → Int32 := fun f i => if f = 5 ∧ F 0 n = 10 ∧ F 6 i = F 1 n then 0 else F f i
theorem uF_o {f i : Nat} (h : f ≠ 5) : uF F n f i = F f i := if_neg (fun w => h w.1)
end
abbrev LX (n o L : Nat) (X : St) (r : Bk) (B : Nat → Bk) (F : Nat → Nat → Int32) : Prop :=
  (X 0 = r) ∧
  (n ≤ 12) ∧
  (o < 12) ∧
  (X 14 0 0 = nI o) ∧
  (X 14 0 1 = nI n) ∧
  (X 14 0 2 = nI L) ∧
  (∀ i, i < n → X ((o + i) % 12 + 1) = B i) ∧
  (∀ i, i < n → X 13 0 ((o + i) % 12) = F 6 i + 1 ∧ X 13 1 ((o + i) % 12) = F 0 i) ∧
  (∀ i, i < n → F 0 i = 8 → X 13 2 ((o + i) % 12) = F 1 i ∧ X 13 3 ((o + i) % 12) = F 2 i ∧ X 13 4 ((o + i) % 12) = F 3 i) ∧
  (∀ i, i < n → F 0 i = 5 → X 13 2 ((o + i) % 12) = F 1 i) ∧
  (∀ i, i < n → F 0 i = 10 → X 13 2 ((o + i) % 12) = F 1 i + 1)
theorem LX.x0 {n o L : Nat} {X : St} {r : Bk} {B : Nat → Bk} {F : Nat → Nat → Int32} (v : LX n o L X r B F) : X 0 = r := v.1
theorem LX.hn {n o L : Nat} {X : St} {r : Bk} {B : Nat → Bk} {F : Nat → Nat → Int32} (v : LX n o L X r B F) : n ≤ 12 := v.2.1
theorem LX.ho {n o L : Nat} {X : St} {r : Bk} {B : Nat → Bk} {F : Nat → Nat → Int32} (v : LX n o L X r B F) : o < 12 := v.2.2.1
theorem LX.xo {n o L : Nat} {X : St} {r : Bk} {B : Nat → Bk} {F : Nat → Nat → Int32} (v : LX n o L X r B F) : X 14 0 0 = nI o := v.2.2.2.1
theorem LX.xn {n o L : Nat} {X : St} {r : Bk} {B : Nat → Bk} {F : Nat → Nat → Int32} (v : LX n o L X r B F) : X 14 0 1 = nI n := v.2.2.2.2.1
theorem LX.xl {n o L : Nat} {X : St} {r : Bk} {B : Nat → Bk} {F : Nat → Nat → Int32} (v : LX n o L X r B F) : X 14 0 2 = nI L := v.2.2.2.2.2.1
theorem LX.xb {n o L : Nat} {X : St} {r : Bk} {B : Nat → Bk} {F : Nat → Nat → Int32} (v : LX n o L X r B F) : ∀ i, i < n → X ((o + i) % 12 + 1) = B i := v.2.2.2.2.2.2.1
theorem LX.xd {n o L : Nat} {X : St} {r : Bk} {B : Nat → Bk} {F : Nat → Nat → Int32} (v : LX n o L X r B F) : ∀ i, i < n → X 13 0 ((o + i) % 12) = F 6 i + 1 ∧ X 13 1 ((o + i) % 12) = F 0 i := v.2.2.2.2.2.2.2.1
theorem LX.x8 {n o L : Nat} {X : St} {r : Bk} {B : Nat → Bk} {F : Nat → Nat → Int32} (v : LX n o L X r B F) : ∀ i, i < n → F 0 i = 8 → X 13 2 ((o + i) % 12) = F 1 i ∧ X 13 3 ((o + i) % 12) = F 2 i ∧ X 13 4 ((o + i) % 12) = F 3 i := v.2.2.2.2.2.2.2.2.1
theorem LX.x5 {n o L : Nat} {X : St} {r : Bk} {B : Nat → Bk} {F : Nat → Nat → Int32} (v : LX n o L X r B F) : ∀ i, i < n → F 0 i = 5 → X 13 2 ((o + i) % 12) = F 1 i := v.2.2.2.2.2.2.2.2.2.1
theorem LX.x10 {n o L : Nat} {X : St} {r : Bk} {B : Nat → Bk} {F : Nat → Nat → Int32} (v : LX n o L X r B F) : ∀ i, i < n → F 0 i = 10 → X 13 2 ((o + i) % 12) = F 1 i + 1 := v.2.2.2.2.2.2.2.2.2.2
theorem LX.mk1 {n o L : Nat} {X : St} {r : Bk} {B : Nat → Bk} {F : Nat → Nat → Int32} (x00 : X 0 = r) (hn0 : n ≤ 12) (ho0 : o < 12) (xo0 : X 14 0 0 = nI o) (xn0 : X 14 0 1 = nI n) (xl0 : X 14 0 2 = nI L) (xb0 : ∀ i, i < n → X ((o + i) % 12 + 1) = B i) (xd0 : ∀ i, i < n → X 13 0 ((o + i) % 12) = F 6 i + 1 ∧ X 13 1 ((o + i) % 12) = F 0 i) (x80 : ∀ i, i < n → F 0 i = 8 → X 13 2 ((o + i) % 12) = F 1 i ∧ X 13 3 ((o + i) % 12) = F 2 i ∧ X 13 4 ((o + i) % 12) = F 3 i) (x50 : ∀ i, i < n → F 0 i = 5 → X 13 2 ((o + i) % 12) = F 1 i) (x100 : ∀ i, i < n → F 0 i = 10 → X 13 2 ((o + i) % 12) = F 1 i + 1) : LX n o L X r B F := ⟨x00, hn0, ho0, xo0, xn0, xl0, xb0, xd0, x80, x50, x100⟩
section
variable {n o L : Nat} {X Y : St} {r r' : Bk} {B : Nat → Bk} {F : Nat → Nat → Int32} {k o1 o2 a s u b : Int32}
-- the class
theorem LX.slot (v : LX n o L X r B F) {i : Nat} (h : i < n) : p_slot X (nI i) = nI ((o + (n - 1 - i)) % 12) := by
  have := v.hn
  have := v.ho
  unfold p_slot
  rw [v.xo, v.xn, show nI o + nI n - 1 - nI i = nI (o + (n - 1 - i)) from ?_, fm12n (by omega)]
  rw [nI_add, i3_eq, nI_toInt (by omega), su_t ?_, su_t ?_, nI_toInt (by omega), nI_toInt (by omega), t_1]
  · omega
  · rw [nI_toInt (by omega), t_1]
    omega
  · rw [su_t ?_, nI_toInt (by omega), nI_toInt (by omega), t_1]
    · omega
    · rw [nI_toInt (by omega), t_1]
      omega
theorem LX.recl (v : LX n o L X r B F) {i : Nat} (h : i < n) : ¬ p_norec X (nI i) := by
  have := v.hn
  unfold p_norec
  rw [v.xn, i3_lt, i3_lt, t_0, nI_toInt (by omega), nI_toInt (by omega)]
  omega
theorem LX.norec (v : LX n o L X r B F) {i : Int32} (h0 : 0 ≤ i) : p_norec X i ↔ nI n ≤ i := by
  have := v.hn
  unfold p_norec
  rw [v.xn]
  rw [i3_le, t_0] at h0
  rw [i3_lt, i3_lt, i3_le, t_0, nI_toInt (by omega)]
  omega
/-- the oldest deed forgotten, before the new one is held -/
def X_drop (X : St) (o : Nat) : St := u3 (u3 X 14 0 0 (nI ((o + 1) % 12))) 14 0 1 (nI 11)
theorem LX.drop (v : LX 12 o L X r B F) : LX 11 ((o + 1) % 12) L (X_drop X o) r (fun i => B (i + 1)) (fun f i => F f (i + 1)) := by
  have ho := v.ho
  have e : ∀ g : Nat, g ≠ 14 → X_drop X o g = X g := fun g h => by
    unfold X_drop
    rw [u3_n _ _ _ _ _ h, u3_n _ _ _ _ _ h]
  have m : ∀ i : Nat, ((o + 1) % 12 + i) % 12 = (o + (i + 1)) % 12 := fun i => by omega
  refine ⟨by rw [e _ (by omega)]; exact v.x0, by omega, by omega, ?_, ?_, ?_, fun i h => ?_, fun i h => ?_, fun i h => ?_, fun i h => ?_, fun i h => ?_⟩
  · unfold X_drop
    rw [u3_g, b2_ni _ _ _ _ (by omega), u3_g, b2_s]
  · unfold X_drop
    rw [u3_g, b2_s]
  · unfold X_drop
    rw [u3_g, b2_ni _ _ _ _ (by omega), u3_g, b2_ni _ _ _ _ (by omega)]
    exact v.xl
  · rw [m, e _ (by omega)]
    exact v.xb (i + 1) (by omega)
  · rw [m, e _ (by omega)]
    exact v.xd (i + 1) (by omega)
  · rw [m, e _ (by omega)]
    exact v.x8 (i + 1) (by omega)
  · rw [m, e _ (by omega)]
    exact v.x5 (i + 1) (by omega)
  · rw [m, e _ (by omega)]
    exact v.x10 (i + 1) (by omega)
theorem LX.remD (v : LX 12 o L X r B F) : N_rem X k s u b = N_rem (X_drop X o) k s u b := by
  have ho := v.ho
  have d := v.drop
  have e : m_held X = m_held (X_drop X o) := by
    unfold m_held
    rw [ci_t (by rw [v.xn]; decide), ci_f (by rw [d.xn]; decide), v.xo, nI_1, fm12n (by omega), d.xn]
    unfold X_drop
    funext g f i
    have h12 : X 14 0 1 = nI 11 + 1 := by rw [v.xn]; rfl
    by_cases g14 : g = 14
    · subst g14
      by_cases f0 : f = 0
      · subst f0
        by_cases i0 : i = 0
        · subst i0
          simp [u3, b2]
        · by_cases i1 : i = 1
          · subst i1
            simp [u3, b2, h12]
          · simp [u3, b2, i0, i1]
      · simp [u3, b2, f0]
    · simp [u3, g14]
  unfold N_rem m_num
  rw [e]
theorem LX.push (v : LX n o L X r B F) (hn : n < 12) (yr : Int32) (c8 : k = 8 → s = o1 ∧ u = o2 ∧ b = a) (c5 : k = 5 → s = o1) (c10 : k = 10 → s = o1 + 1) :
  LX (n + 1) o (L + 1) (sg (N_rem X k s u b) 0 r') r' (pB B n r) (pF F n (vF k o1 o2 a yr (nI L))) := by
  have ho := v.ho
  obtain ⟨M, eM⟩ : ∃ M : St, M = m_num X := ⟨_, rfl⟩
  have hM : M = u3 (u3 X 14 0 1 (nI (n + 1))) 14 0 2 (nI (L + 1)) := by
    rw [eM]
    unfold m_num m_held
    rw [ci_f (by rw [v.xn, i3_le, t_12, nI_toInt (by omega)]; omega), v.xn, nI_1]
    rw [u3_g X, b2_ni _ _ _ _ (by omega), v.xl, nI_1]
  have M0 : M 14 0 0 = nI o := by rw [hM, u3_g, b2_ni _ _ _ _ (by omega), u3_g, b2_ni _ _ _ _ (by omega)]; exact v.xo
  have M1 : M 14 0 1 = nI (n + 1) := by rw [hM, u3_g, b2_ni _ _ _ _ (by omega), u3_g, b2_s]
  have M2 : M 14 0 2 = nI (L + 1) := by rw [hM, u3_g, b2_s]
  have Mg : ∀ g : Nat, g ≠ 14 → M g = X g := fun g h => by rw [hM, u3_n _ _ _ _ _ h, u3_n _ _ _ _ _ h]
  have c0 : ¬ p_norec M 0 := by
    unfold p_norec
    rw [M1, i3_lt, i3_lt, t_0, nI_toInt (by omega)]
    omega
  obtain ⟨z, ez⟩ : ∃ z : Nat, z = (o + n) % 12 := ⟨_, rfl⟩
  have hz : z < 12 := by omega
  have sl : (p_slot M 0).toNatClampNeg = z := by
    have e1 : nI o + nI (n + 1) - 1 - 0 = nI (o + n) := by
      rw [nI_add, i3_eq, nI_toInt (by omega), su_t ?_, su_t ?_, nI_toInt (by omega), t_1, t_0]
      · omega
      · rw [nI_toInt (by omega), t_1]
        omega
      · rw [su_t ?_, nI_toInt (by omega), t_1, t_0]
        · omega
        · rw [nI_toInt (by omega), t_1]
          omega
    unfold p_slot
    rw [M0, M1, e1, fm12n (by omega), nI_c (by omega), ez]
  have R : N_rem X k s u b = m_put M z k s u b := by
    unfold N_rem
    rw [← eM, ci_f c0, sl]
  rw [R]
  have z13 : ¬ (13 : Nat) = z + 1 := by omega
  have z14 : ¬ (14 : Nat) = z + 1 := by omega
  have P14 : m_put M z k s u b 14 = M 14 := by
    unfold m_put
    rw [u3_n _ _ _ _ _ (by omega), u3_n _ _ _ _ _ (by omega), u3_n _ _ _ _ _ (by omega), u3_n _ _ _ _ _ (by omega), u3_n _ _ _ _ _ (by omega), sg_n _ _ _ (by omega)]
  have Pb : ∀ g : Nat, g ≠ 13 → m_put M z k s u b g = if g = z + 1 then M 0 else M g := fun g h => by
    unfold m_put
    rw [u3_n _ _ _ _ _ h, u3_n _ _ _ _ _ h, u3_n _ _ _ _ _ h, u3_n _ _ _ _ _ h, u3_n _ _ _ _ _ h]
    rfl
  have Po : ∀ f i : Nat, i ≠ z → m_put M z k s u b 13 f i = X 13 f i := fun f i h => by
    rw [← Mg 13 (by omega)]
    simp [m_put, u3, b2, sg, z13, h]
  have Pz : m_put M z k s u b 13 0 z = nI (L + 1) ∧ m_put M z k s u b 13 1 z = k ∧ m_put M z k s u b 13 2 z = s ∧ m_put M z k s u b 13 3 z = u ∧ m_put M z k s u b 13 4 z = b := by
    simp [m_put, u3, b2, sg, z13, z14, M2]
  refine ⟨sg_g _ _ _, by omega, ho, by rw [sg_n _ _ _ (by omega), P14]; exact M0, by rw [sg_n _ _ _ (by omega), P14]; exact M1, by rw [sg_n _ _ _ (by omega), P14]; exact M2, fun i h => ?_, fun i h => ?_, fun i h => ?_, fun i h => ?_, fun i h => ?_⟩
  · rw [sg_n _ _ _ (by omega), Pb _ (by omega)]
    by_cases y : i = n
    · subst y
      rw [if_pos (by omega), pB_n, Mg 0 (by omega), v.x0]
    · rw [if_neg (by omega), pB_o y, Mg _ (by omega)]
      exact v.xb i (by omega)
  · rw [sg_n _ _ _ (by omega)]
    by_cases y : i = n
    · subst y
      rw [← ez, pF_n, pF_n, Pz.1, Pz.2.1]
      exact ⟨(nI_1 L).symm, rfl⟩
    · rw [Po _ _ (by omega), Po _ _ (by omega), pF_o y, pF_o y]
      exact v.xd i (by omega)
  · rw [sg_n _ _ _ (by omega)]
    by_cases y : i = n
    · subst y
      rw [← ez, pF_n, pF_n, pF_n, pF_n, Pz.2.2.1, Pz.2.2.2.1, Pz.2.2.2.2]
      exact c8
    · rw [Po _ _ (by omega), Po _ _ (by omega), Po _ _ (by omega), pF_o y, pF_o y, pF_o y, pF_o y]
      exact v.x8 i (by omega)
  · rw [sg_n _ _ _ (by omega)]
    by_cases y : i = n
    · subst y
      rw [← ez, pF_n, pF_n, Pz.2.2.1]
      exact c5
    · rw [Po _ _ (by omega), pF_o y, pF_o y]
      exact v.x5 i (by omega)
  · rw [sg_n _ _ _ (by omega)]
    by_cases y : i = n
    · subst y
      rw [← ez, pF_n, pF_n, Pz.2.2.1]
      exact c10
    · rw [Po _ _ (by omega), pF_o y, pF_o y]
      exact v.x10 i (by omega)
theorem LX.undo (v : LX (n + 1) o L X r B F) : LX n o L (N_undo X) (B n) B (uF F n) ∧ R_undo X = nI n := by
  have hn := v.hn
  have ho := v.ho
  have c0 : ¬ p_norec X 0 := v.recl (i := 0) (by omega)
  have sl : (p_slot X 0).toNatClampNeg = (o + n) % 12 := by
    rw [show p_slot X 0 = p_slot X (nI 0) from rfl, v.slot (by omega), nI_c (by omega)]
    omega
  have b := v.xb n (by omega)
  unfold N_undo R_undo N_fl a_fl
  rw [ci_f c0, ci_f c0, sl, b]
  have h14 : sg X 0 (B n) 14 = X 14 := sg_n _ _ _ (by omega)
  have cn : ¬ X 14 0 1 ≤ 0 := by
    rw [v.xn, i3_le, t_0, nI_toInt (by omega)]
    omega
  rw [h14, ci_f cn, ci_f cn, v.xn, nI_pred]
  refine ⟨?_, rfl⟩
  have e : ∀ g : Nat, g ≠ 14 → g ≠ 0 → u3 (sg X 0 (B n)) 14 0 1 (nI n) g = X g := fun g h1 h2 => by rw [u3_n _ _ _ _ _ h1, sg_n _ _ _ h2]
  refine ⟨by rw [u3_n _ _ _ _ _ (by omega), sg_g], by omega, ho, ?_, ?_, ?_, fun i h => ?_, fun i h => ?_, fun i h => ?_, fun i h => ?_, fun i h => ?_⟩
  · rw [u3_g, b2_ni _ _ _ _ (by omega), h14]
    exact v.xo
  · rw [u3_g, b2_s]
  · rw [u3_g, b2_ni _ _ _ _ (by omega), h14]
    exact v.xl
  · rw [e _ (by omega) (by omega)]
    exact v.xb i (by omega)
  · rw [e _ (by omega) (by omega), uF_o (by omega), uF_o (by omega)]
    exact v.xd i (by omega)
  · rw [e _ (by omega) (by omega), uF_o (by omega), uF_o (by omega), uF_o (by omega), uF_o (by omega)]
    exact v.x8 i (by omega)
  · rw [e _ (by omega) (by omega), uF_o (by omega), uF_o (by omega)]
    exact v.x5 i (by omega)
  · rw [e _ (by omega) (by omega), uF_o (by omega), uF_o (by omega)]
    exact v.x10 i (by omega)
end
end
section
/-! WHAT HOLDS BESIDES: a head's committed money is what is open of its commitments, what was paid is spent, shares are parts of a hundred -/
noncomputable def s_com (r : Bk) (h : Nat) : Int32 := sumI (fun c => ci (r 10 c = nI h) (r 11 c) 0) 40
def s_paid (r : Bk) : Int32 := sumI (fun c => r 12 c) 40
def Iv (r : Bk) : Prop := (∀ h : Nat, h < 20 → r 4 h = s_com r h) ∧ r 14 5 = s_paid r ∧ (∀ h : Nat, h < 20 → 0 ≤ (r 8 h).toInt ∧ (r 8 h).toInt ≤ 100)
def Gd (K : Int) (r : Bk) : Prop := Ok K r ∧ Iv r
theorem sumI_upd {f g : Nat → Int32} {i : Nat} : ∀ {n : Nat}, i < n → (∀ k, k < n → k ≠ i → g k = f k) → sumI g n = sumI f n - f i + g i := by
  intro n
  induction n with
  | zero =>
    intro h
    omega
  | succ n ih =>
    intro h e
    show sumI g n + g n = sumI f n + f n - f i + g i
    by_cases z : i = n
    · subst z
      rw [sumI_congr (fun k hk => e k (by omega) (by omega))]
      grind
    · rw [ih (by omega) (fun k h1 h2 => e k (by omega) h2), e n (by omega) (fun q => z q.symm)]
      grind
section
variable {K : Int} {r r' R : Bk} {h a q f t k x : Int32}
theorem Gd_mono {K' : Int} (hK : K ≤ K') (hB : K' ≤ 60000000) (g : Gd K r) : Gd K' r := ⟨Ok_mono hK hB g.1, g.2⟩
theorem Iv_c (e4 : r' 4 = r 4) (e8 : r' 8 = r 8) (e10 : r' 10 = r 10) (e11 : r' 11 = r 11) (e12 : r' 12 = r 12) (e5 : r' 14 5 = r 14 5) (o : Iv r) : Iv r' := by
  unfold Iv s_com s_paid at o ⊢
  rw [e4, e8, e10, e11, e12, e5]
  exact o
/-- one commitment changed, and what its head has committed -/
theorem Iv_1 {n i : Nat} (o : Iv r) (hi : i < 40) (hn : n < 20) (e8 : R 8 = r 8) (E : ∀ c : Nat, c ≠ i → R 10 c = r 10 c ∧ R 11 c = r 11 c ∧ R 12 c = r 12 c) (E4 : ∀ c : Nat, c ≠ n → R 4 c = r 4 c)
  (q10 : R 10 i = nI n) (old : r 10 i = nI n ∨ r 11 i = 0) (d : R 4 n = r 4 n - r 11 i + R 11 i) (d2 : R 14 5 = r 14 5 - r 12 i + R 12 i) : Iv R := by
  refine ⟨fun h hh => ?_, ?_, by rw [e8]; exact o.2.2⟩
  · have oh := o.1 h hh
    unfold s_com at oh ⊢
    rw [sumI_upd (f := fun c => ci (r 10 c = nI h) (r 11 c) 0) (g := fun c => ci (R 10 c = nI h) (R 11 c) 0) hi (fun k hk ne => by
      show ci (R 10 k = nI h) (R 11 k) 0 = ci (r 10 k = nI h) (r 11 k) 0
      rw [(E k ne).1, (E k ne).2.1])]
    show R 4 h = sumI (fun c => ci (r 10 c = nI h) (r 11 c) 0) 40 - ci (r 10 i = nI h) (r 11 i) 0 + ci (R 10 i = nI h) (R 11 i) 0
    rw [← oh]
    by_cases z : h = n
    · subst z
      have w : ci (r 10 i = nI h) (r 11 i) 0 = r 11 i := by
        by_cases y : r 10 i = nI h
        · rw [ci_t y]
        · rw [ci_f y, old.resolve_left y]
      rw [ci_t q10, w, d]
    · have n1 : ¬ nI n = nI h := fun y => z ((nI_eq (by omega) (by omega)).mp y).symm
      have w : ci (r 10 i = nI h) (r 11 i) 0 = 0 := by
        by_cases y : r 10 i = nI h
        · rw [ci_t y]
          exact old.resolve_left (fun v => n1 (v.symm.trans y))
        · rw [ci_f y]
      rw [q10, ci_f n1, w, E4 h z]
      grind
  · have o2 := o.2.1
    unfold s_paid at o2 ⊢
    rw [sumI_upd (f := fun c => r 12 c) (g := fun c => R 12 c) hi (fun k hk ne => (E k ne).2.2), ← o2]
    exact d2
theorem gd_make (g : Gd K r) (p : p_has r a) (pk : p_in k 0 9) (d : ¬ qv r 9 a = 4) (c : ¬ r 14 1 = 20) : Gd K (n_make r a k) := by
  refine ⟨(ok_make g.1 p pk d c).1, ?_⟩
  have h1 := g.1.S.1
  have c2 : r 14 1 < 20 := by rw [i3_lt, t_20]; rw [i3_eq, t_20] at c; omega
  rw [mk_add g.1 c2]
  obtain ⟨i, ei⟩ : ∃ i : Nat, i = (r 14 1).toNatClampNeg := ⟨_, rfl⟩
  have E : ∀ b c : Nat, b ≠ 0 → b ≠ 1 → b ≠ 8 → b ≠ 9 → b ≠ 14 → n_add r a k b c = r b c := fun b c q1 q2 q3 q4 q5 => by simp [n_add, b2, q1, q2, q3, q4, q5]
  have F : ∀ b : Nat, b ≠ 0 → b ≠ 1 → b ≠ 8 → b ≠ 9 → b ≠ 14 → n_add r a k b = r b := fun b q1 q2 q3 q4 q5 => funext fun c => E b c q1 q2 q3 q4 q5
  have E8 : ∀ c : Nat, n_add r a k 8 c = if c = i then 50 else r 8 c := fun c => by simp [n_add, b2, ← ei]
  have E5 : n_add r a k 14 5 = r 14 5 := by simp [n_add, b2]
  have o := g.2
  unfold Iv s_com s_paid at o ⊢
  rw [F 4 (by omega) (by omega) (by omega) (by omega) (by omega), F 10 (by omega) (by omega) (by omega) (by omega) (by omega), F 11 (by omega) (by omega) (by omega) (by omega) (by omega), F 12 (by omega) (by omega) (by omega) (by omega) (by omega), E5]
  refine ⟨o.1, o.2.1, fun h hh => ?_⟩
  rw [E8]
  by_cases z : h = i
  · rw [if_pos z, t_50]
    omega
  · rw [if_neg z]
    exact o.2.2 h hh
theorem gd_allot (g : Gd K r) (p : p_has r h) (am : p_amt a) (hB : K + 100000 ≤ 60000000) : Gd (K + 100000) (n_allot r h a) :=
  ⟨(ok_allot g.1 p am hB).1, Iv_c (funext fun c => by simp [n_allot, b2]) (funext fun c => by simp [n_allot, b2]) (funext fun c => by simp [n_allot, b2]) (funext fun c => by simp [n_allot, b2]) (funext fun c => by simp [n_allot, b2]) (by simp [n_allot, b2]) g.2⟩
theorem gd_freeze (g : Gd K r) (p : p_in x 0 1) : Gd K (n_freeze r h x) :=
  ⟨(ok_frz g.1 p).1, Iv_c (funext fun c => by simp [n_freeze, b2]) (funext fun c => by simp [n_freeze, b2]) (funext fun c => by simp [n_freeze, b2]) (funext fun c => by simp [n_freeze, b2]) (funext fun c => by simp [n_freeze, b2]) (by simp [n_freeze, b2]) g.2⟩
theorem gd_share (g : Gd K r) (p : p_in x 0 100) : Gd K (n_setShare r h x) := by
  refine ⟨(ok_share g.1 _ _).1, ?_⟩
  have o := g.2
  have F : ∀ b : Nat, b ≠ 8 → n_setShare r h x b = r b := fun b q1 => funext fun c => by simp [n_setShare, b2, q1]
  unfold Iv s_com s_paid at o ⊢
  rw [F 4 (by omega), F 10 (by omega), F 11 (by omega), F 12 (by omega), F 14 (by omega)]
  refine ⟨o.1, o.2.1, fun j hj => ?_⟩
  unfold n_setShare
  by_cases z : j = h.toNatClampNeg
  · rw [z, b2_s]
    unfold p_in at p
    rw [t_0, t_100] at p
    exact p
  · rw [b2_ni _ _ _ _ z]
    exact o.2.2 j hj
theorem gd_carried (g : Gd K r) (p : p_in x 0 100) : Gd K (n_setCarried r x) :=
  ⟨(ok_num g.1 (i := 3) (v := x) (by omega) (by omega) (fun z => by omega) (fun _ => p)).1, Iv_c (funext fun c => by simp [n_setCarried, b2]) (funext fun c => by simp [n_setCarried, b2]) (funext fun c => by simp [n_setCarried, b2]) (funext fun c => by simp [n_setCarried, b2]) (funext fun c => by simp [n_setCarried, b2]) (by simp [n_setCarried, b2]) g.2⟩
theorem gd_commit (g : Gd K r) (p : p_has r h) (am : p_amt a) (le : a ≤ fr r h) (c : ¬ r 14 2 = 40) (hB : K + 100000 ≤ 60000000) : Gd (K + 100000) (n_commit r h a) := by
  rw [(cmt_eq g.1 p c).1]
  refine ⟨(ok_commit g.1 p am le c hB).1, ?_⟩
  have h1 := g.1.N.1
  have c2 : (r 14 2).toInt < 40 := by rw [i3_eq, t_40] at c; omega
  obtain ⟨n, hn1, hn2, hn3, hn4, hn5⟩ := has_at g.1 p
  obtain ⟨i, ei⟩ : ∃ i : Nat, i = (r 14 2).toNatClampNeg := ⟨_, rfl⟩
  have ei2 : (i : Int) = (r 14 2).toInt := by rw [ei, ix_t]; omega
  have u := (g.1.C i (by omega)).2 (by omega)
  refine Iv_1 (n := n) (i := i) g.2 (by omega) hn2 (funext fun c => by simp [m_commit, b2]) (fun c z => by simp [m_commit, b2, ← ei, z]) (fun c z => by simp [m_commit, b2, hn4, z]) (by simp [m_commit, b2, ← ei, hn3]) (Or.inr u.1) ?_ ?_
  · rw [u.1]
    simp [m_commit, b2, hn4, ← ei, qv]
  · rw [u.2]
    simp [m_commit, b2, ← ei]
theorem hasC_ix (g : Ok K r) (p : p_hasC r q) : ∃ n i : Nat, n < 20 ∧ i < 40 ∧ q.toNatClampNeg = i ∧ r 10 i = nI n ∧ (qv r 10 q).toNatClampNeg = n := by
  have e := hasC_head g p
  obtain ⟨n, hn1, hn2, hn3, hn4, hn5⟩ := has_at g e
  obtain ⟨i, hi1, hi2, hi3, hi4, hi5⟩ := hasC_at g p
  refine ⟨n, i, hn2, hi2, hi4, ?_, hn4⟩
  unfold qv at hn3
  rw [hi4] at hn3
  exact hn3
theorem gd_pay (g : Gd K r) (p : p_hasC r q) (am : p_amt a) (le : a ≤ qv r 11 q) (hB : K + 100000 ≤ 60000000) : Gd (K + 100000) (n_pay r q a) := by
  rw [py_eq g.1 p]
  refine ⟨(ok_pay g.1 p am le hB).1, ?_⟩
  obtain ⟨n, i, hn, hi, hi4, q10, hn4⟩ := hasC_ix g.1 p
  refine Iv_1 (n := n) (i := i) g.2 hi hn (funext fun c => by simp [m_pay, b2]) (fun c z => by simp [m_pay, b2, hi4, z]) (fun c z => by simp [m_pay, b2, hn4, z]) (by simp [m_pay, b2, q10]) (Or.inl q10) ?_ ?_
  · have q4 : (r 10 i).toNatClampNeg = n := by rw [q10, nI_c (by omega)]
    have z1 : m_pay r q a 4 n = r 4 n - a := by simp [m_pay, b2, hi4, q4, qv]
    have z2 : m_pay r q a 11 i = r 11 i - a := by simp [m_pay, b2, hi4, qv]
    rw [z1, z2]
    grind
  · have z1 : m_pay r q a 14 5 = r 14 5 + a := by simp [m_pay, b2]
    have z2 : m_pay r q a 12 i = r 12 i + a := by simp [m_pay, b2, hi4, qv]
    rw [z1, z2]
    grind
theorem gd_free (g : Gd K r) (p : p_hasC r q) (hB : K + 100000 ≤ 60000000) : Gd (K + 100000) (b_free0 r q) := by
  rw [(fre_eq g.1 p).1]
  refine ⟨(ok_free g.1 p hB).1, ?_⟩
  obtain ⟨n, i, hn, hi, hi4, q10, hn4⟩ := hasC_ix g.1 p
  refine Iv_1 (n := n) (i := i) g.2 hi hn (funext fun c => by simp [m_free0, b2]) (fun c z => by simp [m_free0, b2, hi4, z]) (fun c z => by simp [m_free0, b2, hn4, z]) (by simp [m_free0, b2, q10]) (Or.inl q10) ?_ ?_
  · have q4 : (r 10 i).toNatClampNeg = n := by rw [q10, nI_c (by omega)]
    have z1 : m_free0 r q 4 n = r 4 n - r 11 i := by simp [m_free0, b2, hi4, q4, qv]
    have z2 : m_free0 r q 11 i = 0 := by simp [m_free0, b2, hi4]
    rw [z1, z2]
    grind
  · have z1 : m_free0 r q 14 5 = r 14 5 := by simp [m_free0, b2]
    have z2 : m_free0 r q 12 i = r 12 i := by simp [m_free0, b2]
    rw [z1, z2]
    grind
theorem gd_mv (g : Gd K r) (hB : K + 100000 ≤ 60000000) (am : -100000 ≤ a.toInt ∧ a.toInt ≤ 100000) (h1 : p_has r f → a.toInt ≤ (fr r f).toInt) (h2 : p_has r t → -a.toInt ≤ (fr r t).toInt) : Gd (K + 100000) (b_mv r f t a) := by
  unfold b_mv
  by_cases c : p_has r f ∧ p_has r t ∧ f ≠ t
  · rw [ci_t c]
    exact ⟨(ok_mv g.1 c.1 c.2.1 c.2.2 hB am (h1 c.1) (h2 c.2.1)).1, Iv_c (funext fun c => by simp [n_mv, b2]) (funext fun c => by simp [n_mv, b2]) (funext fun c => by simp [n_mv, b2]) (funext fun c => by simp [n_mv, b2]) (funext fun c => by simp [n_mv, b2]) (by simp [n_mv, b2]) g.2⟩
  · rw [ci_f c]
    exact Gd_mono (by omega) hB g
theorem ey_E (o : Ok K r) (b c : Nat) : n_endYear r b c = if b = 14 ∧ c = 0 then r 14 0 + 1 else if b = 14 ∧ c = 4 then r 14 4 + p_lapse r 0 (r 14 3) 20 else eyR r (md r) b c := by
  have h9 := md_20 o
  have e := ey_c2 o (20 - md r) (by omega)
  rw [show md r + (20 - md r) = 20 by omega] at e
  have e14 : ∀ i : Nat, eyR r (md r) 14 i = r 14 i := fun i => eyR_o r (by omega) (by omega) (by omega) (by omega)
  unfold n_endYear
  rw [e]
  by_cases z0 : b = 14 ∧ c = 0
  · rw [if_pos z0, z0.1, z0.2, b2_s, b2_ni _ _ _ _ (by omega), e14]
  · rw [if_neg z0]
    by_cases z4 : b = 14 ∧ c = 4
    · rw [if_pos z4, z4.1, z4.2, b2_ni _ _ _ _ (by omega), b2_s, e14]
    · rw [if_neg z4]
      simp only [b2]
      grind
theorem gd_endYear (g : Gd K r) (c : ¬ r 14 0 = 99) : Gd K (n_endYear r) := by
  have F : ∀ b : Nat, b ≠ 3 → b ≠ 5 → b ≠ 6 → b ≠ 7 → b ≠ 14 → n_endYear r b = r b := fun b q1 q2 q3 q4 q5 => funext fun c => by
    rw [ey_E g.1, if_neg (by omega), if_neg (by omega), eyR_o r q1 q2 q3 q4]
  have e5 : n_endYear r 14 5 = r 14 5 := by rw [ey_E g.1, if_neg (by omega), if_neg (by omega), eyR_o r (by omega) (by omega) (by omega) (by omega)]
  refine ⟨by rw [ey_eq g.1]; exact (ok_endYear g.1 c).1, Iv_c (F _ (by omega) (by omega) (by omega) (by omega) (by omega)) (F _ (by omega) (by omega) (by omega) (by omega) (by omega)) (F _ (by omega) (by omega) (by omega) (by omega) (by omega)) (F _ (by omega) (by omega) (by omega) (by omega) (by omega)) (F _ (by omega) (by omega) (by omega) (by omega) (by omega)) e5 g.2⟩
end
end
section
/-! THE CLASS'S STATE IN ORDER: its book, and the books and words of the deeds that it remembers; what each deed does to it -/
section
variable {X : St} {r r' : Bk} {k s u b g : Int32}
theorem n1 : (-1 : Int32) ≠ 0 := by decide
theorem n2 : (-2 : Int32) ≠ 0 := by decide
theorem n3 : (-3 : Int32) ≠ 0 := by decide
theorem ci0 {Q : Prop} {x e : Int32} (h : ci Q x e = 0) (he : e ≠ 0) : Q ∧ x = 0 := by
  by_cases c : Q
  · rw [ci_t c] at h
    exact ⟨c, h⟩
  · rw [ci_f c] at h
    exact absurd h he
theorem ci0n {Q : Prop} {x e : Int32} (h : ci Q e x = 0) (he : e ≠ 0) : ¬ Q ∧ x = 0 := by
  by_cases c : Q
  · rw [ci_t c] at h
    exact absurd h he
  · rw [ci_f c] at h
    exact ⟨c, h⟩
end
def Sg (K : Int) (B : Bk) (k a : Int32) : Prop := Gd K B ∧ (0 ≤ k.toInt ∧ k.toInt ≤ 10) ∧ (k = 8 → p_amt a)
def GXn (n : Nat) (K : Int) (X : St) : Prop := ∃ (o L : Nat) (B : Nat → Bk) (F : Nat → Nat → Int32), LX n o L X (X 0) B F ∧ Gd K (X 0) ∧ ∀ i, i < n → Sg K (B i) (F 0 i) (F 3 i)
def GX (K : Int) (X : St) : Prop := ∃ n : Nat, GXn n K X
def StpG (K : Int) (X X' : St) (v : Int32) : Prop := GX K X' ∧ (v.toInt < 0 → X' 0 = X 0) ∧ (0 ≤ v.toInt → 0 ≤ (R_undo X').toInt ∧ (N_undo X') 0 = X 0)
def Ng (g : Int32) : Prop := g ≠ 0 → g.toInt < 0
theorem ng_0 : Ng 0 := fun h => absurd rfl h
theorem ng_1 : Ng (-1) := fun _ => by decide
theorem ng_2 : Ng (-2) := fun _ => by decide
theorem ng_3 : Ng (-3) := fun _ => by decide
theorem ng_ci {P : Prop} {x y : Int32} (h1 : Ng x) (h2 : Ng y) : Ng (ci P x y) := by
  by_cases c : P
  · rw [ci_t c]
    exact h1
  · rw [ci_f c]
    exact h2
theorem sumI_t {f : Nat → Int32} {M : Int} : ∀ {n : Nat}, (n : Int) * M ≤ 2000000000 → 0 ≤ M → (∀ k, k < n → 0 ≤ (f k).toInt ∧ (f k).toInt ≤ M) → 0 ≤ (sumI f n).toInt ∧ (sumI f n).toInt ≤ n * M := by
  intro n
  induction n with
  | zero =>
    intro _ _ _
    show 0 ≤ (0 : Int32).toInt ∧ (0 : Int32).toInt ≤ ((0 : Nat) : Int) * M
    rw [t_0]
    omega
  | succ n ih =>
    intro h1 h2 h
    have e : ((n + 1 : Nat) : Int) * M = n * M + M := by rw [Int.natCast_succ, Int.add_mul, Int.one_mul]
    rw [e] at h1 ⊢
    have w := ih (by omega) h2 (fun k hk => h k (by omega))
    have q := h n (by omega)
    show 0 ≤ (sumI f n + f n).toInt ∧ (sumI f n + f n).toInt ≤ _
    rw [ad_t (by omega)]
    omega
section
variable {K : Int} {n o L : Nat} {X : St} {r r' : Bk} {B : Nat → Bk} {F : Nat → Nat → Int32} {k s u b g w h a q f t x i : Int32}
theorem com_t (v : Gd K r) {j : Nat} (hj : j < 20) : 0 ≤ (r 4 j).toInt := by
  rw [v.2.1 j hj]
  unfold s_com
  have h9 := mc_40 v.1
  refine (sumI_t (M := 100000) (by omega) (by omega) (fun c hc => ?_)).1
  have w := v.1.C c hc
  by_cases z : r 10 c = nI j
  · rw [ci_t z]
    by_cases y : (c : Int) < (r 14 2).toInt
    · exact (w.1 y).2
    · rw [(w.2 (by omega)).1, t_0]
      omega
  · rw [ci_f z, t_0]
    omega
theorem free_t (v : Ok K r) : 0 ≤ (p_free r h).toInt ∧ (p_free r h).toInt ≤ 2 * K := by
  have hB := v.B
  by_cases p : p_has r h
  · rw [free_fr p]
    exact (fr_t v p).2
  · unfold p_free
    rw [ci_f p, t_0]
    omega
theorem cntb_t : 0 ≤ (p_cntb r 20).toInt := by
  unfold p_cntb
  refine (sumI_t (M := 1) (by omega) (by omega) (fun c hc => ?_)).1
  by_cases z : p_bar r 5 (nI c)
  · rw [ci_t z, t_1]
    omega
  · rw [ci_f z, t_0]
    omega
theorem lapse1_t (v : Ok K r) (hB : K ≤ 10000000) : 0 ≤ (p_free r h - p_part (p_free r h) (r 14 3)).toInt ∧ (p_free r h - p_part (p_free r h) (r 14 3)).toInt ≤ (p_free r h).toInt ∧ (p_free r h).toInt ≤ 20000000 := by
  have f1 := free_t v (h := h)
  have pt := part_t f1.1 v.N.2.2
  rw [su_t (by omega)]
  omega
theorem lapse_t (v : Ok K r) (hB : K ≤ 10000000) : 0 ≤ (p_lapse r t (r 14 3) 20).toInt := by
  unfold p_lapse
  refine (sumI_t (M := 20000000) (by omega) (by omega) (fun c hc => ?_)).1
  have w := lapse1_t v hB (h := nI c)
  by_cases z : p_wit r 5 (nI c) t
  · rw [ci_t z]
    omega
  · rw [ci_f z, t_0]
    omega
theorem GXn.mk1 (x : LX n o L X r B F) (v : Gd K r) (h : ∀ i, i < n → Sg K (B i) (F 0 i) (F 3 i)) : GXn n K X := by
  have e := x.x0
  subst e
  exact ⟨o, L, B, F, x, v, h⟩
theorem GX.gd (v : GX K X) : Gd K (X 0) := by
  obtain ⟨n, o, L, B, F, x, g, h⟩ := v
  exact g
theorem GXn.mono {K' : Int} (hK : K ≤ K') (hB : K' ≤ 60000000) (v : GXn n K X) : GXn n K' X := by
  obtain ⟨o, L, B, F, x, g, h⟩ := v
  exact ⟨o, L, B, F, x, Gd_mono hK hB g, fun i hi => ⟨Gd_mono hK hB (h i hi).1, (h i hi).2⟩⟩
theorem GX.mono {K' : Int} (hK : K ≤ K') (hB : K' ≤ 60000000) (v : GX K X) : GX K' X := by
  obtain ⟨n, v⟩ := v
  exact ⟨n, v.mono hK hB⟩
theorem GXn.held (v : GXn n K X) : X 14 0 1 = nI n ∧ n ≤ 12 := by
  obtain ⟨o, L, B, F, x, g, h⟩ := v
  exact ⟨x.xn, x.hn⟩
theorem LX.push1 (v : LX n o L X r B F) (hn : n < 12) : LX (n + 1) o (L + 1) (sg (N_rem X k s u b) 0 r') r' (pB B n r) (pF F n (vF k (if k = 10 then s - 1 else s) u b 0 (nI L))) :=
  v.push hn 0 (fun z => ⟨by rw [if_neg (by rw [z]; decide)], rfl, rfl⟩) (fun z => by rw [if_neg (by rw [z]; decide)]) (fun z => by rw [if_pos z]; grind)
theorem gx_push (x : LX n o L X r B F) (hn : n < 12) (v : Gd K r) (h : ∀ i, i < n → Sg K (B i) (F 0 i) (F 3 i)) (hB : K + 100000 ≤ 60000000) (hr : Gd (K + 100000) r') (hk : 0 ≤ k.toInt ∧ k.toInt ≤ 10) (c8 : k = 8 → p_amt b) : GX (K + 100000) (sg (N_rem X k s u b) 0 r') ∧ 0 ≤ (R_undo (sg (N_rem X k s u b) 0 r')).toInt ∧ (N_undo (sg (N_rem X k s u b) 0 r')) 0 = r := by
  have p := x.push1 (k := k) (s := s) (u := u) (b := b) (r' := r') hn
  refine ⟨⟨n + 1, GXn.mk1 p hr (fun i hi => ?_)⟩, ?_, ?_⟩
  · by_cases z : i = n
    · subst z
      rw [pB_n, pF_n, pF_n]
      show Sg (K + 100000) r k b
      exact ⟨Gd_mono (by omega) hB v, hk, c8⟩
    · rw [pB_o z, pF_o z, pF_o z]
      have w := h i (by omega)
      exact ⟨Gd_mono (by omega) hB w.1, w.2⟩
  · rw [p.undo.2, nI_toInt (by omega)]
    omega
  · rw [p.undo.1.x0, pB_n]
/-- a deed -/
theorem GX.op (v : GX K X) (hB : K + 100000 ≤ 60000000) (hr : Gd (K + 100000) r') (hk : 0 ≤ k.toInt ∧ k.toInt ≤ 10) (c8 : k = 8 → p_amt b) : GX (K + 100000) (sg (N_rem X k s u b) 0 r') ∧ 0 ≤ (R_undo (sg (N_rem X k s u b) 0 r')).toInt ∧ (N_undo (sg (N_rem X k s u b) 0 r')) 0 = X 0 := by
  obtain ⟨n, o, L, B, F, x, g, h⟩ := v
  have hn := x.hn
  by_cases e : n = 12
  · subst e
    rw [x.remD]
    exact gx_push x.drop (by omega) g (fun i hi => h (i + 1) (by omega)) hB hr hk c8
  · exact gx_push x (by omega) g h hB hr hk c8
/-- undoing -/
theorem GXn.undo (v : GXn (n + 1) K X) : GXn n K (N_undo X) ∧ R_undo X = nI n := by
  obtain ⟨o, L, B, F, x, g, h⟩ := v
  have w := x.undo
  refine ⟨GXn.mk1 w.1 (h n (by omega)).1 (fun i hi => ?_), w.2⟩
  rw [uF_o (by omega), uF_o (by omega)]
  exact h i (by omega)
theorem GXn.none0 (v : GXn 0 K X) : p_norec X 0 := by
  unfold p_norec
  rw [v.held.1]
  exact Or.inr (by decide)
theorem GXn.undo0 (v : GXn 0 K X) : N_undo X = X ∧ R_undo X = -2 := by
  unfold N_undo R_undo
  exact ⟨ci_t v.none0, ci_t v.none0⟩
theorem GX.undo (v : GX K X) : GX K (N_undo X) := by
  obtain ⟨n, v⟩ := v
  cases n with
  | zero =>
    rw [v.undo0.1]
    exact ⟨0, v⟩
  | succ n => exact ⟨n, v.undo.1⟩
theorem GXn.deed (v : GXn (n + 1) K X) : 0 ≤ (V_deed X 0).toInt ∧ (V_deed X 0).toInt ≤ 10 := by
  obtain ⟨o, L, B, F, x, g, h⟩ := v
  have hn := x.hn
  have ho := x.ho
  have c0 : ¬ p_norec X 0 := x.recl (i := 0) (by omega)
  have sl : (p_slot X 0).toNatClampNeg = (o + n) % 12 := by
    rw [show p_slot X 0 = p_slot X (nI 0) from rfl, x.slot (by omega), nI_c (by omega)]
    omega
  unfold V_deed
  rw [ci_t (by decide), ci_f c0, sl, (x.xd n (by omega)).2]
  exact (h n (by omega)).2.1
theorem GXn.end0 (v : GXn 0 K X) : V_deed X 0 = -9 ∧ R_revoke X 0 = -2 ∧ N_revoke X 0 = X := by
  unfold V_deed R_revoke N_revoke
  have c : (0 : Int32) ≤ 0 := by decide
  rw [ci_t c, ci_t c, ci_t c, ci_t v.none0, ci_t v.none0, ci_t v.none0]
  exact ⟨rfl, rfl, rfl⟩
theorem stp_of (v : GX K X) (hB : K ≤ 10000000) (hn : Ng g) (hk : 0 ≤ k.toInt ∧ k.toInt ≤ 10) (h0 : g = 0 → Gd (K + 100000) r' ∧ 0 ≤ w.toInt ∧ (k = 8 → p_amt b)) : StpG (K + 100000) X (opX X g k s u b r') (opV g w) := by
  by_cases e : g = 0
  · rw [opX_0 e, opV_0 e]
    have q := h0 e
    have w1 := v.op (s := s) (u := u) (by omega) q.1 hk q.2.2
    exact ⟨w1.1, fun z => by omega, fun _ => w1.2⟩
  · rw [opX_e rfl e, ← opV_e (v := w) rfl e]
    have q := hn e
    exact ⟨v.mono (by omega) (by omega), fun _ => rfl, fun z => by omega⟩
theorem stp_err {e : Int32} (v : GX K X) (hB : K ≤ 10000000) (he : e.toInt < 0) : StpG (K + 100000) X X e := ⟨v.mono (by omega) (by omega), fun _ => rfl, fun z => by omega⟩
theorem stp_make (v : GX K X) (hB : K ≤ 10000000) : StpG (K + 100000) X (opX X (g_make (X 0) a k) 0 (-9) (-9) 0 (n_make (X 0) a k)) (opV (g_make (X 0) a k) (a_add (X 0))) := by
  have d := v.gd
  refine stp_of v hB (by unfold g_make; exact ng_ci (ng_ci ng_1 (ng_ci (ng_ci (ng_ci ng_0 ng_3) ng_2) ng_1)) ng_1) (by decide) (fun z => ?_)
  rw [gm_make d.1] at z
  obtain ⟨z1, z⟩ := ci0 z n1
  obtain ⟨z2, z⟩ := ci0 z n1
  obtain ⟨z3, z⟩ := ci0n z n2
  obtain ⟨z4, z⟩ := ci0n z n3
  have h1 := d.1.S.1
  refine ⟨Gd_mono (by omega) (by omega) (gd_make d z1 z2 z3 z4), ?_, fun y => absurd y (by decide)⟩
  rw [mk_val d.1 (by rw [i3_lt, t_20]; rw [i3_eq, t_20] at z4; omega)]
  omega
theorem stp_allot (v : GX K X) (hB : K ≤ 10000000) : StpG (K + 100000) X (opX X (g_allot (X 0) h a) 1 (-9) (-9) 0 (n_allot (X 0) h a)) (opV (g_allot (X 0) h a) (qv (n_allot (X 0) h a) 3 h)) := by
  have d := v.gd
  refine stp_of v hB (by unfold g_allot; exact ng_ci (ng_ci (ng_ci ng_0 ng_3) ng_1) ng_1) (by decide) (fun z => ?_)
  unfold g_allot at z
  obtain ⟨z1, z⟩ := ci0 z n1
  obtain ⟨z2, z⟩ := ci0 z n1
  have d2 := gd_allot d z1 z2 (by omega)
  refine ⟨d2, ?_, fun y => absurd y (by decide)⟩
  obtain ⟨j, hj1, hj2, hj3, hj4, hj5⟩ := has_at d.1 z1
  have c := com_t d2 hj2
  have m := d2.1.M j hj2
  unfold qv
  rw [hj4]
  omega
theorem stp_freeze (v : GX K X) (hB : K ≤ 10000000) : StpG (K + 100000) X (opX X (g_freeze (X 0) h x) 2 (-9) (-9) 0 (n_freeze (X 0) h x)) (opV (g_freeze (X 0) h x) (p_cntb (n_freeze (X 0) h x) 20)) := by
  have d := v.gd
  refine stp_of v hB (by unfold g_freeze; exact ng_ci (ng_ci ng_1 (ng_ci (ng_ci ng_2 ng_0) ng_1)) ng_1) (by decide) (fun z => ?_)
  rw [gm_freeze] at z
  obtain ⟨z1, z⟩ := ci0 z n1
  obtain ⟨z2, z⟩ := ci0 z n1
  exact ⟨Gd_mono (by omega) (by omega) (gd_freeze d z2), cntb_t, fun y => absurd y (by decide)⟩
theorem stp_setShare (v : GX K X) (hB : K ≤ 10000000) : StpG (K + 100000) X (opX X (g_setShare (X 0) h x) 3 (-9) (-9) 0 (n_setShare (X 0) h x)) (opV (g_setShare (X 0) h x) (qv (X 0) 8 h)) := by
  have d := v.gd
  refine stp_of v hB (by unfold g_setShare; exact ng_ci (ng_ci ng_0 ng_1) ng_1) (by decide) (fun z => ?_)
  rw [gm_setShare] at z
  obtain ⟨z1, z⟩ := ci0 z n1
  obtain ⟨z2, z⟩ := ci0 z n1
  obtain ⟨j, hj1, hj2, hj3, hj4, hj5⟩ := has_at d.1 z1
  refine ⟨Gd_mono (by omega) (by omega) (gd_share d z2), ?_, fun y => absurd y (by decide)⟩
  unfold qv
  rw [hj4]
  exact (d.2.2.2 j hj2).1
theorem stp_setCarried (v : GX K X) (hB : K ≤ 10000000) : StpG (K + 100000) X (opX X (g_setCarried q) 4 (-9) (-9) 0 (n_setCarried (X 0) q)) (opV (g_setCarried q) ((X 0) 14 3)) := by
  have d := v.gd
  refine stp_of v hB (by unfold g_setCarried; exact ng_ci ng_0 ng_1) (by decide) (fun z => ?_)
  rw [gm_setCarried] at z
  obtain ⟨z1, z⟩ := ci0 z n1
  exact ⟨Gd_mono (by omega) (by omega) (gd_carried d z1), d.1.N.2.2.1, fun y => absurd y (by decide)⟩
theorem stp_commit (v : GX K X) (hB : K ≤ 10000000) : StpG (K + 100000) X (opX X (g_commit (X 0) h a) 5 ((X 0) 14 2) (-9) 0 (n_commit (X 0) h a)) (opV (g_commit (X 0) h a) (a_addC (b_cc (X 0) h a))) := by
  have d := v.gd
  refine stp_of v hB (by unfold g_commit; exact ng_ci (ng_ci (ng_ci ng_2 (ng_ci (ng_ci ng_0 ng_3) ng_2)) ng_1) ng_1) (by decide) (fun z => ?_)
  rw [gm_commit d.1] at z
  obtain ⟨z1, z⟩ := ci0 z n1
  obtain ⟨z2, z⟩ := ci0 z n1
  obtain ⟨z3, z⟩ := ci0n z n2
  obtain ⟨z4, z⟩ := ci0 z n2
  obtain ⟨z5, z⟩ := ci0n z n3
  refine ⟨gd_commit d z1 z2 z4 z5 (by omega), ?_, fun y => absurd y (by decide)⟩
  rw [(cmt_eq d.1 z1 z5).2]
  exact d.1.N.1.1
theorem stp_pay (v : GX K X) (hB : K ≤ 10000000) : StpG (K + 100000) X (opX X (g_pay (X 0) q a) 6 (-9) (-9) 0 (n_pay (X 0) q a)) (opV (g_pay (X 0) q a) (qv (n_pay (X 0) q a) 11 q)) := by
  have d := v.gd
  refine stp_of v hB (by unfold g_pay; exact ng_ci (ng_ci (ng_ci ng_0 ng_2) ng_1) ng_1) (by decide) (fun z => ?_)
  unfold g_pay at z
  obtain ⟨z1, z⟩ := ci0 z n1
  obtain ⟨z2, z⟩ := ci0 z n1
  obtain ⟨z3, z⟩ := ci0 z n2
  have d2 := gd_pay d z1 z2 z3 (by omega)
  refine ⟨d2, ?_, fun y => absurd y (by decide)⟩
  have z4 : p_hasC (n_pay (X 0) q a) q := by
    rw [py_eq d.1 z1]
    exact z1
  exact (opn_t d2.1 z4).1
theorem stp_release (v : GX K X) (hB : K ≤ 10000000) : StpG (K + 100000) X (opX X (g_release (X 0) q) 7 (-9) (-9) 0 (b_free0 (X 0) q)) (opV (g_release (X 0) q) (a_free0 (X 0) q)) := by
  have d := v.gd
  refine stp_of v hB (by unfold g_release; exact ng_ci (ng_ci ng_2 ng_0) ng_1) (by decide) (fun z => ?_)
  unfold g_release at z
  obtain ⟨z1, z⟩ := ci0 z n1
  refine ⟨gd_free d z1 (by omega), ?_, fun y => absurd y (by decide)⟩
  rw [(fre_eq d.1 z1).2]
  exact (opn_t d.1 z1).1
theorem vire_gd (d : Gd K r) (hB : K ≤ 10000000) (z : g_vire r f t a = 0) : Gd (K + 100000) (b_mv r f t a) ∧ (p_has r f ∧ p_has r t ∧ f ≠ t) ∧ p_amt a := by
  rw [gm_vire] at z
  obtain ⟨z1, z⟩ := ci0 z n1
  obtain ⟨z2, z⟩ := ci0 z n1
  obtain ⟨z3, z⟩ := ci0n z n2
  have am : 1 ≤ a.toInt ∧ a.toInt ≤ 100000 := z2
  rw [i3_lt] at z3
  exact ⟨gd_mv d (by omega) (by omega) (fun _ => by omega) (fun p => by have := fr_t d.1 p; omega), z1, z2⟩
theorem stp_vire (v : GX K X) (hB : K ≤ 10000000) : StpG (K + 100000) X (opX X (g_vire (X 0) f t a) 8 f t a (b_mv (X 0) f t a)) (opV (g_vire (X 0) f t a) (p_free (b_mv (X 0) f t a) f)) := by
  have d := v.gd
  refine stp_of v hB (by unfold g_vire; exact ng_ci (ng_ci (ng_ci ng_0 ng_2) ng_1) ng_1) (by decide) (fun z => ?_)
  have w := vire_gd d hB z
  exact ⟨w.1, (free_t w.1.1).1, fun _ => w.2.2⟩
theorem stp_endYear (v : GX K X) (hB : K ≤ 10000000) : StpG (K + 100000) X (opX X (g_endYear (X 0)) 9 (-9) (-9) 0 (n_endYear (X 0))) (opV (g_endYear (X 0)) (p_lapse (X 0) 0 ((X 0) 14 3) 20)) := by
  have d := v.gd
  refine stp_of v hB (by unfold g_endYear; exact ng_ci ng_0 ng_2) (by decide) (fun z => ?_)
  rw [gm_endYear d.1] at z
  exact ⟨Gd_mono (by omega) (by omega) (gd_endYear d (ci0n z n2).1), lapse_t d.1 hB, fun y => absurd y (by decide)⟩
theorem stp_rv (v : GX K X) (hB : K ≤ 10000000) (am : p_amt a) : StpG (K + 100000) X (N_rv X q f t a) (R_rv X t a) := by
  have d := v.gd
  have am2 : 1 ≤ a.toInt ∧ a.toInt ≤ 100000 := am
  unfold N_rv R_rv
  refine stp_of v hB (by unfold g_rv; exact ng_ci ng_0 ng_2) (by decide) (fun z => ?_)
  unfold g_rv at z
  obtain ⟨z1, z⟩ := ci0 z n2
  have e : (-a).toInt = -a.toInt := by
    rw [Int32.toInt_neg]
    exact Int.bmod_eq_of_le (by omega) (by omega)
  rw [i3_le] at z1
  refine ⟨gd_mv d (by omega) (by omega) (fun p => by have := fr_t d.1 p; omega) (fun p => ?_), by omega, fun y => absurd y (by decide)⟩
  rw [free_fr p] at z1
  omega
theorem stp_rc (v : GX K X) (hB : K ≤ 10000000) : StpG (K + 100000) X (N_rc X q h) (R_rc X h) := by
  have d := v.gd
  unfold N_rc R_rc
  refine stp_of v hB (by unfold g_rc; exact ng_ci (ng_ci ng_2 ng_0) ng_2) (by decide) (fun z => ?_)
  unfold g_rc at z
  obtain ⟨z1, z⟩ := ci0 z n2
  refine ⟨gd_free d z1 (by omega), ?_, fun y => absurd y (by decide)⟩
  rw [(fre_eq d.1 z1).2]
  exact (opn_t d.1 z1).1
theorem stp_revoke (v : GX K X) (hB : K ≤ 10000000) : StpG (K + 100000) X (N_revoke X i) (R_revoke X i) := by
  have v0 := v
  obtain ⟨n, o, L, B, F, x, g, h⟩ := v
  have hn := x.hn
  have ho := x.ho
  unfold N_revoke R_revoke
  by_cases c0 : 0 ≤ i
  · rw [ci_t c0, ci_t c0]
    by_cases c1 : p_norec X i
    · rw [ci_t c1, ci_t c1]
      exact stp_err v0 hB (by decide)
    · rw [ci_f c1, ci_f c1]
      obtain ⟨j, ei, hj⟩ : ∃ j : Nat, i = nI j ∧ j < n := by
        have c2 : ¬ nI n ≤ i := fun q => c1 ((x.norec c0).mpr q)
        rw [i3_le, t_0] at c0
        rw [i3_le, nI_toInt (by omega)] at c2
        exact ⟨i.toInt.toNat, by rw [i3_eq, nI_toInt (by omega)]; omega, by omega⟩
      rw [ei, x.slot hj, nI_c (by omega)]
      have hz : n - 1 - j < n := by omega
      obtain ⟨z, ez⟩ : ∃ z : Nat, z = n - 1 - j := ⟨_, rfl⟩
      rw [← ez] at hz ⊢
      have xd := x.xd z hz
      have s8 := h z hz
      unfold N_rk R_rk
      by_cases c3 : X ((o + z) % 12 + 1) 14 0 = X 0 14 0
      · rw [ci_t c3, ci_t c3]
        by_cases c4 : p_rev X (X 13 0 ((o + z) % 12))
        · rw [ci_t c4, ci_t c4]
          exact stp_err v0 hB (by decide)
        · rw [ci_f c4, ci_f c4]
          by_cases c5 : X 13 1 ((o + z) % 12) = 8
          · rw [ci_t c5, ci_t c5]
            refine stp_rv v0 hB ?_
            rw [xd.2] at c5
            rw [(x.x8 z hz c5).2.2]
            exact s8.2.2 c5
          · rw [ci_f c5, ci_f c5]
            by_cases c6 : X 13 1 ((o + z) % 12) = 5
            · rw [ci_t c6, ci_t c6]
              exact stp_rc v0 hB
            · rw [ci_f c6, ci_f c6]
              exact stp_err v0 hB (by decide)
      · rw [ci_f c3, ci_f c3]
        exact stp_err v0 hB (by decide)
  · rw [ci_f c0, ci_f c0]
    exact stp_err v0 hB (by decide)
end
end
section
/-! WHAT THE LAW's isSound LOOKS AT: sums over heads and commitments, the tree of the heads -/
theorem sumI_add {f g : Nat → Int32} : ∀ {n : Nat}, sumI (fun k => f k + g k) n = sumI f n + sumI g n := by
  intro n
  induction n with
  | zero => rfl
  | succ n ih =>
    show sumI (fun k => f k + g k) n + (f n + g n) = sumI f n + f n + (sumI g n + g n)
    rw [ih]
    grind
theorem sumI_0 {f : Nat → Int32} : ∀ {n : Nat}, (∀ k, k < n → f k = 0) → sumI f n = 0 := by
  intro n
  induction n with
  | zero => exact fun _ => rfl
  | succ n ih =>
    intro h
    show sumI f n + f n = 0
    rw [ih (fun k hk => h k (by omega)), h n (by omega)]
    rfl
theorem sumI_swap {F : Nat → Nat → Int32} {m : Nat} : ∀ {n : Nat}, sumI (fun j => sumI (fun i => F i j) m) n = sumI (fun i => sumI (fun j => F i j) n) m := by
  intro n
  induction n with
  | zero => exact (sumI_0 (fun _ _ => rfl)).symm
  | succ n ih =>
    show sumI (fun j => sumI (fun i => F i j) m) n + sumI (fun i => F i n) m = sumI (fun i => sumI (fun j => F i j) n + F i n) m
    rw [ih, sumI_add]
theorem sumI_cio {P : Prop} {f : Nat → Int32} {n : Nat} : sumI (fun j => ci P (f j) 0) n = ci P (sumI f n) 0 := by
  by_cases c : P
  · rw [ci_t c]
    exact sumI_congr (fun k _ => ci_t c)
  · rw [ci_f c]
    exact sumI_0 (fun k _ => ci_f c)
theorem sumI_one {f : Nat → Int32} {i : Nat} : ∀ {n : Nat}, i < n → sumI (fun j => ci (j = i) (f j) 0) n = f i := by
  intro n hn
  have h := sumI_upd (f := fun _ => 0) (g := fun j => ci (j = i) (f j) 0) hn (fun k _ ne => ci_f ne)
  rw [sumI_0 (f := fun _ => 0) (fun _ _ => rfl)] at h
  rw [h]
  show 0 - 0 + ci (i = i) (f i) 0 = f i
  rw [ci_t rfl]
  grind
theorem sumI_le {f g : Nat → Int32} {M : Int} : ∀ {n : Nat}, (n : Int) * M ≤ 2000000000 → 0 ≤ M → (∀ k, k < n → 0 ≤ (f k).toInt ∧ (f k).toInt ≤ (g k).toInt ∧ (g k).toInt ≤ M) → (sumI f n).toInt ≤ (sumI g n).toInt := by
  intro n
  induction n with
  | zero => exact fun _ _ _ => Int.le_refl _
  | succ n ih =>
    intro h1 h2 h
    have e : ((n + 1 : Nat) : Int) * M = n * M + M := by rw [Int.natCast_succ, Int.add_mul, Int.one_mul]
    rw [e] at h1
    have w := ih (by omega) h2 (fun k hk => h k (by omega))
    have a1 := sumI_t (f := f) (n := n) (by omega) h2 (fun k hk => ⟨(h k (by omega)).1, by have := h k (by omega); omega⟩)
    have a2 := sumI_t (f := g) (n := n) (by omega) h2 (fun k hk => ⟨by have := h k (by omega); omega, (h k (by omega)).2.2⟩)
    have q := h n (by omega)
    show (sumI f n + f n).toInt ≤ (sumI g n + g n).toInt
    rw [ad_t (by omega), ad_t (by omega)]
    omega
section
variable {K : Int} {n : Nat} {r : Bk} {h c w : Int32}
theorem vc_0 {x : Int32} : v_count r x 0 = r 14 0 := by unfold v_count; rw [ci_t rfl]
theorem vc_1 {x : Int32} : v_count r x 1 = r 14 1 := by unfold v_count; rw [ci_f (by decide), ci_t rfl]
theorem vc_2 {x : Int32} : v_count r x 2 = r 14 2 := by unfold v_count; rw [ci_f (by decide), ci_f (by decide), ci_t rfl]
theorem vc_3 {x : Int32} : v_count r x 3 = p_open r 40 := by unfold v_count; rw [ci_f (by decide), ci_f (by decide), ci_f (by decide), ci_t rfl]
theorem vc_4 {x : Int32} : v_count r x 4 = p_cntb r 20 := by unfold v_count; rw [ci_f (by decide), ci_f (by decide), ci_f (by decide), ci_f (by decide), ci_t rfl]
theorem vc_5 {x : Int32} : v_count r x 5 = r 14 3 := by unfold v_count; rw [ci_f (by decide), ci_f (by decide), ci_f (by decide), ci_f (by decide), ci_f (by decide), ci_t rfl]
theorem vc_6 {x : Int32} : v_count r x 6 = p_sum r 0 0 20 := by unfold v_count; rw [ci_f (by decide), ci_f (by decide), ci_f (by decide), ci_f (by decide), ci_f (by decide), ci_f (by decide), ci_t rfl]
theorem vc_7 {x : Int32} : v_count r x 7 = r 14 4 := by unfold v_count; rw [ci_f (by decide), ci_f (by decide), ci_f (by decide), ci_f (by decide), ci_f (by decide), ci_f (by decide), ci_f (by decide), ci_t rfl]
theorem vc_8 {x : Int32} : v_count r x 8 = r 14 5 := by unfold v_count; rw [ci_f (by decide), ci_f (by decide), ci_f (by decide), ci_f (by decide), ci_f (by decide), ci_f (by decide), ci_f (by decide), ci_f (by decide), ci_t rfl]
theorem vc_9 {x : Int32} : v_count r x 9 = x := by unfold v_count; rw [ci_f (by decide), ci_f (by decide), ci_f (by decide), ci_f (by decide), ci_f (by decide), ci_f (by decide), ci_f (by decide), ci_f (by decide), ci_f (by decide), ci_t rfl]
theorem vc_10 {x : Int32} : v_count r x 10 = -1 := by unfold v_count; rw [ci_f (by decide), ci_f (by decide), ci_f (by decide), ci_f (by decide), ci_f (by decide), ci_f (by decide), ci_f (by decide), ci_f (by decide), ci_f (by decide), ci_f (by decide)]
/-- what is told of the number x, but for how many deeds are remembered -/
theorem vc_x {x y : Int32} {k : Nat} (hk : k < 9) : v_count r x (nI k) = v_count r y (nI k) := by
  rcases (show k = 0 ∨ k = 1 ∨ k = 2 ∨ k = 3 ∨ k = 4 ∨ k = 5 ∨ k = 6 ∨ k = 7 ∨ k = 8 by omega) with rfl | rfl | rfl | rfl | rfl | rfl | rfl | rfl | rfl
  · exact vc_0.trans vc_0.symm
  · exact vc_1.trans vc_1.symm
  · exact vc_2.trans vc_2.symm
  · exact vc_3.trans vc_3.symm
  · exact vc_4.trans vc_4.symm
  · exact vc_5.trans vc_5.symm
  · exact vc_6.trans vc_6.symm
  · exact vc_7.trans vc_7.symm
  · exact vc_8.trans vc_8.symm
theorem vh_0 (p : p_has r h) : v_head r h 0 = qv r 0 h := by unfold v_head; rw [ci_t p, ci_t rfl]
theorem vh_1 (p : p_has r h) : v_head r h 1 = qv r 9 h := by unfold v_head; rw [ci_t p, ci_f (by decide), ci_t rfl]
theorem vh_3 (p : p_has r h) : v_head r h 3 = qv r 2 h := by unfold v_head; rw [ci_t p, ci_f (by decide), ci_f (by decide), ci_f (by decide), ci_t rfl]
theorem vh_4 (p : p_has r h) : v_head r h 4 = ci (p_bar r 5 h) 1 0 := by unfold v_head; rw [ci_t p, ci_f (by decide), ci_f (by decide), ci_f (by decide), ci_f (by decide), ci_t rfl]
theorem vh_5 (p : p_has r h) : v_head r h 5 = qv r 3 h := by unfold v_head; rw [ci_t p, ci_f (by decide), ci_f (by decide), ci_f (by decide), ci_f (by decide), ci_f (by decide), ci_t rfl]
theorem vh_6 (p : p_has r h) : v_head r h 6 = qv r 4 h := by unfold v_head; rw [ci_t p, ci_f (by decide), ci_f (by decide), ci_f (by decide), ci_f (by decide), ci_f (by decide), ci_f (by decide), ci_t rfl]
theorem vh_7 (p : p_has r h) : v_head r h 7 = qv r 5 h := by unfold v_head; rw [ci_t p, ci_f (by decide), ci_f (by decide), ci_f (by decide), ci_f (by decide), ci_f (by decide), ci_f (by decide), ci_f (by decide), ci_t rfl]
theorem vh_8 (p : p_has r h) : v_head r h 8 = p_free r h := by unfold v_head; rw [ci_t p, ci_f (by decide), ci_f (by decide), ci_f (by decide), ci_f (by decide), ci_f (by decide), ci_f (by decide), ci_f (by decide), ci_f (by decide), ci_t rfl]
theorem vt_w (p : p_has r h) (h0 : 0 ≤ w.toInt) (h4 : w.toInt ≤ 4) : v_total r h w = p_sum r h w 20 := by
  unfold v_total
  rw [ci_t p, ci_f (by rw [i3_lt, t_0]; omega), ci_t (by rw [i3_le, t_4]; omega)]
theorem vm_0 (p : p_hasC r c) : v_comm r c 0 = qv r 10 c := by unfold v_comm; rw [ci_t p, ci_t rfl]
theorem vm_1 (p : p_hasC r c) : v_comm r c 1 = qv r 11 c := by unfold v_comm; rw [ci_t p, ci_f (by decide), ci_t rfl]
theorem vm_2 (p : p_hasC r c) : v_comm r c 2 = qv r 12 c := by unfold v_comm; rw [ci_t p, ci_f (by decide), ci_f (by decide), ci_t rfl]
theorem hasC_nI (o : Ok K r) {n : Nat} (hn : n < mc r) : p_hasC r (nI n) := by
  have h1 := mc_40 o
  have h2 : (nI n).toInt = n := nI_t (by omega)
  exact ⟨by omega, by omega, by omega⟩
theorem qv_nI {b k : Nat} (h : k ≤ 40) : qv r b (nI k) = r b k := by
  unfold qv
  rw [nI_c h]
theorem root_has (o : Ok K r) : p_has r 0 := by
  have h1 := o.S.1
  exact ⟨by rw [t_0]; omega, by rw [t_0]; omega, by rw [t_0]; omega⟩
-- a head's own numbers
theorem up_k (o : Ok K r) {k : Nat} (hk : k < md r) : (k = 0 ∧ qv r 0 (nI k) = -9) ∨ ∃ a : Nat, a < k ∧ a < md r ∧ qv r 0 (nI k) = nI a := by
  have h9 := md_20 o
  rw [qv_nI (by omega)]
  by_cases e : k = 0
  · subst e
    exact Or.inl ⟨rfl, o.S.2.1⟩
  · have s := o.S.2.2.2.1 k (by omega) (by omega)
    refine Or.inr ⟨(r 0 k).toInt.toNat, by omega, by omega, ?_⟩
    rw [i3_eq, nI_toInt (by omega)]
    omega
section
variable {k : Nat} {xk : Int32}
theorem sd_d0 (o : Ok K r) (hk : k < md r) (ek : xk = nI k) (c : ¬ 0 ≤ v_head r xk 0) : 0 = v_head r xk 1 := by
  subst ek
  have p := has_nI o hk
  have h9 := md_20 o
  rw [vh_0 p] at c
  rw [vh_1 p]
  rcases ok_up o p with u | u
  · rw [i3_eq, u.2, t_0]
  · exact absurd u.1.1 (by rw [i3_le, t_0] at c; exact c)
theorem sd_d1 (o : Ok K r) (hk : k < md r) (ek : xk = nI k) (c : 0 ≤ v_head r xk 0) : v_head r (v_head r xk 0) 1 + 1 = v_head r xk 1 := by
  subst ek
  have p := has_nI o hk
  have h9 := md_20 o
  rw [vh_0 p] at c ⊢
  rw [vh_1 p]
  rcases ok_up o p with u | u
  · rw [u.1] at c
    exact absurd c (by decide)
  · have d := ok_dep o u.1
    rw [vh_1 u.1, i3_eq, ad_t (by rw [t_1]; omega), t_1]
    omega
theorem sd_d4 (o : Ok K r) (hk : k < md r) (ek : xk = nI k) : ¬ 4 < v_head r xk 1 := by
  subst ek
  have p := has_nI o hk
  have d := ok_dep o p
  rw [vh_1 p, i3_lt, t_4]
  omega
theorem sd_b1 (o : Ok K r) (hk : k < md r) (ek : xk = nI k) (c : v_head r xk 3 = 1) : 1 = v_head r xk 4 := by
  subst ek
  have p := has_nI o hk
  rw [vh_3 p] at c
  rw [vh_4 p, ci_t ((bar_up o p).mpr (Or.inl c))]
theorem sd_b2 (o : Ok K r) (hk : k < md r) (ek : xk = nI k) (c : ¬ v_head r xk 3 = 1) (c2 : v_head r xk 0 < 0) : 0 = v_head r xk 4 := by
  subst ek
  have p := has_nI o hk
  rw [vh_3 p] at c
  rw [vh_0 p] at c2
  rw [vh_4 p, ci_f]
  intro z
  rcases (bar_up o p).mp z with z | z
  · exact c z
  · have q := (bar_has z).1
    rw [i3_lt, t_0] at c2
    omega
theorem sd_b3 (o : Ok K r) (hk : k < md r) (ek : xk = nI k) (c : ¬ v_head r xk 3 = 1) (c2 : ¬ v_head r xk 0 < 0) (c3 : ¬ v_head r (v_head r xk 0) 4 = 1) : 0 = v_head r xk 4 := by
  subst ek
  have p := has_nI o hk
  rw [vh_3 p] at c
  rw [vh_0 p] at c3
  rw [vh_4 p, ci_f]
  intro z
  rcases (bar_up o p).mp z with z | z
  · exact c z
  · exact c3 (by rw [vh_4 (bar_has z), ci_t z])
theorem sd_b4 (o : Ok K r) (hk : k < md r) (ek : xk = nI k) (c3 : v_head r (v_head r xk 0) 4 = 1) : 1 = v_head r xk 4 := by
  subst ek
  have p := has_nI o hk
  rw [vh_0 p] at c3
  have z : p_bar r 5 (qv r 0 (nI k)) := by
    by_cases y : p_bar r 5 (qv r 0 (nI k))
    · exact y
    · exfalso
      by_cases u : p_has r (qv r 0 (nI k))
      · rw [vh_4 u, ci_f y] at c3
        exact absurd c3 (by decide)
      · unfold v_head at c3
        rw [ci_f u] at c3
        exact absurd c3 (by decide)
  rw [vh_4 p, ci_t ((bar_up o p).mpr (Or.inr z))]
theorem sd_f (o : Ok K r) (hk : k < md r) (ek : xk = nI k) : v_head r xk 8 = v_head r xk 5 - v_head r xk 6 - v_head r xk 7 := by
  subst ek
  have p := has_nI o hk
  rw [vh_8 p, vh_5 p, vh_6 p, vh_7 p, free_fr p]
  rfl
theorem sd_nn (o : Ok K r) (hk : k < md r) (ek : xk = nI k) : ¬ v_head r xk 8 < 0 := by
  subst ek
  have p := has_nI o hk
  have f := free_t o (h := nI k)
  rw [vh_8 p, i3_lt, t_0]
  omega
theorem sd_lt (o : Ok K r) (hk : k < md r) (ek : xk = nI k) : v_head r xk 0 < xk := by
  subst ek
  have p := has_nI o hk
  have h9 := md_20 o
  rw [vh_0 p, i3_lt, nI_toInt (by omega)]
  rcases up_k o hk with u | ⟨a, u1, u2, u3⟩
  · rw [u.2, t_m9]
    omega
  · rw [u3, nI_toInt (by omega)]
    omega
theorem sd_s1 (o : Ok K r) (hk : k < md r) (ek : xk = nI k) {w : Nat} {xw : Int32} (ew : xw = nI w) (hw : w < 4) (c : ¬ 3 ≤ xw) : v_head r xk (5 + xw) = p_smd r xk xw := by
  subst ek ew
  have p := has_nI o hk
  rw [i3_le, nI_toInt (by omega), show (3 : Int32).toInt = 3 by decide] at c
  unfold p_smd
  rw [ci_t p]
  rcases (show w = 0 ∨ w = 1 ∨ w = 2 by omega) with rfl | rfl | rfl
  · rw [show (5 : Int32) + nI 0 = 5 from rfl, vh_5 p, ci_t (P := nI 0 = 0) rfl]
  · rw [show (5 : Int32) + nI 1 = 6 from rfl, vh_6 p, ci_f (by decide), ci_t (P := nI 1 = 1) rfl]
  · rw [show (5 : Int32) + nI 2 = 7 from rfl, vh_7 p, ci_f (by decide), ci_f (by decide), ci_t (P := nI 2 = 2) rfl]
theorem sd_s2 (o : Ok K r) (hk : k < md r) (ek : xk = nI k) {w : Nat} {xw : Int32} (ew : xw = nI w) (hw : w < 4) (c : 3 ≤ xw) : v_head r xk 8 = p_smd r xk xw := by
  subst ek ew
  have p := has_nI o hk
  rw [i3_le, nI_toInt (by omega), show (3 : Int32).toInt = 3 by decide] at c
  have e : w = 3 := by omega
  subst e
  unfold p_smd
  rw [ci_t p, vh_8 p, ci_f (by decide), ci_f (by decide), ci_f (by decide), ci_t (P := nI 3 = 3) rfl]
end
-- the tree
theorem wit_k (o : Ok K r) {j i : Nat} (hj : j < md r) : p_wit r 5 (nI j) (nI i) ↔ nI j = nI i ∨ p_wit r 5 (qv r 0 (nI j)) (nI i) := wit_mb o (has_nI o hj)
theorem nI_20 {j i : Nat} (hj : j < 40) (hi : i < 40) : nI j = nI i ↔ j = i := nI_eq (by omega) (by omega)
def kid (r : Bk) (k i : Nat) : Prop := k < i ∧ qv r 0 (nI i) = nI k
theorem tree (o : Ok K r) {k : Nat} (hk : k < md r) (f : Int32) : ∀ j : Nat, j < md r → ci (p_wit r 5 (nI j) (nI k)) f 0 = ci (j = k) f 0 + sumI (fun i => ci (kid r k i) (ci (p_wit r 5 (nI j) (nI i)) f 0) 0) (md r) := by
  have h9 := md_20 o
  intro j
  induction j using Nat.strongRecOn with
  | _ j ih =>
    intro hj
    rcases up_k o hj with ⟨e, u⟩ | ⟨a, u1, u2, u3⟩
    · have W : ∀ i : Nat, i < 20 → (p_wit r 5 (nI j) (nI i) ↔ j = i) := fun i hi => by
        rw [wit_k o hj, u, nI_20 (by omega) (by omega)]
        exact ⟨fun z => z.elim id (fun z => absurd z wit_no9), Or.inl⟩
      rw [sumI_0 (fun i hi => ?_)]
      · rw [show p_wit r 5 (nI j) (nI k) = (j = k) from propext (W k (by omega))]
        grind
      · by_cases y : kid r k i
        · rw [ci_t y, ci_f (fun z => ?_)]
          have q := (W i (by omega)).mp z
          have := y.1
          omega
        · rw [ci_f y]
    · have ne : ∀ i : Nat, i < md r → nI j = nI i → ¬ p_wit r 5 (nI a) (nI i) := fun i hi z1 z2 => by
        rw [← z1, ← u3] at z2
        exact mb_ne o (has_nI o hj) (has_nI o hj) z2 rfl
      have S : ∀ i : Nat, i < md r → ci (p_wit r 5 (nI j) (nI i)) f 0 = ci (j = i) f 0 + ci (p_wit r 5 (nI a) (nI i)) f 0 := fun i hi => by
        by_cases y : j = i
        · subst y
          rw [ci_t ((wit_k o hj).mpr (Or.inl rfl)), ci_t (P := j = j) rfl, ci_f (ne j hj rfl)]
          grind
        · rw [ci_f y]
          have e : p_wit r 5 (nI j) (nI i) = p_wit r 5 (nI a) (nI i) := propext (by
            rw [wit_k o hj, u3]
            exact ⟨fun z => z.elim (fun z => absurd ((nI_20 (by omega) (by omega)).mp z) y) id, Or.inr⟩)
          rw [e]
          grind
      have A := ih a u1 u2
      have T : sumI (fun i => ci (kid r k i) (ci (p_wit r 5 (nI j) (nI i)) f 0) 0) (md r) = ci (a = k) f 0 + sumI (fun i => ci (kid r k i) (ci (p_wit r 5 (nI a) (nI i)) f 0) 0) (md r) := by
        rw [sumI_congr (g := fun i => ci (i = j) (ci (kid r k i) f 0) 0 + ci (kid r k i) (ci (p_wit r 5 (nI a) (nI i)) f 0) 0) (fun i hi => by
          show ci (kid r k i) (ci (p_wit r 5 (nI j) (nI i)) f 0) 0 = ci (i = j) (ci (kid r k i) f 0) 0 + ci (kid r k i) (ci (p_wit r 5 (nI a) (nI i)) f 0) 0
          rw [S i hi]
          by_cases y : kid r k i
          · rw [ci_t y, ci_t y, ci_t y, show (j = i) = (i = j) from propext ⟨Eq.symm, Eq.symm⟩]
          · rw [ci_f y, ci_f y, ci_f y]
            by_cases x : i = j
            · rw [ci_t x]
              rfl
            · rw [ci_f x]
              rfl), sumI_add, sumI_one hj]
        have e : kid r k j = (a = k) := propext (by
          unfold kid
          rw [u3, nI_20 (by omega) (by omega)]
          exact ⟨fun z => z.2, fun z => ⟨by omega, z⟩⟩)
        rw [e]
      rw [S k hk, A, T]
theorem sum_tree (o : Ok K r) {k : Nat} (hk : k < md r) : p_sum r (nI k) w 20 = p_smd r (nI k) w + sumI (fun i => ci (kid r k i) (p_sum r (nI i) w 20) 0) (md r) := by
  have h9 := md_20 o
  have C : ∀ t : Int32, p_sum r t w 20 = sumI (fun j => ci (p_wit r 5 (nI j) t) (p_smd r (nI j) w) 0) (md r) := fun t =>
    sumI_cut h9.2.1 (fun j h1 h2 => ci_f (fun z => has_no o h1 (by omega) (wit_has z)))
  rw [C (nI k), sumI_congr (fun j hj => tree o hk (p_smd r (nI j) w) j hj), sumI_add, sumI_one (f := fun j => p_smd r (nI j) w) hk, sumI_swap (F := fun i j => ci (kid r k i) (ci (p_wit r 5 (nI j) (nI i)) (p_smd r (nI j) w) 0) 0)]
  rw [sumI_congr (g := fun i => ci (kid r k i) (p_sum r (nI i) w 20) 0) (fun i hi => by
    show sumI (fun j => ci (kid r k i) (ci (p_wit r 5 (nI j) (nI i)) (p_smd r (nI j) w) 0) 0) (md r) = ci (kid r k i) (p_sum r (nI i) w 20) 0
    rw [sumI_cio, C (nI i)])]
end
end
section
/-! WHAT isSound COUNTS, loop by loop -/
section
variable {f : Nat → Int32} {k : Nat} {x a B : Int32} {P : Prop}
theorem nx_t (ea : a = B + sumI f k) (h : P) (e : f k = ci P x 0) : a + x = B + sumI f (k + 1) := by
  rw [sumI_ci h e, ea]
  grind
theorem nx_f (ea : a = B + sumI f k) (h : ¬ P) (e : f k = ci P x 0) : a + 0 = B + sumI f (k + 1) := by
  rw [sumI_c0 h e, ea]
  grind
theorem nz_t (ea : a = sumI f k) (h : P) (e : f k = ci P x 0) : a + x = sumI f (k + 1) := by rw [sumI_ci h e, ea]
theorem nz_f (ea : a = sumI f k) (h : ¬ P) (e : f k = ci P x 0) : a + 0 = sumI f (k + 1) := by
  rw [sumI_c0 h e, ea]
  grind
theorem nz_x (ea : a = sumI f k) (e : f k = x) : a + x = sumI f (k + 1) := by
  rw [ea, ← e]
  rfl
end
section
variable {K : Int} {k : Nat} {r : Bk} {xk xw n : Int32}
noncomputable def s_kid (r : Bk) (k : Nat) (xk xw : Int32) (m : Nat) : Int32 := sumI (fun i => ci (k < i ∧ v_head r (nI i) 0 = xk) (v_total r (nI i) xw) 0) m
noncomputable def s_cmm (r : Bk) (xk : Int32) (m : Nat) : Int32 := sumI (fun i => ci (v_comm r (nI i) 0 = xk) (v_comm r (nI i) 1) 0) m
theorem sd_k0 : p_smd r xk xw = p_smd r xk xw + s_kid r k xk xw (k + 1) := by
  unfold s_kid
  rw [sumI_0 (fun i hi => ci_f (fun z => by have := z.1; omega))]
  grind
theorem sd_k1 {j : Nat} {xj a : Int32} (ej : xj = nI j) (hkj : k < j) (ea : a = p_smd r xk xw + s_kid r k xk xw j) (h : v_head r xj 0 = xk) : a + v_total r xj xw = p_smd r xk xw + s_kid r k xk xw (j + 1) := by
  subst ej
  exact nx_t ea (P := k < j ∧ v_head r (nI j) 0 = xk) ⟨hkj, h⟩ rfl
theorem sd_k2 {j : Nat} {xj a : Int32} (ej : xj = nI j) (ea : a = p_smd r xk xw + s_kid r k xk xw j) (h : ¬ v_head r xj 0 = xk) : a + 0 = p_smd r xk xw + s_kid r k xk xw (j + 1) := by
  subst ej
  exact nx_f ea (P := k < j ∧ v_head r (nI j) 0 = xk) (fun z => h z.2) (x := v_total r (nI j) xw) rfl
theorem sd_c0 : 0 = s_cmm r xk 0 := rfl
theorem sd_c1 {j : Nat} {xj a : Int32} (ej : xj = nI j) (ea : a = s_cmm r xk j) (h : v_comm r xj 0 = xk) : a + v_comm r xj 1 = s_cmm r xk (j + 1) := by
  subst ej
  exact nz_t ea h rfl
theorem sd_c2 {j : Nat} {xj a : Int32} (ej : xj = nI j) (ea : a = s_cmm r xk j) (h : ¬ v_comm r xj 0 = xk) : a + 0 = s_cmm r xk (j + 1) := by
  subst ej
  exact nz_f ea h (x := v_comm r (nI j) 1) rfl
theorem sd_tot (o : Ok K r) (hk : k < md r) (ek : xk = nI k) {w : Nat} (ew : xw = nI w) (hw : w < 4) : v_total r xk xw = p_smd r xk xw + s_kid r k xk xw (md r) := by
  subst ek ew
  have h9 := md_20 o
  have t : (nI w).toInt = w := nI_toInt (by omega)
  rw [vt_w (has_nI o hk) (by omega) (by omega), sum_tree o hk]
  refine congrArg _ (sumI_congr (fun i hi => ?_))
  show ci (kid r k i) (p_sum r (nI i) (nI w) 20) 0 = ci (k < i ∧ v_head r (nI i) 0 = nI k) (v_total r (nI i) (nI w)) 0
  rw [vt_w (has_nI o hi) (by omega) (by omega), vh_0 (has_nI o hi)]
  rfl
theorem sd_com (g : Gd K r) (hk : k < md r) (ek : xk = nI k) : s_cmm r xk (mc r) = v_head r xk 6 := by
  subst ek
  have h9 := md_20 g.1
  have h8 := mc_40 g.1
  rw [vh_6 (has_nI g.1 hk), qv_nI (by omega), g.2.1 k (by omega)]
  unfold s_com s_cmm
  rw [sumI_cut (f := fun c => ci (r 10 c = nI k) (r 11 c) 0) (n := mc r) (m := 40) h8.1 (fun c h1 h2 => by
    rw [((g.1.C c h2).2 (by omega)).1]
    by_cases z : r 10 c = nI k
    · exact ci_t z
    · exact ci_f z)]
  refine sumI_congr (fun i hi => ?_)
  show ci (v_comm r (nI i) 0 = nI k) (v_comm r (nI i) 1) 0 = ci (r 10 i = nI k) (r 11 i) 0
  rw [vm_0 (hasC_nI g.1 hi), vm_1 (hasC_nI g.1 hi), qv_nI (by omega), qv_nI (by omega)]
theorem sd_bar (o : Ok K r) : v_count r n 4 = sumI (fun i => v_head r (nI i) 4) (md r) := by
  rw [vc_4, cntb_md o]
  exact sumI_congr (fun i hi => (vh_4 (has_nI o hi)).symm)
theorem sd_all (o : Ok K r) : v_count r n 6 = sumI (fun i => v_head r (nI i) 5) (md r) := by
  rw [vc_6, ← sum_all o]
  exact sumI_congr (fun i hi => (vh_5 (has_nI o hi)).symm)
theorem sd_open (o : Ok K r) : v_count r n 3 = sumI (fun i => ci (0 < v_comm r (nI i) 1) 1 0) (mc r) := by
  have h8 := mc_40 o
  rw [vc_3, open_mc o]
  refine sumI_congr (fun i hi => ?_)
  show ci (0 < r 11 i) 1 0 = ci (0 < v_comm r (nI i) 1) 1 0
  rw [vm_1 (hasC_nI o hi), qv_nI (by omega)]
theorem sd_paid (g : Gd K r) : v_count r n 8 = sumI (fun i => v_comm r (nI i) 2) (mc r) := by
  have h8 := mc_40 g.1
  rw [vc_8, g.2.2.1]
  unfold s_paid
  rw [sumI_cut (n := mc r) (m := 40) h8.1 (fun c h1 h2 => ((g.1.C c h2).2 (by omega)).2)]
  refine sumI_congr (fun i hi => ?_)
  show r 12 i = v_comm r (nI i) 2
  rw [vm_2 (hasC_nI g.1 hi), qv_nI (by omega)]
theorem sum_md (o : Ok K r) {t w : Int32} : p_sum r t w 20 = sumI (fun j => ci (p_wit r 5 (nI j) t) (p_smd r (nI j) w) 0) (md r) :=
  sumI_cut (md_20 o).2.1 (fun j h1 h2 => ci_f (fun z => has_no o h1 (by have := md_20 o; omega) (wit_has z)))
theorem sum_root (o : Ok K r) {w : Int32} : p_sum r 0 w 20 = sumI (fun j => p_smd r (nI j) w) (md r) := by
  rw [sum_md o]
  exact sumI_congr (fun j hj => ci_t (root_wit o j hj))
theorem sumI_1 : ∀ m : Nat, sumI (fun _ => 1) m = nI m := by
  intro m
  induction m with
  | zero => rfl
  | succ m ih =>
    show sumI (fun _ => 1) m + 1 = nI (m + 1)
    rw [ih, nI_1]
theorem sd_n (o : Ok K r) : v_total r 0 4 = v_count r n 1 := by
  have h9 := md_20 o
  rw [vt_w (root_has o) (by decide) (by decide), vc_1, sum_root o, sumI_congr (g := fun _ => 1) (fun j hj => by
    show p_smd r (nI j) 4 = 1
    unfold p_smd
    rw [ci_t (has_nI o hj), ci_f (by decide), ci_f (by decide), ci_f (by decide), ci_f (by decide)]), sumI_1, i3_eq, nI_toInt (by omega)]
  omega
theorem vt_free (o : Ok K r) : v_total r 0 3 = sumI (fun j => p_free r (nI j)) (md r) := by
  rw [vt_w (root_has o) (by decide) (by decide), sum_root o]
  refine sumI_congr (fun j hj => ?_)
  unfold p_smd
  rw [ci_t (has_nI o hj), ci_f (by decide), ci_f (by decide), ci_f (by decide), ci_t rfl]
theorem vt_0 (o : Ok K r) : v_total r 0 0 = sumI (fun j => r 3 j) (md r) := by
  have h9 := md_20 o
  rw [vt_w (root_has o) (by decide) (by decide), sum_root o]
  refine sumI_congr (fun j hj => ?_)
  unfold p_smd
  rw [ci_t (has_nI o hj), ci_t rfl, qv_nI (by omega)]
theorem vt_1 (o : Ok K r) : v_total r 0 1 = sumI (fun j => r 4 j) (md r) := by
  have h9 := md_20 o
  rw [vt_w (root_has o) (by decide) (by decide), sum_root o]
  refine sumI_congr (fun j hj => ?_)
  unfold p_smd
  rw [ci_t (has_nI o hj), ci_f (by decide), ci_t rfl, qv_nI (by omega)]
theorem vt_2 (o : Ok K r) : v_total r 0 2 = sumI (fun j => r 5 j) (md r) := by
  have h9 := md_20 o
  rw [vt_w (root_has o) (by decide) (by decide), sum_root o]
  refine sumI_congr (fun j hj => ?_)
  unfold p_smd
  rw [ci_t (has_nI o hj), ci_f (by decide), ci_f (by decide), ci_t rfl, qv_nI (by omega)]
theorem lapse_md (o : Ok K r) : v_lapse r 0 = sumI (fun j => p_free r (nI j) - p_part (p_free r (nI j)) (r 14 3)) (md r) := by
  have h9 := md_20 o
  unfold v_lapse p_lapse
  rw [ci_t (root_has o), sumI_cut h9.2.1 (fun k h1 h2 => ci_f (fun z => has_no o h1 (by omega) (wit_has z)))]
  exact sumI_congr (fun j hj => ci_t (root_wit o j hj))
theorem sd_lapse (o : Ok K r) (hB : K ≤ 10000000) : ¬ v_total r 0 3 < v_lapse r 0 := by
  have h9 := md_20 o
  rw [vt_free o, lapse_md o, i3_lt]
  have q := sumI_le (f := fun j => p_free r (nI j) - p_part (p_free r (nI j)) (r 14 3)) (g := fun j => p_free r (nI j)) (M := 20000000) (n := md r) (by omega) (by omega) (fun k hk => lapse1_t o hB)
  omega
/-! the loops' ends -/
theorem lp_h (o : Ok K r) {i : Nat} {xi : Int32} (ei : xi = nI i) (hi : i ≤ md r) (c : ¬ v_count r n 1 ≤ xi) : i < md r ∧ i < 20 := by
  rw [vc_1, ei] at c
  exact md_lt o hi c
theorem lp_he (o : Ok K r) {i : Nat} {xi : Int32} (ei : xi = nI i) (hi : i ≤ md r) (c : v_count r n 1 ≤ xi) : i = md r := by
  rw [vc_1, ei] at c
  exact md_ge o hi c
theorem lp_c (o : Ok K r) {i : Nat} {xi : Int32} (ei : xi = nI i) (hi : i ≤ mc r) (c : ¬ v_count r n 2 ≤ xi) : i < mc r ∧ i < 40 := by
  rw [vc_2, ei] at c
  exact mc_lt o hi c
theorem lp_ce (o : Ok K r) {i : Nat} {xi : Int32} (ei : xi = nI i) (hi : i ≤ mc r) (c : v_count r n 2 ≤ xi) : i = mc r := by
  rw [vc_2, ei] at c
  exact mc_ge o hi c
theorem lp_4 {i : Nat} {xi : Int32} (ei : xi = nI i) (hi : i ≤ 4) (c : ¬ 4 ≤ xi) : i < 4 := by
  rw [ei, i3_le, nI_toInt (by omega), t_4] at c
  omega
theorem lp_9 {i : Nat} {xi : Int32} (ei : xi = nI i) (hi : i ≤ 9) (c : ¬ 9 ≤ xi) : i < 9 := by
  rw [ei, i3_le, nI_toInt (by omega), t_9] at c
  omega
theorem lp_9e {i : Nat} {xi : Int32} (ei : xi = nI i) (hi : i ≤ 9) (c : 9 ≤ xi) : i = 9 := by
  rw [ei, i3_le, nI_toInt (by omega), t_9] at c
  omega
theorem lp_12 {i : Nat} {xi : Int32} (ei : xi = nI i) (hi : i ≤ 12) (c : ¬ 12 ≤ xi) : i < 12 := by
  rw [ei, i3_le, nI_toInt (by omega), t_12] at c
  omega
theorem lp_12e {i : Nat} {xi : Int32} (ei : xi = nI i) (hi : i ≤ 12) (c : 12 ≤ xi) : i = 12 := by
  rw [ei, i3_le, nI_toInt (by omega), t_12] at c
  omega
end
end
