section
-- a starting text (kit/laws/SKELETON.whole, PART A)
-- ===== PART A: goes FIRST, ahead of the names: the tables' words, and 'selects' of the private methods out of them =====
/-- a private method of a class that the tables say can be made, by its rows of tables_1 -/
def lw_okq (q : MethodName × Nat) : Prop := (q.1.cls ≠ "java/lang/invoke/MethodHandle" ∧ q.1.cls ≠ "java/lang/invoke/VarHandle") ∧ Cond.instantiable q.1.cls q.2 ∈ tables_1 ∧ Cond.privateMethod q.1 ∈ tables_1 ∧ Cond.instanceMethod q.1 ∈ tables_1
theorem lw_p0 : lw_okq (⟨"KeyDesk$Slips", "leastSum", "(LKeyDesk$Row;IILKeyDesk$Row;I)I"⟩, 2) := ⟨⟨by decide +kernel, by decide +kernel⟩, List.mem_of_getElem? (i := 121) (by decide +kernel), List.mem_of_getElem? (i := 424) (by decide +kernel), List.mem_of_getElem? (i := 425) (by decide +kernel)⟩
theorem lw_p1 : lw_okq (⟨"KeyDesk$Slips", "priceOfOne", "(II)I"⟩, 2) := ⟨⟨by decide +kernel, by decide +kernel⟩, List.mem_of_getElem? (i := 121) (by decide +kernel), List.mem_of_getElem? (i := 432) (by decide +kernel), List.mem_of_getElem? (i := 433) (by decide +kernel)⟩
theorem lw_p2 : lw_okq (⟨"KeyDesk", "gather", "(IIII)V"⟩, 12) := ⟨⟨by decide +kernel, by decide +kernel⟩, List.mem_of_getElem? (i := 15) (by decide +kernel), List.mem_of_getElem? (i := 450) (by decide +kernel), List.mem_of_getElem? (i := 451) (by decide +kernel)⟩
theorem lw_p3 : lw_okq (⟨"KeyDesk$Hands", "isOf", "(III)Z"⟩, 6) := ⟨⟨by decide +kernel, by decide +kernel⟩, List.mem_of_getElem? (i := 226) (by decide +kernel), List.mem_of_getElem? (i := 479) (by decide +kernel), List.mem_of_getElem? (i := 480) (by decide +kernel)⟩
theorem lw_p4 : lw_okq (⟨"KeyDesk$Hands", "faded", "(I)I"⟩, 6) := ⟨⟨by decide +kernel, by decide +kernel⟩, List.mem_of_getElem? (i := 226) (by decide +kernel), List.mem_of_getElem? (i := 484) (by decide +kernel), List.mem_of_getElem? (i := 485) (by decide +kernel)⟩
theorem lw_p5 : lw_okq (⟨"KeyDesk$Guesses", "goesAhead", "(III)Z"⟩, 3) := ⟨⟨by decide +kernel, by decide +kernel⟩, List.mem_of_getElem? (i := 136) (by decide +kernel), List.mem_of_getElem? (i := 493) (by decide +kernel), List.mem_of_getElem? (i := 494) (by decide +kernel)⟩
theorem lw_p6 : lw_okq (⟨"KeyDesk$Hands", "drawLot", "(I)I"⟩, 6) := ⟨⟨by decide +kernel, by decide +kernel⟩, List.mem_of_getElem? (i := 226) (by decide +kernel), List.mem_of_getElem? (i := 604) (by decide +kernel), List.mem_of_getElem? (i := 605) (by decide +kernel)⟩
theorem lw_p7 : lw_okq (⟨"KeyDesk", "toldOfOne", "(I)I"⟩, 12) := ⟨⟨by decide +kernel, by decide +kernel⟩, List.mem_of_getElem? (i := 15) (by decide +kernel), List.mem_of_getElem? (i := 636) (by decide +kernel), List.mem_of_getElem? (i := 637) (by decide +kernel)⟩
def lw_privs_1 : List (MethodName × Nat) := [(⟨"KeyDesk$Slips", "leastSum", "(LKeyDesk$Row;IILKeyDesk$Row;I)I"⟩, 2), (⟨"KeyDesk$Slips", "priceOfOne", "(II)I"⟩, 2), (⟨"KeyDesk", "gather", "(IIII)V"⟩, 12), (⟨"KeyDesk$Hands", "isOf", "(III)Z"⟩, 6), (⟨"KeyDesk$Hands", "faded", "(I)I"⟩, 6), (⟨"KeyDesk$Guesses", "goesAhead", "(III)Z"⟩, 3), (⟨"KeyDesk$Hands", "drawLot", "(I)I"⟩, 6), (⟨"KeyDesk", "toldOfOne", "(I)I"⟩, 12)]
theorem lw_r1 : ∀ q ∈ lw_privs_1, lw_okq q := List.forall_mem_cons.mpr ⟨lw_p0, List.forall_mem_cons.mpr ⟨lw_p1, List.forall_mem_cons.mpr ⟨lw_p2, List.forall_mem_cons.mpr ⟨lw_p3, List.forall_mem_cons.mpr ⟨lw_p4, List.forall_mem_cons.mpr ⟨lw_p5, List.forall_mem_cons.mpr ⟨lw_p6, List.forall_mem_cons.mpr ⟨lw_p7, fun _ h => absurd h List.not_mem_nil⟩⟩⟩⟩⟩⟩⟩⟩
def lw_privs : List (MethodName × Nat) := lw_privs_1
def lw_tbl : List Cond := k2_sels lw_privs ++ tables_1
theorem lw_privs_ok : ∀ q ∈ lw_privs, lw_okq q := lw_r1
end
section
-- names and field tables, taken by program (wip/p49/gen/mk02.py) out of the printed NAMES.whole
def RX0 : String := "KeyDesk$Choice"
def TX0 : u_T := fun k => match k with
  | 0 => ("KeyDesk$Choice", "words", "LKeyDesk$Words;", true)
  | 1 => ("KeyDesk$Choice", "together", "[[I", true)
  | 2 => ("KeyDesk$Choice", "pairs", "I", false)
  | 3 => ("KeyDesk$Choice", "pad", "LKeyDesk$Row;", true)
  | 4 => ("KeyDesk$Choice", "fixed", "LKeyDesk$Row;", true)
  | 5 => ("KeyDesk$Choice", "chosenWords", "LKeyDesk$Row;", true)
  | 6 => ("KeyDesk$Choice", "greatest", "[[J", true)
  | _ => ("KeyDesk$Choice", "nextWords", "[[I", true)
def tyX0 : Nat → FieldType := fun k => match k with
  | 0 => .object "KeyDesk$Words"
  | 1 => .array (.array .int)
  | 2 => .int
  | 3 => .object "KeyDesk$Row"
  | 4 => .object "KeyDesk$Row"
  | 5 => .object "KeyDesk$Row"
  | 6 => .array (.array .long)
  | _ => .array (.array .int)
abbrev wsX00 : List Cond := u_ws RX0 TX0 8
theorem nmX0 : ∀ a, a < 8 → ∀ b, b < 8 → a ≠ b → (TX0 a).2.1 ≠ (TX0 b).2.1 := by decide +kernel
theorem tyX0_ok : ∀ k, k < 8 → parseFieldDescriptor (TX0 k).2.2.1 = some (tyX0 k) := by decide +kernel
abbrev cX0_init : ByteArray := prog_2_method_1_code
def yX0_init : MethodName := ⟨RX0, "<init>", "(LKeyDesk$Words;)V"⟩
abbrev cX0_pairs : ByteArray := prog_2_method_2_code
def yX0_pairs : MethodName := ⟨RX0, "pairs", "()I"⟩
abbrev cX0_padSize : ByteArray := prog_2_method_5_code
def yX0_padSize : MethodName := ⟨RX0, "padSize", "()I"⟩
def RX1 : String := "KeyDesk$Guesses"
def TX1 : u_T := fun k => match k with
  | 0 => ("KeyDesk$Guesses", "found", "LKeyDesk$Row;", true)
  | 1 => ("KeyDesk$Guesses", "prices", "LKeyDesk$Row;", true)
  | _ => ("KeyDesk$Guesses", "weights", "LKeyDesk$Row;", true)
def tyX1 : Nat → FieldType := fun k => match k with
  | 0 => .object "KeyDesk$Row"
  | 1 => .object "KeyDesk$Row"
  | _ => .object "KeyDesk$Row"
abbrev wsX10 : List Cond := u_ws RX1 TX1 3
theorem nmX1 : ∀ a, a < 3 → ∀ b, b < 3 → a ≠ b → (TX1 a).2.1 ≠ (TX1 b).2.1 := by decide +kernel
theorem tyX1_ok : ∀ k, k < 3 → parseFieldDescriptor (TX1 k).2.2.1 = some (tyX1 k) := by decide +kernel
abbrev cX1_init : ByteArray := prog_3_method_1_code
def yX1_init : MethodName := ⟨RX1, "<init>", "()V"⟩
abbrev cX1_clear : ByteArray := prog_3_method_2_code
def yX1_clear : MethodName := ⟨RX1, "clear", "()V"⟩
abbrev cX1_insert : ByteArray := prog_3_method_3_code
def yX1_insert : MethodName := ⟨RX1, "insert", "(III)V"⟩
abbrev cX1_goesAhead : ByteArray := prog_3_method_4_code
def yX1_goesAhead : MethodName := ⟨RX1, "goesAhead", "(III)Z"⟩
abbrev cX1_guessAt : ByteArray := prog_3_method_5_code
def yX1_guessAt : MethodName := ⟨RX1, "guessAt", "(I)I"⟩
def RX2 : String := "KeyDesk$Hands"
def TX2 : u_T := fun k => match k with
  | 0 => ("KeyDesk$Hands", "handsOfLearnings", "LKeyDesk$Row;", true)
  | 1 => ("KeyDesk$Hands", "wordsOfLearnings", "LKeyDesk$Row;", true)
  | 2 => ("KeyDesk$Hands", "daysOfLearnings", "LKeyDesk$Row;", true)
  | 3 => ("KeyDesk$Hands", "budgets", "[I", true)
  | 4 => ("KeyDesk$Hands", "fading", "I", false)
  | _ => ("KeyDesk$Hands", "lotSeed", "I", false)
def tyX2 : Nat → FieldType := fun k => match k with
  | 0 => .object "KeyDesk$Row"
  | 1 => .object "KeyDesk$Row"
  | 2 => .object "KeyDesk$Row"
  | 3 => .array .int
  | 4 => .int
  | _ => .int
abbrev wsX20 : List Cond := u_ws RX2 TX2 6
theorem nmX2 : ∀ a, a < 6 → ∀ b, b < 6 → a ≠ b → (TX2 a).2.1 ≠ (TX2 b).2.1 := by decide +kernel
theorem tyX2_ok : ∀ k, k < 6 → parseFieldDescriptor (TX2 k).2.2.1 = some (tyX2 k) := by decide +kernel
abbrev cX2_init : ByteArray := prog_4_method_1_code
def yX2_init : MethodName := ⟨RX2, "<init>", "()V"⟩
abbrev cX2_learnings : ByteArray := prog_4_method_2_code
def yX2_learnings : MethodName := ⟨RX2, "learnings", "()I"⟩
abbrev cX2_isFull : ByteArray := prog_4_method_3_code
def yX2_isFull : MethodName := ⟨RX2, "isFull", "()Z"⟩
abbrev cX2_addLearning : ByteArray := prog_4_method_4_code
def yX2_addLearning : MethodName := ⟨RX2, "addLearning", "(III)I"⟩
abbrev cX2_latestDay : ByteArray := prog_4_method_5_code
def yX2_latestDay : MethodName := ⟨RX2, "latestDay", "(I)I"⟩
abbrev cX2_worthOf : ByteArray := prog_4_method_6_code
def yX2_worthOf : MethodName := ⟨RX2, "worthOf", "(III)I"⟩
abbrev cX2_isOf : ByteArray := prog_4_method_7_code
def yX2_isOf : MethodName := ⟨RX2, "isOf", "(III)Z"⟩
abbrev cX2_faded : ByteArray := prog_4_method_8_code
def yX2_faded : MethodName := ⟨RX2, "faded", "(I)I"⟩
abbrev cX2_dropLearnings : ByteArray := prog_4_method_9_code
def yX2_dropLearnings : MethodName := ⟨RX2, "dropLearnings", "(II)I"⟩
abbrev cX2_setFade : ByteArray := prog_4_method_10_code
def yX2_setFade : MethodName := ⟨RX2, "setFade", "(I)I"⟩
abbrev cX2_budgetOf : ByteArray := prog_4_method_11_code
def yX2_budgetOf : MethodName := ⟨RX2, "budgetOf", "(I)I"⟩
abbrev cX2_setBudget : ByteArray := prog_4_method_12_code
def yX2_setBudget : MethodName := ⟨RX2, "setBudget", "(II)I"⟩
abbrev cX2_setSeed : ByteArray := prog_4_method_13_code
def yX2_setSeed : MethodName := ⟨RX2, "setSeed", "(I)I"⟩
abbrev cX2_givers : ByteArray := prog_4_method_14_code
def yX2_givers : MethodName := ⟨RX2, "givers", "(I)I"⟩
abbrev cX2_sumWithLot : ByteArray := prog_4_method_15_code
def yX2_sumWithLot : MethodName := ⟨RX2, "sumWithLot", "(III)I"⟩
abbrev cX2_drawLot : ByteArray := prog_4_method_16_code
def yX2_drawLot : MethodName := ⟨RX2, "drawLot", "(I)I"⟩
def RX3 : String := "KeyDesk$Layouts"
def TX3 : u_T := fun k => match k with
  | 0 => ("KeyDesk$Layouts", "size", "I", false)
  | 1 => ("KeyDesk$Layouts", "efforts", "[I", true)
  | 2 => ("KeyDesk$Layouts", "fingers", "[I", true)
  | 3 => ("KeyDesk$Layouts", "loads", "[I", true)
  | 4 => ("KeyDesk$Layouts", "pairLoads", "[[I", true)
  | 5 => ("KeyDesk$Layouts", "sameFinger", "I", false)
  | 6 => ("KeyDesk$Layouts", "places", "[I", true)
  | 7 => ("KeyDesk$Layouts", "leastCost", "I", false)
  | _ => ("KeyDesk$Layouts", "leastDigits", "I", false)
def tyX3 : Nat → FieldType := fun k => match k with
  | 0 => .int
  | 1 => .array .int
  | 2 => .array .int
  | 3 => .array .int
  | 4 => .array (.array .int)
  | 5 => .int
  | 6 => .array .int
  | 7 => .int
  | _ => .int
abbrev wsX30 : List Cond := u_ws RX3 TX3 9
theorem nmX3 : ∀ a, a < 9 → ∀ b, b < 9 → a ≠ b → (TX3 a).2.1 ≠ (TX3 b).2.1 := by decide +kernel
theorem tyX3_ok : ∀ k, k < 9 → parseFieldDescriptor (TX3 k).2.2.1 = some (tyX3 k) := by decide +kernel
abbrev cX3_init : ByteArray := prog_5_method_1_code
def yX3_init : MethodName := ⟨RX3, "<init>", "()V"⟩
abbrev cX3_size : ByteArray := prog_5_method_2_code
def yX3_size : MethodName := ⟨RX3, "size", "()I"⟩
abbrev cX3_startAnew : ByteArray := prog_5_method_4_code
def yX3_startAnew : MethodName := ⟨RX3, "startAnew", "(I)I"⟩
def RX4 : String := "KeyDesk$Line"
def TX4 : u_T := fun k => match k with
  | 0 => ("KeyDesk$Line", "strokes", "LKeyDesk$Row;", true)
  | 1 => ("KeyDesk$Line", "rulesOfPieces", "LKeyDesk$Row;", true)
  | 2 => ("KeyDesk$Line", "starts", "LKeyDesk$Row;", true)
  | 3 => ("KeyDesk$Line", "signs", "LKeyDesk$Row;", true)
  | _ => ("KeyDesk$Line", "tongue", "I", false)
def tyX4 : Nat → FieldType := fun k => match k with
  | 0 => .object "KeyDesk$Row"
  | 1 => .object "KeyDesk$Row"
  | 2 => .object "KeyDesk$Row"
  | 3 => .object "KeyDesk$Row"
  | _ => .int
abbrev wsX40 : List Cond := u_ws RX4 TX4 5
theorem nmX4 : ∀ a, a < 5 → ∀ b, b < 5 → a ≠ b → (TX4 a).2.1 ≠ (TX4 b).2.1 := by decide +kernel
theorem tyX4_ok : ∀ k, k < 5 → parseFieldDescriptor (TX4 k).2.2.1 = some (tyX4 k) := by decide +kernel
abbrev cX4_init : ByteArray := prog_6_method_1_code
def yX4_init : MethodName := ⟨RX4, "<init>", "()V"⟩
abbrev cX4_strokes : ByteArray := prog_6_method_2_code
def yX4_strokes : MethodName := ⟨RX4, "strokes", "()LKeyDesk$Row;"⟩
abbrev cX4_tongue : ByteArray := prog_6_method_4_code
def yX4_tongue : MethodName := ⟨RX4, "tongue", "()I"⟩
def RX5 : String := "KeyDesk$Parting"
def TX5 : u_T := fun k => match k with
  | 0 => ("KeyDesk$Parting", "words", "LKeyDesk$Words;", true)
  | 1 => ("KeyDesk$Parting", "slips", "LKeyDesk$Slips;", true)
  | 2 => ("KeyDesk$Parting", "sums", "[I", true)
  | 3 => ("KeyDesk$Parting", "products", "[I", true)
  | 4 => ("KeyDesk$Parting", "firstWords", "[I", true)
  | 5 => ("KeyDesk$Parting", "firstLengths", "[I", true)
  | 6 => ("KeyDesk$Parting", "foundWords", "LKeyDesk$Row;", true)
  | 7 => ("KeyDesk$Parting", "foundLengths", "LKeyDesk$Row;", true)
  | _ => ("KeyDesk$Parting", "foundSum", "I", false)
def tyX5 : Nat → FieldType := fun k => match k with
  | 0 => .object "KeyDesk$Words"
  | 1 => .object "KeyDesk$Slips"
  | 2 => .array .int
  | 3 => .array .int
  | 4 => .array .int
  | 5 => .array .int
  | 6 => .object "KeyDesk$Row"
  | 7 => .object "KeyDesk$Row"
  | _ => .int
abbrev wsX50 : List Cond := u_ws RX5 TX5 9
theorem nmX5 : ∀ a, a < 9 → ∀ b, b < 9 → a ≠ b → (TX5 a).2.1 ≠ (TX5 b).2.1 := by decide +kernel
theorem tyX5_ok : ∀ k, k < 9 → parseFieldDescriptor (TX5 k).2.2.1 = some (tyX5 k) := by decide +kernel
abbrev cX5_init : ByteArray := prog_7_method_1_code
def yX5_init : MethodName := ⟨RX5, "<init>", "(LKeyDesk$Words;LKeyDesk$Slips;)V"⟩
def RX6 : String := "KeyDesk$Row"
def TX6 : u_T := fun k => match k with
  | 0 => ("KeyDesk$Row", "items", "[I", true)
  | _ => ("KeyDesk$Row", "size", "I", false)
def tyX6 : Nat → FieldType := fun k => match k with
  | 0 => .array .int
  | _ => .int
abbrev wsX60 : List Cond := u_ws RX6 TX6 2
theorem nmX6 : ∀ a, a < 2 → ∀ b, b < 2 → a ≠ b → (TX6 a).2.1 ≠ (TX6 b).2.1 := by decide +kernel
theorem tyX6_ok : ∀ k, k < 2 → parseFieldDescriptor (TX6 k).2.2.1 = some (tyX6 k) := by decide +kernel
abbrev cX6_init : ByteArray := prog_8_method_1_code
def yX6_init : MethodName := ⟨RX6, "<init>", "(I)V"⟩
abbrev cX6_size : ByteArray := prog_8_method_2_code
def yX6_size : MethodName := ⟨RX6, "size", "()I"⟩
abbrev cX6_isEmpty : ByteArray := prog_8_method_3_code
def yX6_isEmpty : MethodName := ⟨RX6, "isEmpty", "()Z"⟩
abbrev cX6_isFull : ByteArray := prog_8_method_4_code
def yX6_isFull : MethodName := ⟨RX6, "isFull", "()Z"⟩
abbrev cX6_has : ByteArray := prog_8_method_5_code
def yX6_has : MethodName := ⟨RX6, "has", "(I)Z"⟩
abbrev cX6_at : ByteArray := prog_8_method_6_code
def yX6_at : MethodName := ⟨RX6, "at", "(I)I"⟩
abbrev cX6_add : ByteArray := prog_8_method_7_code
def yX6_add : MethodName := ⟨RX6, "add", "(I)V"⟩
abbrev cX6_insert : ByteArray := prog_8_method_8_code
def yX6_insert : MethodName := ⟨RX6, "insert", "(II)V"⟩
abbrev cX6_remove : ByteArray := prog_8_method_10_code
def yX6_remove : MethodName := ⟨RX6, "remove", "(I)I"⟩
abbrev cX6_clear : ByteArray := prog_8_method_11_code
def yX6_clear : MethodName := ⟨RX6, "clear", "()I"⟩
abbrev cX6_copy : ByteArray := prog_8_method_12_code
def yX6_copy : MethodName := ⟨RX6, "copy", "(LKeyDesk$Row;)V"⟩
def RX7 : String := "KeyDesk$Slips"
def TX7 : u_T := fun k => match k with
  | 0 => ("KeyDesk$Slips", "prices", "[I", true)
  | _ => ("KeyDesk$Slips", "least", "[[I", true)
def tyX7 : Nat → FieldType := fun k => match k with
  | 0 => .array .int
  | _ => .array (.array .int)
abbrev wsX70 : List Cond := u_ws RX7 TX7 2
theorem nmX7 : ∀ a, a < 2 → ∀ b, b < 2 → a ≠ b → (TX7 a).2.1 ≠ (TX7 b).2.1 := by decide +kernel
theorem tyX7_ok : ∀ k, k < 2 → parseFieldDescriptor (TX7 k).2.2.1 = some (tyX7 k) := by decide +kernel
abbrev cX7_init : ByteArray := prog_9_method_1_code
def yX7_init : MethodName := ⟨RX7, "<init>", "()V"⟩
abbrev cX7_priceOf : ByteArray := prog_9_method_4_code
def yX7_priceOf : MethodName := ⟨RX7, "priceOf", "(LKeyDesk$Row;LKeyDesk$Row;)I"⟩
abbrev cX7_leastFor : ByteArray := prog_9_method_5_code
def yX7_leastFor : MethodName := ⟨RX7, "leastFor", "(ILKeyDesk$Row;)I"⟩
abbrev cX7_workOut : ByteArray := prog_9_method_6_code
def yX7_workOut : MethodName := ⟨RX7, "workOut", "(LKeyDesk$Row;IILKeyDesk$Row;)V"⟩
abbrev cX7_leastSum : ByteArray := prog_9_method_7_code
def yX7_leastSum : MethodName := ⟨RX7, "leastSum", "(LKeyDesk$Row;IILKeyDesk$Row;I)I"⟩
abbrev cX7_priceOfOne : ByteArray := prog_9_method_8_code
def yX7_priceOfOne : MethodName := ⟨RX7, "priceOfOne", "(II)I"⟩
def RX8 : String := "KeyDesk$Tongue"
def TX8 : u_T := fun k => match k with
  | 0 => ("KeyDesk$Tongue", "keysOfRules", "[LKeyDesk$Row;", true)
  | 1 => ("KeyDesk$Tongue", "lettersOfRules", "[LKeyDesk$Row;", true)
  | 2 => ("KeyDesk$Tongue", "rules", "I", false)
  | 3 => ("KeyDesk$Tongue", "firsts", "LKeyDesk$Row;", true)
  | 4 => ("KeyDesk$Tongue", "seconds", "LKeyDesk$Row;", true)
  | 5 => ("KeyDesk$Tongue", "joints", "LKeyDesk$Row;", true)
  | 6 => ("KeyDesk$Tongue", "letters", "[Z", true)
  | _ => ("KeyDesk$Tongue", "made", "[Z", true)
def tyX8 : Nat → FieldType := fun k => match k with
  | 0 => .array (.object "KeyDesk$Row")
  | 1 => .array (.object "KeyDesk$Row")
  | 2 => .int
  | 3 => .object "KeyDesk$Row"
  | 4 => .object "KeyDesk$Row"
  | 5 => .object "KeyDesk$Row"
  | 6 => .array .boolean
  | _ => .array .boolean
abbrev wsX80 : List Cond := u_ws RX8 TX8 8
theorem nmX8 : ∀ a, a < 8 → ∀ b, b < 8 → a ≠ b → (TX8 a).2.1 ≠ (TX8 b).2.1 := by decide +kernel
theorem tyX8_ok : ∀ k, k < 8 → parseFieldDescriptor (TX8 k).2.2.1 = some (tyX8 k) := by decide +kernel
abbrev cX8_init : ByteArray := prog_10_method_1_code
def yX8_init : MethodName := ⟨RX8, "<init>", "()V"⟩
abbrev cX8_rules : ByteArray := prog_10_method_2_code
def yX8_rules : MethodName := ⟨RX8, "rules", "()I"⟩
abbrev cX8_joins : ByteArray := prog_10_method_3_code
def yX8_joins : MethodName := ⟨RX8, "joins", "()I"⟩
def RX9 : String := "KeyDesk$Ways"
def TX9 : u_T := fun k => match k with
  | 0 => ("KeyDesk$Ways", "layouts", "LKeyDesk$Layouts;", true)
  | 1 => ("KeyDesk$Ways", "digits", "[I", true)
  | 2 => ("KeyDesk$Ways", "costs", "[I", true)
  | 3 => ("KeyDesk$Ways", "neighbours", "[I", true)
  | 4 => ("KeyDesk$Ways", "peaks", "[I", true)
  | 5 => ("KeyDesk$Ways", "settled", "[Z", true)
  | 6 => ("KeyDesk$Ways", "steps", "[I", true)
  | 7 => ("KeyDesk$Ways", "queue", "LKeyDesk$Row;", true)
  | 8 => ("KeyDesk$Ways", "path", "LKeyDesk$Row;", true)
  | 9 => ("KeyDesk$Ways", "size", "I", false)
  | 10 => ("KeyDesk$Ways", "exchanges", "I", false)
  | _ => ("KeyDesk$Ways", "lowestPeak", "I", false)
def tyX9 : Nat → FieldType := fun k => match k with
  | 0 => .object "KeyDesk$Layouts"
  | 1 => .array .int
  | 2 => .array .int
  | 3 => .array .int
  | 4 => .array .int
  | 5 => .array .boolean
  | 6 => .array .int
  | 7 => .object "KeyDesk$Row"
  | 8 => .object "KeyDesk$Row"
  | 9 => .int
  | 10 => .int
  | _ => .int
abbrev wsX90 : List Cond := u_ws RX9 TX9 12
theorem nmX9 : ∀ a, a < 12 → ∀ b, b < 12 → a ≠ b → (TX9 a).2.1 ≠ (TX9 b).2.1 := by decide +kernel
theorem tyX9_ok : ∀ k, k < 12 → parseFieldDescriptor (TX9 k).2.2.1 = some (tyX9 k) := by decide +kernel
abbrev cX9_init : ByteArray := prog_11_method_1_code
def yX9_init : MethodName := ⟨RX9, "<init>", "(LKeyDesk$Layouts;)V"⟩
def RX10 : String := "KeyDesk$Words"
def TX10 : u_T := fun k => match k with
  | 0 => ("KeyDesk$Words", "tonguesOfWords", "LKeyDesk$Row;", true)
  | 1 => ("KeyDesk$Words", "signsOfWords", "LKeyDesk$Row;", true)
  | 2 => ("KeyDesk$Words", "countsOfWords", "LKeyDesk$Row;", true)
  | _ => ("KeyDesk$Words", "keysOfWords", "[LKeyDesk$Row;", true)
def tyX10 : Nat → FieldType := fun k => match k with
  | 0 => .object "KeyDesk$Row"
  | 1 => .object "KeyDesk$Row"
  | 2 => .object "KeyDesk$Row"
  | _ => .array (.object "KeyDesk$Row")
abbrev wsX100 : List Cond := u_ws RX10 TX10 4
theorem nmX10 : ∀ a, a < 4 → ∀ b, b < 4 → a ≠ b → (TX10 a).2.1 ≠ (TX10 b).2.1 := by decide +kernel
theorem tyX10_ok : ∀ k, k < 4 → parseFieldDescriptor (TX10 k).2.2.1 = some (tyX10 k) := by decide +kernel
abbrev cX10_init : ByteArray := prog_12_method_1_code
def yX10_init : MethodName := ⟨RX10, "<init>", "()V"⟩
abbrev cX10_size : ByteArray := prog_12_method_2_code
def yX10_size : MethodName := ⟨RX10, "size", "()I"⟩
abbrev cX10_isFull : ByteArray := prog_12_method_3_code
def yX10_isFull : MethodName := ⟨RX10, "isFull", "()Z"⟩
abbrev cX10_has : ByteArray := prog_12_method_4_code
def yX10_has : MethodName := ⟨RX10, "has", "(I)Z"⟩
abbrev cX10_tongueOf : ByteArray := prog_12_method_5_code
def yX10_tongueOf : MethodName := ⟨RX10, "tongueOf", "(I)I"⟩
abbrev cX10_signOf : ByteArray := prog_12_method_6_code
def yX10_signOf : MethodName := ⟨RX10, "signOf", "(I)I"⟩
abbrev cX10_countOf : ByteArray := prog_12_method_7_code
def yX10_countOf : MethodName := ⟨RX10, "countOf", "(I)I"⟩
abbrev cX10_keysOf : ByteArray := prog_12_method_8_code
def yX10_keysOf : MethodName := ⟨RX10, "keysOf", "(I)LKeyDesk$Row;"⟩
abbrev cX10_addWord : ByteArray := prog_12_method_10_code
def yX10_addWord : MethodName := ⟨RX10, "addWord", "(IIILKeyDesk$Row;)I"⟩
def RX11 : String := "KeyDesk"
def TX11 : u_T := fun k => match k with
  | 0 => ("KeyDesk", "padKeys", "LKeyDesk$Row;", true)
  | 1 => ("KeyDesk", "padLetters", "LKeyDesk$Row;", true)
  | 2 => ("KeyDesk", "tongues", "[LKeyDesk$Tongue;", true)
  | 3 => ("KeyDesk", "line", "LKeyDesk$Line;", true)
  | 4 => ("KeyDesk", "words", "LKeyDesk$Words;", true)
  | 5 => ("KeyDesk", "slips", "LKeyDesk$Slips;", true)
  | 6 => ("KeyDesk", "guesses", "LKeyDesk$Guesses;", true)
  | 7 => ("KeyDesk", "parting", "LKeyDesk$Parting;", true)
  | 8 => ("KeyDesk", "choice", "LKeyDesk$Choice;", true)
  | 9 => ("KeyDesk", "hands", "LKeyDesk$Hands;", true)
  | 10 => ("KeyDesk", "layouts", "LKeyDesk$Layouts;", true)
  | _ => ("KeyDesk", "ways", "LKeyDesk$Ways;", true)
def tyX11 : Nat → FieldType := fun k => match k with
  | 0 => .object "KeyDesk$Row"
  | 1 => .object "KeyDesk$Row"
  | 2 => .array (.object "KeyDesk$Tongue")
  | 3 => .object "KeyDesk$Line"
  | 4 => .object "KeyDesk$Words"
  | 5 => .object "KeyDesk$Slips"
  | 6 => .object "KeyDesk$Guesses"
  | 7 => .object "KeyDesk$Parting"
  | 8 => .object "KeyDesk$Choice"
  | 9 => .object "KeyDesk$Hands"
  | 10 => .object "KeyDesk$Layouts"
  | _ => .object "KeyDesk$Ways"
abbrev wsX110 : List Cond := u_ws RX11 TX11 12
theorem nmX11 : ∀ a, a < 12 → ∀ b, b < 12 → a ≠ b → (TX11 a).2.1 ≠ (TX11 b).2.1 := by decide +kernel
theorem tyX11_ok : ∀ k, k < 12 → parseFieldDescriptor (TX11 k).2.2.1 = some (tyX11 k) := by decide +kernel
abbrev cX11_init : ByteArray := prog_1_method_1_code
def yX11_init : MethodName := ⟨RX11, "<init>", "()V"⟩
abbrev cX11_key : ByteArray := prog_1_method_2_code
def yX11_key : MethodName := ⟨RX11, "key", "(I)I"⟩
abbrev cX11_word : ByteArray := prog_1_method_18_code
def yX11_word : MethodName := ⟨RX11, "word", "(III)I"⟩
abbrev cX11_ofWord : ByteArray := prog_1_method_19_code
def yX11_ofWord : MethodName := ⟨RX11, "ofWord", "(II)I"⟩
abbrev cX11_slip : ByteArray := prog_1_method_22_code
def yX11_slip : MethodName := ⟨RX11, "slip", "(I)I"⟩
abbrev cX11_guess : ByteArray := prog_1_method_23_code
def yX11_guess : MethodName := ⟨RX11, "guess", "(III)I"⟩
abbrev cX11_learn : ByteArray := prog_1_method_30_code
def yX11_learn : MethodName := ⟨RX11, "learn", "(III)I"⟩
abbrev cX11_worth : ByteArray := prog_1_method_31_code
def yX11_worth : MethodName := ⟨RX11, "worth", "(III)I"⟩
abbrev cX11_forget : ByteArray := prog_1_method_32_code
def yX11_forget : MethodName := ⟨RX11, "forget", "(II)I"⟩
abbrev cX11_fade : ByteArray := prog_1_method_33_code
def yX11_fade : MethodName := ⟨RX11, "fade", "(I)I"⟩
abbrev cX11_mine : ByteArray := prog_1_method_34_code
def yX11_mine : MethodName := ⟨RX11, "mine", "(IIIII)I"⟩
abbrev cX11_budget : ByteArray := prog_1_method_35_code
def yX11_budget : MethodName := ⟨RX11, "budget", "(II)I"⟩
abbrev cX11_seed : ByteArray := prog_1_method_36_code
def yX11_seed : MethodName := ⟨RX11, "seed", "(I)I"⟩
abbrev cX11_share : ByteArray := prog_1_method_37_code
def yX11_share : MethodName := ⟨RX11, "share", "(III)I"⟩
abbrev cX11_told : ByteArray := prog_1_method_47_code
def yX11_told : MethodName := ⟨RX11, "told", "(I)I"⟩
abbrev cX11_toldOfOne : ByteArray := prog_1_method_48_code
def yX11_toldOfOne : MethodName := ⟨RX11, "toldOfOne", "(I)I"⟩
abbrev cX11_within : ByteArray := prog_1_method_49_code
def yX11_within : MethodName := ⟨RX11, "within", "(III)Z"⟩
abbrev cX11_isKey : ByteArray := prog_1_method_50_code
def yX11_isKey : MethodName := ⟨RX11, "isKey", "(I)Z"⟩
abbrev cX11_isTongue : ByteArray := prog_1_method_52_code
def yX11_isTongue : MethodName := ⟨RX11, "isTongue", "(I)Z"⟩
abbrev cX11_isHand : ByteArray := prog_1_method_53_code
def yX11_isHand : MethodName := ⟨RX11, "isHand", "(I)Z"⟩
abbrev cX11_isDay : ByteArray := prog_1_method_54_code
def yX11_isDay : MethodName := ⟨RX11, "isDay", "(I)Z"⟩
abbrev cX11_hasBit : ByteArray := prog_1_method_55_code
def yX11_hasBit : MethodName := ⟨RX11, "hasBit", "(II)Z"⟩
abbrev cX11_gather : ByteArray := prog_1_method_57_code
def yX11_gather : MethodName := ⟨RX11, "gather", "(IIII)V"⟩
def RX12 : String := "KeyDeskModel"
def TX12 : u_T := fun k => match k with
  | _ => ("", "", "", false)
def tyX12 : Nat → FieldType := fun k => match k with
  | _ => .int
abbrev wsX120 : List Cond := u_ws RX12 TX12 0
theorem nmX12 : ∀ a, a < 0 → ∀ b, b < 0 → a ≠ b → (TX12 a).2.1 ≠ (TX12 b).2.1 := by decide +kernel
theorem tyX12_ok : ∀ k, k < 0 → parseFieldDescriptor (TX12 k).2.2.1 = some (tyX12 k) := by decide +kernel
def RL : String := "KeyDeskLaw"
abbrev cL_cell : ByteArray := method_2_code
abbrev cL_keys : ByteArray := method_3_code
abbrev cL_words : ByteArray := method_4_code
abbrev cL_law : ByteArray := code
abbrev vwCl : List vw_C := [(RX0, TX0, 8), (RX1, TX1, 3), (RX2, TX2, 6), (RX3, TX3, 9), (RX4, TX4, 5), (RX5, TX5, 9), (RX6, TX6, 2), (RX7, TX7, 2), (RX8, TX8, 8), (RX9, TX9, 12), (RX10, TX10, 4), (RX11, TX11, 12)]
end
section
theorem dX0_init_0 : decode cX0_init 0 = .ok (.aload_n 0, 1) := by decide +kernel
theorem dX0_init_1 : decode cX0_init 1 = .ok (.invokespecial 3, 3) := by decide +kernel
theorem dX0_init_4 : decode cX0_init 4 = .ok (.aload_n 0, 1) := by decide +kernel
theorem dX0_init_5 : decode cX0_init 5 = .ok (.bipush 60, 2) := by decide +kernel
theorem dX0_init_7 : decode cX0_init 7 = .ok (.bipush 60, 2) := by decide +kernel
theorem dX0_init_9 : decode cX0_init 9 = .ok (.multianewarray 9 2, 4) := by decide +kernel
theorem dX0_init_13 : decode cX0_init 13 = .ok (.putfield 11, 3) := by decide +kernel
theorem dX0_init_16 : decode cX0_init 16 = .ok (.aload_n 0, 1) := by decide +kernel
theorem dX0_init_17 : decode cX0_init 17 = .ok (.new 16, 3) := by decide +kernel
theorem dX0_init_20 : decode cX0_init 20 = .ok (.dup, 1) := by decide +kernel
theorem dX0_init_21 : decode cX0_init 21 = .ok (.iconst 5, 1) := by decide +kernel
theorem dX0_init_22 : decode cX0_init 22 = .ok (.invokespecial 18, 3) := by decide +kernel
theorem dX0_init_25 : decode cX0_init 25 = .ok (.putfield 21, 3) := by decide +kernel
theorem dX0_init_28 : decode cX0_init 28 = .ok (.aload_n 0, 1) := by decide +kernel
theorem dX0_init_29 : decode cX0_init 29 = .ok (.new 16, 3) := by decide +kernel
theorem dX0_init_32 : decode cX0_init 32 = .ok (.dup, 1) := by decide +kernel
theorem dX0_init_33 : decode cX0_init 33 = .ok (.iconst 5, 1) := by decide +kernel
theorem dX0_init_34 : decode cX0_init 34 = .ok (.invokespecial 18, 3) := by decide +kernel
theorem dX0_init_37 : decode cX0_init 37 = .ok (.putfield 25, 3) := by decide +kernel
theorem dX0_init_40 : decode cX0_init 40 = .ok (.aload_n 0, 1) := by decide +kernel
theorem dX0_init_41 : decode cX0_init 41 = .ok (.new 16, 3) := by decide +kernel
theorem dX0_init_44 : decode cX0_init 44 = .ok (.dup, 1) := by decide +kernel
theorem dX0_init_45 : decode cX0_init 45 = .ok (.iconst 5, 1) := by decide +kernel
theorem dX0_init_46 : decode cX0_init 46 = .ok (.invokespecial 18, 3) := by decide +kernel
theorem dX0_init_49 : decode cX0_init 49 = .ok (.putfield 28, 3) := by decide +kernel
theorem dX0_init_52 : decode cX0_init 52 = .ok (.aload_n 0, 1) := by decide +kernel
theorem dX0_init_53 : decode cX0_init 53 = .ok (.iconst 5, 1) := by decide +kernel
theorem dX0_init_54 : decode cX0_init 54 = .ok (.bipush 60, 2) := by decide +kernel
theorem dX0_init_56 : decode cX0_init 56 = .ok (.multianewarray 31 2, 4) := by decide +kernel
theorem dX0_init_60 : decode cX0_init 60 = .ok (.putfield 33, 3) := by decide +kernel
theorem dX0_init_63 : decode cX0_init 63 = .ok (.aload_n 0, 1) := by decide +kernel
theorem dX0_init_64 : decode cX0_init 64 = .ok (.iconst 5, 1) := by decide +kernel
theorem dX0_init_65 : decode cX0_init 65 = .ok (.bipush 60, 2) := by decide +kernel
theorem dX0_init_67 : decode cX0_init 67 = .ok (.multianewarray 9 2, 4) := by decide +kernel
theorem dX0_init_71 : decode cX0_init 71 = .ok (.putfield 36, 3) := by decide +kernel
theorem dX0_init_74 : decode cX0_init 74 = .ok (.aload_n 0, 1) := by decide +kernel
theorem dX0_init_75 : decode cX0_init 75 = .ok (.aload_n 1, 1) := by decide +kernel
theorem dX0_init_76 : decode cX0_init 76 = .ok (.putfield 39, 3) := by decide +kernel
theorem dX0_init_79 : decode cX0_init 79 = .ok (.return_, 1) := by decide +kernel
theorem dX0_pairs_0 : decode cX0_pairs 0 = .ok (.aload_n 0, 1) := by decide +kernel
theorem dX0_pairs_1 : decode cX0_pairs 1 = .ok (.getfield 43, 3) := by decide +kernel
theorem dX0_pairs_4 : decode cX0_pairs 4 = .ok (.ireturn, 1) := by decide +kernel
theorem dX0_padSize_0 : decode cX0_padSize 0 = .ok (.aload_n 0, 1) := by decide +kernel
theorem dX0_padSize_1 : decode cX0_padSize 1 = .ok (.getfield 21, 3) := by decide +kernel
theorem dX0_padSize_4 : decode cX0_padSize 4 = .ok (.invokevirtual 47, 3) := by decide +kernel
theorem dX0_padSize_7 : decode cX0_padSize 7 = .ok (.ireturn, 1) := by decide +kernel
theorem dX1_init_0 : decode cX1_init 0 = .ok (.aload_n 0, 1) := by decide +kernel
theorem dX1_init_1 : decode cX1_init 1 = .ok (.invokespecial 3, 3) := by decide +kernel
theorem dX1_init_4 : decode cX1_init 4 = .ok (.aload_n 0, 1) := by decide +kernel
theorem dX1_init_5 : decode cX1_init 5 = .ok (.new 9, 3) := by decide +kernel
theorem dX1_init_8 : decode cX1_init 8 = .ok (.dup, 1) := by decide +kernel
theorem dX1_init_9 : decode cX1_init 9 = .ok (.bipush 60, 2) := by decide +kernel
theorem dX1_init_11 : decode cX1_init 11 = .ok (.invokespecial 11, 3) := by decide +kernel
theorem dX1_init_14 : decode cX1_init 14 = .ok (.putfield 14, 3) := by decide +kernel
theorem dX1_init_17 : decode cX1_init 17 = .ok (.aload_n 0, 1) := by decide +kernel
theorem dX1_init_18 : decode cX1_init 18 = .ok (.new 9, 3) := by decide +kernel
theorem dX1_init_21 : decode cX1_init 21 = .ok (.dup, 1) := by decide +kernel
theorem dX1_init_22 : decode cX1_init 22 = .ok (.bipush 60, 2) := by decide +kernel
theorem dX1_init_24 : decode cX1_init 24 = .ok (.invokespecial 11, 3) := by decide +kernel
theorem dX1_init_27 : decode cX1_init 27 = .ok (.putfield 20, 3) := by decide +kernel
theorem dX1_init_30 : decode cX1_init 30 = .ok (.aload_n 0, 1) := by decide +kernel
theorem dX1_init_31 : decode cX1_init 31 = .ok (.new 9, 3) := by decide +kernel
theorem dX1_init_34 : decode cX1_init 34 = .ok (.dup, 1) := by decide +kernel
theorem dX1_init_35 : decode cX1_init 35 = .ok (.bipush 60, 2) := by decide +kernel
theorem dX1_init_37 : decode cX1_init 37 = .ok (.invokespecial 11, 3) := by decide +kernel
theorem dX1_init_40 : decode cX1_init 40 = .ok (.putfield 23, 3) := by decide +kernel
theorem dX1_init_43 : decode cX1_init 43 = .ok (.return_, 1) := by decide +kernel
theorem dX1_clear_0 : decode cX1_clear 0 = .ok (.aload_n 0, 1) := by decide +kernel
theorem dX1_clear_1 : decode cX1_clear 1 = .ok (.getfield 14, 3) := by decide +kernel
theorem dX1_clear_4 : decode cX1_clear 4 = .ok (.invokevirtual 26, 3) := by decide +kernel
theorem dX1_clear_7 : decode cX1_clear 7 = .ok (.pop, 1) := by decide +kernel
theorem dX1_clear_8 : decode cX1_clear 8 = .ok (.aload_n 0, 1) := by decide +kernel
theorem dX1_clear_9 : decode cX1_clear 9 = .ok (.getfield 20, 3) := by decide +kernel
theorem dX1_clear_12 : decode cX1_clear 12 = .ok (.invokevirtual 26, 3) := by decide +kernel
theorem dX1_clear_15 : decode cX1_clear 15 = .ok (.pop, 1) := by decide +kernel
theorem dX1_clear_16 : decode cX1_clear 16 = .ok (.aload_n 0, 1) := by decide +kernel
theorem dX1_clear_17 : decode cX1_clear 17 = .ok (.getfield 23, 3) := by decide +kernel
theorem dX1_clear_20 : decode cX1_clear 20 = .ok (.invokevirtual 26, 3) := by decide +kernel
theorem dX1_clear_23 : decode cX1_clear 23 = .ok (.pop, 1) := by decide +kernel
theorem dX1_clear_24 : decode cX1_clear 24 = .ok (.return_, 1) := by decide +kernel
theorem dX1_insert_0 : decode cX1_insert 0 = .ok (.aload_n 0, 1) := by decide +kernel
theorem dX1_insert_1 : decode cX1_insert 1 = .ok (.getfield 14, 3) := by decide +kernel
theorem dX1_insert_4 : decode cX1_insert 4 = .ok (.invokevirtual 30, 3) := by decide +kernel
theorem dX1_insert_7 : decode cX1_insert 7 = .ok (.istore 4, 2) := by decide +kernel
theorem dX1_insert_9 : decode cX1_insert 9 = .ok (.iload 4, 2) := by decide +kernel
theorem dX1_insert_11 : decode cX1_insert 11 = .ok (.ifCond .le 22, 3) := by decide +kernel
theorem dX1_insert_14 : decode cX1_insert 14 = .ok (.aload_n 0, 1) := by decide +kernel
theorem dX1_insert_15 : decode cX1_insert 15 = .ok (.iload_n 2, 1) := by decide +kernel
theorem dX1_insert_16 : decode cX1_insert 16 = .ok (.iload_n 3, 1) := by decide +kernel
theorem dX1_insert_17 : decode cX1_insert 17 = .ok (.iload 4, 2) := by decide +kernel
theorem dX1_insert_19 : decode cX1_insert 19 = .ok (.iconst 1, 1) := by decide +kernel
theorem dX1_insert_20 : decode cX1_insert 20 = .ok (.isub, 1) := by decide +kernel
theorem dX1_insert_21 : decode cX1_insert 21 = .ok (.invokevirtual 33, 3) := by decide +kernel
theorem dX1_insert_24 : decode cX1_insert 24 = .ok (.ifCond .eq 9, 3) := by decide +kernel
theorem dX1_insert_27 : decode cX1_insert 27 = .ok (.iinc 4 (-1), 3) := by decide +kernel
theorem dX1_insert_30 : decode cX1_insert 30 = .ok (.goto (-21), 3) := by decide +kernel
theorem dX1_insert_33 : decode cX1_insert 33 = .ok (.aload_n 0, 1) := by decide +kernel
theorem dX1_insert_34 : decode cX1_insert 34 = .ok (.getfield 14, 3) := by decide +kernel
theorem dX1_insert_37 : decode cX1_insert 37 = .ok (.iload 4, 2) := by decide +kernel
theorem dX1_insert_39 : decode cX1_insert 39 = .ok (.iload_n 1, 1) := by decide +kernel
theorem dX1_insert_40 : decode cX1_insert 40 = .ok (.invokevirtual 37, 3) := by decide +kernel
theorem dX1_insert_43 : decode cX1_insert 43 = .ok (.aload_n 0, 1) := by decide +kernel
theorem dX1_insert_44 : decode cX1_insert 44 = .ok (.getfield 20, 3) := by decide +kernel
theorem dX1_insert_47 : decode cX1_insert 47 = .ok (.iload 4, 2) := by decide +kernel
theorem dX1_insert_49 : decode cX1_insert 49 = .ok (.iload_n 2, 1) := by decide +kernel
theorem dX1_insert_50 : decode cX1_insert 50 = .ok (.invokevirtual 37, 3) := by decide +kernel
theorem dX1_insert_53 : decode cX1_insert 53 = .ok (.aload_n 0, 1) := by decide +kernel
theorem dX1_insert_54 : decode cX1_insert 54 = .ok (.getfield 23, 3) := by decide +kernel
theorem dX1_insert_57 : decode cX1_insert 57 = .ok (.iload 4, 2) := by decide +kernel
theorem dX1_insert_59 : decode cX1_insert 59 = .ok (.iload_n 3, 1) := by decide +kernel
theorem dX1_insert_60 : decode cX1_insert 60 = .ok (.invokevirtual 37, 3) := by decide +kernel
theorem dX1_insert_63 : decode cX1_insert 63 = .ok (.return_, 1) := by decide +kernel
theorem dX1_goesAhead_0 : decode cX1_goesAhead 0 = .ok (.iload_n 1, 1) := by decide +kernel
theorem dX1_goesAhead_1 : decode cX1_goesAhead 1 = .ok (.aload_n 0, 1) := by decide +kernel
theorem dX1_goesAhead_2 : decode cX1_goesAhead 2 = .ok (.getfield 20, 3) := by decide +kernel
theorem dX1_goesAhead_5 : decode cX1_goesAhead 5 = .ok (.iload_n 3, 1) := by decide +kernel
theorem dX1_goesAhead_6 : decode cX1_goesAhead 6 = .ok (.invokevirtual 41, 3) := by decide +kernel
theorem dX1_goesAhead_9 : decode cX1_goesAhead 9 = .ok (.if_icmp .lt 27, 3) := by decide +kernel
theorem dX1_goesAhead_12 : decode cX1_goesAhead 12 = .ok (.iload_n 1, 1) := by decide +kernel
theorem dX1_goesAhead_13 : decode cX1_goesAhead 13 = .ok (.aload_n 0, 1) := by decide +kernel
theorem dX1_goesAhead_14 : decode cX1_goesAhead 14 = .ok (.getfield 20, 3) := by decide +kernel
theorem dX1_goesAhead_17 : decode cX1_goesAhead 17 = .ok (.iload_n 3, 1) := by decide +kernel
theorem dX1_goesAhead_18 : decode cX1_goesAhead 18 = .ok (.invokevirtual 41, 3) := by decide +kernel
theorem dX1_goesAhead_21 : decode cX1_goesAhead 21 = .ok (.if_icmp .ne 19, 3) := by decide +kernel
theorem dX1_goesAhead_24 : decode cX1_goesAhead 24 = .ok (.iload_n 2, 1) := by decide +kernel
theorem dX1_goesAhead_25 : decode cX1_goesAhead 25 = .ok (.aload_n 0, 1) := by decide +kernel
theorem dX1_goesAhead_26 : decode cX1_goesAhead 26 = .ok (.getfield 23, 3) := by decide +kernel
theorem dX1_goesAhead_29 : decode cX1_goesAhead 29 = .ok (.iload_n 3, 1) := by decide +kernel
theorem dX1_goesAhead_30 : decode cX1_goesAhead 30 = .ok (.invokevirtual 41, 3) := by decide +kernel
theorem dX1_goesAhead_33 : decode cX1_goesAhead 33 = .ok (.if_icmp .le 7, 3) := by decide +kernel
theorem dX1_goesAhead_36 : decode cX1_goesAhead 36 = .ok (.iconst 1, 1) := by decide +kernel
theorem dX1_goesAhead_37 : decode cX1_goesAhead 37 = .ok (.goto 4, 3) := by decide +kernel
theorem dX1_goesAhead_40 : decode cX1_goesAhead 40 = .ok (.iconst 0, 1) := by decide +kernel
theorem dX1_goesAhead_41 : decode cX1_goesAhead 41 = .ok (.ireturn, 1) := by decide +kernel
theorem dX1_guessAt_0 : decode cX1_guessAt 0 = .ok (.iload_n 1, 1) := by decide +kernel
theorem dX1_guessAt_1 : decode cX1_guessAt 1 = .ok (.iconst (-1), 1) := by decide +kernel
theorem dX1_guessAt_2 : decode cX1_guessAt 2 = .ok (.if_icmp .ne 11, 3) := by decide +kernel
theorem dX1_guessAt_5 : decode cX1_guessAt 5 = .ok (.aload_n 0, 1) := by decide +kernel
theorem dX1_guessAt_6 : decode cX1_guessAt 6 = .ok (.getfield 14, 3) := by decide +kernel
theorem dX1_guessAt_9 : decode cX1_guessAt 9 = .ok (.invokevirtual 30, 3) := by decide +kernel
theorem dX1_guessAt_12 : decode cX1_guessAt 12 = .ok (.ireturn, 1) := by decide +kernel
theorem dX1_guessAt_13 : decode cX1_guessAt 13 = .ok (.aload_n 0, 1) := by decide +kernel
theorem dX1_guessAt_14 : decode cX1_guessAt 14 = .ok (.getfield 14, 3) := by decide +kernel
theorem dX1_guessAt_17 : decode cX1_guessAt 17 = .ok (.iload_n 1, 1) := by decide +kernel
theorem dX1_guessAt_18 : decode cX1_guessAt 18 = .ok (.invokevirtual 45, 3) := by decide +kernel
theorem dX1_guessAt_21 : decode cX1_guessAt 21 = .ok (.ifCond .eq 14, 3) := by decide +kernel
theorem dX1_guessAt_24 : decode cX1_guessAt 24 = .ok (.aload_n 0, 1) := by decide +kernel
theorem dX1_guessAt_25 : decode cX1_guessAt 25 = .ok (.getfield 14, 3) := by decide +kernel
theorem dX1_guessAt_28 : decode cX1_guessAt 28 = .ok (.iload_n 1, 1) := by decide +kernel
theorem dX1_guessAt_29 : decode cX1_guessAt 29 = .ok (.invokevirtual 41, 3) := by decide +kernel
theorem dX1_guessAt_32 : decode cX1_guessAt 32 = .ok (.goto 5, 3) := by decide +kernel
theorem dX1_guessAt_35 : decode cX1_guessAt 35 = .ok (.bipush (-6), 2) := by decide +kernel
theorem dX1_guessAt_37 : decode cX1_guessAt 37 = .ok (.ireturn, 1) := by decide +kernel
theorem dX2_init_0 : decode cX2_init 0 = .ok (.aload_n 0, 1) := by decide +kernel
theorem dX2_init_1 : decode cX2_init 1 = .ok (.invokespecial 3, 3) := by decide +kernel
theorem dX2_init_4 : decode cX2_init 4 = .ok (.aload_n 0, 1) := by decide +kernel
theorem dX2_init_5 : decode cX2_init 5 = .ok (.new 9, 3) := by decide +kernel
theorem dX2_init_8 : decode cX2_init 8 = .ok (.dup, 1) := by decide +kernel
theorem dX2_init_9 : decode cX2_init 9 = .ok (.bipush 60, 2) := by decide +kernel
theorem dX2_init_11 : decode cX2_init 11 = .ok (.invokespecial 11, 3) := by decide +kernel
theorem dX2_init_14 : decode cX2_init 14 = .ok (.putfield 14, 3) := by decide +kernel
theorem dX2_init_17 : decode cX2_init 17 = .ok (.aload_n 0, 1) := by decide +kernel
theorem dX2_init_18 : decode cX2_init 18 = .ok (.new 9, 3) := by decide +kernel
theorem dX2_init_21 : decode cX2_init 21 = .ok (.dup, 1) := by decide +kernel
theorem dX2_init_22 : decode cX2_init 22 = .ok (.bipush 60, 2) := by decide +kernel
theorem dX2_init_24 : decode cX2_init 24 = .ok (.invokespecial 11, 3) := by decide +kernel
theorem dX2_init_27 : decode cX2_init 27 = .ok (.putfield 20, 3) := by decide +kernel
theorem dX2_init_30 : decode cX2_init 30 = .ok (.aload_n 0, 1) := by decide +kernel
theorem dX2_init_31 : decode cX2_init 31 = .ok (.new 9, 3) := by decide +kernel
theorem dX2_init_34 : decode cX2_init 34 = .ok (.dup, 1) := by decide +kernel
theorem dX2_init_35 : decode cX2_init 35 = .ok (.bipush 60, 2) := by decide +kernel
theorem dX2_init_37 : decode cX2_init 37 = .ok (.invokespecial 11, 3) := by decide +kernel
theorem dX2_init_40 : decode cX2_init 40 = .ok (.putfield 23, 3) := by decide +kernel
theorem dX2_init_43 : decode cX2_init 43 = .ok (.aload_n 0, 1) := by decide +kernel
theorem dX2_init_44 : decode cX2_init 44 = .ok (.iconst 4, 1) := by decide +kernel
theorem dX2_init_45 : decode cX2_init 45 = .ok (.newarray .int, 2) := by decide +kernel
theorem dX2_init_47 : decode cX2_init 47 = .ok (.dup, 1) := by decide +kernel
theorem dX2_init_48 : decode cX2_init 48 = .ok (.iconst 0, 1) := by decide +kernel
theorem dX2_init_49 : decode cX2_init 49 = .ok (.bipush 100, 2) := by decide +kernel
theorem dX2_init_51 : decode cX2_init 51 = .ok (.iastore, 1) := by decide +kernel
theorem dX2_init_52 : decode cX2_init 52 = .ok (.dup, 1) := by decide +kernel
theorem dX2_init_53 : decode cX2_init 53 = .ok (.iconst 1, 1) := by decide +kernel
theorem dX2_init_54 : decode cX2_init 54 = .ok (.bipush 100, 2) := by decide +kernel
theorem dX2_init_56 : decode cX2_init 56 = .ok (.iastore, 1) := by decide +kernel
theorem dX2_init_57 : decode cX2_init 57 = .ok (.dup, 1) := by decide +kernel
theorem dX2_init_58 : decode cX2_init 58 = .ok (.iconst 2, 1) := by decide +kernel
theorem dX2_init_59 : decode cX2_init 59 = .ok (.bipush 100, 2) := by decide +kernel
theorem dX2_init_61 : decode cX2_init 61 = .ok (.iastore, 1) := by decide +kernel
theorem dX2_init_62 : decode cX2_init 62 = .ok (.dup, 1) := by decide +kernel
theorem dX2_init_63 : decode cX2_init 63 = .ok (.iconst 3, 1) := by decide +kernel
theorem dX2_init_64 : decode cX2_init 64 = .ok (.bipush 100, 2) := by decide +kernel
theorem dX2_init_66 : decode cX2_init 66 = .ok (.iastore, 1) := by decide +kernel
theorem dX2_init_67 : decode cX2_init 67 = .ok (.putfield 26, 3) := by decide +kernel
theorem dX2_init_70 : decode cX2_init 70 = .ok (.aload_n 0, 1) := by decide +kernel
theorem dX2_init_71 : decode cX2_init 71 = .ok (.sipush 900, 3) := by decide +kernel
theorem dX2_init_74 : decode cX2_init 74 = .ok (.putfield 30, 3) := by decide +kernel
theorem dX2_init_77 : decode cX2_init 77 = .ok (.aload_n 0, 1) := by decide +kernel
theorem dX2_init_78 : decode cX2_init 78 = .ok (.iconst 1, 1) := by decide +kernel
theorem dX2_init_79 : decode cX2_init 79 = .ok (.putfield 34, 3) := by decide +kernel
theorem dX2_init_82 : decode cX2_init 82 = .ok (.return_, 1) := by decide +kernel
theorem dX2_learnings_0 : decode cX2_learnings 0 = .ok (.aload_n 0, 1) := by decide +kernel
theorem dX2_learnings_1 : decode cX2_learnings 1 = .ok (.getfield 14, 3) := by decide +kernel
theorem dX2_learnings_4 : decode cX2_learnings 4 = .ok (.invokevirtual 37, 3) := by decide +kernel
theorem dX2_learnings_7 : decode cX2_learnings 7 = .ok (.ireturn, 1) := by decide +kernel
theorem dX2_isFull_0 : decode cX2_isFull 0 = .ok (.aload_n 0, 1) := by decide +kernel
theorem dX2_isFull_1 : decode cX2_isFull 1 = .ok (.getfield 14, 3) := by decide +kernel
theorem dX2_isFull_4 : decode cX2_isFull 4 = .ok (.invokevirtual 41, 3) := by decide +kernel
theorem dX2_isFull_7 : decode cX2_isFull 7 = .ok (.ireturn, 1) := by decide +kernel
theorem dX2_addLearning_0 : decode cX2_addLearning 0 = .ok (.aload_n 0, 1) := by decide +kernel
theorem dX2_addLearning_1 : decode cX2_addLearning 1 = .ok (.getfield 14, 3) := by decide +kernel
theorem dX2_addLearning_4 : decode cX2_addLearning 4 = .ok (.iload_n 1, 1) := by decide +kernel
theorem dX2_addLearning_5 : decode cX2_addLearning 5 = .ok (.invokevirtual 45, 3) := by decide +kernel
theorem dX2_addLearning_8 : decode cX2_addLearning 8 = .ok (.aload_n 0, 1) := by decide +kernel
theorem dX2_addLearning_9 : decode cX2_addLearning 9 = .ok (.getfield 20, 3) := by decide +kernel
theorem dX2_addLearning_12 : decode cX2_addLearning 12 = .ok (.iload_n 2, 1) := by decide +kernel
theorem dX2_addLearning_13 : decode cX2_addLearning 13 = .ok (.invokevirtual 45, 3) := by decide +kernel
theorem dX2_addLearning_16 : decode cX2_addLearning 16 = .ok (.aload_n 0, 1) := by decide +kernel
theorem dX2_addLearning_17 : decode cX2_addLearning 17 = .ok (.getfield 23, 3) := by decide +kernel
theorem dX2_addLearning_20 : decode cX2_addLearning 20 = .ok (.iload_n 3, 1) := by decide +kernel
theorem dX2_addLearning_21 : decode cX2_addLearning 21 = .ok (.invokevirtual 45, 3) := by decide +kernel
theorem dX2_addLearning_24 : decode cX2_addLearning 24 = .ok (.aload_n 0, 1) := by decide +kernel
theorem dX2_addLearning_25 : decode cX2_addLearning 25 = .ok (.invokevirtual 48, 3) := by decide +kernel
theorem dX2_addLearning_28 : decode cX2_addLearning 28 = .ok (.ireturn, 1) := by decide +kernel
theorem dX2_latestDay_0 : decode cX2_latestDay 0 = .ok (.iconst 0, 1) := by decide +kernel
theorem dX2_latestDay_1 : decode cX2_latestDay 1 = .ok (.istore_n 2, 1) := by decide +kernel
theorem dX2_latestDay_2 : decode cX2_latestDay 2 = .ok (.iconst 0, 1) := by decide +kernel
theorem dX2_latestDay_3 : decode cX2_latestDay 3 = .ok (.istore_n 3, 1) := by decide +kernel
theorem dX2_latestDay_4 : decode cX2_latestDay 4 = .ok (.iload_n 3, 1) := by decide +kernel
theorem dX2_latestDay_5 : decode cX2_latestDay 5 = .ok (.aload_n 0, 1) := by decide +kernel
theorem dX2_latestDay_6 : decode cX2_latestDay 6 = .ok (.invokevirtual 48, 3) := by decide +kernel
theorem dX2_latestDay_9 : decode cX2_latestDay 9 = .ok (.if_icmp .ge 34, 3) := by decide +kernel
theorem dX2_latestDay_12 : decode cX2_latestDay 12 = .ok (.aload_n 0, 1) := by decide +kernel
theorem dX2_latestDay_13 : decode cX2_latestDay 13 = .ok (.getfield 14, 3) := by decide +kernel
theorem dX2_latestDay_16 : decode cX2_latestDay 16 = .ok (.iload_n 3, 1) := by decide +kernel
theorem dX2_latestDay_17 : decode cX2_latestDay 17 = .ok (.invokevirtual 51, 3) := by decide +kernel
theorem dX2_latestDay_20 : decode cX2_latestDay 20 = .ok (.iload_n 1, 1) := by decide +kernel
theorem dX2_latestDay_21 : decode cX2_latestDay 21 = .ok (.if_icmp .ne 16, 3) := by decide +kernel
theorem dX2_latestDay_24 : decode cX2_latestDay 24 = .ok (.iload_n 2, 1) := by decide +kernel
theorem dX2_latestDay_25 : decode cX2_latestDay 25 = .ok (.aload_n 0, 1) := by decide +kernel
theorem dX2_latestDay_26 : decode cX2_latestDay 26 = .ok (.getfield 23, 3) := by decide +kernel
theorem dX2_latestDay_29 : decode cX2_latestDay 29 = .ok (.iload_n 3, 1) := by decide +kernel
theorem dX2_latestDay_30 : decode cX2_latestDay 30 = .ok (.invokevirtual 51, 3) := by decide +kernel
theorem dX2_latestDay_33 : decode cX2_latestDay 33 = .ok (.invokestatic 55, 3) := by decide +kernel
theorem dX2_latestDay_36 : decode cX2_latestDay 36 = .ok (.istore_n 2, 1) := by decide +kernel
theorem dX2_latestDay_37 : decode cX2_latestDay 37 = .ok (.iinc 3 1, 3) := by decide +kernel
theorem dX2_latestDay_40 : decode cX2_latestDay 40 = .ok (.goto (-36), 3) := by decide +kernel
theorem dX2_latestDay_43 : decode cX2_latestDay 43 = .ok (.iload_n 2, 1) := by decide +kernel
theorem dX2_latestDay_44 : decode cX2_latestDay 44 = .ok (.ireturn, 1) := by decide +kernel
theorem dX2_worthOf_0 : decode cX2_worthOf 0 = .ok (.iconst 0, 1) := by decide +kernel
theorem dX2_worthOf_1 : decode cX2_worthOf 1 = .ok (.istore 4, 2) := by decide +kernel
theorem dX2_worthOf_3 : decode cX2_worthOf 3 = .ok (.iconst 0, 1) := by decide +kernel
theorem dX2_worthOf_4 : decode cX2_worthOf 4 = .ok (.istore 5, 2) := by decide +kernel
theorem dX2_worthOf_6 : decode cX2_worthOf 6 = .ok (.iload 5, 2) := by decide +kernel
theorem dX2_worthOf_8 : decode cX2_worthOf 8 = .ok (.aload_n 0, 1) := by decide +kernel
theorem dX2_worthOf_9 : decode cX2_worthOf 9 = .ok (.invokevirtual 48, 3) := by decide +kernel
theorem dX2_worthOf_12 : decode cX2_worthOf 12 = .ok (.if_icmp .ge 53, 3) := by decide +kernel
theorem dX2_worthOf_15 : decode cX2_worthOf 15 = .ok (.aload_n 0, 1) := by decide +kernel
theorem dX2_worthOf_16 : decode cX2_worthOf 16 = .ok (.iload 5, 2) := by decide +kernel
theorem dX2_worthOf_18 : decode cX2_worthOf 18 = .ok (.iload_n 1, 1) := by decide +kernel
theorem dX2_worthOf_19 : decode cX2_worthOf 19 = .ok (.iload_n 2, 1) := by decide +kernel
theorem dX2_worthOf_20 : decode cX2_worthOf 20 = .ok (.invokevirtual 61, 3) := by decide +kernel
theorem dX2_worthOf_23 : decode cX2_worthOf 23 = .ok (.ifCond .eq 36, 3) := by decide +kernel
theorem dX2_worthOf_26 : decode cX2_worthOf 26 = .ok (.aload_n 0, 1) := by decide +kernel
theorem dX2_worthOf_27 : decode cX2_worthOf 27 = .ok (.getfield 23, 3) := by decide +kernel
theorem dX2_worthOf_30 : decode cX2_worthOf 30 = .ok (.iload 5, 2) := by decide +kernel
theorem dX2_worthOf_32 : decode cX2_worthOf 32 = .ok (.invokevirtual 51, 3) := by decide +kernel
theorem dX2_worthOf_35 : decode cX2_worthOf 35 = .ok (.iload_n 3, 1) := by decide +kernel
theorem dX2_worthOf_36 : decode cX2_worthOf 36 = .ok (.if_icmp .gt 23, 3) := by decide +kernel
theorem dX2_worthOf_39 : decode cX2_worthOf 39 = .ok (.iload 4, 2) := by decide +kernel
theorem dX2_worthOf_41 : decode cX2_worthOf 41 = .ok (.aload_n 0, 1) := by decide +kernel
theorem dX2_worthOf_42 : decode cX2_worthOf 42 = .ok (.iload_n 3, 1) := by decide +kernel
theorem dX2_worthOf_43 : decode cX2_worthOf 43 = .ok (.aload_n 0, 1) := by decide +kernel
theorem dX2_worthOf_44 : decode cX2_worthOf 44 = .ok (.getfield 23, 3) := by decide +kernel
theorem dX2_worthOf_47 : decode cX2_worthOf 47 = .ok (.iload 5, 2) := by decide +kernel
theorem dX2_worthOf_49 : decode cX2_worthOf 49 = .ok (.invokevirtual 51, 3) := by decide +kernel
theorem dX2_worthOf_52 : decode cX2_worthOf 52 = .ok (.isub, 1) := by decide +kernel
theorem dX2_worthOf_53 : decode cX2_worthOf 53 = .ok (.invokevirtual 65, 3) := by decide +kernel
theorem dX2_worthOf_56 : decode cX2_worthOf 56 = .ok (.iadd, 1) := by decide +kernel
theorem dX2_worthOf_57 : decode cX2_worthOf 57 = .ok (.istore 4, 2) := by decide +kernel
theorem dX2_worthOf_59 : decode cX2_worthOf 59 = .ok (.iinc 5 1, 3) := by decide +kernel
theorem dX2_worthOf_62 : decode cX2_worthOf 62 = .ok (.goto (-56), 3) := by decide +kernel
theorem dX2_worthOf_65 : decode cX2_worthOf 65 = .ok (.iload 4, 2) := by decide +kernel
theorem dX2_worthOf_67 : decode cX2_worthOf 67 = .ok (.ireturn, 1) := by decide +kernel
theorem dX2_isOf_0 : decode cX2_isOf 0 = .ok (.aload_n 0, 1) := by decide +kernel
theorem dX2_isOf_1 : decode cX2_isOf 1 = .ok (.getfield 14, 3) := by decide +kernel
theorem dX2_isOf_4 : decode cX2_isOf 4 = .ok (.iload_n 1, 1) := by decide +kernel
theorem dX2_isOf_5 : decode cX2_isOf 5 = .ok (.invokevirtual 51, 3) := by decide +kernel
theorem dX2_isOf_8 : decode cX2_isOf 8 = .ok (.iload_n 2, 1) := by decide +kernel
theorem dX2_isOf_9 : decode cX2_isOf 9 = .ok (.if_icmp .ne 19, 3) := by decide +kernel
theorem dX2_isOf_12 : decode cX2_isOf 12 = .ok (.aload_n 0, 1) := by decide +kernel
theorem dX2_isOf_13 : decode cX2_isOf 13 = .ok (.getfield 20, 3) := by decide +kernel
theorem dX2_isOf_16 : decode cX2_isOf 16 = .ok (.iload_n 1, 1) := by decide +kernel
theorem dX2_isOf_17 : decode cX2_isOf 17 = .ok (.invokevirtual 51, 3) := by decide +kernel
theorem dX2_isOf_20 : decode cX2_isOf 20 = .ok (.iload_n 3, 1) := by decide +kernel
theorem dX2_isOf_21 : decode cX2_isOf 21 = .ok (.if_icmp .ne 7, 3) := by decide +kernel
theorem dX2_isOf_24 : decode cX2_isOf 24 = .ok (.iconst 1, 1) := by decide +kernel
theorem dX2_isOf_25 : decode cX2_isOf 25 = .ok (.goto 4, 3) := by decide +kernel
theorem dX2_isOf_28 : decode cX2_isOf 28 = .ok (.iconst 0, 1) := by decide +kernel
theorem dX2_isOf_29 : decode cX2_isOf 29 = .ok (.ireturn, 1) := by decide +kernel
theorem dX2_faded_0 : decode cX2_faded 0 = .ok (.sipush 1000, 3) := by decide +kernel
theorem dX2_faded_3 : decode cX2_faded 3 = .ok (.istore_n 2, 1) := by decide +kernel
theorem dX2_faded_4 : decode cX2_faded 4 = .ok (.iconst 0, 1) := by decide +kernel
theorem dX2_faded_5 : decode cX2_faded 5 = .ok (.istore_n 3, 1) := by decide +kernel
theorem dX2_faded_6 : decode cX2_faded 6 = .ok (.iload_n 3, 1) := by decide +kernel
theorem dX2_faded_7 : decode cX2_faded 7 = .ok (.iload_n 1, 1) := by decide +kernel
theorem dX2_faded_8 : decode cX2_faded 8 = .ok (.if_icmp .ge 32, 3) := by decide +kernel
theorem dX2_faded_11 : decode cX2_faded 11 = .ok (.iload_n 2, 1) := by decide +kernel
theorem dX2_faded_12 : decode cX2_faded 12 = .ok (.aload_n 0, 1) := by decide +kernel
theorem dX2_faded_13 : decode cX2_faded 13 = .ok (.getfield 30, 3) := by decide +kernel
theorem dX2_faded_16 : decode cX2_faded 16 = .ok (.imul, 1) := by decide +kernel
theorem dX2_faded_17 : decode cX2_faded 17 = .ok (.sipush 1000, 3) := by decide +kernel
theorem dX2_faded_20 : decode cX2_faded 20 = .ok (.idiv, 1) := by decide +kernel
theorem dX2_faded_21 : decode cX2_faded 21 = .ok (.istore 4, 2) := by decide +kernel
theorem dX2_faded_23 : decode cX2_faded 23 = .ok (.iload 4, 2) := by decide +kernel
theorem dX2_faded_25 : decode cX2_faded 25 = .ok (.iload_n 2, 1) := by decide +kernel
theorem dX2_faded_26 : decode cX2_faded 26 = .ok (.if_icmp .ne 5, 3) := by decide +kernel
theorem dX2_faded_29 : decode cX2_faded 29 = .ok (.iload_n 2, 1) := by decide +kernel
theorem dX2_faded_30 : decode cX2_faded 30 = .ok (.ireturn, 1) := by decide +kernel
theorem dX2_faded_31 : decode cX2_faded 31 = .ok (.iload 4, 2) := by decide +kernel
theorem dX2_faded_33 : decode cX2_faded 33 = .ok (.istore_n 2, 1) := by decide +kernel
theorem dX2_faded_34 : decode cX2_faded 34 = .ok (.iinc 3 1, 3) := by decide +kernel
theorem dX2_faded_37 : decode cX2_faded 37 = .ok (.goto (-31), 3) := by decide +kernel
theorem dX2_faded_40 : decode cX2_faded 40 = .ok (.iload_n 2, 1) := by decide +kernel
theorem dX2_faded_41 : decode cX2_faded 41 = .ok (.ireturn, 1) := by decide +kernel
theorem dX2_dropLearnings_0 : decode cX2_dropLearnings 0 = .ok (.aload_n 0, 1) := by decide +kernel
theorem dX2_dropLearnings_1 : decode cX2_dropLearnings 1 = .ok (.invokevirtual 48, 3) := by decide +kernel
theorem dX2_dropLearnings_4 : decode cX2_dropLearnings 4 = .ok (.istore_n 3, 1) := by decide +kernel
theorem dX2_dropLearnings_5 : decode cX2_dropLearnings 5 = .ok (.iload_n 3, 1) := by decide +kernel
theorem dX2_dropLearnings_6 : decode cX2_dropLearnings 6 = .ok (.iconst 1, 1) := by decide +kernel
theorem dX2_dropLearnings_7 : decode cX2_dropLearnings 7 = .ok (.isub, 1) := by decide +kernel
theorem dX2_dropLearnings_8 : decode cX2_dropLearnings 8 = .ok (.istore 4, 2) := by decide +kernel
theorem dX2_dropLearnings_10 : decode cX2_dropLearnings 10 = .ok (.iload 4, 2) := by decide +kernel
theorem dX2_dropLearnings_12 : decode cX2_dropLearnings 12 = .ok (.ifCond .lt 67, 3) := by decide +kernel
theorem dX2_dropLearnings_15 : decode cX2_dropLearnings 15 = .ok (.aload_n 0, 1) := by decide +kernel
theorem dX2_dropLearnings_16 : decode cX2_dropLearnings 16 = .ok (.iload 4, 2) := by decide +kernel
theorem dX2_dropLearnings_18 : decode cX2_dropLearnings 18 = .ok (.iload_n 1, 1) := by decide +kernel
theorem dX2_dropLearnings_19 : decode cX2_dropLearnings 19 = .ok (.iload_n 2, 1) := by decide +kernel
theorem dX2_dropLearnings_20 : decode cX2_dropLearnings 20 = .ok (.iconst (-1), 1) := by decide +kernel
theorem dX2_dropLearnings_21 : decode cX2_dropLearnings 21 = .ok (.if_icmp .ne 15, 3) := by decide +kernel
theorem dX2_dropLearnings_24 : decode cX2_dropLearnings 24 = .ok (.aload_n 0, 1) := by decide +kernel
theorem dX2_dropLearnings_25 : decode cX2_dropLearnings 25 = .ok (.getfield 20, 3) := by decide +kernel
theorem dX2_dropLearnings_28 : decode cX2_dropLearnings 28 = .ok (.iload 4, 2) := by decide +kernel
theorem dX2_dropLearnings_30 : decode cX2_dropLearnings 30 = .ok (.invokevirtual 51, 3) := by decide +kernel
theorem dX2_dropLearnings_33 : decode cX2_dropLearnings 33 = .ok (.goto 4, 3) := by decide +kernel
theorem dX2_dropLearnings_36 : decode cX2_dropLearnings 36 = .ok (.iload_n 2, 1) := by decide +kernel
theorem dX2_dropLearnings_37 : decode cX2_dropLearnings 37 = .ok (.invokevirtual 61, 3) := by decide +kernel
theorem dX2_dropLearnings_40 : decode cX2_dropLearnings 40 = .ok (.ifCond .eq 33, 3) := by decide +kernel
theorem dX2_dropLearnings_43 : decode cX2_dropLearnings 43 = .ok (.aload_n 0, 1) := by decide +kernel
theorem dX2_dropLearnings_44 : decode cX2_dropLearnings 44 = .ok (.getfield 14, 3) := by decide +kernel
theorem dX2_dropLearnings_47 : decode cX2_dropLearnings 47 = .ok (.iload 4, 2) := by decide +kernel
theorem dX2_dropLearnings_49 : decode cX2_dropLearnings 49 = .ok (.invokevirtual 68, 3) := by decide +kernel
theorem dX2_dropLearnings_52 : decode cX2_dropLearnings 52 = .ok (.pop, 1) := by decide +kernel
theorem dX2_dropLearnings_53 : decode cX2_dropLearnings 53 = .ok (.aload_n 0, 1) := by decide +kernel
theorem dX2_dropLearnings_54 : decode cX2_dropLearnings 54 = .ok (.getfield 20, 3) := by decide +kernel
theorem dX2_dropLearnings_57 : decode cX2_dropLearnings 57 = .ok (.iload 4, 2) := by decide +kernel
theorem dX2_dropLearnings_59 : decode cX2_dropLearnings 59 = .ok (.invokevirtual 68, 3) := by decide +kernel
theorem dX2_dropLearnings_62 : decode cX2_dropLearnings 62 = .ok (.pop, 1) := by decide +kernel
theorem dX2_dropLearnings_63 : decode cX2_dropLearnings 63 = .ok (.aload_n 0, 1) := by decide +kernel
theorem dX2_dropLearnings_64 : decode cX2_dropLearnings 64 = .ok (.getfield 23, 3) := by decide +kernel
theorem dX2_dropLearnings_67 : decode cX2_dropLearnings 67 = .ok (.iload 4, 2) := by decide +kernel
theorem dX2_dropLearnings_69 : decode cX2_dropLearnings 69 = .ok (.invokevirtual 68, 3) := by decide +kernel
theorem dX2_dropLearnings_72 : decode cX2_dropLearnings 72 = .ok (.pop, 1) := by decide +kernel
theorem dX2_dropLearnings_73 : decode cX2_dropLearnings 73 = .ok (.iinc 4 (-1), 3) := by decide +kernel
theorem dX2_dropLearnings_76 : decode cX2_dropLearnings 76 = .ok (.goto (-66), 3) := by decide +kernel
theorem dX2_dropLearnings_79 : decode cX2_dropLearnings 79 = .ok (.iload_n 3, 1) := by decide +kernel
theorem dX2_dropLearnings_80 : decode cX2_dropLearnings 80 = .ok (.aload_n 0, 1) := by decide +kernel
theorem dX2_dropLearnings_81 : decode cX2_dropLearnings 81 = .ok (.invokevirtual 48, 3) := by decide +kernel
theorem dX2_dropLearnings_84 : decode cX2_dropLearnings 84 = .ok (.isub, 1) := by decide +kernel
theorem dX2_dropLearnings_85 : decode cX2_dropLearnings 85 = .ok (.ireturn, 1) := by decide +kernel
theorem dX2_setFade_0 : decode cX2_setFade 0 = .ok (.aload_n 0, 1) := by decide +kernel
theorem dX2_setFade_1 : decode cX2_setFade 1 = .ok (.getfield 30, 3) := by decide +kernel
theorem dX2_setFade_4 : decode cX2_setFade 4 = .ok (.istore_n 2, 1) := by decide +kernel
theorem dX2_setFade_5 : decode cX2_setFade 5 = .ok (.aload_n 0, 1) := by decide +kernel
theorem dX2_setFade_6 : decode cX2_setFade 6 = .ok (.iload_n 1, 1) := by decide +kernel
theorem dX2_setFade_7 : decode cX2_setFade 7 = .ok (.putfield 30, 3) := by decide +kernel
theorem dX2_setFade_10 : decode cX2_setFade 10 = .ok (.iload_n 2, 1) := by decide +kernel
theorem dX2_setFade_11 : decode cX2_setFade 11 = .ok (.ireturn, 1) := by decide +kernel
theorem dX2_budgetOf_0 : decode cX2_budgetOf 0 = .ok (.aload_n 0, 1) := by decide +kernel
theorem dX2_budgetOf_1 : decode cX2_budgetOf 1 = .ok (.getfield 26, 3) := by decide +kernel
theorem dX2_budgetOf_4 : decode cX2_budgetOf 4 = .ok (.iload_n 1, 1) := by decide +kernel
theorem dX2_budgetOf_5 : decode cX2_budgetOf 5 = .ok (.iaload, 1) := by decide +kernel
theorem dX2_budgetOf_6 : decode cX2_budgetOf 6 = .ok (.ireturn, 1) := by decide +kernel
theorem dX2_setBudget_0 : decode cX2_setBudget 0 = .ok (.aload_n 0, 1) := by decide +kernel
theorem dX2_setBudget_1 : decode cX2_setBudget 1 = .ok (.getfield 26, 3) := by decide +kernel
theorem dX2_setBudget_4 : decode cX2_setBudget 4 = .ok (.iload_n 1, 1) := by decide +kernel
theorem dX2_setBudget_5 : decode cX2_setBudget 5 = .ok (.iaload, 1) := by decide +kernel
theorem dX2_setBudget_6 : decode cX2_setBudget 6 = .ok (.istore_n 3, 1) := by decide +kernel
theorem dX2_setBudget_7 : decode cX2_setBudget 7 = .ok (.aload_n 0, 1) := by decide +kernel
theorem dX2_setBudget_8 : decode cX2_setBudget 8 = .ok (.getfield 26, 3) := by decide +kernel
theorem dX2_setBudget_11 : decode cX2_setBudget 11 = .ok (.iload_n 1, 1) := by decide +kernel
theorem dX2_setBudget_12 : decode cX2_setBudget 12 = .ok (.iload_n 2, 1) := by decide +kernel
theorem dX2_setBudget_13 : decode cX2_setBudget 13 = .ok (.iastore, 1) := by decide +kernel
theorem dX2_setBudget_14 : decode cX2_setBudget 14 = .ok (.iload_n 3, 1) := by decide +kernel
theorem dX2_setBudget_15 : decode cX2_setBudget 15 = .ok (.ireturn, 1) := by decide +kernel
theorem dX2_setSeed_0 : decode cX2_setSeed 0 = .ok (.aload_n 0, 1) := by decide +kernel
theorem dX2_setSeed_1 : decode cX2_setSeed 1 = .ok (.getfield 34, 3) := by decide +kernel
theorem dX2_setSeed_4 : decode cX2_setSeed 4 = .ok (.istore_n 2, 1) := by decide +kernel
theorem dX2_setSeed_5 : decode cX2_setSeed 5 = .ok (.aload_n 0, 1) := by decide +kernel
theorem dX2_setSeed_6 : decode cX2_setSeed 6 = .ok (.iload_n 1, 1) := by decide +kernel
theorem dX2_setSeed_7 : decode cX2_setSeed 7 = .ok (.putfield 34, 3) := by decide +kernel
theorem dX2_setSeed_10 : decode cX2_setSeed 10 = .ok (.iload_n 2, 1) := by decide +kernel
theorem dX2_setSeed_11 : decode cX2_setSeed 11 = .ok (.ireturn, 1) := by decide +kernel
theorem dX2_givers_0 : decode cX2_givers 0 = .ok (.iconst 0, 1) := by decide +kernel
theorem dX2_givers_1 : decode cX2_givers 1 = .ok (.istore_n 2, 1) := by decide +kernel
theorem dX2_givers_2 : decode cX2_givers 2 = .ok (.iconst 0, 1) := by decide +kernel
theorem dX2_givers_3 : decode cX2_givers 3 = .ok (.istore_n 3, 1) := by decide +kernel
theorem dX2_givers_4 : decode cX2_givers 4 = .ok (.iload_n 3, 1) := by decide +kernel
theorem dX2_givers_5 : decode cX2_givers 5 = .ok (.iconst 4, 1) := by decide +kernel
theorem dX2_givers_6 : decode cX2_givers 6 = .ok (.if_icmp .ge 27, 3) := by decide +kernel
theorem dX2_givers_9 : decode cX2_givers 9 = .ok (.iload_n 2, 1) := by decide +kernel
theorem dX2_givers_10 : decode cX2_givers 10 = .ok (.aload_n 0, 1) := by decide +kernel
theorem dX2_givers_11 : decode cX2_givers 11 = .ok (.getfield 26, 3) := by decide +kernel
theorem dX2_givers_14 : decode cX2_givers 14 = .ok (.iload_n 3, 1) := by decide +kernel
theorem dX2_givers_15 : decode cX2_givers 15 = .ok (.iaload, 1) := by decide +kernel
theorem dX2_givers_16 : decode cX2_givers 16 = .ok (.iload_n 1, 1) := by decide +kernel
theorem dX2_givers_17 : decode cX2_givers 17 = .ok (.if_icmp .lt 7, 3) := by decide +kernel
theorem dX2_givers_20 : decode cX2_givers 20 = .ok (.iconst 1, 1) := by decide +kernel
theorem dX2_givers_21 : decode cX2_givers 21 = .ok (.goto 4, 3) := by decide +kernel
theorem dX2_givers_24 : decode cX2_givers 24 = .ok (.iconst 0, 1) := by decide +kernel
theorem dX2_givers_25 : decode cX2_givers 25 = .ok (.iadd, 1) := by decide +kernel
theorem dX2_givers_26 : decode cX2_givers 26 = .ok (.istore_n 2, 1) := by decide +kernel
theorem dX2_givers_27 : decode cX2_givers 27 = .ok (.iinc 3 1, 3) := by decide +kernel
theorem dX2_givers_30 : decode cX2_givers 30 = .ok (.goto (-26), 3) := by decide +kernel
theorem dX2_givers_33 : decode cX2_givers 33 = .ok (.iload_n 2, 1) := by decide +kernel
theorem dX2_givers_34 : decode cX2_givers 34 = .ok (.ireturn, 1) := by decide +kernel
theorem dX2_sumWithLot_0 : decode cX2_sumWithLot 0 = .ok (.iconst 0, 1) := by decide +kernel
theorem dX2_sumWithLot_1 : decode cX2_sumWithLot 1 = .ok (.istore 4, 2) := by decide +kernel
theorem dX2_sumWithLot_3 : decode cX2_sumWithLot 3 = .ok (.iconst 0, 1) := by decide +kernel
theorem dX2_sumWithLot_4 : decode cX2_sumWithLot 4 = .ok (.istore 5, 2) := by decide +kernel
theorem dX2_sumWithLot_6 : decode cX2_sumWithLot 6 = .ok (.iload 5, 2) := by decide +kernel
theorem dX2_sumWithLot_8 : decode cX2_sumWithLot 8 = .ok (.iconst 4, 1) := by decide +kernel
theorem dX2_sumWithLot_9 : decode cX2_sumWithLot 9 = .ok (.if_icmp .ge 50, 3) := by decide +kernel
theorem dX2_sumWithLot_12 : decode cX2_sumWithLot 12 = .ok (.aload_n 0, 1) := by decide +kernel
theorem dX2_sumWithLot_13 : decode cX2_sumWithLot 13 = .ok (.getfield 26, 3) := by decide +kernel
theorem dX2_sumWithLot_16 : decode cX2_sumWithLot 16 = .ok (.iload 5, 2) := by decide +kernel
theorem dX2_sumWithLot_18 : decode cX2_sumWithLot 18 = .ok (.iaload, 1) := by decide +kernel
theorem dX2_sumWithLot_19 : decode cX2_sumWithLot 19 = .ok (.iload_n 2, 1) := by decide +kernel
theorem dX2_sumWithLot_20 : decode cX2_sumWithLot 20 = .ok (.if_icmp .lt 33, 3) := by decide +kernel
theorem dX2_sumWithLot_23 : decode cX2_sumWithLot 23 = .ok (.iload 4, 2) := by decide +kernel
theorem dX2_sumWithLot_25 : decode cX2_sumWithLot 25 = .ok (.sipush 5000, 3) := by decide +kernel
theorem dX2_sumWithLot_28 : decode cX2_sumWithLot 28 = .ok (.aload_n 0, 1) := by decide +kernel
theorem dX2_sumWithLot_29 : decode cX2_sumWithLot 29 = .ok (.iload 5, 2) := by decide +kernel
theorem dX2_sumWithLot_31 : decode cX2_sumWithLot 31 = .ok (.iload_n 1, 1) := by decide +kernel
theorem dX2_sumWithLot_32 : decode cX2_sumWithLot 32 = .ok (.iload_n 3, 1) := by decide +kernel
theorem dX2_sumWithLot_33 : decode cX2_sumWithLot 33 = .ok (.invokevirtual 71, 3) := by decide +kernel
theorem dX2_sumWithLot_36 : decode cX2_sumWithLot 36 = .ok (.invokestatic 75, 3) := by decide +kernel
theorem dX2_sumWithLot_39 : decode cX2_sumWithLot 39 = .ok (.iadd, 1) := by decide +kernel
theorem dX2_sumWithLot_40 : decode cX2_sumWithLot 40 = .ok (.istore 4, 2) := by decide +kernel
theorem dX2_sumWithLot_42 : decode cX2_sumWithLot 42 = .ok (.aload_n 0, 1) := by decide +kernel
theorem dX2_sumWithLot_43 : decode cX2_sumWithLot 43 = .ok (.getfield 26, 3) := by decide +kernel
theorem dX2_sumWithLot_46 : decode cX2_sumWithLot 46 = .ok (.iload 5, 2) := by decide +kernel
theorem dX2_sumWithLot_48 : decode cX2_sumWithLot 48 = .ok (.dup2, 1) := by decide +kernel
theorem dX2_sumWithLot_49 : decode cX2_sumWithLot 49 = .ok (.iaload, 1) := by decide +kernel
theorem dX2_sumWithLot_50 : decode cX2_sumWithLot 50 = .ok (.iload_n 2, 1) := by decide +kernel
theorem dX2_sumWithLot_51 : decode cX2_sumWithLot 51 = .ok (.isub, 1) := by decide +kernel
theorem dX2_sumWithLot_52 : decode cX2_sumWithLot 52 = .ok (.iastore, 1) := by decide +kernel
theorem dX2_sumWithLot_53 : decode cX2_sumWithLot 53 = .ok (.iinc 5 1, 3) := by decide +kernel
theorem dX2_sumWithLot_56 : decode cX2_sumWithLot 56 = .ok (.goto (-50), 3) := by decide +kernel
theorem dX2_sumWithLot_59 : decode cX2_sumWithLot 59 = .ok (.iload 4, 2) := by decide +kernel
theorem dX2_sumWithLot_61 : decode cX2_sumWithLot 61 = .ok (.aload_n 0, 1) := by decide +kernel
theorem dX2_sumWithLot_62 : decode cX2_sumWithLot 62 = .ok (.iload_n 2, 1) := by decide +kernel
theorem dX2_sumWithLot_63 : decode cX2_sumWithLot 63 = .ok (.invokevirtual 78, 3) := by decide +kernel
theorem dX2_sumWithLot_66 : decode cX2_sumWithLot 66 = .ok (.iadd, 1) := by decide +kernel
theorem dX2_sumWithLot_67 : decode cX2_sumWithLot 67 = .ok (.ireturn, 1) := by decide +kernel
theorem dX2_drawLot_0 : decode cX2_drawLot 0 = .ok (.aload_n 0, 1) := by decide +kernel
theorem dX2_drawLot_1 : decode cX2_drawLot 1 = .ok (.aload_n 0, 1) := by decide +kernel
theorem dX2_drawLot_2 : decode cX2_drawLot 2 = .ok (.getfield 34, 3) := by decide +kernel
theorem dX2_drawLot_5 : decode cX2_drawLot 5 = .ok (.i2l, 1) := by decide +kernel
theorem dX2_drawLot_6 : decode cX2_drawLot 6 = .ok (.ldc2_w 81, 3) := by decide +kernel
theorem dX2_drawLot_9 : decode cX2_drawLot 9 = .ok (.lmul, 1) := by decide +kernel
theorem dX2_drawLot_10 : decode cX2_drawLot 10 = .ok (.ldc2_w 83, 3) := by decide +kernel
theorem dX2_drawLot_13 : decode cX2_drawLot 13 = .ok (.lrem, 1) := by decide +kernel
theorem dX2_drawLot_14 : decode cX2_drawLot 14 = .ok (.l2i, 1) := by decide +kernel
theorem dX2_drawLot_15 : decode cX2_drawLot 15 = .ok (.putfield 34, 3) := by decide +kernel
theorem dX2_drawLot_18 : decode cX2_drawLot 18 = .ok (.aload_n 0, 1) := by decide +kernel
theorem dX2_drawLot_19 : decode cX2_drawLot 19 = .ok (.getfield 34, 3) := by decide +kernel
theorem dX2_drawLot_22 : decode cX2_drawLot 22 = .ok (.sipush 2001, 3) := by decide +kernel
theorem dX2_drawLot_25 : decode cX2_drawLot 25 = .ok (.irem, 1) := by decide +kernel
theorem dX2_drawLot_26 : decode cX2_drawLot 26 = .ok (.sipush 1000, 3) := by decide +kernel
theorem dX2_drawLot_29 : decode cX2_drawLot 29 = .ok (.isub, 1) := by decide +kernel
theorem dX2_drawLot_30 : decode cX2_drawLot 30 = .ok (.bipush 100, 2) := by decide +kernel
theorem dX2_drawLot_32 : decode cX2_drawLot 32 = .ok (.imul, 1) := by decide +kernel
theorem dX2_drawLot_33 : decode cX2_drawLot 33 = .ok (.iload_n 1, 1) := by decide +kernel
theorem dX2_drawLot_34 : decode cX2_drawLot 34 = .ok (.iconst 1, 1) := by decide +kernel
theorem dX2_drawLot_35 : decode cX2_drawLot 35 = .ok (.invokestatic 55, 3) := by decide +kernel
theorem dX2_drawLot_38 : decode cX2_drawLot 38 = .ok (.idiv, 1) := by decide +kernel
theorem dX2_drawLot_39 : decode cX2_drawLot 39 = .ok (.ireturn, 1) := by decide +kernel
theorem dX3_init_0 : decode cX3_init 0 = .ok (.aload_n 0, 1) := by decide +kernel
theorem dX3_init_1 : decode cX3_init 1 = .ok (.invokespecial 3, 3) := by decide +kernel
theorem dX3_init_4 : decode cX3_init 4 = .ok (.aload_n 0, 1) := by decide +kernel
theorem dX3_init_5 : decode cX3_init 5 = .ok (.bipush 7, 2) := by decide +kernel
theorem dX3_init_7 : decode cX3_init 7 = .ok (.newarray .int, 2) := by decide +kernel
theorem dX3_init_9 : decode cX3_init 9 = .ok (.putfield 9, 3) := by decide +kernel
theorem dX3_init_12 : decode cX3_init 12 = .ok (.aload_n 0, 1) := by decide +kernel
theorem dX3_init_13 : decode cX3_init 13 = .ok (.bipush 7, 2) := by decide +kernel
theorem dX3_init_15 : decode cX3_init 15 = .ok (.newarray .int, 2) := by decide +kernel
theorem dX3_init_17 : decode cX3_init 17 = .ok (.putfield 15, 3) := by decide +kernel
theorem dX3_init_20 : decode cX3_init 20 = .ok (.aload_n 0, 1) := by decide +kernel
theorem dX3_init_21 : decode cX3_init 21 = .ok (.bipush 7, 2) := by decide +kernel
theorem dX3_init_23 : decode cX3_init 23 = .ok (.newarray .int, 2) := by decide +kernel
theorem dX3_init_25 : decode cX3_init 25 = .ok (.putfield 18, 3) := by decide +kernel
theorem dX3_init_28 : decode cX3_init 28 = .ok (.aload_n 0, 1) := by decide +kernel
theorem dX3_init_29 : decode cX3_init 29 = .ok (.bipush 7, 2) := by decide +kernel
theorem dX3_init_31 : decode cX3_init 31 = .ok (.bipush 7, 2) := by decide +kernel
theorem dX3_init_33 : decode cX3_init 33 = .ok (.multianewarray 21 2, 4) := by decide +kernel
theorem dX3_init_37 : decode cX3_init 37 = .ok (.putfield 23, 3) := by decide +kernel
theorem dX3_init_40 : decode cX3_init 40 = .ok (.aload_n 0, 1) := by decide +kernel
theorem dX3_init_41 : decode cX3_init 41 = .ok (.iconst 5, 1) := by decide +kernel
theorem dX3_init_42 : decode cX3_init 42 = .ok (.putfield 26, 3) := by decide +kernel
theorem dX3_init_45 : decode cX3_init 45 = .ok (.aload_n 0, 1) := by decide +kernel
theorem dX3_init_46 : decode cX3_init 46 = .ok (.bipush 7, 2) := by decide +kernel
theorem dX3_init_48 : decode cX3_init 48 = .ok (.newarray .int, 2) := by decide +kernel
theorem dX3_init_50 : decode cX3_init 50 = .ok (.putfield 30, 3) := by decide +kernel
theorem dX3_init_53 : decode cX3_init 53 = .ok (.aload_n 0, 1) := by decide +kernel
theorem dX3_init_54 : decode cX3_init 54 = .ok (.iconst 4, 1) := by decide +kernel
theorem dX3_init_55 : decode cX3_init 55 = .ok (.invokevirtual 33, 3) := by decide +kernel
theorem dX3_init_58 : decode cX3_init 58 = .ok (.pop, 1) := by decide +kernel
theorem dX3_init_59 : decode cX3_init 59 = .ok (.return_, 1) := by decide +kernel
theorem dX3_size_0 : decode cX3_size 0 = .ok (.aload_n 0, 1) := by decide +kernel
theorem dX3_size_1 : decode cX3_size 1 = .ok (.getfield 37, 3) := by decide +kernel
theorem dX3_size_4 : decode cX3_size 4 = .ok (.ireturn, 1) := by decide +kernel
theorem dX3_startAnew_0 : decode cX3_startAnew 0 = .ok (.aload_n 0, 1) := by decide +kernel
theorem dX3_startAnew_1 : decode cX3_startAnew 1 = .ok (.getfield 37, 3) := by decide +kernel
theorem dX3_startAnew_4 : decode cX3_startAnew 4 = .ok (.istore_n 2, 1) := by decide +kernel
theorem dX3_startAnew_5 : decode cX3_startAnew 5 = .ok (.aload_n 0, 1) := by decide +kernel
theorem dX3_startAnew_6 : decode cX3_startAnew 6 = .ok (.iload_n 1, 1) := by decide +kernel
theorem dX3_startAnew_7 : decode cX3_startAnew 7 = .ok (.putfield 37, 3) := by decide +kernel
theorem dX3_startAnew_10 : decode cX3_startAnew 10 = .ok (.iconst 0, 1) := by decide +kernel
theorem dX3_startAnew_11 : decode cX3_startAnew 11 = .ok (.istore_n 3, 1) := by decide +kernel
theorem dX3_startAnew_12 : decode cX3_startAnew 12 = .ok (.iload_n 3, 1) := by decide +kernel
theorem dX3_startAnew_13 : decode cX3_startAnew 13 = .ok (.bipush 7, 2) := by decide +kernel
theorem dX3_startAnew_15 : decode cX3_startAnew 15 = .ok (.if_icmp .ge 56, 3) := by decide +kernel
theorem dX3_startAnew_18 : decode cX3_startAnew 18 = .ok (.aload_n 0, 1) := by decide +kernel
theorem dX3_startAnew_19 : decode cX3_startAnew 19 = .ok (.getfield 9, 3) := by decide +kernel
theorem dX3_startAnew_22 : decode cX3_startAnew 22 = .ok (.iload_n 3, 1) := by decide +kernel
theorem dX3_startAnew_23 : decode cX3_startAnew 23 = .ok (.iconst 1, 1) := by decide +kernel
theorem dX3_startAnew_24 : decode cX3_startAnew 24 = .ok (.iastore, 1) := by decide +kernel
theorem dX3_startAnew_25 : decode cX3_startAnew 25 = .ok (.aload_n 0, 1) := by decide +kernel
theorem dX3_startAnew_26 : decode cX3_startAnew 26 = .ok (.getfield 15, 3) := by decide +kernel
theorem dX3_startAnew_29 : decode cX3_startAnew 29 = .ok (.iload_n 3, 1) := by decide +kernel
theorem dX3_startAnew_30 : decode cX3_startAnew 30 = .ok (.iconst 0, 1) := by decide +kernel
theorem dX3_startAnew_31 : decode cX3_startAnew 31 = .ok (.iastore, 1) := by decide +kernel
theorem dX3_startAnew_32 : decode cX3_startAnew 32 = .ok (.aload_n 0, 1) := by decide +kernel
theorem dX3_startAnew_33 : decode cX3_startAnew 33 = .ok (.getfield 18, 3) := by decide +kernel
theorem dX3_startAnew_36 : decode cX3_startAnew 36 = .ok (.iload_n 3, 1) := by decide +kernel
theorem dX3_startAnew_37 : decode cX3_startAnew 37 = .ok (.iconst 0, 1) := by decide +kernel
theorem dX3_startAnew_38 : decode cX3_startAnew 38 = .ok (.iastore, 1) := by decide +kernel
theorem dX3_startAnew_39 : decode cX3_startAnew 39 = .ok (.iconst 0, 1) := by decide +kernel
theorem dX3_startAnew_40 : decode cX3_startAnew 40 = .ok (.istore 4, 2) := by decide +kernel
theorem dX3_startAnew_42 : decode cX3_startAnew 42 = .ok (.iload 4, 2) := by decide +kernel
theorem dX3_startAnew_44 : decode cX3_startAnew 44 = .ok (.bipush 7, 2) := by decide +kernel
theorem dX3_startAnew_46 : decode cX3_startAnew 46 = .ok (.if_icmp .ge 19, 3) := by decide +kernel
theorem dX3_startAnew_49 : decode cX3_startAnew 49 = .ok (.aload_n 0, 1) := by decide +kernel
theorem dX3_startAnew_50 : decode cX3_startAnew 50 = .ok (.getfield 23, 3) := by decide +kernel
theorem dX3_startAnew_53 : decode cX3_startAnew 53 = .ok (.iload_n 3, 1) := by decide +kernel
theorem dX3_startAnew_54 : decode cX3_startAnew 54 = .ok (.aaload, 1) := by decide +kernel
theorem dX3_startAnew_55 : decode cX3_startAnew 55 = .ok (.iload 4, 2) := by decide +kernel
theorem dX3_startAnew_57 : decode cX3_startAnew 57 = .ok (.iconst 0, 1) := by decide +kernel
theorem dX3_startAnew_58 : decode cX3_startAnew 58 = .ok (.iastore, 1) := by decide +kernel
theorem dX3_startAnew_59 : decode cX3_startAnew 59 = .ok (.iinc 4 1, 3) := by decide +kernel
theorem dX3_startAnew_62 : decode cX3_startAnew 62 = .ok (.goto (-20), 3) := by decide +kernel
theorem dX3_startAnew_65 : decode cX3_startAnew 65 = .ok (.iinc 3 1, 3) := by decide +kernel
theorem dX3_startAnew_68 : decode cX3_startAnew 68 = .ok (.goto (-56), 3) := by decide +kernel
theorem dX3_startAnew_71 : decode cX3_startAnew 71 = .ok (.iload_n 2, 1) := by decide +kernel
theorem dX3_startAnew_72 : decode cX3_startAnew 72 = .ok (.ireturn, 1) := by decide +kernel
theorem dX4_init_0 : decode cX4_init 0 = .ok (.aload_n 0, 1) := by decide +kernel
theorem dX4_init_1 : decode cX4_init 1 = .ok (.invokespecial 3, 3) := by decide +kernel
theorem dX4_init_4 : decode cX4_init 4 = .ok (.aload_n 0, 1) := by decide +kernel
theorem dX4_init_5 : decode cX4_init 5 = .ok (.new 9, 3) := by decide +kernel
theorem dX4_init_8 : decode cX4_init 8 = .ok (.dup, 1) := by decide +kernel
theorem dX4_init_9 : decode cX4_init 9 = .ok (.bipush 40, 2) := by decide +kernel
theorem dX4_init_11 : decode cX4_init 11 = .ok (.invokespecial 11, 3) := by decide +kernel
theorem dX4_init_14 : decode cX4_init 14 = .ok (.putfield 14, 3) := by decide +kernel
theorem dX4_init_17 : decode cX4_init 17 = .ok (.aload_n 0, 1) := by decide +kernel
theorem dX4_init_18 : decode cX4_init 18 = .ok (.new 9, 3) := by decide +kernel
theorem dX4_init_21 : decode cX4_init 21 = .ok (.dup, 1) := by decide +kernel
theorem dX4_init_22 : decode cX4_init 22 = .ok (.bipush 40, 2) := by decide +kernel
theorem dX4_init_24 : decode cX4_init 24 = .ok (.invokespecial 11, 3) := by decide +kernel
theorem dX4_init_27 : decode cX4_init 27 = .ok (.putfield 20, 3) := by decide +kernel
theorem dX4_init_30 : decode cX4_init 30 = .ok (.aload_n 0, 1) := by decide +kernel
theorem dX4_init_31 : decode cX4_init 31 = .ok (.new 9, 3) := by decide +kernel
theorem dX4_init_34 : decode cX4_init 34 = .ok (.dup, 1) := by decide +kernel
theorem dX4_init_35 : decode cX4_init 35 = .ok (.bipush 40, 2) := by decide +kernel
theorem dX4_init_37 : decode cX4_init 37 = .ok (.invokespecial 11, 3) := by decide +kernel
theorem dX4_init_40 : decode cX4_init 40 = .ok (.putfield 23, 3) := by decide +kernel
theorem dX4_init_43 : decode cX4_init 43 = .ok (.aload_n 0, 1) := by decide +kernel
theorem dX4_init_44 : decode cX4_init 44 = .ok (.new 9, 3) := by decide +kernel
theorem dX4_init_47 : decode cX4_init 47 = .ok (.dup, 1) := by decide +kernel
theorem dX4_init_48 : decode cX4_init 48 = .ok (.bipush 120, 2) := by decide +kernel
theorem dX4_init_50 : decode cX4_init 50 = .ok (.invokespecial 11, 3) := by decide +kernel
theorem dX4_init_53 : decode cX4_init 53 = .ok (.putfield 26, 3) := by decide +kernel
theorem dX4_init_56 : decode cX4_init 56 = .ok (.return_, 1) := by decide +kernel
theorem dX4_strokes_0 : decode cX4_strokes 0 = .ok (.aload_n 0, 1) := by decide +kernel
theorem dX4_strokes_1 : decode cX4_strokes 1 = .ok (.getfield 14, 3) := by decide +kernel
theorem dX4_strokes_4 : decode cX4_strokes 4 = .ok (.areturn, 1) := by decide +kernel
theorem dX4_tongue_0 : decode cX4_tongue 0 = .ok (.aload_n 0, 1) := by decide +kernel
theorem dX4_tongue_1 : decode cX4_tongue 1 = .ok (.getfield 29, 3) := by decide +kernel
theorem dX4_tongue_4 : decode cX4_tongue 4 = .ok (.ireturn, 1) := by decide +kernel
theorem dX5_init_0 : decode cX5_init 0 = .ok (.aload_n 0, 1) := by decide +kernel
theorem dX5_init_1 : decode cX5_init 1 = .ok (.invokespecial 3, 3) := by decide +kernel
theorem dX5_init_4 : decode cX5_init 4 = .ok (.aload_n 0, 1) := by decide +kernel
theorem dX5_init_5 : decode cX5_init 5 = .ok (.sipush 340, 3) := by decide +kernel
theorem dX5_init_8 : decode cX5_init 8 = .ok (.newarray .int, 2) := by decide +kernel
theorem dX5_init_10 : decode cX5_init 10 = .ok (.putfield 11, 3) := by decide +kernel
theorem dX5_init_13 : decode cX5_init 13 = .ok (.aload_n 0, 1) := by decide +kernel
theorem dX5_init_14 : decode cX5_init 14 = .ok (.sipush 340, 3) := by decide +kernel
theorem dX5_init_17 : decode cX5_init 17 = .ok (.newarray .int, 2) := by decide +kernel
theorem dX5_init_19 : decode cX5_init 19 = .ok (.putfield 15, 3) := by decide +kernel
theorem dX5_init_22 : decode cX5_init 22 = .ok (.aload_n 0, 1) := by decide +kernel
theorem dX5_init_23 : decode cX5_init 23 = .ok (.sipush 340, 3) := by decide +kernel
theorem dX5_init_26 : decode cX5_init 26 = .ok (.newarray .int, 2) := by decide +kernel
theorem dX5_init_28 : decode cX5_init 28 = .ok (.putfield 18, 3) := by decide +kernel
theorem dX5_init_31 : decode cX5_init 31 = .ok (.aload_n 0, 1) := by decide +kernel
theorem dX5_init_32 : decode cX5_init 32 = .ok (.sipush 340, 3) := by decide +kernel
theorem dX5_init_35 : decode cX5_init 35 = .ok (.newarray .int, 2) := by decide +kernel
theorem dX5_init_37 : decode cX5_init 37 = .ok (.putfield 21, 3) := by decide +kernel
theorem dX5_init_40 : decode cX5_init 40 = .ok (.aload_n 0, 1) := by decide +kernel
theorem dX5_init_41 : decode cX5_init 41 = .ok (.new 24, 3) := by decide +kernel
theorem dX5_init_44 : decode cX5_init 44 = .ok (.dup, 1) := by decide +kernel
theorem dX5_init_45 : decode cX5_init 45 = .ok (.iconst 4, 1) := by decide +kernel
theorem dX5_init_46 : decode cX5_init 46 = .ok (.invokespecial 26, 3) := by decide +kernel
theorem dX5_init_49 : decode cX5_init 49 = .ok (.putfield 29, 3) := by decide +kernel
theorem dX5_init_52 : decode cX5_init 52 = .ok (.aload_n 0, 1) := by decide +kernel
theorem dX5_init_53 : decode cX5_init 53 = .ok (.new 24, 3) := by decide +kernel
theorem dX5_init_56 : decode cX5_init 56 = .ok (.dup, 1) := by decide +kernel
theorem dX5_init_57 : decode cX5_init 57 = .ok (.iconst 4, 1) := by decide +kernel
theorem dX5_init_58 : decode cX5_init 58 = .ok (.invokespecial 26, 3) := by decide +kernel
theorem dX5_init_61 : decode cX5_init 61 = .ok (.putfield 33, 3) := by decide +kernel
theorem dX5_init_64 : decode cX5_init 64 = .ok (.aload_n 0, 1) := by decide +kernel
theorem dX5_init_65 : decode cX5_init 65 = .ok (.aload_n 1, 1) := by decide +kernel
theorem dX5_init_66 : decode cX5_init 66 = .ok (.putfield 36, 3) := by decide +kernel
theorem dX5_init_69 : decode cX5_init 69 = .ok (.aload_n 0, 1) := by decide +kernel
theorem dX5_init_70 : decode cX5_init 70 = .ok (.aload_n 2, 1) := by decide +kernel
theorem dX5_init_71 : decode cX5_init 71 = .ok (.putfield 40, 3) := by decide +kernel
theorem dX5_init_74 : decode cX5_init 74 = .ok (.return_, 1) := by decide +kernel
theorem dX6_init_0 : decode cX6_init 0 = .ok (.aload_n 0, 1) := by decide +kernel
theorem dX6_init_1 : decode cX6_init 1 = .ok (.invokespecial 3, 3) := by decide +kernel
theorem dX6_init_4 : decode cX6_init 4 = .ok (.aload_n 0, 1) := by decide +kernel
theorem dX6_init_5 : decode cX6_init 5 = .ok (.iload_n 1, 1) := by decide +kernel
theorem dX6_init_6 : decode cX6_init 6 = .ok (.iconst 0, 1) := by decide +kernel
theorem dX6_init_7 : decode cX6_init 7 = .ok (.invokestatic 9, 3) := by decide +kernel
theorem dX6_init_10 : decode cX6_init 10 = .ok (.newarray .int, 2) := by decide +kernel
theorem dX6_init_12 : decode cX6_init 12 = .ok (.putfield 15, 3) := by decide +kernel
theorem dX6_init_15 : decode cX6_init 15 = .ok (.return_, 1) := by decide +kernel
theorem dX6_size_0 : decode cX6_size 0 = .ok (.aload_n 0, 1) := by decide +kernel
theorem dX6_size_1 : decode cX6_size 1 = .ok (.getfield 21, 3) := by decide +kernel
theorem dX6_size_4 : decode cX6_size 4 = .ok (.ireturn, 1) := by decide +kernel
theorem dX6_isEmpty_0 : decode cX6_isEmpty 0 = .ok (.aload_n 0, 1) := by decide +kernel
theorem dX6_isEmpty_1 : decode cX6_isEmpty 1 = .ok (.getfield 21, 3) := by decide +kernel
theorem dX6_isEmpty_4 : decode cX6_isEmpty 4 = .ok (.ifCond .ne 7, 3) := by decide +kernel
theorem dX6_isEmpty_7 : decode cX6_isEmpty 7 = .ok (.iconst 1, 1) := by decide +kernel
theorem dX6_isEmpty_8 : decode cX6_isEmpty 8 = .ok (.goto 4, 3) := by decide +kernel
theorem dX6_isEmpty_11 : decode cX6_isEmpty 11 = .ok (.iconst 0, 1) := by decide +kernel
theorem dX6_isEmpty_12 : decode cX6_isEmpty 12 = .ok (.ireturn, 1) := by decide +kernel
theorem dX6_isFull_0 : decode cX6_isFull 0 = .ok (.aload_n 0, 1) := by decide +kernel
theorem dX6_isFull_1 : decode cX6_isFull 1 = .ok (.getfield 21, 3) := by decide +kernel
theorem dX6_isFull_4 : decode cX6_isFull 4 = .ok (.aload_n 0, 1) := by decide +kernel
theorem dX6_isFull_5 : decode cX6_isFull 5 = .ok (.getfield 15, 3) := by decide +kernel
theorem dX6_isFull_8 : decode cX6_isFull 8 = .ok (.arraylength, 1) := by decide +kernel
theorem dX6_isFull_9 : decode cX6_isFull 9 = .ok (.if_icmp .lt 7, 3) := by decide +kernel
theorem dX6_isFull_12 : decode cX6_isFull 12 = .ok (.iconst 1, 1) := by decide +kernel
theorem dX6_isFull_13 : decode cX6_isFull 13 = .ok (.goto 4, 3) := by decide +kernel
theorem dX6_isFull_16 : decode cX6_isFull 16 = .ok (.iconst 0, 1) := by decide +kernel
theorem dX6_isFull_17 : decode cX6_isFull 17 = .ok (.ireturn, 1) := by decide +kernel
theorem dX6_has_0 : decode cX6_has 0 = .ok (.iload_n 1, 1) := by decide +kernel
theorem dX6_has_1 : decode cX6_has 1 = .ok (.ifCond .lt 15, 3) := by decide +kernel
theorem dX6_has_4 : decode cX6_has 4 = .ok (.iload_n 1, 1) := by decide +kernel
theorem dX6_has_5 : decode cX6_has 5 = .ok (.aload_n 0, 1) := by decide +kernel
theorem dX6_has_6 : decode cX6_has 6 = .ok (.getfield 21, 3) := by decide +kernel
theorem dX6_has_9 : decode cX6_has 9 = .ok (.if_icmp .ge 7, 3) := by decide +kernel
theorem dX6_has_12 : decode cX6_has 12 = .ok (.iconst 1, 1) := by decide +kernel
theorem dX6_has_13 : decode cX6_has 13 = .ok (.goto 4, 3) := by decide +kernel
theorem dX6_has_16 : decode cX6_has 16 = .ok (.iconst 0, 1) := by decide +kernel
theorem dX6_has_17 : decode cX6_has 17 = .ok (.ireturn, 1) := by decide +kernel
theorem dX6_at_0 : decode cX6_at 0 = .ok (.iload_n 1, 1) := by decide +kernel
theorem dX6_at_1 : decode cX6_at 1 = .ok (.ifCond .lt 20, 3) := by decide +kernel
theorem dX6_at_4 : decode cX6_at 4 = .ok (.iload_n 1, 1) := by decide +kernel
theorem dX6_at_5 : decode cX6_at 5 = .ok (.aload_n 0, 1) := by decide +kernel
theorem dX6_at_6 : decode cX6_at 6 = .ok (.getfield 21, 3) := by decide +kernel
theorem dX6_at_9 : decode cX6_at 9 = .ok (.if_icmp .ge 12, 3) := by decide +kernel
theorem dX6_at_12 : decode cX6_at 12 = .ok (.aload_n 0, 1) := by decide +kernel
theorem dX6_at_13 : decode cX6_at 13 = .ok (.getfield 15, 3) := by decide +kernel
theorem dX6_at_16 : decode cX6_at 16 = .ok (.iload_n 1, 1) := by decide +kernel
theorem dX6_at_17 : decode cX6_at 17 = .ok (.iaload, 1) := by decide +kernel
theorem dX6_at_18 : decode cX6_at 18 = .ok (.goto 4, 3) := by decide +kernel
theorem dX6_at_21 : decode cX6_at 21 = .ok (.iconst (-1), 1) := by decide +kernel
theorem dX6_at_22 : decode cX6_at 22 = .ok (.ireturn, 1) := by decide +kernel
theorem dX6_add_0 : decode cX6_add 0 = .ok (.aload_n 0, 1) := by decide +kernel
theorem dX6_add_1 : decode cX6_add 1 = .ok (.aload_n 0, 1) := by decide +kernel
theorem dX6_add_2 : decode cX6_add 2 = .ok (.getfield 21, 3) := by decide +kernel
theorem dX6_add_5 : decode cX6_add 5 = .ok (.iload_n 1, 1) := by decide +kernel
theorem dX6_add_6 : decode cX6_add 6 = .ok (.invokevirtual 25, 3) := by decide +kernel
theorem dX6_add_9 : decode cX6_add 9 = .ok (.return_, 1) := by decide +kernel
theorem dX6_insert_0 : decode cX6_insert 0 = .ok (.aload_n 0, 1) := by decide +kernel
theorem dX6_insert_1 : decode cX6_insert 1 = .ok (.invokevirtual 29, 3) := by decide +kernel
theorem dX6_insert_4 : decode cX6_insert 4 = .ok (.ifCond .ne 15, 3) := by decide +kernel
theorem dX6_insert_7 : decode cX6_insert 7 = .ok (.iload_n 1, 1) := by decide +kernel
theorem dX6_insert_8 : decode cX6_insert 8 = .ok (.ifCond .lt 11, 3) := by decide +kernel
theorem dX6_insert_11 : decode cX6_insert 11 = .ok (.iload_n 1, 1) := by decide +kernel
theorem dX6_insert_12 : decode cX6_insert 12 = .ok (.aload_n 0, 1) := by decide +kernel
theorem dX6_insert_13 : decode cX6_insert 13 = .ok (.getfield 21, 3) := by decide +kernel
theorem dX6_insert_16 : decode cX6_insert 16 = .ok (.if_icmp .le 4, 3) := by decide +kernel
theorem dX6_insert_19 : decode cX6_insert 19 = .ok (.return_, 1) := by decide +kernel
theorem dX6_insert_20 : decode cX6_insert 20 = .ok (.aload_n 0, 1) := by decide +kernel
theorem dX6_insert_21 : decode cX6_insert 21 = .ok (.getfield 21, 3) := by decide +kernel
theorem dX6_insert_24 : decode cX6_insert 24 = .ok (.istore_n 3, 1) := by decide +kernel
theorem dX6_insert_25 : decode cX6_insert 25 = .ok (.iload_n 3, 1) := by decide +kernel
theorem dX6_insert_26 : decode cX6_insert 26 = .ok (.iload_n 1, 1) := by decide +kernel
theorem dX6_insert_27 : decode cX6_insert 27 = .ok (.if_icmp .le 23, 3) := by decide +kernel
theorem dX6_insert_30 : decode cX6_insert 30 = .ok (.aload_n 0, 1) := by decide +kernel
theorem dX6_insert_31 : decode cX6_insert 31 = .ok (.getfield 15, 3) := by decide +kernel
theorem dX6_insert_34 : decode cX6_insert 34 = .ok (.iload_n 3, 1) := by decide +kernel
theorem dX6_insert_35 : decode cX6_insert 35 = .ok (.aload_n 0, 1) := by decide +kernel
theorem dX6_insert_36 : decode cX6_insert 36 = .ok (.getfield 15, 3) := by decide +kernel
theorem dX6_insert_39 : decode cX6_insert 39 = .ok (.iload_n 3, 1) := by decide +kernel
theorem dX6_insert_40 : decode cX6_insert 40 = .ok (.iconst 1, 1) := by decide +kernel
theorem dX6_insert_41 : decode cX6_insert 41 = .ok (.isub, 1) := by decide +kernel
theorem dX6_insert_42 : decode cX6_insert 42 = .ok (.iaload, 1) := by decide +kernel
theorem dX6_insert_43 : decode cX6_insert 43 = .ok (.iastore, 1) := by decide +kernel
theorem dX6_insert_44 : decode cX6_insert 44 = .ok (.iinc 3 (-1), 3) := by decide +kernel
theorem dX6_insert_47 : decode cX6_insert 47 = .ok (.goto (-22), 3) := by decide +kernel
theorem dX6_insert_50 : decode cX6_insert 50 = .ok (.aload_n 0, 1) := by decide +kernel
theorem dX6_insert_51 : decode cX6_insert 51 = .ok (.getfield 15, 3) := by decide +kernel
theorem dX6_insert_54 : decode cX6_insert 54 = .ok (.iload_n 1, 1) := by decide +kernel
theorem dX6_insert_55 : decode cX6_insert 55 = .ok (.iload_n 2, 1) := by decide +kernel
theorem dX6_insert_56 : decode cX6_insert 56 = .ok (.iastore, 1) := by decide +kernel
theorem dX6_insert_57 : decode cX6_insert 57 = .ok (.aload_n 0, 1) := by decide +kernel
theorem dX6_insert_58 : decode cX6_insert 58 = .ok (.dup, 1) := by decide +kernel
theorem dX6_insert_59 : decode cX6_insert 59 = .ok (.getfield 21, 3) := by decide +kernel
theorem dX6_insert_62 : decode cX6_insert 62 = .ok (.iconst 1, 1) := by decide +kernel
theorem dX6_insert_63 : decode cX6_insert 63 = .ok (.iadd, 1) := by decide +kernel
theorem dX6_insert_64 : decode cX6_insert 64 = .ok (.putfield 21, 3) := by decide +kernel
theorem dX6_insert_67 : decode cX6_insert 67 = .ok (.return_, 1) := by decide +kernel
theorem dX6_remove_0 : decode cX6_remove 0 = .ok (.aload_n 0, 1) := by decide +kernel
theorem dX6_remove_1 : decode cX6_remove 1 = .ok (.iload_n 1, 1) := by decide +kernel
theorem dX6_remove_2 : decode cX6_remove 2 = .ok (.invokevirtual 33, 3) := by decide +kernel
theorem dX6_remove_5 : decode cX6_remove 5 = .ok (.istore_n 2, 1) := by decide +kernel
theorem dX6_remove_6 : decode cX6_remove 6 = .ok (.aload_n 0, 1) := by decide +kernel
theorem dX6_remove_7 : decode cX6_remove 7 = .ok (.iload_n 1, 1) := by decide +kernel
theorem dX6_remove_8 : decode cX6_remove 8 = .ok (.invokevirtual 37, 3) := by decide +kernel
theorem dX6_remove_11 : decode cX6_remove 11 = .ok (.ifCond .eq 43, 3) := by decide +kernel
theorem dX6_remove_14 : decode cX6_remove 14 = .ok (.aload_n 0, 1) := by decide +kernel
theorem dX6_remove_15 : decode cX6_remove 15 = .ok (.dup, 1) := by decide +kernel
theorem dX6_remove_16 : decode cX6_remove 16 = .ok (.getfield 21, 3) := by decide +kernel
theorem dX6_remove_19 : decode cX6_remove 19 = .ok (.iconst 1, 1) := by decide +kernel
theorem dX6_remove_20 : decode cX6_remove 20 = .ok (.isub, 1) := by decide +kernel
theorem dX6_remove_21 : decode cX6_remove 21 = .ok (.putfield 21, 3) := by decide +kernel
theorem dX6_remove_24 : decode cX6_remove 24 = .ok (.iload_n 1, 1) := by decide +kernel
theorem dX6_remove_25 : decode cX6_remove 25 = .ok (.istore_n 3, 1) := by decide +kernel
theorem dX6_remove_26 : decode cX6_remove 26 = .ok (.iload_n 3, 1) := by decide +kernel
theorem dX6_remove_27 : decode cX6_remove 27 = .ok (.aload_n 0, 1) := by decide +kernel
theorem dX6_remove_28 : decode cX6_remove 28 = .ok (.getfield 21, 3) := by decide +kernel
theorem dX6_remove_31 : decode cX6_remove 31 = .ok (.if_icmp .ge 23, 3) := by decide +kernel
theorem dX6_remove_34 : decode cX6_remove 34 = .ok (.aload_n 0, 1) := by decide +kernel
theorem dX6_remove_35 : decode cX6_remove 35 = .ok (.getfield 15, 3) := by decide +kernel
theorem dX6_remove_38 : decode cX6_remove 38 = .ok (.iload_n 3, 1) := by decide +kernel
theorem dX6_remove_39 : decode cX6_remove 39 = .ok (.aload_n 0, 1) := by decide +kernel
theorem dX6_remove_40 : decode cX6_remove 40 = .ok (.getfield 15, 3) := by decide +kernel
theorem dX6_remove_43 : decode cX6_remove 43 = .ok (.iload_n 3, 1) := by decide +kernel
theorem dX6_remove_44 : decode cX6_remove 44 = .ok (.iconst 1, 1) := by decide +kernel
theorem dX6_remove_45 : decode cX6_remove 45 = .ok (.iadd, 1) := by decide +kernel
theorem dX6_remove_46 : decode cX6_remove 46 = .ok (.iaload, 1) := by decide +kernel
theorem dX6_remove_47 : decode cX6_remove 47 = .ok (.iastore, 1) := by decide +kernel
theorem dX6_remove_48 : decode cX6_remove 48 = .ok (.iinc 3 1, 3) := by decide +kernel
theorem dX6_remove_51 : decode cX6_remove 51 = .ok (.goto (-25), 3) := by decide +kernel
theorem dX6_remove_54 : decode cX6_remove 54 = .ok (.iload_n 2, 1) := by decide +kernel
theorem dX6_remove_55 : decode cX6_remove 55 = .ok (.ireturn, 1) := by decide +kernel
theorem dX6_clear_0 : decode cX6_clear 0 = .ok (.aload_n 0, 1) := by decide +kernel
theorem dX6_clear_1 : decode cX6_clear 1 = .ok (.getfield 21, 3) := by decide +kernel
theorem dX6_clear_4 : decode cX6_clear 4 = .ok (.istore_n 1, 1) := by decide +kernel
theorem dX6_clear_5 : decode cX6_clear 5 = .ok (.aload_n 0, 1) := by decide +kernel
theorem dX6_clear_6 : decode cX6_clear 6 = .ok (.iconst 0, 1) := by decide +kernel
theorem dX6_clear_7 : decode cX6_clear 7 = .ok (.putfield 21, 3) := by decide +kernel
theorem dX6_clear_10 : decode cX6_clear 10 = .ok (.iload_n 1, 1) := by decide +kernel
theorem dX6_clear_11 : decode cX6_clear 11 = .ok (.ireturn, 1) := by decide +kernel
theorem dX6_copy_0 : decode cX6_copy 0 = .ok (.aload_n 0, 1) := by decide +kernel
theorem dX6_copy_1 : decode cX6_copy 1 = .ok (.invokevirtual 41, 3) := by decide +kernel
theorem dX6_copy_4 : decode cX6_copy 4 = .ok (.pop, 1) := by decide +kernel
theorem dX6_copy_5 : decode cX6_copy 5 = .ok (.iconst 0, 1) := by decide +kernel
theorem dX6_copy_6 : decode cX6_copy 6 = .ok (.istore_n 2, 1) := by decide +kernel
theorem dX6_copy_7 : decode cX6_copy 7 = .ok (.iload_n 2, 1) := by decide +kernel
theorem dX6_copy_8 : decode cX6_copy 8 = .ok (.aload_n 1, 1) := by decide +kernel
theorem dX6_copy_9 : decode cX6_copy 9 = .ok (.getfield 21, 3) := by decide +kernel
theorem dX6_copy_12 : decode cX6_copy 12 = .ok (.if_icmp .ge 19, 3) := by decide +kernel
theorem dX6_copy_15 : decode cX6_copy 15 = .ok (.aload_n 0, 1) := by decide +kernel
theorem dX6_copy_16 : decode cX6_copy 16 = .ok (.aload_n 1, 1) := by decide +kernel
theorem dX6_copy_17 : decode cX6_copy 17 = .ok (.getfield 15, 3) := by decide +kernel
theorem dX6_copy_20 : decode cX6_copy 20 = .ok (.iload_n 2, 1) := by decide +kernel
theorem dX6_copy_21 : decode cX6_copy 21 = .ok (.iaload, 1) := by decide +kernel
theorem dX6_copy_22 : decode cX6_copy 22 = .ok (.invokevirtual 45, 3) := by decide +kernel
theorem dX6_copy_25 : decode cX6_copy 25 = .ok (.iinc 2 1, 3) := by decide +kernel
theorem dX6_copy_28 : decode cX6_copy 28 = .ok (.goto (-21), 3) := by decide +kernel
theorem dX6_copy_31 : decode cX6_copy 31 = .ok (.return_, 1) := by decide +kernel
theorem dX7_init_0 : decode cX7_init 0 = .ok (.aload_n 0, 1) := by decide +kernel
theorem dX7_init_1 : decode cX7_init 1 = .ok (.invokespecial 3, 3) := by decide +kernel
theorem dX7_init_4 : decode cX7_init 4 = .ok (.aload_n 0, 1) := by decide +kernel
theorem dX7_init_5 : decode cX7_init 5 = .ok (.bipush 6, 2) := by decide +kernel
theorem dX7_init_7 : decode cX7_init 7 = .ok (.newarray .int, 2) := by decide +kernel
theorem dX7_init_9 : decode cX7_init 9 = .ok (.dup, 1) := by decide +kernel
theorem dX7_init_10 : decode cX7_init 10 = .ok (.iconst 0, 1) := by decide +kernel
theorem dX7_init_11 : decode cX7_init 11 = .ok (.iconst 3, 1) := by decide +kernel
theorem dX7_init_12 : decode cX7_init 12 = .ok (.iastore, 1) := by decide +kernel
theorem dX7_init_13 : decode cX7_init 13 = .ok (.dup, 1) := by decide +kernel
theorem dX7_init_14 : decode cX7_init 14 = .ok (.iconst 1, 1) := by decide +kernel
theorem dX7_init_15 : decode cX7_init 15 = .ok (.iconst 3, 1) := by decide +kernel
theorem dX7_init_16 : decode cX7_init 16 = .ok (.iastore, 1) := by decide +kernel
theorem dX7_init_17 : decode cX7_init 17 = .ok (.dup, 1) := by decide +kernel
theorem dX7_init_18 : decode cX7_init 18 = .ok (.iconst 2, 1) := by decide +kernel
theorem dX7_init_19 : decode cX7_init 19 = .ok (.iconst 4, 1) := by decide +kernel
theorem dX7_init_20 : decode cX7_init 20 = .ok (.iastore, 1) := by decide +kernel
theorem dX7_init_21 : decode cX7_init 21 = .ok (.dup, 1) := by decide +kernel
theorem dX7_init_22 : decode cX7_init 22 = .ok (.iconst 3, 1) := by decide +kernel
theorem dX7_init_23 : decode cX7_init 23 = .ok (.iconst 3, 1) := by decide +kernel
theorem dX7_init_24 : decode cX7_init 24 = .ok (.iastore, 1) := by decide +kernel
theorem dX7_init_25 : decode cX7_init 25 = .ok (.dup, 1) := by decide +kernel
theorem dX7_init_26 : decode cX7_init 26 = .ok (.iconst 4, 1) := by decide +kernel
theorem dX7_init_27 : decode cX7_init 27 = .ok (.bipush 6, 2) := by decide +kernel
theorem dX7_init_29 : decode cX7_init 29 = .ok (.iastore, 1) := by decide +kernel
theorem dX7_init_30 : decode cX7_init 30 = .ok (.dup, 1) := by decide +kernel
theorem dX7_init_31 : decode cX7_init 31 = .ok (.iconst 5, 1) := by decide +kernel
theorem dX7_init_32 : decode cX7_init 32 = .ok (.iconst 5, 1) := by decide +kernel
theorem dX7_init_33 : decode cX7_init 33 = .ok (.iastore, 1) := by decide +kernel
theorem dX7_init_34 : decode cX7_init 34 = .ok (.putfield 9, 3) := by decide +kernel
theorem dX7_init_37 : decode cX7_init 37 = .ok (.aload_n 0, 1) := by decide +kernel
theorem dX7_init_38 : decode cX7_init 38 = .ok (.bipush 17, 2) := by decide +kernel
theorem dX7_init_40 : decode cX7_init 40 = .ok (.bipush 9, 2) := by decide +kernel
theorem dX7_init_42 : decode cX7_init 42 = .ok (.multianewarray 15 2, 4) := by decide +kernel
theorem dX7_init_46 : decode cX7_init 46 = .ok (.putfield 17, 3) := by decide +kernel
theorem dX7_init_49 : decode cX7_init 49 = .ok (.return_, 1) := by decide +kernel
theorem dX7_priceOf_0 : decode cX7_priceOf 0 = .ok (.aload_n 0, 1) := by decide +kernel
theorem dX7_priceOf_1 : decode cX7_priceOf 1 = .ok (.aload_n 1, 1) := by decide +kernel
theorem dX7_priceOf_2 : decode cX7_priceOf 2 = .ok (.iconst 0, 1) := by decide +kernel
theorem dX7_priceOf_3 : decode cX7_priceOf 3 = .ok (.aload_n 1, 1) := by decide +kernel
theorem dX7_priceOf_4 : decode cX7_priceOf 4 = .ok (.invokevirtual 20, 3) := by decide +kernel
theorem dX7_priceOf_7 : decode cX7_priceOf 7 = .ok (.aload_n 2, 1) := by decide +kernel
theorem dX7_priceOf_8 : decode cX7_priceOf 8 = .ok (.invokevirtual 26, 3) := by decide +kernel
theorem dX7_priceOf_11 : decode cX7_priceOf 11 = .ok (.aload_n 0, 1) := by decide +kernel
theorem dX7_priceOf_12 : decode cX7_priceOf 12 = .ok (.aload_n 1, 1) := by decide +kernel
theorem dX7_priceOf_13 : decode cX7_priceOf 13 = .ok (.invokevirtual 20, 3) := by decide +kernel
theorem dX7_priceOf_16 : decode cX7_priceOf 16 = .ok (.aload_n 2, 1) := by decide +kernel
theorem dX7_priceOf_17 : decode cX7_priceOf 17 = .ok (.invokevirtual 30, 3) := by decide +kernel
theorem dX7_priceOf_20 : decode cX7_priceOf 20 = .ok (.ireturn, 1) := by decide +kernel
theorem dX7_leastFor_0 : decode cX7_leastFor 0 = .ok (.aload_n 0, 1) := by decide +kernel
theorem dX7_leastFor_1 : decode cX7_leastFor 1 = .ok (.getfield 17, 3) := by decide +kernel
theorem dX7_leastFor_4 : decode cX7_leastFor 4 = .ok (.iload_n 1, 1) := by decide +kernel
theorem dX7_leastFor_5 : decode cX7_leastFor 5 = .ok (.aaload, 1) := by decide +kernel
theorem dX7_leastFor_6 : decode cX7_leastFor 6 = .ok (.aload_n 2, 1) := by decide +kernel
theorem dX7_leastFor_7 : decode cX7_leastFor 7 = .ok (.invokevirtual 20, 3) := by decide +kernel
theorem dX7_leastFor_10 : decode cX7_leastFor 10 = .ok (.iaload, 1) := by decide +kernel
theorem dX7_leastFor_11 : decode cX7_leastFor 11 = .ok (.ireturn, 1) := by decide +kernel
theorem dX7_workOut_0 : decode cX7_workOut 0 = .ok (.iconst 0, 1) := by decide +kernel
theorem dX7_workOut_1 : decode cX7_workOut 1 = .ok (.istore 5, 2) := by decide +kernel
theorem dX7_workOut_3 : decode cX7_workOut 3 = .ok (.iload 5, 2) := by decide +kernel
theorem dX7_workOut_5 : decode cX7_workOut 5 = .ok (.iload_n 3, 1) := by decide +kernel
theorem dX7_workOut_6 : decode cX7_workOut 6 = .ok (.if_icmp .gt 50, 3) := by decide +kernel
theorem dX7_workOut_9 : decode cX7_workOut 9 = .ok (.iconst 0, 1) := by decide +kernel
theorem dX7_workOut_10 : decode cX7_workOut 10 = .ok (.istore 6, 2) := by decide +kernel
theorem dX7_workOut_12 : decode cX7_workOut 12 = .ok (.iload 6, 2) := by decide +kernel
theorem dX7_workOut_14 : decode cX7_workOut 14 = .ok (.aload 4, 2) := by decide +kernel
theorem dX7_workOut_16 : decode cX7_workOut 16 = .ok (.invokevirtual 20, 3) := by decide +kernel
theorem dX7_workOut_19 : decode cX7_workOut 19 = .ok (.if_icmp .gt 31, 3) := by decide +kernel
theorem dX7_workOut_22 : decode cX7_workOut 22 = .ok (.aload_n 0, 1) := by decide +kernel
theorem dX7_workOut_23 : decode cX7_workOut 23 = .ok (.getfield 17, 3) := by decide +kernel
theorem dX7_workOut_26 : decode cX7_workOut 26 = .ok (.iload 5, 2) := by decide +kernel
theorem dX7_workOut_28 : decode cX7_workOut 28 = .ok (.aaload, 1) := by decide +kernel
theorem dX7_workOut_29 : decode cX7_workOut 29 = .ok (.iload 6, 2) := by decide +kernel
theorem dX7_workOut_31 : decode cX7_workOut 31 = .ok (.aload_n 0, 1) := by decide +kernel
theorem dX7_workOut_32 : decode cX7_workOut 32 = .ok (.aload_n 1, 1) := by decide +kernel
theorem dX7_workOut_33 : decode cX7_workOut 33 = .ok (.iload_n 2, 1) := by decide +kernel
theorem dX7_workOut_34 : decode cX7_workOut 34 = .ok (.iload 5, 2) := by decide +kernel
theorem dX7_workOut_36 : decode cX7_workOut 36 = .ok (.aload 4, 2) := by decide +kernel
theorem dX7_workOut_38 : decode cX7_workOut 38 = .ok (.iload 6, 2) := by decide +kernel
theorem dX7_workOut_40 : decode cX7_workOut 40 = .ok (.invokevirtual 34, 3) := by decide +kernel
theorem dX7_workOut_43 : decode cX7_workOut 43 = .ok (.iastore, 1) := by decide +kernel
theorem dX7_workOut_44 : decode cX7_workOut 44 = .ok (.iinc 6 1, 3) := by decide +kernel
theorem dX7_workOut_47 : decode cX7_workOut 47 = .ok (.goto (-35), 3) := by decide +kernel
theorem dX7_workOut_50 : decode cX7_workOut 50 = .ok (.iinc 5 1, 3) := by decide +kernel
theorem dX7_workOut_53 : decode cX7_workOut 53 = .ok (.goto (-50), 3) := by decide +kernel
theorem dX7_workOut_56 : decode cX7_workOut 56 = .ok (.return_, 1) := by decide +kernel
theorem dX7_leastSum_0 : decode cX7_leastSum 0 = .ok (.iload_n 3, 1) := by decide +kernel
theorem dX7_leastSum_1 : decode cX7_leastSum 1 = .ok (.ifCond .ne 13, 3) := by decide +kernel
theorem dX7_leastSum_4 : decode cX7_leastSum 4 = .ok (.iload 5, 2) := by decide +kernel
theorem dX7_leastSum_6 : decode cX7_leastSum 6 = .ok (.aload_n 0, 1) := by decide +kernel
theorem dX7_leastSum_7 : decode cX7_leastSum 7 = .ok (.getfield 9, 3) := by decide +kernel
theorem dX7_leastSum_10 : decode cX7_leastSum 10 = .ok (.iconst 2, 1) := by decide +kernel
theorem dX7_leastSum_11 : decode cX7_leastSum 11 = .ok (.iaload, 1) := by decide +kernel
theorem dX7_leastSum_12 : decode cX7_leastSum 12 = .ok (.imul, 1) := by decide +kernel
theorem dX7_leastSum_13 : decode cX7_leastSum 13 = .ok (.ireturn, 1) := by decide +kernel
theorem dX7_leastSum_14 : decode cX7_leastSum 14 = .ok (.aload_n 1, 1) := by decide +kernel
theorem dX7_leastSum_15 : decode cX7_leastSum 15 = .ok (.iload_n 2, 1) := by decide +kernel
theorem dX7_leastSum_16 : decode cX7_leastSum 16 = .ok (.iload_n 3, 1) := by decide +kernel
theorem dX7_leastSum_17 : decode cX7_leastSum 17 = .ok (.iadd, 1) := by decide +kernel
theorem dX7_leastSum_18 : decode cX7_leastSum 18 = .ok (.iconst 1, 1) := by decide +kernel
theorem dX7_leastSum_19 : decode cX7_leastSum 19 = .ok (.isub, 1) := by decide +kernel
theorem dX7_leastSum_20 : decode cX7_leastSum 20 = .ok (.invokevirtual 38, 3) := by decide +kernel
theorem dX7_leastSum_23 : decode cX7_leastSum 23 = .ok (.istore 6, 2) := by decide +kernel
theorem dX7_leastSum_25 : decode cX7_leastSum 25 = .ok (.iload_n 3, 1) := by decide +kernel
theorem dX7_leastSum_26 : decode cX7_leastSum 26 = .ok (.iconst 1, 1) := by decide +kernel
theorem dX7_leastSum_27 : decode cX7_leastSum 27 = .ok (.if_icmp .le 15, 3) := by decide +kernel
theorem dX7_leastSum_30 : decode cX7_leastSum 30 = .ok (.aload_n 1, 1) := by decide +kernel
theorem dX7_leastSum_31 : decode cX7_leastSum 31 = .ok (.iload_n 2, 1) := by decide +kernel
theorem dX7_leastSum_32 : decode cX7_leastSum 32 = .ok (.iload_n 3, 1) := by decide +kernel
theorem dX7_leastSum_33 : decode cX7_leastSum 33 = .ok (.iadd, 1) := by decide +kernel
theorem dX7_leastSum_34 : decode cX7_leastSum 34 = .ok (.iconst 2, 1) := by decide +kernel
theorem dX7_leastSum_35 : decode cX7_leastSum 35 = .ok (.isub, 1) := by decide +kernel
theorem dX7_leastSum_36 : decode cX7_leastSum 36 = .ok (.invokevirtual 38, 3) := by decide +kernel
theorem dX7_leastSum_39 : decode cX7_leastSum 39 = .ok (.goto 4, 3) := by decide +kernel
theorem dX7_leastSum_42 : decode cX7_leastSum 42 = .ok (.iconst (-1), 1) := by decide +kernel
theorem dX7_leastSum_43 : decode cX7_leastSum 43 = .ok (.istore 7, 2) := by decide +kernel
theorem dX7_leastSum_45 : decode cX7_leastSum 45 = .ok (.aload_n 0, 1) := by decide +kernel
theorem dX7_leastSum_46 : decode cX7_leastSum 46 = .ok (.getfield 17, 3) := by decide +kernel
theorem dX7_leastSum_49 : decode cX7_leastSum 49 = .ok (.iload_n 3, 1) := by decide +kernel
theorem dX7_leastSum_50 : decode cX7_leastSum 50 = .ok (.iconst 1, 1) := by decide +kernel
theorem dX7_leastSum_51 : decode cX7_leastSum 51 = .ok (.isub, 1) := by decide +kernel
theorem dX7_leastSum_52 : decode cX7_leastSum 52 = .ok (.aaload, 1) := by decide +kernel
theorem dX7_leastSum_53 : decode cX7_leastSum 53 = .ok (.iload 5, 2) := by decide +kernel
theorem dX7_leastSum_55 : decode cX7_leastSum 55 = .ok (.iaload, 1) := by decide +kernel
theorem dX7_leastSum_56 : decode cX7_leastSum 56 = .ok (.aload_n 0, 1) := by decide +kernel
theorem dX7_leastSum_57 : decode cX7_leastSum 57 = .ok (.getfield 9, 3) := by decide +kernel
theorem dX7_leastSum_60 : decode cX7_leastSum 60 = .ok (.iload 6, 2) := by decide +kernel
theorem dX7_leastSum_62 : decode cX7_leastSum 62 = .ok (.iload 7, 2) := by decide +kernel
theorem dX7_leastSum_64 : decode cX7_leastSum 64 = .ok (.if_icmp .ne 7, 3) := by decide +kernel
theorem dX7_leastSum_67 : decode cX7_leastSum 67 = .ok (.iconst 1, 1) := by decide +kernel
theorem dX7_leastSum_68 : decode cX7_leastSum 68 = .ok (.goto 4, 3) := by decide +kernel
theorem dX7_leastSum_71 : decode cX7_leastSum 71 = .ok (.iconst 4, 1) := by decide +kernel
theorem dX7_leastSum_72 : decode cX7_leastSum 72 = .ok (.iaload, 1) := by decide +kernel
theorem dX7_leastSum_73 : decode cX7_leastSum 73 = .ok (.iadd, 1) := by decide +kernel
theorem dX7_leastSum_74 : decode cX7_leastSum 74 = .ok (.istore 8, 2) := by decide +kernel
theorem dX7_leastSum_76 : decode cX7_leastSum 76 = .ok (.iload 5, 2) := by decide +kernel
theorem dX7_leastSum_78 : decode cX7_leastSum 78 = .ok (.ifCond .le 64, 3) := by decide +kernel
theorem dX7_leastSum_81 : decode cX7_leastSum 81 = .ok (.iload 8, 2) := by decide +kernel
theorem dX7_leastSum_83 : decode cX7_leastSum 83 = .ok (.aload_n 0, 1) := by decide +kernel
theorem dX7_leastSum_84 : decode cX7_leastSum 84 = .ok (.getfield 17, 3) := by decide +kernel
theorem dX7_leastSum_87 : decode cX7_leastSum 87 = .ok (.iload_n 3, 1) := by decide +kernel
theorem dX7_leastSum_88 : decode cX7_leastSum 88 = .ok (.aaload, 1) := by decide +kernel
theorem dX7_leastSum_89 : decode cX7_leastSum 89 = .ok (.iload 5, 2) := by decide +kernel
theorem dX7_leastSum_91 : decode cX7_leastSum 91 = .ok (.iconst 1, 1) := by decide +kernel
theorem dX7_leastSum_92 : decode cX7_leastSum 92 = .ok (.isub, 1) := by decide +kernel
theorem dX7_leastSum_93 : decode cX7_leastSum 93 = .ok (.iaload, 1) := by decide +kernel
theorem dX7_leastSum_94 : decode cX7_leastSum 94 = .ok (.aload_n 0, 1) := by decide +kernel
theorem dX7_leastSum_95 : decode cX7_leastSum 95 = .ok (.getfield 9, 3) := by decide +kernel
theorem dX7_leastSum_98 : decode cX7_leastSum 98 = .ok (.iconst 2, 1) := by decide +kernel
theorem dX7_leastSum_99 : decode cX7_leastSum 99 = .ok (.iaload, 1) := by decide +kernel
theorem dX7_leastSum_100 : decode cX7_leastSum 100 = .ok (.iadd, 1) := by decide +kernel
theorem dX7_leastSum_101 : decode cX7_leastSum 101 = .ok (.invokestatic 42, 3) := by decide +kernel
theorem dX7_leastSum_104 : decode cX7_leastSum 104 = .ok (.istore 8, 2) := by decide +kernel
theorem dX7_leastSum_106 : decode cX7_leastSum 106 = .ok (.iload 8, 2) := by decide +kernel
theorem dX7_leastSum_108 : decode cX7_leastSum 108 = .ok (.aload_n 0, 1) := by decide +kernel
theorem dX7_leastSum_109 : decode cX7_leastSum 109 = .ok (.getfield 17, 3) := by decide +kernel
theorem dX7_leastSum_112 : decode cX7_leastSum 112 = .ok (.iload_n 3, 1) := by decide +kernel
theorem dX7_leastSum_113 : decode cX7_leastSum 113 = .ok (.iconst 1, 1) := by decide +kernel
theorem dX7_leastSum_114 : decode cX7_leastSum 114 = .ok (.isub, 1) := by decide +kernel
theorem dX7_leastSum_115 : decode cX7_leastSum 115 = .ok (.aaload, 1) := by decide +kernel
theorem dX7_leastSum_116 : decode cX7_leastSum 116 = .ok (.iload 5, 2) := by decide +kernel
theorem dX7_leastSum_118 : decode cX7_leastSum 118 = .ok (.iconst 1, 1) := by decide +kernel
theorem dX7_leastSum_119 : decode cX7_leastSum 119 = .ok (.isub, 1) := by decide +kernel
theorem dX7_leastSum_120 : decode cX7_leastSum 120 = .ok (.iaload, 1) := by decide +kernel
theorem dX7_leastSum_121 : decode cX7_leastSum 121 = .ok (.aload_n 0, 1) := by decide +kernel
theorem dX7_leastSum_122 : decode cX7_leastSum 122 = .ok (.iload 6, 2) := by decide +kernel
theorem dX7_leastSum_124 : decode cX7_leastSum 124 = .ok (.aload 4, 2) := by decide +kernel
theorem dX7_leastSum_126 : decode cX7_leastSum 126 = .ok (.iload 5, 2) := by decide +kernel
theorem dX7_leastSum_128 : decode cX7_leastSum 128 = .ok (.iconst 1, 1) := by decide +kernel
theorem dX7_leastSum_129 : decode cX7_leastSum 129 = .ok (.isub, 1) := by decide +kernel
theorem dX7_leastSum_130 : decode cX7_leastSum 130 = .ok (.invokevirtual 38, 3) := by decide +kernel
theorem dX7_leastSum_133 : decode cX7_leastSum 133 = .ok (.invokevirtual 48, 3) := by decide +kernel
theorem dX7_leastSum_136 : decode cX7_leastSum 136 = .ok (.iadd, 1) := by decide +kernel
theorem dX7_leastSum_137 : decode cX7_leastSum 137 = .ok (.invokestatic 42, 3) := by decide +kernel
theorem dX7_leastSum_140 : decode cX7_leastSum 140 = .ok (.istore 8, 2) := by decide +kernel
theorem dX7_leastSum_142 : decode cX7_leastSum 142 = .ok (.iload_n 3, 1) := by decide +kernel
theorem dX7_leastSum_143 : decode cX7_leastSum 143 = .ok (.iconst 1, 1) := by decide +kernel
theorem dX7_leastSum_144 : decode cX7_leastSum 144 = .ok (.if_icmp .le 71, 3) := by decide +kernel
theorem dX7_leastSum_147 : decode cX7_leastSum 147 = .ok (.iload 5, 2) := by decide +kernel
theorem dX7_leastSum_149 : decode cX7_leastSum 149 = .ok (.iconst 1, 1) := by decide +kernel
theorem dX7_leastSum_150 : decode cX7_leastSum 150 = .ok (.if_icmp .le 65, 3) := by decide +kernel
theorem dX7_leastSum_153 : decode cX7_leastSum 153 = .ok (.iload 6, 2) := by decide +kernel
theorem dX7_leastSum_155 : decode cX7_leastSum 155 = .ok (.iload 7, 2) := by decide +kernel
theorem dX7_leastSum_157 : decode cX7_leastSum 157 = .ok (.if_icmp .eq 58, 3) := by decide +kernel
theorem dX7_leastSum_160 : decode cX7_leastSum 160 = .ok (.iload 6, 2) := by decide +kernel
theorem dX7_leastSum_162 : decode cX7_leastSum 162 = .ok (.aload 4, 2) := by decide +kernel
theorem dX7_leastSum_164 : decode cX7_leastSum 164 = .ok (.iload 5, 2) := by decide +kernel
theorem dX7_leastSum_166 : decode cX7_leastSum 166 = .ok (.iconst 2, 1) := by decide +kernel
theorem dX7_leastSum_167 : decode cX7_leastSum 167 = .ok (.isub, 1) := by decide +kernel
theorem dX7_leastSum_168 : decode cX7_leastSum 168 = .ok (.invokevirtual 38, 3) := by decide +kernel
theorem dX7_leastSum_171 : decode cX7_leastSum 171 = .ok (.if_icmp .ne 44, 3) := by decide +kernel
theorem dX7_leastSum_174 : decode cX7_leastSum 174 = .ok (.iload 7, 2) := by decide +kernel
theorem dX7_leastSum_176 : decode cX7_leastSum 176 = .ok (.aload 4, 2) := by decide +kernel
theorem dX7_leastSum_178 : decode cX7_leastSum 178 = .ok (.iload 5, 2) := by decide +kernel
theorem dX7_leastSum_180 : decode cX7_leastSum 180 = .ok (.iconst 1, 1) := by decide +kernel
theorem dX7_leastSum_181 : decode cX7_leastSum 181 = .ok (.isub, 1) := by decide +kernel
theorem dX7_leastSum_182 : decode cX7_leastSum 182 = .ok (.invokevirtual 38, 3) := by decide +kernel
theorem dX7_leastSum_185 : decode cX7_leastSum 185 = .ok (.if_icmp .ne 30, 3) := by decide +kernel
theorem dX7_leastSum_188 : decode cX7_leastSum 188 = .ok (.iload 8, 2) := by decide +kernel
theorem dX7_leastSum_190 : decode cX7_leastSum 190 = .ok (.aload_n 0, 1) := by decide +kernel
theorem dX7_leastSum_191 : decode cX7_leastSum 191 = .ok (.getfield 17, 3) := by decide +kernel
theorem dX7_leastSum_194 : decode cX7_leastSum 194 = .ok (.iload_n 3, 1) := by decide +kernel
theorem dX7_leastSum_195 : decode cX7_leastSum 195 = .ok (.iconst 2, 1) := by decide +kernel
theorem dX7_leastSum_196 : decode cX7_leastSum 196 = .ok (.isub, 1) := by decide +kernel
theorem dX7_leastSum_197 : decode cX7_leastSum 197 = .ok (.aaload, 1) := by decide +kernel
theorem dX7_leastSum_198 : decode cX7_leastSum 198 = .ok (.iload 5, 2) := by decide +kernel
theorem dX7_leastSum_200 : decode cX7_leastSum 200 = .ok (.iconst 2, 1) := by decide +kernel
theorem dX7_leastSum_201 : decode cX7_leastSum 201 = .ok (.isub, 1) := by decide +kernel
theorem dX7_leastSum_202 : decode cX7_leastSum 202 = .ok (.iaload, 1) := by decide +kernel
theorem dX7_leastSum_203 : decode cX7_leastSum 203 = .ok (.aload_n 0, 1) := by decide +kernel
theorem dX7_leastSum_204 : decode cX7_leastSum 204 = .ok (.getfield 9, 3) := by decide +kernel
theorem dX7_leastSum_207 : decode cX7_leastSum 207 = .ok (.iconst 3, 1) := by decide +kernel
theorem dX7_leastSum_208 : decode cX7_leastSum 208 = .ok (.iaload, 1) := by decide +kernel
theorem dX7_leastSum_209 : decode cX7_leastSum 209 = .ok (.iadd, 1) := by decide +kernel
theorem dX7_leastSum_210 : decode cX7_leastSum 210 = .ok (.invokestatic 42, 3) := by decide +kernel
theorem dX7_leastSum_213 : decode cX7_leastSum 213 = .ok (.istore 8, 2) := by decide +kernel
theorem dX7_leastSum_215 : decode cX7_leastSum 215 = .ok (.iload 8, 2) := by decide +kernel
theorem dX7_leastSum_217 : decode cX7_leastSum 217 = .ok (.ireturn, 1) := by decide +kernel
theorem dX7_priceOfOne_0 : decode cX7_priceOfOne 0 = .ok (.iload_n 1, 1) := by decide +kernel
theorem dX7_priceOfOne_1 : decode cX7_priceOfOne 1 = .ok (.iload_n 2, 1) := by decide +kernel
theorem dX7_priceOfOne_2 : decode cX7_priceOfOne 2 = .ok (.if_icmp .ne 5, 3) := by decide +kernel
theorem dX7_priceOfOne_5 : decode cX7_priceOfOne 5 = .ok (.iconst 0, 1) := by decide +kernel
theorem dX7_priceOfOne_6 : decode cX7_priceOfOne 6 = .ok (.ireturn, 1) := by decide +kernel
theorem dX7_priceOfOne_7 : decode cX7_priceOfOne 7 = .ok (.iload_n 1, 1) := by decide +kernel
theorem dX7_priceOfOne_8 : decode cX7_priceOfOne 8 = .ok (.iconst 4, 1) := by decide +kernel
theorem dX7_priceOfOne_9 : decode cX7_priceOfOne 9 = .ok (.idiv, 1) := by decide +kernel
theorem dX7_priceOfOne_10 : decode cX7_priceOfOne 10 = .ok (.iload_n 2, 1) := by decide +kernel
theorem dX7_priceOfOne_11 : decode cX7_priceOfOne 11 = .ok (.iconst 4, 1) := by decide +kernel
theorem dX7_priceOfOne_12 : decode cX7_priceOfOne 12 = .ok (.idiv, 1) := by decide +kernel
theorem dX7_priceOfOne_13 : decode cX7_priceOfOne 13 = .ok (.isub, 1) := by decide +kernel
theorem dX7_priceOfOne_14 : decode cX7_priceOfOne 14 = .ok (.invokestatic 51, 3) := by decide +kernel
theorem dX7_priceOfOne_17 : decode cX7_priceOfOne 17 = .ok (.istore_n 3, 1) := by decide +kernel
theorem dX7_priceOfOne_18 : decode cX7_priceOfOne 18 = .ok (.iload_n 1, 1) := by decide +kernel
theorem dX7_priceOfOne_19 : decode cX7_priceOfOne 19 = .ok (.iconst 4, 1) := by decide +kernel
theorem dX7_priceOfOne_20 : decode cX7_priceOfOne 20 = .ok (.irem, 1) := by decide +kernel
theorem dX7_priceOfOne_21 : decode cX7_priceOfOne 21 = .ok (.iload_n 2, 1) := by decide +kernel
theorem dX7_priceOfOne_22 : decode cX7_priceOfOne 22 = .ok (.iconst 4, 1) := by decide +kernel
theorem dX7_priceOfOne_23 : decode cX7_priceOfOne 23 = .ok (.irem, 1) := by decide +kernel
theorem dX7_priceOfOne_24 : decode cX7_priceOfOne 24 = .ok (.isub, 1) := by decide +kernel
theorem dX7_priceOfOne_25 : decode cX7_priceOfOne 25 = .ok (.invokestatic 51, 3) := by decide +kernel
theorem dX7_priceOfOne_28 : decode cX7_priceOfOne 28 = .ok (.istore 4, 2) := by decide +kernel
theorem dX7_priceOfOne_30 : decode cX7_priceOfOne 30 = .ok (.aload_n 0, 1) := by decide +kernel
theorem dX7_priceOfOne_31 : decode cX7_priceOfOne 31 = .ok (.getfield 9, 3) := by decide +kernel
theorem dX7_priceOfOne_34 : decode cX7_priceOfOne 34 = .ok (.iload_n 3, 1) := by decide +kernel
theorem dX7_priceOfOne_35 : decode cX7_priceOfOne 35 = .ok (.iconst 1, 1) := by decide +kernel
theorem dX7_priceOfOne_36 : decode cX7_priceOfOne 36 = .ok (.if_icmp .gt 13, 3) := by decide +kernel
theorem dX7_priceOfOne_39 : decode cX7_priceOfOne 39 = .ok (.iload 4, 2) := by decide +kernel
theorem dX7_priceOfOne_41 : decode cX7_priceOfOne 41 = .ok (.iconst 1, 1) := by decide +kernel
theorem dX7_priceOfOne_42 : decode cX7_priceOfOne 42 = .ok (.if_icmp .gt 7, 3) := by decide +kernel
theorem dX7_priceOfOne_45 : decode cX7_priceOfOne 45 = .ok (.iconst 0, 1) := by decide +kernel
theorem dX7_priceOfOne_46 : decode cX7_priceOfOne 46 = .ok (.goto 4, 3) := by decide +kernel
theorem dX7_priceOfOne_49 : decode cX7_priceOfOne 49 = .ok (.iconst 4, 1) := by decide +kernel
theorem dX7_priceOfOne_50 : decode cX7_priceOfOne 50 = .ok (.iaload, 1) := by decide +kernel
theorem dX7_priceOfOne_51 : decode cX7_priceOfOne 51 = .ok (.ireturn, 1) := by decide +kernel
theorem dX8_init_0 : decode cX8_init 0 = .ok (.aload_n 0, 1) := by decide +kernel
theorem dX8_init_1 : decode cX8_init 1 = .ok (.invokespecial 3, 3) := by decide +kernel
theorem dX8_init_4 : decode cX8_init 4 = .ok (.aload_n 0, 1) := by decide +kernel
theorem dX8_init_5 : decode cX8_init 5 = .ok (.bipush 24, 2) := by decide +kernel
theorem dX8_init_7 : decode cX8_init 7 = .ok (.anewarray 9, 3) := by decide +kernel
theorem dX8_init_10 : decode cX8_init 10 = .ok (.putfield 11, 3) := by decide +kernel
theorem dX8_init_13 : decode cX8_init 13 = .ok (.aload_n 0, 1) := by decide +kernel
theorem dX8_init_14 : decode cX8_init 14 = .ok (.bipush 24, 2) := by decide +kernel
theorem dX8_init_16 : decode cX8_init 16 = .ok (.anewarray 9, 3) := by decide +kernel
theorem dX8_init_19 : decode cX8_init 19 = .ok (.putfield 17, 3) := by decide +kernel
theorem dX8_init_22 : decode cX8_init 22 = .ok (.aload_n 0, 1) := by decide +kernel
theorem dX8_init_23 : decode cX8_init 23 = .ok (.new 9, 3) := by decide +kernel
theorem dX8_init_26 : decode cX8_init 26 = .ok (.dup, 1) := by decide +kernel
theorem dX8_init_27 : decode cX8_init 27 = .ok (.bipush 12, 2) := by decide +kernel
theorem dX8_init_29 : decode cX8_init 29 = .ok (.invokespecial 20, 3) := by decide +kernel
theorem dX8_init_32 : decode cX8_init 32 = .ok (.putfield 23, 3) := by decide +kernel
theorem dX8_init_35 : decode cX8_init 35 = .ok (.aload_n 0, 1) := by decide +kernel
theorem dX8_init_36 : decode cX8_init 36 = .ok (.new 9, 3) := by decide +kernel
theorem dX8_init_39 : decode cX8_init 39 = .ok (.dup, 1) := by decide +kernel
theorem dX8_init_40 : decode cX8_init 40 = .ok (.bipush 12, 2) := by decide +kernel
theorem dX8_init_42 : decode cX8_init 42 = .ok (.invokespecial 20, 3) := by decide +kernel
theorem dX8_init_45 : decode cX8_init 45 = .ok (.putfield 27, 3) := by decide +kernel
theorem dX8_init_48 : decode cX8_init 48 = .ok (.aload_n 0, 1) := by decide +kernel
theorem dX8_init_49 : decode cX8_init 49 = .ok (.new 9, 3) := by decide +kernel
theorem dX8_init_52 : decode cX8_init 52 = .ok (.dup, 1) := by decide +kernel
theorem dX8_init_53 : decode cX8_init 53 = .ok (.bipush 12, 2) := by decide +kernel
theorem dX8_init_55 : decode cX8_init 55 = .ok (.invokespecial 20, 3) := by decide +kernel
theorem dX8_init_58 : decode cX8_init 58 = .ok (.putfield 30, 3) := by decide +kernel
theorem dX8_init_61 : decode cX8_init 61 = .ok (.aload_n 0, 1) := by decide +kernel
theorem dX8_init_62 : decode cX8_init 62 = .ok (.bipush 61, 2) := by decide +kernel
theorem dX8_init_64 : decode cX8_init 64 = .ok (.newarray .boolean, 2) := by decide +kernel
theorem dX8_init_66 : decode cX8_init 66 = .ok (.putfield 33, 3) := by decide +kernel
theorem dX8_init_69 : decode cX8_init 69 = .ok (.aload_n 0, 1) := by decide +kernel
theorem dX8_init_70 : decode cX8_init 70 = .ok (.bipush 61, 2) := by decide +kernel
theorem dX8_init_72 : decode cX8_init 72 = .ok (.newarray .boolean, 2) := by decide +kernel
theorem dX8_init_74 : decode cX8_init 74 = .ok (.putfield 37, 3) := by decide +kernel
theorem dX8_init_77 : decode cX8_init 77 = .ok (.iconst 0, 1) := by decide +kernel
theorem dX8_init_78 : decode cX8_init 78 = .ok (.istore_n 1, 1) := by decide +kernel
theorem dX8_init_79 : decode cX8_init 79 = .ok (.iload_n 1, 1) := by decide +kernel
theorem dX8_init_80 : decode cX8_init 80 = .ok (.bipush 24, 2) := by decide +kernel
theorem dX8_init_82 : decode cX8_init 82 = .ok (.if_icmp .ge 37, 3) := by decide +kernel
theorem dX8_init_85 : decode cX8_init 85 = .ok (.aload_n 0, 1) := by decide +kernel
theorem dX8_init_86 : decode cX8_init 86 = .ok (.getfield 11, 3) := by decide +kernel
theorem dX8_init_89 : decode cX8_init 89 = .ok (.iload_n 1, 1) := by decide +kernel
theorem dX8_init_90 : decode cX8_init 90 = .ok (.new 9, 3) := by decide +kernel
theorem dX8_init_93 : decode cX8_init 93 = .ok (.dup, 1) := by decide +kernel
theorem dX8_init_94 : decode cX8_init 94 = .ok (.iconst 4, 1) := by decide +kernel
theorem dX8_init_95 : decode cX8_init 95 = .ok (.invokespecial 20, 3) := by decide +kernel
theorem dX8_init_98 : decode cX8_init 98 = .ok (.aastore, 1) := by decide +kernel
theorem dX8_init_99 : decode cX8_init 99 = .ok (.aload_n 0, 1) := by decide +kernel
theorem dX8_init_100 : decode cX8_init 100 = .ok (.getfield 17, 3) := by decide +kernel
theorem dX8_init_103 : decode cX8_init 103 = .ok (.iload_n 1, 1) := by decide +kernel
theorem dX8_init_104 : decode cX8_init 104 = .ok (.new 9, 3) := by decide +kernel
theorem dX8_init_107 : decode cX8_init 107 = .ok (.dup, 1) := by decide +kernel
theorem dX8_init_108 : decode cX8_init 108 = .ok (.iconst 3, 1) := by decide +kernel
theorem dX8_init_109 : decode cX8_init 109 = .ok (.invokespecial 20, 3) := by decide +kernel
theorem dX8_init_112 : decode cX8_init 112 = .ok (.aastore, 1) := by decide +kernel
theorem dX8_init_113 : decode cX8_init 113 = .ok (.iinc 1 1, 3) := by decide +kernel
theorem dX8_init_116 : decode cX8_init 116 = .ok (.goto (-37), 3) := by decide +kernel
theorem dX8_init_119 : decode cX8_init 119 = .ok (.return_, 1) := by decide +kernel
theorem dX8_rules_0 : decode cX8_rules 0 = .ok (.aload_n 0, 1) := by decide +kernel
theorem dX8_rules_1 : decode cX8_rules 1 = .ok (.getfield 40, 3) := by decide +kernel
theorem dX8_rules_4 : decode cX8_rules 4 = .ok (.ireturn, 1) := by decide +kernel
theorem dX8_joins_0 : decode cX8_joins 0 = .ok (.aload_n 0, 1) := by decide +kernel
theorem dX8_joins_1 : decode cX8_joins 1 = .ok (.getfield 30, 3) := by decide +kernel
theorem dX8_joins_4 : decode cX8_joins 4 = .ok (.invokevirtual 44, 3) := by decide +kernel
theorem dX8_joins_7 : decode cX8_joins 7 = .ok (.ireturn, 1) := by decide +kernel
theorem dX9_init_0 : decode cX9_init 0 = .ok (.aload_n 0, 1) := by decide +kernel
theorem dX9_init_1 : decode cX9_init 1 = .ok (.invokespecial 3, 3) := by decide +kernel
theorem dX9_init_4 : decode cX9_init 4 = .ok (.aload_n 0, 1) := by decide +kernel
theorem dX9_init_5 : decode cX9_init 5 = .ok (.bipush 120, 2) := by decide +kernel
theorem dX9_init_7 : decode cX9_init 7 = .ok (.newarray .int, 2) := by decide +kernel
theorem dX9_init_9 : decode cX9_init 9 = .ok (.putfield 9, 3) := by decide +kernel
theorem dX9_init_12 : decode cX9_init 12 = .ok (.aload_n 0, 1) := by decide +kernel
theorem dX9_init_13 : decode cX9_init 13 = .ok (.bipush 120, 2) := by decide +kernel
theorem dX9_init_15 : decode cX9_init 15 = .ok (.newarray .int, 2) := by decide +kernel
theorem dX9_init_17 : decode cX9_init 17 = .ok (.putfield 15, 3) := by decide +kernel
theorem dX9_init_20 : decode cX9_init 20 = .ok (.aload_n 0, 1) := by decide +kernel
theorem dX9_init_21 : decode cX9_init 21 = .ok (.sipush 1200, 3) := by decide +kernel
theorem dX9_init_24 : decode cX9_init 24 = .ok (.newarray .int, 2) := by decide +kernel
theorem dX9_init_26 : decode cX9_init 26 = .ok (.putfield 18, 3) := by decide +kernel
theorem dX9_init_29 : decode cX9_init 29 = .ok (.aload_n 0, 1) := by decide +kernel
theorem dX9_init_30 : decode cX9_init 30 = .ok (.bipush 120, 2) := by decide +kernel
theorem dX9_init_32 : decode cX9_init 32 = .ok (.newarray .int, 2) := by decide +kernel
theorem dX9_init_34 : decode cX9_init 34 = .ok (.putfield 21, 3) := by decide +kernel
theorem dX9_init_37 : decode cX9_init 37 = .ok (.aload_n 0, 1) := by decide +kernel
theorem dX9_init_38 : decode cX9_init 38 = .ok (.bipush 120, 2) := by decide +kernel
theorem dX9_init_40 : decode cX9_init 40 = .ok (.newarray .boolean, 2) := by decide +kernel
theorem dX9_init_42 : decode cX9_init 42 = .ok (.putfield 24, 3) := by decide +kernel
theorem dX9_init_45 : decode cX9_init 45 = .ok (.aload_n 0, 1) := by decide +kernel
theorem dX9_init_46 : decode cX9_init 46 = .ok (.bipush 120, 2) := by decide +kernel
theorem dX9_init_48 : decode cX9_init 48 = .ok (.newarray .int, 2) := by decide +kernel
theorem dX9_init_50 : decode cX9_init 50 = .ok (.putfield 28, 3) := by decide +kernel
theorem dX9_init_53 : decode cX9_init 53 = .ok (.aload_n 0, 1) := by decide +kernel
theorem dX9_init_54 : decode cX9_init 54 = .ok (.new 31, 3) := by decide +kernel
theorem dX9_init_57 : decode cX9_init 57 = .ok (.dup, 1) := by decide +kernel
theorem dX9_init_58 : decode cX9_init 58 = .ok (.bipush 120, 2) := by decide +kernel
theorem dX9_init_60 : decode cX9_init 60 = .ok (.invokespecial 33, 3) := by decide +kernel
theorem dX9_init_63 : decode cX9_init 63 = .ok (.putfield 36, 3) := by decide +kernel
theorem dX9_init_66 : decode cX9_init 66 = .ok (.aload_n 0, 1) := by decide +kernel
theorem dX9_init_67 : decode cX9_init 67 = .ok (.new 31, 3) := by decide +kernel
theorem dX9_init_70 : decode cX9_init 70 = .ok (.dup, 1) := by decide +kernel
theorem dX9_init_71 : decode cX9_init 71 = .ok (.bipush 120, 2) := by decide +kernel
theorem dX9_init_73 : decode cX9_init 73 = .ok (.invokespecial 33, 3) := by decide +kernel
theorem dX9_init_76 : decode cX9_init 76 = .ok (.putfield 40, 3) := by decide +kernel
theorem dX9_init_79 : decode cX9_init 79 = .ok (.aload_n 0, 1) := by decide +kernel
theorem dX9_init_80 : decode cX9_init 80 = .ok (.aload_n 1, 1) := by decide +kernel
theorem dX9_init_81 : decode cX9_init 81 = .ok (.putfield 43, 3) := by decide +kernel
theorem dX9_init_84 : decode cX9_init 84 = .ok (.return_, 1) := by decide +kernel
theorem dX10_init_0 : decode cX10_init 0 = .ok (.aload_n 0, 1) := by decide +kernel
theorem dX10_init_1 : decode cX10_init 1 = .ok (.invokespecial 3, 3) := by decide +kernel
theorem dX10_init_4 : decode cX10_init 4 = .ok (.aload_n 0, 1) := by decide +kernel
theorem dX10_init_5 : decode cX10_init 5 = .ok (.new 9, 3) := by decide +kernel
theorem dX10_init_8 : decode cX10_init 8 = .ok (.dup, 1) := by decide +kernel
theorem dX10_init_9 : decode cX10_init 9 = .ok (.bipush 60, 2) := by decide +kernel
theorem dX10_init_11 : decode cX10_init 11 = .ok (.invokespecial 11, 3) := by decide +kernel
theorem dX10_init_14 : decode cX10_init 14 = .ok (.putfield 14, 3) := by decide +kernel
theorem dX10_init_17 : decode cX10_init 17 = .ok (.aload_n 0, 1) := by decide +kernel
theorem dX10_init_18 : decode cX10_init 18 = .ok (.new 9, 3) := by decide +kernel
theorem dX10_init_21 : decode cX10_init 21 = .ok (.dup, 1) := by decide +kernel
theorem dX10_init_22 : decode cX10_init 22 = .ok (.bipush 60, 2) := by decide +kernel
theorem dX10_init_24 : decode cX10_init 24 = .ok (.invokespecial 11, 3) := by decide +kernel
theorem dX10_init_27 : decode cX10_init 27 = .ok (.putfield 20, 3) := by decide +kernel
theorem dX10_init_30 : decode cX10_init 30 = .ok (.aload_n 0, 1) := by decide +kernel
theorem dX10_init_31 : decode cX10_init 31 = .ok (.new 9, 3) := by decide +kernel
theorem dX10_init_34 : decode cX10_init 34 = .ok (.dup, 1) := by decide +kernel
theorem dX10_init_35 : decode cX10_init 35 = .ok (.bipush 60, 2) := by decide +kernel
theorem dX10_init_37 : decode cX10_init 37 = .ok (.invokespecial 11, 3) := by decide +kernel
theorem dX10_init_40 : decode cX10_init 40 = .ok (.putfield 23, 3) := by decide +kernel
theorem dX10_init_43 : decode cX10_init 43 = .ok (.aload_n 0, 1) := by decide +kernel
theorem dX10_init_44 : decode cX10_init 44 = .ok (.bipush 60, 2) := by decide +kernel
theorem dX10_init_46 : decode cX10_init 46 = .ok (.anewarray 9, 3) := by decide +kernel
theorem dX10_init_49 : decode cX10_init 49 = .ok (.putfield 26, 3) := by decide +kernel
theorem dX10_init_52 : decode cX10_init 52 = .ok (.iconst 0, 1) := by decide +kernel
theorem dX10_init_53 : decode cX10_init 53 = .ok (.istore_n 1, 1) := by decide +kernel
theorem dX10_init_54 : decode cX10_init 54 = .ok (.iload_n 1, 1) := by decide +kernel
theorem dX10_init_55 : decode cX10_init 55 = .ok (.bipush 60, 2) := by decide +kernel
theorem dX10_init_57 : decode cX10_init 57 = .ok (.if_icmp .ge 24, 3) := by decide +kernel
theorem dX10_init_60 : decode cX10_init 60 = .ok (.aload_n 0, 1) := by decide +kernel
theorem dX10_init_61 : decode cX10_init 61 = .ok (.getfield 26, 3) := by decide +kernel
theorem dX10_init_64 : decode cX10_init 64 = .ok (.iload_n 1, 1) := by decide +kernel
theorem dX10_init_65 : decode cX10_init 65 = .ok (.new 9, 3) := by decide +kernel
theorem dX10_init_68 : decode cX10_init 68 = .ok (.dup, 1) := by decide +kernel
theorem dX10_init_69 : decode cX10_init 69 = .ok (.bipush 8, 2) := by decide +kernel
theorem dX10_init_71 : decode cX10_init 71 = .ok (.invokespecial 11, 3) := by decide +kernel
theorem dX10_init_74 : decode cX10_init 74 = .ok (.aastore, 1) := by decide +kernel
theorem dX10_init_75 : decode cX10_init 75 = .ok (.iinc 1 1, 3) := by decide +kernel
theorem dX10_init_78 : decode cX10_init 78 = .ok (.goto (-24), 3) := by decide +kernel
theorem dX10_init_81 : decode cX10_init 81 = .ok (.return_, 1) := by decide +kernel
theorem dX10_size_0 : decode cX10_size 0 = .ok (.aload_n 0, 1) := by decide +kernel
theorem dX10_size_1 : decode cX10_size 1 = .ok (.getfield 14, 3) := by decide +kernel
theorem dX10_size_4 : decode cX10_size 4 = .ok (.invokevirtual 30, 3) := by decide +kernel
theorem dX10_size_7 : decode cX10_size 7 = .ok (.ireturn, 1) := by decide +kernel
theorem dX10_isFull_0 : decode cX10_isFull 0 = .ok (.aload_n 0, 1) := by decide +kernel
theorem dX10_isFull_1 : decode cX10_isFull 1 = .ok (.getfield 14, 3) := by decide +kernel
theorem dX10_isFull_4 : decode cX10_isFull 4 = .ok (.invokevirtual 34, 3) := by decide +kernel
theorem dX10_isFull_7 : decode cX10_isFull 7 = .ok (.ireturn, 1) := by decide +kernel
theorem dX10_has_0 : decode cX10_has 0 = .ok (.aload_n 0, 1) := by decide +kernel
theorem dX10_has_1 : decode cX10_has 1 = .ok (.getfield 14, 3) := by decide +kernel
theorem dX10_has_4 : decode cX10_has 4 = .ok (.iload_n 1, 1) := by decide +kernel
theorem dX10_has_5 : decode cX10_has 5 = .ok (.invokevirtual 38, 3) := by decide +kernel
theorem dX10_has_8 : decode cX10_has 8 = .ok (.ireturn, 1) := by decide +kernel
theorem dX10_tongueOf_0 : decode cX10_tongueOf 0 = .ok (.aload_n 0, 1) := by decide +kernel
theorem dX10_tongueOf_1 : decode cX10_tongueOf 1 = .ok (.getfield 14, 3) := by decide +kernel
theorem dX10_tongueOf_4 : decode cX10_tongueOf 4 = .ok (.iload_n 1, 1) := by decide +kernel
theorem dX10_tongueOf_5 : decode cX10_tongueOf 5 = .ok (.invokevirtual 42, 3) := by decide +kernel
theorem dX10_tongueOf_8 : decode cX10_tongueOf 8 = .ok (.ireturn, 1) := by decide +kernel
theorem dX10_signOf_0 : decode cX10_signOf 0 = .ok (.aload_n 0, 1) := by decide +kernel
theorem dX10_signOf_1 : decode cX10_signOf 1 = .ok (.getfield 20, 3) := by decide +kernel
theorem dX10_signOf_4 : decode cX10_signOf 4 = .ok (.iload_n 1, 1) := by decide +kernel
theorem dX10_signOf_5 : decode cX10_signOf 5 = .ok (.invokevirtual 42, 3) := by decide +kernel
theorem dX10_signOf_8 : decode cX10_signOf 8 = .ok (.ireturn, 1) := by decide +kernel
theorem dX10_countOf_0 : decode cX10_countOf 0 = .ok (.aload_n 0, 1) := by decide +kernel
theorem dX10_countOf_1 : decode cX10_countOf 1 = .ok (.getfield 23, 3) := by decide +kernel
theorem dX10_countOf_4 : decode cX10_countOf 4 = .ok (.iload_n 1, 1) := by decide +kernel
theorem dX10_countOf_5 : decode cX10_countOf 5 = .ok (.invokevirtual 42, 3) := by decide +kernel
theorem dX10_countOf_8 : decode cX10_countOf 8 = .ok (.ireturn, 1) := by decide +kernel
theorem dX10_keysOf_0 : decode cX10_keysOf 0 = .ok (.aload_n 0, 1) := by decide +kernel
theorem dX10_keysOf_1 : decode cX10_keysOf 1 = .ok (.getfield 26, 3) := by decide +kernel
theorem dX10_keysOf_4 : decode cX10_keysOf 4 = .ok (.iload_n 1, 1) := by decide +kernel
theorem dX10_keysOf_5 : decode cX10_keysOf 5 = .ok (.aaload, 1) := by decide +kernel
theorem dX10_keysOf_6 : decode cX10_keysOf 6 = .ok (.areturn, 1) := by decide +kernel
theorem dX10_addWord_0 : decode cX10_addWord 0 = .ok (.aload_n 0, 1) := by decide +kernel
theorem dX10_addWord_1 : decode cX10_addWord 1 = .ok (.invokevirtual 50, 3) := by decide +kernel
theorem dX10_addWord_4 : decode cX10_addWord 4 = .ok (.ifCond .eq 6, 3) := by decide +kernel
theorem dX10_addWord_7 : decode cX10_addWord 7 = .ok (.bipush (-4), 2) := by decide +kernel
theorem dX10_addWord_9 : decode cX10_addWord 9 = .ok (.ireturn, 1) := by decide +kernel
theorem dX10_addWord_10 : decode cX10_addWord 10 = .ok (.aload_n 0, 1) := by decide +kernel
theorem dX10_addWord_11 : decode cX10_addWord 11 = .ok (.getfield 26, 3) := by decide +kernel
theorem dX10_addWord_14 : decode cX10_addWord 14 = .ok (.aload_n 0, 1) := by decide +kernel
theorem dX10_addWord_15 : decode cX10_addWord 15 = .ok (.invokevirtual 51, 3) := by decide +kernel
theorem dX10_addWord_18 : decode cX10_addWord 18 = .ok (.aaload, 1) := by decide +kernel
theorem dX10_addWord_19 : decode cX10_addWord 19 = .ok (.aload 4, 2) := by decide +kernel
theorem dX10_addWord_21 : decode cX10_addWord 21 = .ok (.invokevirtual 52, 3) := by decide +kernel
theorem dX10_addWord_24 : decode cX10_addWord 24 = .ok (.aload_n 0, 1) := by decide +kernel
theorem dX10_addWord_25 : decode cX10_addWord 25 = .ok (.getfield 14, 3) := by decide +kernel
theorem dX10_addWord_28 : decode cX10_addWord 28 = .ok (.iload_n 1, 1) := by decide +kernel
theorem dX10_addWord_29 : decode cX10_addWord 29 = .ok (.invokevirtual 56, 3) := by decide +kernel
theorem dX10_addWord_32 : decode cX10_addWord 32 = .ok (.aload_n 0, 1) := by decide +kernel
theorem dX10_addWord_33 : decode cX10_addWord 33 = .ok (.getfield 20, 3) := by decide +kernel
theorem dX10_addWord_36 : decode cX10_addWord 36 = .ok (.iload_n 2, 1) := by decide +kernel
theorem dX10_addWord_37 : decode cX10_addWord 37 = .ok (.invokevirtual 56, 3) := by decide +kernel
theorem dX10_addWord_40 : decode cX10_addWord 40 = .ok (.aload_n 0, 1) := by decide +kernel
theorem dX10_addWord_41 : decode cX10_addWord 41 = .ok (.getfield 23, 3) := by decide +kernel
theorem dX10_addWord_44 : decode cX10_addWord 44 = .ok (.iload_n 3, 1) := by decide +kernel
theorem dX10_addWord_45 : decode cX10_addWord 45 = .ok (.invokevirtual 56, 3) := by decide +kernel
theorem dX10_addWord_48 : decode cX10_addWord 48 = .ok (.aload_n 0, 1) := by decide +kernel
theorem dX10_addWord_49 : decode cX10_addWord 49 = .ok (.invokevirtual 51, 3) := by decide +kernel
theorem dX10_addWord_52 : decode cX10_addWord 52 = .ok (.iconst 1, 1) := by decide +kernel
theorem dX10_addWord_53 : decode cX10_addWord 53 = .ok (.isub, 1) := by decide +kernel
theorem dX10_addWord_54 : decode cX10_addWord 54 = .ok (.ireturn, 1) := by decide +kernel
theorem dX11_init_0 : decode cX11_init 0 = .ok (.aload_n 0, 1) := by decide +kernel
theorem dX11_init_1 : decode cX11_init 1 = .ok (.invokespecial 1, 3) := by decide +kernel
theorem dX11_init_4 : decode cX11_init 4 = .ok (.aload_n 0, 1) := by decide +kernel
theorem dX11_init_5 : decode cX11_init 5 = .ok (.new 7, 3) := by decide +kernel
theorem dX11_init_8 : decode cX11_init 8 = .ok (.dup, 1) := by decide +kernel
theorem dX11_init_9 : decode cX11_init 9 = .ok (.bipush 16, 2) := by decide +kernel
theorem dX11_init_11 : decode cX11_init 11 = .ok (.invokespecial 11, 3) := by decide +kernel
theorem dX11_init_14 : decode cX11_init 14 = .ok (.putfield 14, 3) := by decide +kernel
theorem dX11_init_17 : decode cX11_init 17 = .ok (.aload_n 0, 1) := by decide +kernel
theorem dX11_init_18 : decode cX11_init 18 = .ok (.new 7, 3) := by decide +kernel
theorem dX11_init_21 : decode cX11_init 21 = .ok (.dup, 1) := by decide +kernel
theorem dX11_init_22 : decode cX11_init 22 = .ok (.iconst 3, 1) := by decide +kernel
theorem dX11_init_23 : decode cX11_init 23 = .ok (.invokespecial 11, 3) := by decide +kernel
theorem dX11_init_26 : decode cX11_init 26 = .ok (.putfield 18, 3) := by decide +kernel
theorem dX11_init_29 : decode cX11_init 29 = .ok (.aload_n 0, 1) := by decide +kernel
theorem dX11_init_30 : decode cX11_init 30 = .ok (.iconst 3, 1) := by decide +kernel
theorem dX11_init_31 : decode cX11_init 31 = .ok (.anewarray 21, 3) := by decide +kernel
theorem dX11_init_34 : decode cX11_init 34 = .ok (.putfield 23, 3) := by decide +kernel
theorem dX11_init_37 : decode cX11_init 37 = .ok (.iconst 0, 1) := by decide +kernel
theorem dX11_init_38 : decode cX11_init 38 = .ok (.istore_n 1, 1) := by decide +kernel
theorem dX11_init_39 : decode cX11_init 39 = .ok (.iload_n 1, 1) := by decide +kernel
theorem dX11_init_40 : decode cX11_init 40 = .ok (.iconst 3, 1) := by decide +kernel
theorem dX11_init_41 : decode cX11_init 41 = .ok (.if_icmp .ge 22, 3) := by decide +kernel
theorem dX11_init_44 : decode cX11_init 44 = .ok (.aload_n 0, 1) := by decide +kernel
theorem dX11_init_45 : decode cX11_init 45 = .ok (.getfield 23, 3) := by decide +kernel
theorem dX11_init_48 : decode cX11_init 48 = .ok (.iload_n 1, 1) := by decide +kernel
theorem dX11_init_49 : decode cX11_init 49 = .ok (.new 21, 3) := by decide +kernel
theorem dX11_init_52 : decode cX11_init 52 = .ok (.dup, 1) := by decide +kernel
theorem dX11_init_53 : decode cX11_init 53 = .ok (.invokespecial 27, 3) := by decide +kernel
theorem dX11_init_56 : decode cX11_init 56 = .ok (.aastore, 1) := by decide +kernel
theorem dX11_init_57 : decode cX11_init 57 = .ok (.iinc 1 1, 3) := by decide +kernel
theorem dX11_init_60 : decode cX11_init 60 = .ok (.goto (-21), 3) := by decide +kernel
theorem dX11_init_63 : decode cX11_init 63 = .ok (.aload_n 0, 1) := by decide +kernel
theorem dX11_init_64 : decode cX11_init 64 = .ok (.new 28, 3) := by decide +kernel
theorem dX11_init_67 : decode cX11_init 67 = .ok (.dup, 1) := by decide +kernel
theorem dX11_init_68 : decode cX11_init 68 = .ok (.invokespecial 30, 3) := by decide +kernel
theorem dX11_init_71 : decode cX11_init 71 = .ok (.putfield 31, 3) := by decide +kernel
theorem dX11_init_74 : decode cX11_init 74 = .ok (.aload_n 0, 1) := by decide +kernel
theorem dX11_init_75 : decode cX11_init 75 = .ok (.new 35, 3) := by decide +kernel
theorem dX11_init_78 : decode cX11_init 78 = .ok (.dup, 1) := by decide +kernel
theorem dX11_init_79 : decode cX11_init 79 = .ok (.invokespecial 37, 3) := by decide +kernel
theorem dX11_init_82 : decode cX11_init 82 = .ok (.putfield 38, 3) := by decide +kernel
theorem dX11_init_85 : decode cX11_init 85 = .ok (.aload_n 0, 1) := by decide +kernel
theorem dX11_init_86 : decode cX11_init 86 = .ok (.new 42, 3) := by decide +kernel
theorem dX11_init_89 : decode cX11_init 89 = .ok (.dup, 1) := by decide +kernel
theorem dX11_init_90 : decode cX11_init 90 = .ok (.invokespecial 44, 3) := by decide +kernel
theorem dX11_init_93 : decode cX11_init 93 = .ok (.putfield 45, 3) := by decide +kernel
theorem dX11_init_96 : decode cX11_init 96 = .ok (.aload_n 0, 1) := by decide +kernel
theorem dX11_init_97 : decode cX11_init 97 = .ok (.new 49, 3) := by decide +kernel
theorem dX11_init_100 : decode cX11_init 100 = .ok (.dup, 1) := by decide +kernel
theorem dX11_init_101 : decode cX11_init 101 = .ok (.invokespecial 51, 3) := by decide +kernel
theorem dX11_init_104 : decode cX11_init 104 = .ok (.putfield 52, 3) := by decide +kernel
theorem dX11_init_107 : decode cX11_init 107 = .ok (.aload_n 0, 1) := by decide +kernel
theorem dX11_init_108 : decode cX11_init 108 = .ok (.new 56, 3) := by decide +kernel
theorem dX11_init_111 : decode cX11_init 111 = .ok (.dup, 1) := by decide +kernel
theorem dX11_init_112 : decode cX11_init 112 = .ok (.aload_n 0, 1) := by decide +kernel
theorem dX11_init_113 : decode cX11_init 113 = .ok (.getfield 38, 3) := by decide +kernel
theorem dX11_init_116 : decode cX11_init 116 = .ok (.aload_n 0, 1) := by decide +kernel
theorem dX11_init_117 : decode cX11_init 117 = .ok (.getfield 45, 3) := by decide +kernel
theorem dX11_init_120 : decode cX11_init 120 = .ok (.invokespecial 58, 3) := by decide +kernel
theorem dX11_init_123 : decode cX11_init 123 = .ok (.putfield 61, 3) := by decide +kernel
theorem dX11_init_126 : decode cX11_init 126 = .ok (.aload_n 0, 1) := by decide +kernel
theorem dX11_init_127 : decode cX11_init 127 = .ok (.new 65, 3) := by decide +kernel
theorem dX11_init_130 : decode cX11_init 130 = .ok (.dup, 1) := by decide +kernel
theorem dX11_init_131 : decode cX11_init 131 = .ok (.aload_n 0, 1) := by decide +kernel
theorem dX11_init_132 : decode cX11_init 132 = .ok (.getfield 38, 3) := by decide +kernel
theorem dX11_init_135 : decode cX11_init 135 = .ok (.invokespecial 67, 3) := by decide +kernel
theorem dX11_init_138 : decode cX11_init 138 = .ok (.putfield 70, 3) := by decide +kernel
theorem dX11_init_141 : decode cX11_init 141 = .ok (.aload_n 0, 1) := by decide +kernel
theorem dX11_init_142 : decode cX11_init 142 = .ok (.new 74, 3) := by decide +kernel
theorem dX11_init_145 : decode cX11_init 145 = .ok (.dup, 1) := by decide +kernel
theorem dX11_init_146 : decode cX11_init 146 = .ok (.invokespecial 76, 3) := by decide +kernel
theorem dX11_init_149 : decode cX11_init 149 = .ok (.putfield 77, 3) := by decide +kernel
theorem dX11_init_152 : decode cX11_init 152 = .ok (.aload_n 0, 1) := by decide +kernel
theorem dX11_init_153 : decode cX11_init 153 = .ok (.new 81, 3) := by decide +kernel
theorem dX11_init_156 : decode cX11_init 156 = .ok (.dup, 1) := by decide +kernel
theorem dX11_init_157 : decode cX11_init 157 = .ok (.invokespecial 83, 3) := by decide +kernel
theorem dX11_init_160 : decode cX11_init 160 = .ok (.putfield 84, 3) := by decide +kernel
theorem dX11_init_163 : decode cX11_init 163 = .ok (.aload_n 0, 1) := by decide +kernel
theorem dX11_init_164 : decode cX11_init 164 = .ok (.new 88, 3) := by decide +kernel
theorem dX11_init_167 : decode cX11_init 167 = .ok (.dup, 1) := by decide +kernel
theorem dX11_init_168 : decode cX11_init 168 = .ok (.aload_n 0, 1) := by decide +kernel
theorem dX11_init_169 : decode cX11_init 169 = .ok (.getfield 84, 3) := by decide +kernel
theorem dX11_init_172 : decode cX11_init 172 = .ok (.invokespecial 90, 3) := by decide +kernel
theorem dX11_init_175 : decode cX11_init 175 = .ok (.putfield 93, 3) := by decide +kernel
theorem dX11_init_178 : decode cX11_init 178 = .ok (.return_, 1) := by decide +kernel
theorem dX11_key_0 : decode cX11_key 0 = .ok (.iload_n 1, 1) := by decide +kernel
theorem dX11_key_1 : decode cX11_key 1 = .ok (.invokestatic 97, 3) := by decide +kernel
theorem dX11_key_4 : decode cX11_key 4 = .ok (.ifCond .ne 6, 3) := by decide +kernel
theorem dX11_key_7 : decode cX11_key 7 = .ok (.bipush (-2), 2) := by decide +kernel
theorem dX11_key_9 : decode cX11_key 9 = .ok (.ireturn, 1) := by decide +kernel
theorem dX11_key_10 : decode cX11_key 10 = .ok (.aload_n 0, 1) := by decide +kernel
theorem dX11_key_11 : decode cX11_key 11 = .ok (.getfield 14, 3) := by decide +kernel
theorem dX11_key_14 : decode cX11_key 14 = .ok (.invokevirtual 101, 3) := by decide +kernel
theorem dX11_key_17 : decode cX11_key 17 = .ok (.ifCond .eq 6, 3) := by decide +kernel
theorem dX11_key_20 : decode cX11_key 20 = .ok (.bipush (-4), 2) := by decide +kernel
theorem dX11_key_22 : decode cX11_key 22 = .ok (.ireturn, 1) := by decide +kernel
theorem dX11_key_23 : decode cX11_key 23 = .ok (.aload_n 0, 1) := by decide +kernel
theorem dX11_key_24 : decode cX11_key 24 = .ok (.getfield 14, 3) := by decide +kernel
theorem dX11_key_27 : decode cX11_key 27 = .ok (.iload_n 1, 1) := by decide +kernel
theorem dX11_key_28 : decode cX11_key 28 = .ok (.invokevirtual 105, 3) := by decide +kernel
theorem dX11_key_31 : decode cX11_key 31 = .ok (.aload_n 0, 1) := by decide +kernel
theorem dX11_key_32 : decode cX11_key 32 = .ok (.getfield 14, 3) := by decide +kernel
theorem dX11_key_35 : decode cX11_key 35 = .ok (.invokevirtual 108, 3) := by decide +kernel
theorem dX11_key_38 : decode cX11_key 38 = .ok (.ireturn, 1) := by decide +kernel
theorem dX11_word_0 : decode cX11_word 0 = .ok (.iload_n 1, 1) := by decide +kernel
theorem dX11_word_1 : decode cX11_word 1 = .ok (.invokestatic 121, 3) := by decide +kernel
theorem dX11_word_4 : decode cX11_word 4 = .ok (.ifCond .ne 5, 3) := by decide +kernel
theorem dX11_word_7 : decode cX11_word 7 = .ok (.iconst (-1), 1) := by decide +kernel
theorem dX11_word_8 : decode cX11_word 8 = .ok (.ireturn, 1) := by decide +kernel
theorem dX11_word_9 : decode cX11_word 9 = .ok (.iload_n 2, 1) := by decide +kernel
theorem dX11_word_10 : decode cX11_word 10 = .ok (.iconst 1, 1) := by decide +kernel
theorem dX11_word_11 : decode cX11_word 11 = .ok (.sipush 999, 3) := by decide +kernel
theorem dX11_word_14 : decode cX11_word 14 = .ok (.invokestatic 165, 3) := by decide +kernel
theorem dX11_word_17 : decode cX11_word 17 = .ok (.ifCond .eq 13, 3) := by decide +kernel
theorem dX11_word_20 : decode cX11_word 20 = .ok (.iload_n 3, 1) := by decide +kernel
theorem dX11_word_21 : decode cX11_word 21 = .ok (.iconst 1, 1) := by decide +kernel
theorem dX11_word_22 : decode cX11_word 22 = .ok (.bipush 100, 2) := by decide +kernel
theorem dX11_word_24 : decode cX11_word 24 = .ok (.invokestatic 165, 3) := by decide +kernel
theorem dX11_word_27 : decode cX11_word 27 = .ok (.ifCond .ne 6, 3) := by decide +kernel
theorem dX11_word_30 : decode cX11_word 30 = .ok (.bipush (-2), 2) := by decide +kernel
theorem dX11_word_32 : decode cX11_word 32 = .ok (.ireturn, 1) := by decide +kernel
theorem dX11_word_33 : decode cX11_word 33 = .ok (.aload_n 0, 1) := by decide +kernel
theorem dX11_word_34 : decode cX11_word 34 = .ok (.getfield 38, 3) := by decide +kernel
theorem dX11_word_37 : decode cX11_word 37 = .ok (.invokevirtual 207, 3) := by decide +kernel
theorem dX11_word_40 : decode cX11_word 40 = .ok (.ifCond .eq 6, 3) := by decide +kernel
theorem dX11_word_43 : decode cX11_word 43 = .ok (.bipush (-4), 2) := by decide +kernel
theorem dX11_word_45 : decode cX11_word 45 = .ok (.ireturn, 1) := by decide +kernel
theorem dX11_word_46 : decode cX11_word 46 = .ok (.aload_n 0, 1) := by decide +kernel
theorem dX11_word_47 : decode cX11_word 47 = .ok (.getfield 14, 3) := by decide +kernel
theorem dX11_word_50 : decode cX11_word 50 = .ok (.invokevirtual 127, 3) := by decide +kernel
theorem dX11_word_53 : decode cX11_word 53 = .ok (.ifCond .ne 15, 3) := by decide +kernel
theorem dX11_word_56 : decode cX11_word 56 = .ok (.aload_n 0, 1) := by decide +kernel
theorem dX11_word_57 : decode cX11_word 57 = .ok (.getfield 14, 3) := by decide +kernel
theorem dX11_word_60 : decode cX11_word 60 = .ok (.invokevirtual 108, 3) := by decide +kernel
theorem dX11_word_63 : decode cX11_word 63 = .ok (.bipush 8, 2) := by decide +kernel
theorem dX11_word_65 : decode cX11_word 65 = .ok (.if_icmp .le 6, 3) := by decide +kernel
theorem dX11_word_68 : decode cX11_word 68 = .ok (.bipush (-5), 2) := by decide +kernel
theorem dX11_word_70 : decode cX11_word 70 = .ok (.ireturn, 1) := by decide +kernel
theorem dX11_word_71 : decode cX11_word 71 = .ok (.aload_n 0, 1) := by decide +kernel
theorem dX11_word_72 : decode cX11_word 72 = .ok (.getfield 38, 3) := by decide +kernel
theorem dX11_word_75 : decode cX11_word 75 = .ok (.iload_n 1, 1) := by decide +kernel
theorem dX11_word_76 : decode cX11_word 76 = .ok (.iload_n 2, 1) := by decide +kernel
theorem dX11_word_77 : decode cX11_word 77 = .ok (.iload_n 3, 1) := by decide +kernel
theorem dX11_word_78 : decode cX11_word 78 = .ok (.aload_n 0, 1) := by decide +kernel
theorem dX11_word_79 : decode cX11_word 79 = .ok (.getfield 14, 3) := by decide +kernel
theorem dX11_word_82 : decode cX11_word 82 = .ok (.invokevirtual 208, 3) := by decide +kernel
theorem dX11_word_85 : decode cX11_word 85 = .ok (.istore 4, 2) := by decide +kernel
theorem dX11_word_87 : decode cX11_word 87 = .ok (.aload_n 0, 1) := by decide +kernel
theorem dX11_word_88 : decode cX11_word 88 = .ok (.getfield 14, 3) := by decide +kernel
theorem dX11_word_91 : decode cX11_word 91 = .ok (.invokevirtual 115, 3) := by decide +kernel
theorem dX11_word_94 : decode cX11_word 94 = .ok (.pop, 1) := by decide +kernel
theorem dX11_word_95 : decode cX11_word 95 = .ok (.iload 4, 2) := by decide +kernel
theorem dX11_word_97 : decode cX11_word 97 = .ok (.ireturn, 1) := by decide +kernel
theorem dX11_ofWord_0 : decode cX11_ofWord 0 = .ok (.aload_n 0, 1) := by decide +kernel
theorem dX11_ofWord_1 : decode cX11_ofWord 1 = .ok (.getfield 38, 3) := by decide +kernel
theorem dX11_ofWord_4 : decode cX11_ofWord 4 = .ok (.iload_n 1, 1) := by decide +kernel
theorem dX11_ofWord_5 : decode cX11_ofWord 5 = .ok (.invokevirtual 212, 3) := by decide +kernel
theorem dX11_ofWord_8 : decode cX11_ofWord 8 = .ok (.ifCond .ne 5, 3) := by decide +kernel
theorem dX11_ofWord_11 : decode cX11_ofWord 11 = .ok (.iconst (-1), 1) := by decide +kernel
theorem dX11_ofWord_12 : decode cX11_ofWord 12 = .ok (.ireturn, 1) := by decide +kernel
theorem dX11_ofWord_13 : decode cX11_ofWord 13 = .ok (.iload_n 2, 1) := by decide +kernel
theorem dX11_ofWord_14 : decode cX11_ofWord 14 = .ok (.tableswitch 69 0 3 #[30, 39, 48, 57], 30) := by decide +kernel
theorem dX11_ofWord_44 : decode cX11_ofWord 44 = .ok (.aload_n 0, 1) := by decide +kernel
theorem dX11_ofWord_45 : decode cX11_ofWord 45 = .ok (.getfield 38, 3) := by decide +kernel
theorem dX11_ofWord_48 : decode cX11_ofWord 48 = .ok (.iload_n 1, 1) := by decide +kernel
theorem dX11_ofWord_49 : decode cX11_ofWord 49 = .ok (.invokevirtual 213, 3) := by decide +kernel
theorem dX11_ofWord_52 : decode cX11_ofWord 52 = .ok (.ireturn, 1) := by decide +kernel
theorem dX11_ofWord_53 : decode cX11_ofWord 53 = .ok (.aload_n 0, 1) := by decide +kernel
theorem dX11_ofWord_54 : decode cX11_ofWord 54 = .ok (.getfield 38, 3) := by decide +kernel
theorem dX11_ofWord_57 : decode cX11_ofWord 57 = .ok (.iload_n 1, 1) := by decide +kernel
theorem dX11_ofWord_58 : decode cX11_ofWord 58 = .ok (.invokevirtual 216, 3) := by decide +kernel
theorem dX11_ofWord_61 : decode cX11_ofWord 61 = .ok (.ireturn, 1) := by decide +kernel
theorem dX11_ofWord_62 : decode cX11_ofWord 62 = .ok (.aload_n 0, 1) := by decide +kernel
theorem dX11_ofWord_63 : decode cX11_ofWord 63 = .ok (.getfield 38, 3) := by decide +kernel
theorem dX11_ofWord_66 : decode cX11_ofWord 66 = .ok (.iload_n 1, 1) := by decide +kernel
theorem dX11_ofWord_67 : decode cX11_ofWord 67 = .ok (.invokevirtual 219, 3) := by decide +kernel
theorem dX11_ofWord_70 : decode cX11_ofWord 70 = .ok (.ireturn, 1) := by decide +kernel
theorem dX11_ofWord_71 : decode cX11_ofWord 71 = .ok (.aload_n 0, 1) := by decide +kernel
theorem dX11_ofWord_72 : decode cX11_ofWord 72 = .ok (.getfield 38, 3) := by decide +kernel
theorem dX11_ofWord_75 : decode cX11_ofWord 75 = .ok (.iload_n 1, 1) := by decide +kernel
theorem dX11_ofWord_76 : decode cX11_ofWord 76 = .ok (.invokevirtual 222, 3) := by decide +kernel
theorem dX11_ofWord_79 : decode cX11_ofWord 79 = .ok (.invokevirtual 108, 3) := by decide +kernel
theorem dX11_ofWord_82 : decode cX11_ofWord 82 = .ok (.ireturn, 1) := by decide +kernel
theorem dX11_ofWord_83 : decode cX11_ofWord 83 = .ok (.iload_n 2, 1) := by decide +kernel
theorem dX11_ofWord_84 : decode cX11_ofWord 84 = .ok (.bipush 10, 2) := by decide +kernel
theorem dX11_ofWord_86 : decode cX11_ofWord 86 = .ok (.if_icmp .ge 6, 3) := by decide +kernel
theorem dX11_ofWord_89 : decode cX11_ofWord 89 = .ok (.bipush (-2), 2) := by decide +kernel
theorem dX11_ofWord_91 : decode cX11_ofWord 91 = .ok (.ireturn, 1) := by decide +kernel
theorem dX11_ofWord_92 : decode cX11_ofWord 92 = .ok (.aload_n 0, 1) := by decide +kernel
theorem dX11_ofWord_93 : decode cX11_ofWord 93 = .ok (.getfield 38, 3) := by decide +kernel
theorem dX11_ofWord_96 : decode cX11_ofWord 96 = .ok (.iload_n 1, 1) := by decide +kernel
theorem dX11_ofWord_97 : decode cX11_ofWord 97 = .ok (.invokevirtual 222, 3) := by decide +kernel
theorem dX11_ofWord_100 : decode cX11_ofWord 100 = .ok (.iload_n 2, 1) := by decide +kernel
theorem dX11_ofWord_101 : decode cX11_ofWord 101 = .ok (.bipush 10, 2) := by decide +kernel
theorem dX11_ofWord_103 : decode cX11_ofWord 103 = .ok (.isub, 1) := by decide +kernel
theorem dX11_ofWord_104 : decode cX11_ofWord 104 = .ok (.invokevirtual 173, 3) := by decide +kernel
theorem dX11_ofWord_107 : decode cX11_ofWord 107 = .ok (.ifCond .eq 21, 3) := by decide +kernel
theorem dX11_ofWord_110 : decode cX11_ofWord 110 = .ok (.aload_n 0, 1) := by decide +kernel
theorem dX11_ofWord_111 : decode cX11_ofWord 111 = .ok (.getfield 38, 3) := by decide +kernel
theorem dX11_ofWord_114 : decode cX11_ofWord 114 = .ok (.iload_n 1, 1) := by decide +kernel
theorem dX11_ofWord_115 : decode cX11_ofWord 115 = .ok (.invokevirtual 222, 3) := by decide +kernel
theorem dX11_ofWord_118 : decode cX11_ofWord 118 = .ok (.iload_n 2, 1) := by decide +kernel
theorem dX11_ofWord_119 : decode cX11_ofWord 119 = .ok (.bipush 10, 2) := by decide +kernel
theorem dX11_ofWord_121 : decode cX11_ofWord 121 = .ok (.isub, 1) := by decide +kernel
theorem dX11_ofWord_122 : decode cX11_ofWord 122 = .ok (.invokevirtual 194, 3) := by decide +kernel
theorem dX11_ofWord_125 : decode cX11_ofWord 125 = .ok (.goto 5, 3) := by decide +kernel
theorem dX11_ofWord_128 : decode cX11_ofWord 128 = .ok (.bipush (-6), 2) := by decide +kernel
theorem dX11_ofWord_130 : decode cX11_ofWord 130 = .ok (.ireturn, 1) := by decide +kernel
theorem dX11_slip_0 : decode cX11_slip 0 = .ok (.aload_n 0, 1) := by decide +kernel
theorem dX11_slip_1 : decode cX11_slip 1 = .ok (.getfield 38, 3) := by decide +kernel
theorem dX11_slip_4 : decode cX11_slip 4 = .ok (.iload_n 1, 1) := by decide +kernel
theorem dX11_slip_5 : decode cX11_slip 5 = .ok (.invokevirtual 212, 3) := by decide +kernel
theorem dX11_slip_8 : decode cX11_slip 8 = .ok (.ifCond .ne 5, 3) := by decide +kernel
theorem dX11_slip_11 : decode cX11_slip 11 = .ok (.iconst (-1), 1) := by decide +kernel
theorem dX11_slip_12 : decode cX11_slip 12 = .ok (.ireturn, 1) := by decide +kernel
theorem dX11_slip_13 : decode cX11_slip 13 = .ok (.aload_n 0, 1) := by decide +kernel
theorem dX11_slip_14 : decode cX11_slip 14 = .ok (.getfield 14, 3) := by decide +kernel
theorem dX11_slip_17 : decode cX11_slip 17 = .ok (.invokevirtual 127, 3) := by decide +kernel
theorem dX11_slip_20 : decode cX11_slip 20 = .ok (.ifCond .eq 8, 3) := by decide +kernel
theorem dX11_slip_23 : decode cX11_slip 23 = .ok (.bipush (-3), 2) := by decide +kernel
theorem dX11_slip_25 : decode cX11_slip 25 = .ok (.goto 22, 3) := by decide +kernel
theorem dX11_slip_28 : decode cX11_slip 28 = .ok (.aload_n 0, 1) := by decide +kernel
theorem dX11_slip_29 : decode cX11_slip 29 = .ok (.getfield 45, 3) := by decide +kernel
theorem dX11_slip_32 : decode cX11_slip 32 = .ok (.aload_n 0, 1) := by decide +kernel
theorem dX11_slip_33 : decode cX11_slip 33 = .ok (.getfield 14, 3) := by decide +kernel
theorem dX11_slip_36 : decode cX11_slip 36 = .ok (.aload_n 0, 1) := by decide +kernel
theorem dX11_slip_37 : decode cX11_slip 37 = .ok (.getfield 38, 3) := by decide +kernel
theorem dX11_slip_40 : decode cX11_slip 40 = .ok (.iload_n 1, 1) := by decide +kernel
theorem dX11_slip_41 : decode cX11_slip 41 = .ok (.invokevirtual 222, 3) := by decide +kernel
theorem dX11_slip_44 : decode cX11_slip 44 = .ok (.invokevirtual 232, 3) := by decide +kernel
theorem dX11_slip_47 : decode cX11_slip 47 = .ok (.ireturn, 1) := by decide +kernel
theorem dX11_guess_0 : decode cX11_guess 0 = .ok (.iload_n 1, 1) := by decide +kernel
theorem dX11_guess_1 : decode cX11_guess 1 = .ok (.iconst 1, 1) := by decide +kernel
theorem dX11_guess_2 : decode cX11_guess 2 = .ok (.bipush 7, 2) := by decide +kernel
theorem dX11_guess_4 : decode cX11_guess 4 = .ok (.invokestatic 165, 3) := by decide +kernel
theorem dX11_guess_7 : decode cX11_guess 7 = .ok (.ifCond .eq 13, 3) := by decide +kernel
theorem dX11_guess_10 : decode cX11_guess 10 = .ok (.iload_n 2, 1) := by decide +kernel
theorem dX11_guess_11 : decode cX11_guess 11 = .ok (.iconst 0, 1) := by decide +kernel
theorem dX11_guess_12 : decode cX11_guess 12 = .ok (.bipush 60, 2) := by decide +kernel
theorem dX11_guess_14 : decode cX11_guess 14 = .ok (.invokestatic 165, 3) := by decide +kernel
theorem dX11_guess_17 : decode cX11_guess 17 = .ok (.ifCond .ne 6, 3) := by decide +kernel
theorem dX11_guess_20 : decode cX11_guess 20 = .ok (.bipush (-2), 2) := by decide +kernel
theorem dX11_guess_22 : decode cX11_guess 22 = .ok (.ireturn, 1) := by decide +kernel
theorem dX11_guess_23 : decode cX11_guess 23 = .ok (.aload_n 0, 1) := by decide +kernel
theorem dX11_guess_24 : decode cX11_guess 24 = .ok (.getfield 14, 3) := by decide +kernel
theorem dX11_guess_27 : decode cX11_guess 27 = .ok (.invokevirtual 127, 3) := by decide +kernel
theorem dX11_guess_30 : decode cX11_guess 30 = .ok (.ifCond .eq 6, 3) := by decide +kernel
theorem dX11_guess_33 : decode cX11_guess 33 = .ok (.bipush (-3), 2) := by decide +kernel
theorem dX11_guess_35 : decode cX11_guess 35 = .ok (.ireturn, 1) := by decide +kernel
theorem dX11_guess_36 : decode cX11_guess 36 = .ok (.aload_n 0, 1) := by decide +kernel
theorem dX11_guess_37 : decode cX11_guess 37 = .ok (.iload_n 1, 1) := by decide +kernel
theorem dX11_guess_38 : decode cX11_guess 38 = .ok (.iload_n 2, 1) := by decide +kernel
theorem dX11_guess_39 : decode cX11_guess 39 = .ok (.iconst (-1), 1) := by decide +kernel
theorem dX11_guess_40 : decode cX11_guess 40 = .ok (.iconst 0, 1) := by decide +kernel
theorem dX11_guess_41 : decode cX11_guess 41 = .ok (.invokevirtual 235, 3) := by decide +kernel
theorem dX11_guess_44 : decode cX11_guess 44 = .ok (.aload_n 0, 1) := by decide +kernel
theorem dX11_guess_45 : decode cX11_guess 45 = .ok (.getfield 52, 3) := by decide +kernel
theorem dX11_guess_48 : decode cX11_guess 48 = .ok (.iload_n 3, 1) := by decide +kernel
theorem dX11_guess_49 : decode cX11_guess 49 = .ok (.invokevirtual 239, 3) := by decide +kernel
theorem dX11_guess_52 : decode cX11_guess 52 = .ok (.ireturn, 1) := by decide +kernel
theorem dX11_learn_0 : decode cX11_learn 0 = .ok (.iload_n 1, 1) := by decide +kernel
theorem dX11_learn_1 : decode cX11_learn 1 = .ok (.invokestatic 276, 3) := by decide +kernel
theorem dX11_learn_4 : decode cX11_learn 4 = .ok (.ifCond .eq 14, 3) := by decide +kernel
theorem dX11_learn_7 : decode cX11_learn 7 = .ok (.aload_n 0, 1) := by decide +kernel
theorem dX11_learn_8 : decode cX11_learn 8 = .ok (.getfield 38, 3) := by decide +kernel
theorem dX11_learn_11 : decode cX11_learn 11 = .ok (.iload_n 2, 1) := by decide +kernel
theorem dX11_learn_12 : decode cX11_learn 12 = .ok (.invokevirtual 212, 3) := by decide +kernel
theorem dX11_learn_15 : decode cX11_learn 15 = .ok (.ifCond .ne 5, 3) := by decide +kernel
theorem dX11_learn_18 : decode cX11_learn 18 = .ok (.iconst (-1), 1) := by decide +kernel
theorem dX11_learn_19 : decode cX11_learn 19 = .ok (.ireturn, 1) := by decide +kernel
theorem dX11_learn_20 : decode cX11_learn 20 = .ok (.iload_n 3, 1) := by decide +kernel
theorem dX11_learn_21 : decode cX11_learn 21 = .ok (.invokestatic 279, 3) := by decide +kernel
theorem dX11_learn_24 : decode cX11_learn 24 = .ok (.ifCond .ne 6, 3) := by decide +kernel
theorem dX11_learn_27 : decode cX11_learn 27 = .ok (.bipush (-2), 2) := by decide +kernel
theorem dX11_learn_29 : decode cX11_learn 29 = .ok (.ireturn, 1) := by decide +kernel
theorem dX11_learn_30 : decode cX11_learn 30 = .ok (.aload_n 0, 1) := by decide +kernel
theorem dX11_learn_31 : decode cX11_learn 31 = .ok (.getfield 77, 3) := by decide +kernel
theorem dX11_learn_34 : decode cX11_learn 34 = .ok (.invokevirtual 282, 3) := by decide +kernel
theorem dX11_learn_37 : decode cX11_learn 37 = .ok (.ifCond .eq 6, 3) := by decide +kernel
theorem dX11_learn_40 : decode cX11_learn 40 = .ok (.bipush (-4), 2) := by decide +kernel
theorem dX11_learn_42 : decode cX11_learn 42 = .ok (.ireturn, 1) := by decide +kernel
theorem dX11_learn_43 : decode cX11_learn 43 = .ok (.iload_n 3, 1) := by decide +kernel
theorem dX11_learn_44 : decode cX11_learn 44 = .ok (.aload_n 0, 1) := by decide +kernel
theorem dX11_learn_45 : decode cX11_learn 45 = .ok (.getfield 77, 3) := by decide +kernel
theorem dX11_learn_48 : decode cX11_learn 48 = .ok (.iload_n 1, 1) := by decide +kernel
theorem dX11_learn_49 : decode cX11_learn 49 = .ok (.invokevirtual 283, 3) := by decide +kernel
theorem dX11_learn_52 : decode cX11_learn 52 = .ok (.if_icmp .ge 8, 3) := by decide +kernel
theorem dX11_learn_55 : decode cX11_learn 55 = .ok (.bipush (-5), 2) := by decide +kernel
theorem dX11_learn_57 : decode cX11_learn 57 = .ok (.goto 13, 3) := by decide +kernel
theorem dX11_learn_60 : decode cX11_learn 60 = .ok (.aload_n 0, 1) := by decide +kernel
theorem dX11_learn_61 : decode cX11_learn 61 = .ok (.getfield 77, 3) := by decide +kernel
theorem dX11_learn_64 : decode cX11_learn 64 = .ok (.iload_n 1, 1) := by decide +kernel
theorem dX11_learn_65 : decode cX11_learn 65 = .ok (.iload_n 2, 1) := by decide +kernel
theorem dX11_learn_66 : decode cX11_learn 66 = .ok (.iload_n 3, 1) := by decide +kernel
theorem dX11_learn_67 : decode cX11_learn 67 = .ok (.invokevirtual 286, 3) := by decide +kernel
theorem dX11_learn_70 : decode cX11_learn 70 = .ok (.ireturn, 1) := by decide +kernel
theorem dX11_worth_0 : decode cX11_worth 0 = .ok (.iload_n 1, 1) := by decide +kernel
theorem dX11_worth_1 : decode cX11_worth 1 = .ok (.invokestatic 276, 3) := by decide +kernel
theorem dX11_worth_4 : decode cX11_worth 4 = .ok (.ifCond .eq 14, 3) := by decide +kernel
theorem dX11_worth_7 : decode cX11_worth 7 = .ok (.aload_n 0, 1) := by decide +kernel
theorem dX11_worth_8 : decode cX11_worth 8 = .ok (.getfield 38, 3) := by decide +kernel
theorem dX11_worth_11 : decode cX11_worth 11 = .ok (.iload_n 2, 1) := by decide +kernel
theorem dX11_worth_12 : decode cX11_worth 12 = .ok (.invokevirtual 212, 3) := by decide +kernel
theorem dX11_worth_15 : decode cX11_worth 15 = .ok (.ifCond .ne 5, 3) := by decide +kernel
theorem dX11_worth_18 : decode cX11_worth 18 = .ok (.iconst (-1), 1) := by decide +kernel
theorem dX11_worth_19 : decode cX11_worth 19 = .ok (.ireturn, 1) := by decide +kernel
theorem dX11_worth_20 : decode cX11_worth 20 = .ok (.iload_n 3, 1) := by decide +kernel
theorem dX11_worth_21 : decode cX11_worth 21 = .ok (.invokestatic 279, 3) := by decide +kernel
theorem dX11_worth_24 : decode cX11_worth 24 = .ok (.ifCond .eq 16, 3) := by decide +kernel
theorem dX11_worth_27 : decode cX11_worth 27 = .ok (.aload_n 0, 1) := by decide +kernel
theorem dX11_worth_28 : decode cX11_worth 28 = .ok (.getfield 77, 3) := by decide +kernel
theorem dX11_worth_31 : decode cX11_worth 31 = .ok (.iload_n 1, 1) := by decide +kernel
theorem dX11_worth_32 : decode cX11_worth 32 = .ok (.iload_n 2, 1) := by decide +kernel
theorem dX11_worth_33 : decode cX11_worth 33 = .ok (.iload_n 3, 1) := by decide +kernel
theorem dX11_worth_34 : decode cX11_worth 34 = .ok (.invokevirtual 289, 3) := by decide +kernel
theorem dX11_worth_37 : decode cX11_worth 37 = .ok (.goto 5, 3) := by decide +kernel
theorem dX11_worth_40 : decode cX11_worth 40 = .ok (.bipush (-2), 2) := by decide +kernel
theorem dX11_worth_42 : decode cX11_worth 42 = .ok (.ireturn, 1) := by decide +kernel
theorem dX11_forget_0 : decode cX11_forget 0 = .ok (.iload_n 1, 1) := by decide +kernel
theorem dX11_forget_1 : decode cX11_forget 1 = .ok (.invokestatic 276, 3) := by decide +kernel
theorem dX11_forget_4 : decode cX11_forget 4 = .ok (.ifCond .eq 19, 3) := by decide +kernel
theorem dX11_forget_7 : decode cX11_forget 7 = .ok (.iload_n 2, 1) := by decide +kernel
theorem dX11_forget_8 : decode cX11_forget 8 = .ok (.iconst (-1), 1) := by decide +kernel
theorem dX11_forget_9 : decode cX11_forget 9 = .ok (.if_icmp .eq 16, 3) := by decide +kernel
theorem dX11_forget_12 : decode cX11_forget 12 = .ok (.aload_n 0, 1) := by decide +kernel
theorem dX11_forget_13 : decode cX11_forget 13 = .ok (.getfield 38, 3) := by decide +kernel
theorem dX11_forget_16 : decode cX11_forget 16 = .ok (.iload_n 2, 1) := by decide +kernel
theorem dX11_forget_17 : decode cX11_forget 17 = .ok (.invokevirtual 212, 3) := by decide +kernel
theorem dX11_forget_20 : decode cX11_forget 20 = .ok (.ifCond .ne 5, 3) := by decide +kernel
theorem dX11_forget_23 : decode cX11_forget 23 = .ok (.iconst (-1), 1) := by decide +kernel
theorem dX11_forget_24 : decode cX11_forget 24 = .ok (.ireturn, 1) := by decide +kernel
theorem dX11_forget_25 : decode cX11_forget 25 = .ok (.aload_n 0, 1) := by decide +kernel
theorem dX11_forget_26 : decode cX11_forget 26 = .ok (.getfield 77, 3) := by decide +kernel
theorem dX11_forget_29 : decode cX11_forget 29 = .ok (.iload_n 1, 1) := by decide +kernel
theorem dX11_forget_30 : decode cX11_forget 30 = .ok (.iload_n 2, 1) := by decide +kernel
theorem dX11_forget_31 : decode cX11_forget 31 = .ok (.invokevirtual 292, 3) := by decide +kernel
theorem dX11_forget_34 : decode cX11_forget 34 = .ok (.ireturn, 1) := by decide +kernel
theorem dX11_fade_0 : decode cX11_fade 0 = .ok (.iload_n 1, 1) := by decide +kernel
theorem dX11_fade_1 : decode cX11_fade 1 = .ok (.iconst 0, 1) := by decide +kernel
theorem dX11_fade_2 : decode cX11_fade 2 = .ok (.sipush 1000, 3) := by decide +kernel
theorem dX11_fade_5 : decode cX11_fade 5 = .ok (.invokestatic 165, 3) := by decide +kernel
theorem dX11_fade_8 : decode cX11_fade 8 = .ok (.ifCond .eq 14, 3) := by decide +kernel
theorem dX11_fade_11 : decode cX11_fade 11 = .ok (.aload_n 0, 1) := by decide +kernel
theorem dX11_fade_12 : decode cX11_fade 12 = .ok (.getfield 77, 3) := by decide +kernel
theorem dX11_fade_15 : decode cX11_fade 15 = .ok (.iload_n 1, 1) := by decide +kernel
theorem dX11_fade_16 : decode cX11_fade 16 = .ok (.invokevirtual 295, 3) := by decide +kernel
theorem dX11_fade_19 : decode cX11_fade 19 = .ok (.goto 5, 3) := by decide +kernel
theorem dX11_fade_22 : decode cX11_fade 22 = .ok (.bipush (-2), 2) := by decide +kernel
theorem dX11_fade_24 : decode cX11_fade 24 = .ok (.ireturn, 1) := by decide +kernel
theorem dX11_mine_0 : decode cX11_mine 0 = .ok (.iload_n 1, 1) := by decide +kernel
theorem dX11_mine_1 : decode cX11_mine 1 = .ok (.invokestatic 276, 3) := by decide +kernel
theorem dX11_mine_4 : decode cX11_mine 4 = .ok (.ifCond .ne 5, 3) := by decide +kernel
theorem dX11_mine_7 : decode cX11_mine 7 = .ok (.iconst (-1), 1) := by decide +kernel
theorem dX11_mine_8 : decode cX11_mine 8 = .ok (.ireturn, 1) := by decide +kernel
theorem dX11_mine_9 : decode cX11_mine 9 = .ok (.iload_n 2, 1) := by decide +kernel
theorem dX11_mine_10 : decode cX11_mine 10 = .ok (.invokestatic 279, 3) := by decide +kernel
theorem dX11_mine_13 : decode cX11_mine 13 = .ok (.ifCond .eq 24, 3) := by decide +kernel
theorem dX11_mine_16 : decode cX11_mine 16 = .ok (.iload_n 3, 1) := by decide +kernel
theorem dX11_mine_17 : decode cX11_mine 17 = .ok (.iconst 1, 1) := by decide +kernel
theorem dX11_mine_18 : decode cX11_mine 18 = .ok (.bipush 7, 2) := by decide +kernel
theorem dX11_mine_20 : decode cX11_mine 20 = .ok (.invokestatic 165, 3) := by decide +kernel
theorem dX11_mine_23 : decode cX11_mine 23 = .ok (.ifCond .eq 14, 3) := by decide +kernel
theorem dX11_mine_26 : decode cX11_mine 26 = .ok (.iload 4, 2) := by decide +kernel
theorem dX11_mine_28 : decode cX11_mine 28 = .ok (.iconst 0, 1) := by decide +kernel
theorem dX11_mine_29 : decode cX11_mine 29 = .ok (.bipush 60, 2) := by decide +kernel
theorem dX11_mine_31 : decode cX11_mine 31 = .ok (.invokestatic 165, 3) := by decide +kernel
theorem dX11_mine_34 : decode cX11_mine 34 = .ok (.ifCond .ne 6, 3) := by decide +kernel
theorem dX11_mine_37 : decode cX11_mine 37 = .ok (.bipush (-2), 2) := by decide +kernel
theorem dX11_mine_39 : decode cX11_mine 39 = .ok (.ireturn, 1) := by decide +kernel
theorem dX11_mine_40 : decode cX11_mine 40 = .ok (.aload_n 0, 1) := by decide +kernel
theorem dX11_mine_41 : decode cX11_mine 41 = .ok (.getfield 14, 3) := by decide +kernel
theorem dX11_mine_44 : decode cX11_mine 44 = .ok (.invokevirtual 127, 3) := by decide +kernel
theorem dX11_mine_47 : decode cX11_mine 47 = .ok (.ifCond .eq 6, 3) := by decide +kernel
theorem dX11_mine_50 : decode cX11_mine 50 = .ok (.bipush (-3), 2) := by decide +kernel
theorem dX11_mine_52 : decode cX11_mine 52 = .ok (.ireturn, 1) := by decide +kernel
theorem dX11_mine_53 : decode cX11_mine 53 = .ok (.aload_n 0, 1) := by decide +kernel
theorem dX11_mine_54 : decode cX11_mine 54 = .ok (.iload_n 3, 1) := by decide +kernel
theorem dX11_mine_55 : decode cX11_mine 55 = .ok (.iload 4, 2) := by decide +kernel
theorem dX11_mine_57 : decode cX11_mine 57 = .ok (.iload_n 1, 1) := by decide +kernel
theorem dX11_mine_58 : decode cX11_mine 58 = .ok (.iload_n 2, 1) := by decide +kernel
theorem dX11_mine_59 : decode cX11_mine 59 = .ok (.invokevirtual 235, 3) := by decide +kernel
theorem dX11_mine_62 : decode cX11_mine 62 = .ok (.aload_n 0, 1) := by decide +kernel
theorem dX11_mine_63 : decode cX11_mine 63 = .ok (.getfield 52, 3) := by decide +kernel
theorem dX11_mine_66 : decode cX11_mine 66 = .ok (.iload 5, 2) := by decide +kernel
theorem dX11_mine_68 : decode cX11_mine 68 = .ok (.invokevirtual 239, 3) := by decide +kernel
theorem dX11_mine_71 : decode cX11_mine 71 = .ok (.ireturn, 1) := by decide +kernel
theorem dX11_budget_0 : decode cX11_budget 0 = .ok (.iload_n 1, 1) := by decide +kernel
theorem dX11_budget_1 : decode cX11_budget 1 = .ok (.invokestatic 276, 3) := by decide +kernel
theorem dX11_budget_4 : decode cX11_budget 4 = .ok (.ifCond .ne 5, 3) := by decide +kernel
theorem dX11_budget_7 : decode cX11_budget 7 = .ok (.iconst (-1), 1) := by decide +kernel
theorem dX11_budget_8 : decode cX11_budget 8 = .ok (.ireturn, 1) := by decide +kernel
theorem dX11_budget_9 : decode cX11_budget 9 = .ok (.iload_n 2, 1) := by decide +kernel
theorem dX11_budget_10 : decode cX11_budget 10 = .ok (.iconst 0, 1) := by decide +kernel
theorem dX11_budget_11 : decode cX11_budget 11 = .ok (.sipush 1000, 3) := by decide +kernel
theorem dX11_budget_14 : decode cX11_budget 14 = .ok (.invokestatic 165, 3) := by decide +kernel
theorem dX11_budget_17 : decode cX11_budget 17 = .ok (.ifCond .eq 15, 3) := by decide +kernel
theorem dX11_budget_20 : decode cX11_budget 20 = .ok (.aload_n 0, 1) := by decide +kernel
theorem dX11_budget_21 : decode cX11_budget 21 = .ok (.getfield 77, 3) := by decide +kernel
theorem dX11_budget_24 : decode cX11_budget 24 = .ok (.iload_n 1, 1) := by decide +kernel
theorem dX11_budget_25 : decode cX11_budget 25 = .ok (.iload_n 2, 1) := by decide +kernel
theorem dX11_budget_26 : decode cX11_budget 26 = .ok (.invokevirtual 298, 3) := by decide +kernel
theorem dX11_budget_29 : decode cX11_budget 29 = .ok (.goto 5, 3) := by decide +kernel
theorem dX11_budget_32 : decode cX11_budget 32 = .ok (.bipush (-2), 2) := by decide +kernel
theorem dX11_budget_34 : decode cX11_budget 34 = .ok (.ireturn, 1) := by decide +kernel
theorem dX11_seed_0 : decode cX11_seed 0 = .ok (.iload_n 1, 1) := by decide +kernel
theorem dX11_seed_1 : decode cX11_seed 1 = .ok (.iconst 1, 1) := by decide +kernel
theorem dX11_seed_2 : decode cX11_seed 2 = .ok (.ldc_w 301, 3) := by decide +kernel
theorem dX11_seed_5 : decode cX11_seed 5 = .ok (.invokestatic 165, 3) := by decide +kernel
theorem dX11_seed_8 : decode cX11_seed 8 = .ok (.ifCond .eq 14, 3) := by decide +kernel
theorem dX11_seed_11 : decode cX11_seed 11 = .ok (.aload_n 0, 1) := by decide +kernel
theorem dX11_seed_12 : decode cX11_seed 12 = .ok (.getfield 77, 3) := by decide +kernel
theorem dX11_seed_15 : decode cX11_seed 15 = .ok (.iload_n 1, 1) := by decide +kernel
theorem dX11_seed_16 : decode cX11_seed 16 = .ok (.invokevirtual 302, 3) := by decide +kernel
theorem dX11_seed_19 : decode cX11_seed 19 = .ok (.goto 5, 3) := by decide +kernel
theorem dX11_seed_22 : decode cX11_seed 22 = .ok (.bipush (-2), 2) := by decide +kernel
theorem dX11_seed_24 : decode cX11_seed 24 = .ok (.ireturn, 1) := by decide +kernel
theorem dX11_share_0 : decode cX11_share 0 = .ok (.aload_n 0, 1) := by decide +kernel
theorem dX11_share_1 : decode cX11_share 1 = .ok (.getfield 38, 3) := by decide +kernel
theorem dX11_share_4 : decode cX11_share 4 = .ok (.iload_n 1, 1) := by decide +kernel
theorem dX11_share_5 : decode cX11_share 5 = .ok (.invokevirtual 212, 3) := by decide +kernel
theorem dX11_share_8 : decode cX11_share 8 = .ok (.ifCond .ne 7, 3) := by decide +kernel
theorem dX11_share_11 : decode cX11_share 11 = .ok (.ldc_w 305, 3) := by decide +kernel
theorem dX11_share_14 : decode cX11_share 14 = .ok (.ireturn, 1) := by decide +kernel
theorem dX11_share_15 : decode cX11_share 15 = .ok (.iload_n 2, 1) := by decide +kernel
theorem dX11_share_16 : decode cX11_share 16 = .ok (.iconst 1, 1) := by decide +kernel
theorem dX11_share_17 : decode cX11_share 17 = .ok (.bipush 100, 2) := by decide +kernel
theorem dX11_share_19 : decode cX11_share 19 = .ok (.invokestatic 165, 3) := by decide +kernel
theorem dX11_share_22 : decode cX11_share 22 = .ok (.ifCond .eq 10, 3) := by decide +kernel
theorem dX11_share_25 : decode cX11_share 25 = .ok (.iload_n 3, 1) := by decide +kernel
theorem dX11_share_26 : decode cX11_share 26 = .ok (.invokestatic 279, 3) := by decide +kernel
theorem dX11_share_29 : decode cX11_share 29 = .ok (.ifCond .ne 7, 3) := by decide +kernel
theorem dX11_share_32 : decode cX11_share 32 = .ok (.ldc_w 306, 3) := by decide +kernel
theorem dX11_share_35 : decode cX11_share 35 = .ok (.ireturn, 1) := by decide +kernel
theorem dX11_share_36 : decode cX11_share 36 = .ok (.aload_n 0, 1) := by decide +kernel
theorem dX11_share_37 : decode cX11_share 37 = .ok (.getfield 77, 3) := by decide +kernel
theorem dX11_share_40 : decode cX11_share 40 = .ok (.iload_n 2, 1) := by decide +kernel
theorem dX11_share_41 : decode cX11_share 41 = .ok (.invokevirtual 307, 3) := by decide +kernel
theorem dX11_share_44 : decode cX11_share 44 = .ok (.iconst 2, 1) := by decide +kernel
theorem dX11_share_45 : decode cX11_share 45 = .ok (.if_icmp .ge 9, 3) := by decide +kernel
theorem dX11_share_48 : decode cX11_share 48 = .ok (.ldc_w 310, 3) := by decide +kernel
theorem dX11_share_51 : decode cX11_share 51 = .ok (.goto 13, 3) := by decide +kernel
theorem dX11_share_54 : decode cX11_share 54 = .ok (.aload_n 0, 1) := by decide +kernel
theorem dX11_share_55 : decode cX11_share 55 = .ok (.getfield 77, 3) := by decide +kernel
theorem dX11_share_58 : decode cX11_share 58 = .ok (.iload_n 1, 1) := by decide +kernel
theorem dX11_share_59 : decode cX11_share 59 = .ok (.iload_n 2, 1) := by decide +kernel
theorem dX11_share_60 : decode cX11_share 60 = .ok (.iload_n 3, 1) := by decide +kernel
theorem dX11_share_61 : decode cX11_share 61 = .ok (.invokevirtual 311, 3) := by decide +kernel
theorem dX11_share_64 : decode cX11_share 64 = .ok (.ireturn, 1) := by decide +kernel
theorem dX11_told_0 : decode cX11_told 0 = .ok (.iload_n 1, 1) := by decide +kernel
theorem dX11_told_1 : decode cX11_told 1 = .ok (.tableswitch 126 0 8 #[51, 59, 67, 75, 83, 94, 102, 110, 118], 51) := by decide +kernel
theorem dX11_told_52 : decode cX11_told 52 = .ok (.aload_n 0, 1) := by decide +kernel
theorem dX11_told_53 : decode cX11_told 53 = .ok (.getfield 14, 3) := by decide +kernel
theorem dX11_told_56 : decode cX11_told 56 = .ok (.invokevirtual 108, 3) := by decide +kernel
theorem dX11_told_59 : decode cX11_told 59 = .ok (.ireturn, 1) := by decide +kernel
theorem dX11_told_60 : decode cX11_told 60 = .ok (.aload_n 0, 1) := by decide +kernel
theorem dX11_told_61 : decode cX11_told 61 = .ok (.getfield 18, 3) := by decide +kernel
theorem dX11_told_64 : decode cX11_told 64 = .ok (.invokevirtual 108, 3) := by decide +kernel
theorem dX11_told_67 : decode cX11_told 67 = .ok (.ireturn, 1) := by decide +kernel
theorem dX11_told_68 : decode cX11_told 68 = .ok (.aload_n 0, 1) := by decide +kernel
theorem dX11_told_69 : decode cX11_told 69 = .ok (.getfield 70, 3) := by decide +kernel
theorem dX11_told_72 : decode cX11_told 72 = .ok (.invokevirtual 361, 3) := by decide +kernel
theorem dX11_told_75 : decode cX11_told 75 = .ok (.ireturn, 1) := by decide +kernel
theorem dX11_told_76 : decode cX11_told 76 = .ok (.aload_n 0, 1) := by decide +kernel
theorem dX11_told_77 : decode cX11_told 77 = .ok (.getfield 31, 3) := by decide +kernel
theorem dX11_told_80 : decode cX11_told 80 = .ok (.invokevirtual 364, 3) := by decide +kernel
theorem dX11_told_83 : decode cX11_told 83 = .ok (.ireturn, 1) := by decide +kernel
theorem dX11_told_84 : decode cX11_told 84 = .ok (.aload_n 0, 1) := by decide +kernel
theorem dX11_told_85 : decode cX11_told 85 = .ok (.getfield 31, 3) := by decide +kernel
theorem dX11_told_88 : decode cX11_told 88 = .ok (.invokevirtual 161, 3) := by decide +kernel
theorem dX11_told_91 : decode cX11_told 91 = .ok (.invokevirtual 108, 3) := by decide +kernel
theorem dX11_told_94 : decode cX11_told 94 = .ok (.ireturn, 1) := by decide +kernel
theorem dX11_told_95 : decode cX11_told 95 = .ok (.aload_n 0, 1) := by decide +kernel
theorem dX11_told_96 : decode cX11_told 96 = .ok (.getfield 38, 3) := by decide +kernel
theorem dX11_told_99 : decode cX11_told 99 = .ok (.invokevirtual 367, 3) := by decide +kernel
theorem dX11_told_102 : decode cX11_told 102 = .ok (.ireturn, 1) := by decide +kernel
theorem dX11_told_103 : decode cX11_told 103 = .ok (.aload_n 0, 1) := by decide +kernel
theorem dX11_told_104 : decode cX11_told 104 = .ok (.getfield 70, 3) := by decide +kernel
theorem dX11_told_107 : decode cX11_told 107 = .ok (.invokevirtual 256, 3) := by decide +kernel
theorem dX11_told_110 : decode cX11_told 110 = .ok (.ireturn, 1) := by decide +kernel
theorem dX11_told_111 : decode cX11_told 111 = .ok (.aload_n 0, 1) := by decide +kernel
theorem dX11_told_112 : decode cX11_told 112 = .ok (.getfield 77, 3) := by decide +kernel
theorem dX11_told_115 : decode cX11_told 115 = .ok (.invokevirtual 368, 3) := by decide +kernel
theorem dX11_told_118 : decode cX11_told 118 = .ok (.ireturn, 1) := by decide +kernel
theorem dX11_told_119 : decode cX11_told 119 = .ok (.aload_n 0, 1) := by decide +kernel
theorem dX11_told_120 : decode cX11_told 120 = .ok (.getfield 84, 3) := by decide +kernel
theorem dX11_told_123 : decode cX11_told 123 = .ok (.invokevirtual 351, 3) := by decide +kernel
theorem dX11_told_126 : decode cX11_told 126 = .ok (.ireturn, 1) := by decide +kernel
theorem dX11_told_127 : decode cX11_told 127 = .ok (.aload_n 0, 1) := by decide +kernel
theorem dX11_told_128 : decode cX11_told 128 = .ok (.iload_n 1, 1) := by decide +kernel
theorem dX11_told_129 : decode cX11_told 129 = .ok (.invokevirtual 371, 3) := by decide +kernel
theorem dX11_told_132 : decode cX11_told 132 = .ok (.ireturn, 1) := by decide +kernel
theorem dX11_toldOfOne_0 : decode cX11_toldOfOne 0 = .ok (.iload_n 1, 1) := by decide +kernel
theorem dX11_toldOfOne_1 : decode cX11_toldOfOne 1 = .ok (.bipush 10, 2) := by decide +kernel
theorem dX11_toldOfOne_3 : decode cX11_toldOfOne 3 = .ok (.isub, 1) := by decide +kernel
theorem dX11_toldOfOne_4 : decode cX11_toldOfOne 4 = .ok (.invokestatic 121, 3) := by decide +kernel
theorem dX11_toldOfOne_7 : decode cX11_toldOfOne 7 = .ok (.ifCond .eq 16, 3) := by decide +kernel
theorem dX11_toldOfOne_10 : decode cX11_toldOfOne 10 = .ok (.aload_n 0, 1) := by decide +kernel
theorem dX11_toldOfOne_11 : decode cX11_toldOfOne 11 = .ok (.getfield 23, 3) := by decide +kernel
theorem dX11_toldOfOne_14 : decode cX11_toldOfOne 14 = .ok (.iload_n 1, 1) := by decide +kernel
theorem dX11_toldOfOne_15 : decode cX11_toldOfOne 15 = .ok (.bipush 10, 2) := by decide +kernel
theorem dX11_toldOfOne_17 : decode cX11_toldOfOne 17 = .ok (.isub, 1) := by decide +kernel
theorem dX11_toldOfOne_18 : decode cX11_toldOfOne 18 = .ok (.aaload, 1) := by decide +kernel
theorem dX11_toldOfOne_19 : decode cX11_toldOfOne 19 = .ok (.invokevirtual 374, 3) := by decide +kernel
theorem dX11_toldOfOne_22 : decode cX11_toldOfOne 22 = .ok (.ireturn, 1) := by decide +kernel
theorem dX11_toldOfOne_23 : decode cX11_toldOfOne 23 = .ok (.iload_n 1, 1) := by decide +kernel
theorem dX11_toldOfOne_24 : decode cX11_toldOfOne 24 = .ok (.bipush 20, 2) := by decide +kernel
theorem dX11_toldOfOne_26 : decode cX11_toldOfOne 26 = .ok (.isub, 1) := by decide +kernel
theorem dX11_toldOfOne_27 : decode cX11_toldOfOne 27 = .ok (.invokestatic 121, 3) := by decide +kernel
theorem dX11_toldOfOne_30 : decode cX11_toldOfOne 30 = .ok (.ifCond .eq 16, 3) := by decide +kernel
theorem dX11_toldOfOne_33 : decode cX11_toldOfOne 33 = .ok (.aload_n 0, 1) := by decide +kernel
theorem dX11_toldOfOne_34 : decode cX11_toldOfOne 34 = .ok (.getfield 23, 3) := by decide +kernel
theorem dX11_toldOfOne_37 : decode cX11_toldOfOne 37 = .ok (.iload_n 1, 1) := by decide +kernel
theorem dX11_toldOfOne_38 : decode cX11_toldOfOne 38 = .ok (.bipush 20, 2) := by decide +kernel
theorem dX11_toldOfOne_40 : decode cX11_toldOfOne 40 = .ok (.isub, 1) := by decide +kernel
theorem dX11_toldOfOne_41 : decode cX11_toldOfOne 41 = .ok (.aaload, 1) := by decide +kernel
theorem dX11_toldOfOne_42 : decode cX11_toldOfOne 42 = .ok (.invokevirtual 377, 3) := by decide +kernel
theorem dX11_toldOfOne_45 : decode cX11_toldOfOne 45 = .ok (.ireturn, 1) := by decide +kernel
theorem dX11_toldOfOne_46 : decode cX11_toldOfOne 46 = .ok (.iload_n 1, 1) := by decide +kernel
theorem dX11_toldOfOne_47 : decode cX11_toldOfOne 47 = .ok (.bipush 30, 2) := by decide +kernel
theorem dX11_toldOfOne_49 : decode cX11_toldOfOne 49 = .ok (.isub, 1) := by decide +kernel
theorem dX11_toldOfOne_50 : decode cX11_toldOfOne 50 = .ok (.invokestatic 276, 3) := by decide +kernel
theorem dX11_toldOfOne_53 : decode cX11_toldOfOne 53 = .ok (.ifCond .eq 17, 3) := by decide +kernel
theorem dX11_toldOfOne_56 : decode cX11_toldOfOne 56 = .ok (.aload_n 0, 1) := by decide +kernel
theorem dX11_toldOfOne_57 : decode cX11_toldOfOne 57 = .ok (.getfield 77, 3) := by decide +kernel
theorem dX11_toldOfOne_60 : decode cX11_toldOfOne 60 = .ok (.iload_n 1, 1) := by decide +kernel
theorem dX11_toldOfOne_61 : decode cX11_toldOfOne 61 = .ok (.bipush 30, 2) := by decide +kernel
theorem dX11_toldOfOne_63 : decode cX11_toldOfOne 63 = .ok (.isub, 1) := by decide +kernel
theorem dX11_toldOfOne_64 : decode cX11_toldOfOne 64 = .ok (.invokevirtual 380, 3) := by decide +kernel
theorem dX11_toldOfOne_67 : decode cX11_toldOfOne 67 = .ok (.goto 5, 3) := by decide +kernel
theorem dX11_toldOfOne_70 : decode cX11_toldOfOne 70 = .ok (.bipush (-2), 2) := by decide +kernel
theorem dX11_toldOfOne_72 : decode cX11_toldOfOne 72 = .ok (.ireturn, 1) := by decide +kernel
theorem dX11_within_0 : decode cX11_within 0 = .ok (.iload_n 0, 1) := by decide +kernel
theorem dX11_within_1 : decode cX11_within 1 = .ok (.iload_n 1, 1) := by decide +kernel
theorem dX11_within_2 : decode cX11_within 2 = .ok (.if_icmp .lt 12, 3) := by decide +kernel
theorem dX11_within_5 : decode cX11_within 5 = .ok (.iload_n 0, 1) := by decide +kernel
theorem dX11_within_6 : decode cX11_within 6 = .ok (.iload_n 2, 1) := by decide +kernel
theorem dX11_within_7 : decode cX11_within 7 = .ok (.if_icmp .gt 7, 3) := by decide +kernel
theorem dX11_within_10 : decode cX11_within 10 = .ok (.iconst 1, 1) := by decide +kernel
theorem dX11_within_11 : decode cX11_within 11 = .ok (.goto 4, 3) := by decide +kernel
theorem dX11_within_14 : decode cX11_within 14 = .ok (.iconst 0, 1) := by decide +kernel
theorem dX11_within_15 : decode cX11_within 15 = .ok (.ireturn, 1) := by decide +kernel
theorem dX11_isKey_0 : decode cX11_isKey 0 = .ok (.iload_n 0, 1) := by decide +kernel
theorem dX11_isKey_1 : decode cX11_isKey 1 = .ok (.iconst 0, 1) := by decide +kernel
theorem dX11_isKey_2 : decode cX11_isKey 2 = .ok (.bipush 11, 2) := by decide +kernel
theorem dX11_isKey_4 : decode cX11_isKey 4 = .ok (.invokestatic 165, 3) := by decide +kernel
theorem dX11_isKey_7 : decode cX11_isKey 7 = .ok (.ireturn, 1) := by decide +kernel
theorem dX11_isTongue_0 : decode cX11_isTongue 0 = .ok (.iload_n 0, 1) := by decide +kernel
theorem dX11_isTongue_1 : decode cX11_isTongue 1 = .ok (.iconst 0, 1) := by decide +kernel
theorem dX11_isTongue_2 : decode cX11_isTongue 2 = .ok (.iconst 2, 1) := by decide +kernel
theorem dX11_isTongue_3 : decode cX11_isTongue 3 = .ok (.invokestatic 165, 3) := by decide +kernel
theorem dX11_isTongue_6 : decode cX11_isTongue 6 = .ok (.ireturn, 1) := by decide +kernel
theorem dX11_isHand_0 : decode cX11_isHand 0 = .ok (.iload_n 0, 1) := by decide +kernel
theorem dX11_isHand_1 : decode cX11_isHand 1 = .ok (.iconst 0, 1) := by decide +kernel
theorem dX11_isHand_2 : decode cX11_isHand 2 = .ok (.iconst 3, 1) := by decide +kernel
theorem dX11_isHand_3 : decode cX11_isHand 3 = .ok (.invokestatic 165, 3) := by decide +kernel
theorem dX11_isHand_6 : decode cX11_isHand 6 = .ok (.ireturn, 1) := by decide +kernel
theorem dX11_isDay_0 : decode cX11_isDay 0 = .ok (.iload_n 0, 1) := by decide +kernel
theorem dX11_isDay_1 : decode cX11_isDay 1 = .ok (.iconst 0, 1) := by decide +kernel
theorem dX11_isDay_2 : decode cX11_isDay 2 = .ok (.sipush 3000, 3) := by decide +kernel
theorem dX11_isDay_5 : decode cX11_isDay 5 = .ok (.invokestatic 165, 3) := by decide +kernel
theorem dX11_isDay_8 : decode cX11_isDay 8 = .ok (.ireturn, 1) := by decide +kernel
theorem dX11_hasBit_0 : decode cX11_hasBit 0 = .ok (.iload_n 0, 1) := by decide +kernel
theorem dX11_hasBit_1 : decode cX11_hasBit 1 = .ok (.iload_n 1, 1) := by decide +kernel
theorem dX11_hasBit_2 : decode cX11_hasBit 2 = .ok (.ishr, 1) := by decide +kernel
theorem dX11_hasBit_3 : decode cX11_hasBit 3 = .ok (.iconst 1, 1) := by decide +kernel
theorem dX11_hasBit_4 : decode cX11_hasBit 4 = .ok (.iand, 1) := by decide +kernel
theorem dX11_hasBit_5 : decode cX11_hasBit 5 = .ok (.iconst 1, 1) := by decide +kernel
theorem dX11_hasBit_6 : decode cX11_hasBit 6 = .ok (.if_icmp .ne 7, 3) := by decide +kernel
theorem dX11_hasBit_9 : decode cX11_hasBit 9 = .ok (.iconst 1, 1) := by decide +kernel
theorem dX11_hasBit_10 : decode cX11_hasBit 10 = .ok (.goto 4, 3) := by decide +kernel
theorem dX11_hasBit_13 : decode cX11_hasBit 13 = .ok (.iconst 0, 1) := by decide +kernel
theorem dX11_hasBit_14 : decode cX11_hasBit 14 = .ok (.ireturn, 1) := by decide +kernel
theorem dX11_gather_0 : decode cX11_gather 0 = .ok (.aload_n 0, 1) := by decide +kernel
theorem dX11_gather_1 : decode cX11_gather 1 = .ok (.getfield 52, 3) := by decide +kernel
theorem dX11_gather_4 : decode cX11_gather 4 = .ok (.invokevirtual 383, 3) := by decide +kernel
theorem dX11_gather_7 : decode cX11_gather 7 = .ok (.iconst 0, 1) := by decide +kernel
theorem dX11_gather_8 : decode cX11_gather 8 = .ok (.istore 5, 2) := by decide +kernel
theorem dX11_gather_10 : decode cX11_gather 10 = .ok (.iload 5, 2) := by decide +kernel
theorem dX11_gather_12 : decode cX11_gather 12 = .ok (.aload_n 0, 1) := by decide +kernel
theorem dX11_gather_13 : decode cX11_gather 13 = .ok (.getfield 38, 3) := by decide +kernel
theorem dX11_gather_16 : decode cX11_gather 16 = .ok (.invokevirtual 367, 3) := by decide +kernel
theorem dX11_gather_19 : decode cX11_gather 19 = .ok (.if_icmp .ge 90, 3) := by decide +kernel
theorem dX11_gather_22 : decode cX11_gather 22 = .ok (.iload_n 1, 1) := by decide +kernel
theorem dX11_gather_23 : decode cX11_gather 23 = .ok (.aload_n 0, 1) := by decide +kernel
theorem dX11_gather_24 : decode cX11_gather 24 = .ok (.getfield 38, 3) := by decide +kernel
theorem dX11_gather_27 : decode cX11_gather 27 = .ok (.iload 5, 2) := by decide +kernel
theorem dX11_gather_29 : decode cX11_gather 29 = .ok (.invokevirtual 213, 3) := by decide +kernel
theorem dX11_gather_32 : decode cX11_gather 32 = .ok (.invokestatic 385, 3) := by decide +kernel
theorem dX11_gather_35 : decode cX11_gather 35 = .ok (.ifCond .eq 68, 3) := by decide +kernel
theorem dX11_gather_38 : decode cX11_gather 38 = .ok (.aload_n 0, 1) := by decide +kernel
theorem dX11_gather_39 : decode cX11_gather 39 = .ok (.getfield 45, 3) := by decide +kernel
theorem dX11_gather_42 : decode cX11_gather 42 = .ok (.aload_n 0, 1) := by decide +kernel
theorem dX11_gather_43 : decode cX11_gather 43 = .ok (.getfield 14, 3) := by decide +kernel
theorem dX11_gather_46 : decode cX11_gather 46 = .ok (.aload_n 0, 1) := by decide +kernel
theorem dX11_gather_47 : decode cX11_gather 47 = .ok (.getfield 38, 3) := by decide +kernel
theorem dX11_gather_50 : decode cX11_gather 50 = .ok (.iload 5, 2) := by decide +kernel
theorem dX11_gather_52 : decode cX11_gather 52 = .ok (.invokevirtual 222, 3) := by decide +kernel
theorem dX11_gather_55 : decode cX11_gather 55 = .ok (.invokevirtual 232, 3) := by decide +kernel
theorem dX11_gather_58 : decode cX11_gather 58 = .ok (.istore 6, 2) := by decide +kernel
theorem dX11_gather_60 : decode cX11_gather 60 = .ok (.iload 6, 2) := by decide +kernel
theorem dX11_gather_62 : decode cX11_gather 62 = .ok (.iload_n 2, 1) := by decide +kernel
theorem dX11_gather_63 : decode cX11_gather 63 = .ok (.if_icmp .gt 40, 3) := by decide +kernel
theorem dX11_gather_66 : decode cX11_gather 66 = .ok (.aload_n 0, 1) := by decide +kernel
theorem dX11_gather_67 : decode cX11_gather 67 = .ok (.getfield 52, 3) := by decide +kernel
theorem dX11_gather_70 : decode cX11_gather 70 = .ok (.iload 5, 2) := by decide +kernel
theorem dX11_gather_72 : decode cX11_gather 72 = .ok (.iload 6, 2) := by decide +kernel
theorem dX11_gather_74 : decode cX11_gather 74 = .ok (.sipush 1000, 3) := by decide +kernel
theorem dX11_gather_77 : decode cX11_gather 77 = .ok (.aload_n 0, 1) := by decide +kernel
theorem dX11_gather_78 : decode cX11_gather 78 = .ok (.getfield 38, 3) := by decide +kernel
theorem dX11_gather_81 : decode cX11_gather 81 = .ok (.iload 5, 2) := by decide +kernel
theorem dX11_gather_83 : decode cX11_gather 83 = .ok (.invokevirtual 219, 3) := by decide +kernel
theorem dX11_gather_86 : decode cX11_gather 86 = .ok (.imul, 1) := by decide +kernel
theorem dX11_gather_87 : decode cX11_gather 87 = .ok (.aload_n 0, 1) := by decide +kernel
theorem dX11_gather_88 : decode cX11_gather 88 = .ok (.getfield 77, 3) := by decide +kernel
theorem dX11_gather_91 : decode cX11_gather 91 = .ok (.iload_n 3, 1) := by decide +kernel
theorem dX11_gather_92 : decode cX11_gather 92 = .ok (.iload 5, 2) := by decide +kernel
theorem dX11_gather_94 : decode cX11_gather 94 = .ok (.iload 4, 2) := by decide +kernel
theorem dX11_gather_96 : decode cX11_gather 96 = .ok (.invokevirtual 289, 3) := by decide +kernel
theorem dX11_gather_99 : decode cX11_gather 99 = .ok (.iadd, 1) := by decide +kernel
theorem dX11_gather_100 : decode cX11_gather 100 = .ok (.invokevirtual 389, 3) := by decide +kernel
theorem dX11_gather_103 : decode cX11_gather 103 = .ok (.iinc 5 1, 3) := by decide +kernel
theorem dX11_gather_106 : decode cX11_gather 106 = .ok (.goto (-96), 3) := by decide +kernel
theorem dX11_gather_109 : decode cX11_gather 109 = .ok (.return_, 1) := by decide +kernel
end
section
theorem dL_cell_0 : decode cL_cell 0 = .ok (.aload_n 0, 1) := by decide +kernel
theorem dL_cell_1 : decode cL_cell 1 = .ok (.arraylength, 1) := by decide +kernel
theorem dL_cell_2 : decode cL_cell 2 = .ok (.ifCond .ne 12, 3) := by decide +kernel
theorem dL_cell_5 : decode cL_cell 5 = .ok (.iload_n 1, 1) := by decide +kernel
theorem dL_cell_6 : decode cL_cell 6 = .ok (.bipush 37, 2) := by decide +kernel
theorem dL_cell_8 : decode cL_cell 8 = .ok (.imul, 1) := by decide +kernel
theorem dL_cell_9 : decode cL_cell 9 = .ok (.iconst 5, 1) := by decide +kernel
theorem dL_cell_10 : decode cL_cell 10 = .ok (.iadd, 1) := by decide +kernel
theorem dL_cell_11 : decode cL_cell 11 = .ok (.goto 17, 3) := by decide +kernel
theorem dL_cell_14 : decode cL_cell 14 = .ok (.aload_n 0, 1) := by decide +kernel
theorem dL_cell_15 : decode cL_cell 15 = .ok (.iload_n 1, 1) := by decide +kernel
theorem dL_cell_16 : decode cL_cell 16 = .ok (.aload_n 0, 1) := by decide +kernel
theorem dL_cell_17 : decode cL_cell 17 = .ok (.arraylength, 1) := by decide +kernel
theorem dL_cell_18 : decode cL_cell 18 = .ok (.irem, 1) := by decide +kernel
theorem dL_cell_19 : decode cL_cell 19 = .ok (.iaload, 1) := by decide +kernel
theorem dL_cell_20 : decode cL_cell 20 = .ok (.iload_n 1, 1) := by decide +kernel
theorem dL_cell_21 : decode cL_cell 21 = .ok (.bipush 7, 2) := by decide +kernel
theorem dL_cell_23 : decode cL_cell 23 = .ok (.irem, 1) := by decide +kernel
theorem dL_cell_24 : decode cL_cell 24 = .ok (.ishr, 1) := by decide +kernel
theorem dL_cell_25 : decode cL_cell 25 = .ok (.ldc 7, 2) := by decide +kernel
theorem dL_cell_27 : decode cL_cell 27 = .ok (.iand, 1) := by decide +kernel
theorem dL_cell_28 : decode cL_cell 28 = .ok (.iload_n 2, 1) := by decide +kernel
theorem dL_cell_29 : decode cL_cell 29 = .ok (.irem, 1) := by decide +kernel
theorem dL_cell_30 : decode cL_cell 30 = .ok (.ireturn, 1) := by decide +kernel
theorem dL_keys_0 : decode cL_keys 0 = .ok (.aload_n 0, 1) := by decide +kernel
theorem dL_keys_1 : decode cL_keys 1 = .ok (.iconst 0, 1) := by decide +kernel
theorem dL_keys_2 : decode cL_keys 2 = .ok (.invokevirtual 8, 3) := by decide +kernel
theorem dL_keys_5 : decode cL_keys 5 = .ok (.istore 5, 2) := by decide +kernel
theorem dL_keys_7 : decode cL_keys 7 = .ok (.iconst 0, 1) := by decide +kernel
theorem dL_keys_8 : decode cL_keys 8 = .ok (.istore 6, 2) := by decide +kernel
theorem dL_keys_10 : decode cL_keys 10 = .ok (.iload 6, 2) := by decide +kernel
theorem dL_keys_12 : decode cL_keys 12 = .ok (.iload_n 3, 1) := by decide +kernel
theorem dL_keys_13 : decode cL_keys 13 = .ok (.if_icmp .ge 25, 3) := by decide +kernel
theorem dL_keys_16 : decode cL_keys 16 = .ok (.aload_n 0, 1) := by decide +kernel
theorem dL_keys_17 : decode cL_keys 17 = .ok (.aload_n 1, 1) := by decide +kernel
theorem dL_keys_18 : decode cL_keys 18 = .ok (.iload_n 2, 1) := by decide +kernel
theorem dL_keys_19 : decode cL_keys 19 = .ok (.iload 6, 2) := by decide +kernel
theorem dL_keys_21 : decode cL_keys 21 = .ok (.iadd, 1) := by decide +kernel
theorem dL_keys_22 : decode cL_keys 22 = .ok (.iload 4, 2) := by decide +kernel
theorem dL_keys_24 : decode cL_keys 24 = .ok (.invokestatic 14, 3) := by decide +kernel
theorem dL_keys_27 : decode cL_keys 27 = .ok (.invokevirtual 20, 3) := by decide +kernel
theorem dL_keys_30 : decode cL_keys 30 = .ok (.istore 5, 2) := by decide +kernel
theorem dL_keys_32 : decode cL_keys 32 = .ok (.iinc 6 1, 3) := by decide +kernel
theorem dL_keys_35 : decode cL_keys 35 = .ok (.goto (-25), 3) := by decide +kernel
theorem dL_keys_38 : decode cL_keys 38 = .ok (.iload 5, 2) := by decide +kernel
theorem dL_keys_40 : decode cL_keys 40 = .ok (.ireturn, 1) := by decide +kernel
theorem dL_words_0 : decode cL_words 0 = .ok (.iconst 0, 1) := by decide +kernel
theorem dL_words_1 : decode cL_words 1 = .ok (.istore 5, 2) := by decide +kernel
theorem dL_words_3 : decode cL_words 3 = .ok (.iload 5, 2) := by decide +kernel
theorem dL_words_5 : decode cL_words 5 = .ok (.iload_n 3, 1) := by decide +kernel
theorem dL_words_6 : decode cL_words 6 = .ok (.if_icmp .ge 111, 3) := by decide +kernel
theorem dL_words_9 : decode cL_words 9 = .ok (.iconst 1, 1) := by decide +kernel
theorem dL_words_10 : decode cL_words 10 = .ok (.aload_n 1, 1) := by decide +kernel
theorem dL_words_11 : decode cL_words 11 = .ok (.iload_n 2, 1) := by decide +kernel
theorem dL_words_12 : decode cL_words 12 = .ok (.bipush 12, 2) := by decide +kernel
theorem dL_words_14 : decode cL_words 14 = .ok (.iload 5, 2) := by decide +kernel
theorem dL_words_16 : decode cL_words 16 = .ok (.imul, 1) := by decide +kernel
theorem dL_words_17 : decode cL_words 17 = .ok (.iadd, 1) := by decide +kernel
theorem dL_words_18 : decode cL_words 18 = .ok (.iconst 4, 1) := by decide +kernel
theorem dL_words_19 : decode cL_words 19 = .ok (.invokestatic 14, 3) := by decide +kernel
theorem dL_words_22 : decode cL_words 22 = .ok (.iadd, 1) := by decide +kernel
theorem dL_words_23 : decode cL_words 23 = .ok (.istore 6, 2) := by decide +kernel
theorem dL_words_25 : decode cL_words 25 = .ok (.aload_n 0, 1) := by decide +kernel
theorem dL_words_26 : decode cL_words 26 = .ok (.aload_n 1, 1) := by decide +kernel
theorem dL_words_27 : decode cL_words 27 = .ok (.iload_n 2, 1) := by decide +kernel
theorem dL_words_28 : decode cL_words 28 = .ok (.bipush 12, 2) := by decide +kernel
theorem dL_words_30 : decode cL_words 30 = .ok (.iload 5, 2) := by decide +kernel
theorem dL_words_32 : decode cL_words 32 = .ok (.imul, 1) := by decide +kernel
theorem dL_words_33 : decode cL_words 33 = .ok (.iadd, 1) := by decide +kernel
theorem dL_words_34 : decode cL_words 34 = .ok (.iconst 1, 1) := by decide +kernel
theorem dL_words_35 : decode cL_words 35 = .ok (.iadd, 1) := by decide +kernel
theorem dL_words_36 : decode cL_words 36 = .ok (.iload 6, 2) := by decide +kernel
theorem dL_words_38 : decode cL_words 38 = .ok (.iload 4, 2) := by decide +kernel
theorem dL_words_40 : decode cL_words 40 = .ok (.invokestatic 23, 3) := by decide +kernel
theorem dL_words_43 : decode cL_words 43 = .ok (.iload 6, 2) := by decide +kernel
theorem dL_words_45 : decode cL_words 45 = .ok (.if_icmp .ne 64, 3) := by decide +kernel
theorem dL_words_48 : decode cL_words 48 = .ok (.aload_n 0, 1) := by decide +kernel
theorem dL_words_49 : decode cL_words 49 = .ok (.aload_n 1, 1) := by decide +kernel
theorem dL_words_50 : decode cL_words 50 = .ok (.iload_n 2, 1) := by decide +kernel
theorem dL_words_51 : decode cL_words 51 = .ok (.bipush 12, 2) := by decide +kernel
theorem dL_words_53 : decode cL_words 53 = .ok (.iload 5, 2) := by decide +kernel
theorem dL_words_55 : decode cL_words 55 = .ok (.imul, 1) := by decide +kernel
theorem dL_words_56 : decode cL_words 56 = .ok (.iadd, 1) := by decide +kernel
theorem dL_words_57 : decode cL_words 57 = .ok (.bipush 9, 2) := by decide +kernel
theorem dL_words_59 : decode cL_words 59 = .ok (.iadd, 1) := by decide +kernel
theorem dL_words_60 : decode cL_words 60 = .ok (.iconst 3, 1) := by decide +kernel
theorem dL_words_61 : decode cL_words 61 = .ok (.invokestatic 14, 3) := by decide +kernel
theorem dL_words_64 : decode cL_words 64 = .ok (.iconst 1, 1) := by decide +kernel
theorem dL_words_65 : decode cL_words 65 = .ok (.aload_n 1, 1) := by decide +kernel
theorem dL_words_66 : decode cL_words 66 = .ok (.iload_n 2, 1) := by decide +kernel
theorem dL_words_67 : decode cL_words 67 = .ok (.bipush 12, 2) := by decide +kernel
theorem dL_words_69 : decode cL_words 69 = .ok (.iload 5, 2) := by decide +kernel
theorem dL_words_71 : decode cL_words 71 = .ok (.imul, 1) := by decide +kernel
theorem dL_words_72 : decode cL_words 72 = .ok (.iadd, 1) := by decide +kernel
theorem dL_words_73 : decode cL_words 73 = .ok (.bipush 10, 2) := by decide +kernel
theorem dL_words_75 : decode cL_words 75 = .ok (.iadd, 1) := by decide +kernel
theorem dL_words_76 : decode cL_words 76 = .ok (.sipush 999, 3) := by decide +kernel
theorem dL_words_79 : decode cL_words 79 = .ok (.invokestatic 14, 3) := by decide +kernel
theorem dL_words_82 : decode cL_words 82 = .ok (.iadd, 1) := by decide +kernel
theorem dL_words_83 : decode cL_words 83 = .ok (.iconst 1, 1) := by decide +kernel
theorem dL_words_84 : decode cL_words 84 = .ok (.aload_n 1, 1) := by decide +kernel
theorem dL_words_85 : decode cL_words 85 = .ok (.iload_n 2, 1) := by decide +kernel
theorem dL_words_86 : decode cL_words 86 = .ok (.bipush 12, 2) := by decide +kernel
theorem dL_words_88 : decode cL_words 88 = .ok (.iload 5, 2) := by decide +kernel
theorem dL_words_90 : decode cL_words 90 = .ok (.imul, 1) := by decide +kernel
theorem dL_words_91 : decode cL_words 91 = .ok (.iadd, 1) := by decide +kernel
theorem dL_words_92 : decode cL_words 92 = .ok (.bipush 11, 2) := by decide +kernel
theorem dL_words_94 : decode cL_words 94 = .ok (.iadd, 1) := by decide +kernel
theorem dL_words_95 : decode cL_words 95 = .ok (.bipush 20, 2) := by decide +kernel
theorem dL_words_97 : decode cL_words 97 = .ok (.invokestatic 14, 3) := by decide +kernel
theorem dL_words_100 : decode cL_words 100 = .ok (.iadd, 1) := by decide +kernel
theorem dL_words_101 : decode cL_words 101 = .ok (.invokevirtual 27, 3) := by decide +kernel
theorem dL_words_104 : decode cL_words 104 = .ok (.iload 5, 2) := by decide +kernel
theorem dL_words_106 : decode cL_words 106 = .ok (.if_icmp .eq 5, 3) := by decide +kernel
theorem dL_words_109 : decode cL_words 109 = .ok (.iconst 0, 1) := by decide +kernel
theorem dL_words_110 : decode cL_words 110 = .ok (.ireturn, 1) := by decide +kernel
theorem dL_words_111 : decode cL_words 111 = .ok (.iinc 5 1, 3) := by decide +kernel
theorem dL_words_114 : decode cL_words 114 = .ok (.goto (-111), 3) := by decide +kernel
theorem dL_words_117 : decode cL_words 117 = .ok (.iconst 1, 1) := by decide +kernel
theorem dL_words_118 : decode cL_words 118 = .ok (.ireturn, 1) := by decide +kernel
theorem dL_law_0 : decode cL_law 0 = .ok (.new 9, 3) := by decide +kernel
theorem dL_law_3 : decode cL_law 3 = .ok (.dup, 1) := by decide +kernel
theorem dL_law_4 : decode cL_law 4 = .ok (.invokespecial 31, 3) := by decide +kernel
theorem dL_law_7 : decode cL_law 7 = .ok (.astore_n 1, 1) := by decide +kernel
theorem dL_law_8 : decode cL_law 8 = .ok (.new 9, 3) := by decide +kernel
theorem dL_law_11 : decode cL_law 11 = .ok (.dup, 1) := by decide +kernel
theorem dL_law_12 : decode cL_law 12 = .ok (.invokespecial 31, 3) := by decide +kernel
theorem dL_law_15 : decode cL_law 15 = .ok (.astore_n 2, 1) := by decide +kernel
theorem dL_law_16 : decode cL_law 16 = .ok (.iconst 2, 1) := by decide +kernel
theorem dL_law_17 : decode cL_law 17 = .ok (.aload_n 0, 1) := by decide +kernel
theorem dL_law_18 : decode cL_law 18 = .ok (.iconst 0, 1) := by decide +kernel
theorem dL_law_19 : decode cL_law 19 = .ok (.iconst 5, 1) := by decide +kernel
theorem dL_law_20 : decode cL_law 20 = .ok (.invokestatic 14, 3) := by decide +kernel
theorem dL_law_23 : decode cL_law 23 = .ok (.iadd, 1) := by decide +kernel
theorem dL_law_24 : decode cL_law 24 = .ok (.istore_n 3, 1) := by decide +kernel
theorem dL_law_25 : decode cL_law 25 = .ok (.aload_n 1, 1) := by decide +kernel
theorem dL_law_26 : decode cL_law 26 = .ok (.aload_n 0, 1) := by decide +kernel
theorem dL_law_27 : decode cL_law 27 = .ok (.iconst 1, 1) := by decide +kernel
theorem dL_law_28 : decode cL_law 28 = .ok (.iload_n 3, 1) := by decide +kernel
theorem dL_law_29 : decode cL_law 29 = .ok (.iconst 4, 1) := by decide +kernel
theorem dL_law_30 : decode cL_law 30 = .ok (.invokestatic 32, 3) := by decide +kernel
theorem dL_law_33 : decode cL_law 33 = .ok (.ifCond .eq 14, 3) := by decide +kernel
theorem dL_law_36 : decode cL_law 36 = .ok (.aload_n 2, 1) := by decide +kernel
theorem dL_law_37 : decode cL_law 37 = .ok (.aload_n 0, 1) := by decide +kernel
theorem dL_law_38 : decode cL_law 38 = .ok (.iconst 1, 1) := by decide +kernel
theorem dL_law_39 : decode cL_law 39 = .ok (.iload_n 3, 1) := by decide +kernel
theorem dL_law_40 : decode cL_law 40 = .ok (.iconst 4, 1) := by decide +kernel
theorem dL_law_41 : decode cL_law 41 = .ok (.invokestatic 32, 3) := by decide +kernel
theorem dL_law_44 : decode cL_law 44 = .ok (.ifCond .ne 5, 3) := by decide +kernel
theorem dL_law_47 : decode cL_law 47 = .ok (.iconst 0, 1) := by decide +kernel
theorem dL_law_48 : decode cL_law 48 = .ok (.ireturn, 1) := by decide +kernel
theorem dL_law_49 : decode cL_law 49 = .ok (.aload_n 0, 1) := by decide +kernel
theorem dL_law_50 : decode cL_law 50 = .ok (.bipush 100, 2) := by decide +kernel
theorem dL_law_52 : decode cL_law 52 = .ok (.iconst 3, 1) := by decide +kernel
theorem dL_law_53 : decode cL_law 53 = .ok (.invokestatic 14, 3) := by decide +kernel
theorem dL_law_56 : decode cL_law 56 = .ok (.ifCond .ne 9, 3) := by decide +kernel
theorem dL_law_59 : decode cL_law 59 = .ok (.sipush 1000, 3) := by decide +kernel
theorem dL_law_62 : decode cL_law 62 = .ok (.goto 12, 3) := by decide +kernel
theorem dL_law_65 : decode cL_law 65 = .ok (.aload_n 0, 1) := by decide +kernel
theorem dL_law_66 : decode cL_law 66 = .ok (.bipush 101, 2) := by decide +kernel
theorem dL_law_68 : decode cL_law 68 = .ok (.sipush 1001, 3) := by decide +kernel
theorem dL_law_71 : decode cL_law 71 = .ok (.invokestatic 14, 3) := by decide +kernel
theorem dL_law_74 : decode cL_law 74 = .ok (.istore 4, 2) := by decide +kernel
theorem dL_law_76 : decode cL_law 76 = .ok (.aload_n 1, 1) := by decide +kernel
theorem dL_law_77 : decode cL_law 77 = .ok (.iload 4, 2) := by decide +kernel
theorem dL_law_79 : decode cL_law 79 = .ok (.invokevirtual 36, 3) := by decide +kernel
theorem dL_law_82 : decode cL_law 82 = .ok (.sipush 900, 3) := by decide +kernel
theorem dL_law_85 : decode cL_law 85 = .ok (.if_icmp .ne 15, 3) := by decide +kernel
theorem dL_law_88 : decode cL_law 88 = .ok (.aload_n 2, 1) := by decide +kernel
theorem dL_law_89 : decode cL_law 89 = .ok (.iload 4, 2) := by decide +kernel
theorem dL_law_91 : decode cL_law 91 = .ok (.invokevirtual 36, 3) := by decide +kernel
theorem dL_law_94 : decode cL_law 94 = .ok (.sipush 900, 3) := by decide +kernel
theorem dL_law_97 : decode cL_law 97 = .ok (.if_icmp .eq 5, 3) := by decide +kernel
theorem dL_law_100 : decode cL_law 100 = .ok (.iconst 0, 1) := by decide +kernel
theorem dL_law_101 : decode cL_law 101 = .ok (.ireturn, 1) := by decide +kernel
theorem dL_law_102 : decode cL_law 102 = .ok (.aload_n 0, 1) := by decide +kernel
theorem dL_law_103 : decode cL_law 103 = .ok (.bipush 102, 2) := by decide +kernel
theorem dL_law_105 : decode cL_law 105 = .ok (.bipush 16, 2) := by decide +kernel
theorem dL_law_107 : decode cL_law 107 = .ok (.invokestatic 14, 3) := by decide +kernel
theorem dL_law_110 : decode cL_law 110 = .ok (.istore 5, 2) := by decide +kernel
theorem dL_law_112 : decode cL_law 112 = .ok (.bipush 16, 2) := by decide +kernel
theorem dL_law_114 : decode cL_law 114 = .ok (.newarray .int, 2) := by decide +kernel
theorem dL_law_116 : decode cL_law 116 = .ok (.astore 6, 2) := by decide +kernel
theorem dL_law_118 : decode cL_law 118 = .ok (.bipush 16, 2) := by decide +kernel
theorem dL_law_120 : decode cL_law 120 = .ok (.newarray .int, 2) := by decide +kernel
theorem dL_law_122 : decode cL_law 122 = .ok (.astore 7, 2) := by decide +kernel
theorem dL_law_124 : decode cL_law 124 = .ok (.bipush 16, 2) := by decide +kernel
theorem dL_law_126 : decode cL_law 126 = .ok (.newarray .int, 2) := by decide +kernel
theorem dL_law_128 : decode cL_law 128 = .ok (.astore 8, 2) := by decide +kernel
theorem dL_law_130 : decode cL_law 130 = .ok (.iconst 4, 1) := by decide +kernel
theorem dL_law_131 : decode cL_law 131 = .ok (.newarray .int, 2) := by decide +kernel
theorem dL_law_133 : decode cL_law 133 = .ok (.astore 9, 2) := by decide +kernel
theorem dL_law_135 : decode cL_law 135 = .ok (.aload_n 0, 1) := by decide +kernel
theorem dL_law_136 : decode cL_law 136 = .ok (.bipush 103, 2) := by decide +kernel
theorem dL_law_138 : decode cL_law 138 = .ok (.iload_n 3, 1) := by decide +kernel
theorem dL_law_139 : decode cL_law 139 = .ok (.invokestatic 14, 3) := by decide +kernel
theorem dL_law_142 : decode cL_law 142 = .ok (.istore 10, 2) := by decide +kernel
theorem dL_law_144 : decode cL_law 144 = .ok (.iconst 0, 1) := by decide +kernel
theorem dL_law_145 : decode cL_law 145 = .ok (.istore 11, 2) := by decide +kernel
theorem dL_law_147 : decode cL_law 147 = .ok (.iconst 0, 1) := by decide +kernel
theorem dL_law_148 : decode cL_law 148 = .ok (.istore 12, 2) := by decide +kernel
theorem dL_law_150 : decode cL_law 150 = .ok (.iload 12, 2) := by decide +kernel
theorem dL_law_152 : decode cL_law 152 = .ok (.iload 5, 2) := by decide +kernel
theorem dL_law_154 : decode cL_law 154 = .ok (.if_icmp .ge 189, 3) := by decide +kernel
theorem dL_law_157 : decode cL_law 157 = .ok (.aload 6, 2) := by decide +kernel
theorem dL_law_159 : decode cL_law 159 = .ok (.iload 12, 2) := by decide +kernel
theorem dL_law_161 : decode cL_law 161 = .ok (.aload_n 0, 1) := by decide +kernel
theorem dL_law_162 : decode cL_law 162 = .ok (.iconst 3, 1) := by decide +kernel
theorem dL_law_163 : decode cL_law 163 = .ok (.iload 12, 2) := by decide +kernel
theorem dL_law_165 : decode cL_law 165 = .ok (.imul, 1) := by decide +kernel
theorem dL_law_166 : decode cL_law 166 = .ok (.bipush 104, 2) := by decide +kernel
theorem dL_law_168 : decode cL_law 168 = .ok (.iadd, 1) := by decide +kernel
theorem dL_law_169 : decode cL_law 169 = .ok (.iconst 4, 1) := by decide +kernel
theorem dL_law_170 : decode cL_law 170 = .ok (.invokestatic 14, 3) := by decide +kernel
theorem dL_law_173 : decode cL_law 173 = .ok (.iastore, 1) := by decide +kernel
theorem dL_law_174 : decode cL_law 174 = .ok (.aload 7, 2) := by decide +kernel
theorem dL_law_176 : decode cL_law 176 = .ok (.iload 12, 2) := by decide +kernel
theorem dL_law_178 : decode cL_law 178 = .ok (.aload_n 0, 1) := by decide +kernel
theorem dL_law_179 : decode cL_law 179 = .ok (.iconst 3, 1) := by decide +kernel
theorem dL_law_180 : decode cL_law 180 = .ok (.iload 12, 2) := by decide +kernel
theorem dL_law_182 : decode cL_law 182 = .ok (.imul, 1) := by decide +kernel
theorem dL_law_183 : decode cL_law 183 = .ok (.bipush 105, 2) := by decide +kernel
theorem dL_law_185 : decode cL_law 185 = .ok (.iadd, 1) := by decide +kernel
theorem dL_law_186 : decode cL_law 186 = .ok (.iload_n 3, 1) := by decide +kernel
theorem dL_law_187 : decode cL_law 187 = .ok (.invokestatic 14, 3) := by decide +kernel
theorem dL_law_190 : decode cL_law 190 = .ok (.iastore, 1) := by decide +kernel
theorem dL_law_191 : decode cL_law 191 = .ok (.aload 9, 2) := by decide +kernel
theorem dL_law_193 : decode cL_law 193 = .ok (.aload 6, 2) := by decide +kernel
theorem dL_law_195 : decode cL_law 195 = .ok (.iload 12, 2) := by decide +kernel
theorem dL_law_197 : decode cL_law 197 = .ok (.iaload, 1) := by decide +kernel
theorem dL_law_198 : decode cL_law 198 = .ok (.dup2, 1) := by decide +kernel
theorem dL_law_199 : decode cL_law 199 = .ok (.iaload, 1) := by decide +kernel
theorem dL_law_200 : decode cL_law 200 = .ok (.aload_n 0, 1) := by decide +kernel
theorem dL_law_201 : decode cL_law 201 = .ok (.iconst 3, 1) := by decide +kernel
theorem dL_law_202 : decode cL_law 202 = .ok (.iload 12, 2) := by decide +kernel
theorem dL_law_204 : decode cL_law 204 = .ok (.imul, 1) := by decide +kernel
theorem dL_law_205 : decode cL_law 205 = .ok (.bipush 106, 2) := by decide +kernel
theorem dL_law_207 : decode cL_law 207 = .ok (.iadd, 1) := by decide +kernel
theorem dL_law_208 : decode cL_law 208 = .ok (.bipush 6, 2) := by decide +kernel
theorem dL_law_210 : decode cL_law 210 = .ok (.invokestatic 14, 3) := by decide +kernel
theorem dL_law_213 : decode cL_law 213 = .ok (.iadd, 1) := by decide +kernel
theorem dL_law_214 : decode cL_law 214 = .ok (.iastore, 1) := by decide +kernel
theorem dL_law_215 : decode cL_law 215 = .ok (.aload 8, 2) := by decide +kernel
theorem dL_law_217 : decode cL_law 217 = .ok (.iload 12, 2) := by decide +kernel
theorem dL_law_219 : decode cL_law 219 = .ok (.aload 9, 2) := by decide +kernel
theorem dL_law_221 : decode cL_law 221 = .ok (.aload 6, 2) := by decide +kernel
theorem dL_law_223 : decode cL_law 223 = .ok (.iload 12, 2) := by decide +kernel
theorem dL_law_225 : decode cL_law 225 = .ok (.iaload, 1) := by decide +kernel
theorem dL_law_226 : decode cL_law 226 = .ok (.iaload, 1) := by decide +kernel
theorem dL_law_227 : decode cL_law 227 = .ok (.iastore, 1) := by decide +kernel
theorem dL_law_228 : decode cL_law 228 = .ok (.aload_n 1, 1) := by decide +kernel
theorem dL_law_229 : decode cL_law 229 = .ok (.aload 6, 2) := by decide +kernel
theorem dL_law_231 : decode cL_law 231 = .ok (.iload 12, 2) := by decide +kernel
theorem dL_law_233 : decode cL_law 233 = .ok (.iaload, 1) := by decide +kernel
theorem dL_law_234 : decode cL_law 234 = .ok (.aload 7, 2) := by decide +kernel
theorem dL_law_236 : decode cL_law 236 = .ok (.iload 12, 2) := by decide +kernel
theorem dL_law_238 : decode cL_law 238 = .ok (.iaload, 1) := by decide +kernel
theorem dL_law_239 : decode cL_law 239 = .ok (.aload 8, 2) := by decide +kernel
theorem dL_law_241 : decode cL_law 241 = .ok (.iload 12, 2) := by decide +kernel
theorem dL_law_243 : decode cL_law 243 = .ok (.iaload, 1) := by decide +kernel
theorem dL_law_244 : decode cL_law 244 = .ok (.invokevirtual 39, 3) := by decide +kernel
theorem dL_law_247 : decode cL_law 247 = .ok (.iload 12, 2) := by decide +kernel
theorem dL_law_249 : decode cL_law 249 = .ok (.iconst 1, 1) := by decide +kernel
theorem dL_law_250 : decode cL_law 250 = .ok (.iadd, 1) := by decide +kernel
theorem dL_law_251 : decode cL_law 251 = .ok (.if_icmp .ne 37, 3) := by decide +kernel
theorem dL_law_254 : decode cL_law 254 = .ok (.aload 8, 2) := by decide +kernel
theorem dL_law_256 : decode cL_law 256 = .ok (.iload 12, 2) := by decide +kernel
theorem dL_law_258 : decode cL_law 258 = .ok (.iaload, 1) := by decide +kernel
theorem dL_law_259 : decode cL_law 259 = .ok (.ifCond .le 31, 3) := by decide +kernel
theorem dL_law_262 : decode cL_law 262 = .ok (.aload_n 1, 1) := by decide +kernel
theorem dL_law_263 : decode cL_law 263 = .ok (.aload 6, 2) := by decide +kernel
theorem dL_law_265 : decode cL_law 265 = .ok (.iload 12, 2) := by decide +kernel
theorem dL_law_267 : decode cL_law 267 = .ok (.iaload, 1) := by decide +kernel
theorem dL_law_268 : decode cL_law 268 = .ok (.aload 7, 2) := by decide +kernel
theorem dL_law_270 : decode cL_law 270 = .ok (.iload 12, 2) := by decide +kernel
theorem dL_law_272 : decode cL_law 272 = .ok (.iaload, 1) := by decide +kernel
theorem dL_law_273 : decode cL_law 273 = .ok (.aload 8, 2) := by decide +kernel
theorem dL_law_275 : decode cL_law 275 = .ok (.iload 12, 2) := by decide +kernel
theorem dL_law_277 : decode cL_law 277 = .ok (.iaload, 1) := by decide +kernel
theorem dL_law_278 : decode cL_law 278 = .ok (.iconst 1, 1) := by decide +kernel
theorem dL_law_279 : decode cL_law 279 = .ok (.isub, 1) := by decide +kernel
theorem dL_law_280 : decode cL_law 280 = .ok (.invokevirtual 39, 3) := by decide +kernel
theorem dL_law_283 : decode cL_law 283 = .ok (.bipush (-5), 2) := by decide +kernel
theorem dL_law_285 : decode cL_law 285 = .ok (.if_icmp .eq 5, 3) := by decide +kernel
theorem dL_law_288 : decode cL_law 288 = .ok (.iconst 0, 1) := by decide +kernel
theorem dL_law_289 : decode cL_law 289 = .ok (.ireturn, 1) := by decide +kernel
theorem dL_law_290 : decode cL_law 290 = .ok (.aload 6, 2) := by decide +kernel
theorem dL_law_292 : decode cL_law 292 = .ok (.iload 12, 2) := by decide +kernel
theorem dL_law_294 : decode cL_law 294 = .ok (.iaload, 1) := by decide +kernel
theorem dL_law_295 : decode cL_law 295 = .ok (.ifCond .ne 13, 3) := by decide +kernel
theorem dL_law_298 : decode cL_law 298 = .ok (.aload 7, 2) := by decide +kernel
theorem dL_law_300 : decode cL_law 300 = .ok (.iload 12, 2) := by decide +kernel
theorem dL_law_302 : decode cL_law 302 = .ok (.iaload, 1) := by decide +kernel
theorem dL_law_303 : decode cL_law 303 = .ok (.iload 10, 2) := by decide +kernel
theorem dL_law_305 : decode cL_law 305 = .ok (.if_icmp .eq 32, 3) := by decide +kernel
theorem dL_law_308 : decode cL_law 308 = .ok (.iinc 11 1, 3) := by decide +kernel
theorem dL_law_311 : decode cL_law 311 = .ok (.aload_n 2, 1) := by decide +kernel
theorem dL_law_312 : decode cL_law 312 = .ok (.aload 6, 2) := by decide +kernel
theorem dL_law_314 : decode cL_law 314 = .ok (.iload 12, 2) := by decide +kernel
theorem dL_law_316 : decode cL_law 316 = .ok (.iaload, 1) := by decide +kernel
theorem dL_law_317 : decode cL_law 317 = .ok (.aload 7, 2) := by decide +kernel
theorem dL_law_319 : decode cL_law 319 = .ok (.iload 12, 2) := by decide +kernel
theorem dL_law_321 : decode cL_law 321 = .ok (.iaload, 1) := by decide +kernel
theorem dL_law_322 : decode cL_law 322 = .ok (.aload 8, 2) := by decide +kernel
theorem dL_law_324 : decode cL_law 324 = .ok (.iload 12, 2) := by decide +kernel
theorem dL_law_326 : decode cL_law 326 = .ok (.iaload, 1) := by decide +kernel
theorem dL_law_327 : decode cL_law 327 = .ok (.invokevirtual 39, 3) := by decide +kernel
theorem dL_law_330 : decode cL_law 330 = .ok (.iload 11, 2) := by decide +kernel
theorem dL_law_332 : decode cL_law 332 = .ok (.if_icmp .eq 5, 3) := by decide +kernel
theorem dL_law_335 : decode cL_law 335 = .ok (.iconst 0, 1) := by decide +kernel
theorem dL_law_336 : decode cL_law 336 = .ok (.ireturn, 1) := by decide +kernel
theorem dL_law_337 : decode cL_law 337 = .ok (.iinc 12 1, 3) := by decide +kernel
theorem dL_law_340 : decode cL_law 340 = .ok (.goto (-190), 3) := by decide +kernel
theorem dL_law_343 : decode cL_law 343 = .ok (.aload_n 0, 1) := by decide +kernel
theorem dL_law_344 : decode cL_law 344 = .ok (.sipush 160, 3) := by decide +kernel
theorem dL_law_347 : decode cL_law 347 = .ok (.bipush 60, 2) := by decide +kernel
theorem dL_law_349 : decode cL_law 349 = .ok (.invokestatic 14, 3) := by decide +kernel
theorem dL_law_352 : decode cL_law 352 = .ok (.istore 12, 2) := by decide +kernel
theorem dL_law_354 : decode cL_law 354 = .ok (.bipush 32, 2) := by decide +kernel
theorem dL_law_356 : decode cL_law 356 = .ok (.newarray .int, 2) := by decide +kernel
theorem dL_law_358 : decode cL_law 358 = .ok (.astore 13, 2) := by decide +kernel
theorem dL_law_360 : decode cL_law 360 = .ok (.iconst 0, 1) := by decide +kernel
theorem dL_law_361 : decode cL_law 361 = .ok (.istore 14, 2) := by decide +kernel
theorem dL_law_363 : decode cL_law 363 = .ok (.iload 14, 2) := by decide +kernel
theorem dL_law_365 : decode cL_law 365 = .ok (.iconst 4, 1) := by decide +kernel
theorem dL_law_366 : decode cL_law 366 = .ok (.if_icmp .ge 150, 3) := by decide +kernel
theorem dL_law_369 : decode cL_law 369 = .ok (.iconst 0, 1) := by decide +kernel
theorem dL_law_370 : decode cL_law 370 = .ok (.istore 15, 2) := by decide +kernel
theorem dL_law_372 : decode cL_law 372 = .ok (.iload 15, 2) := by decide +kernel
theorem dL_law_374 : decode cL_law 374 = .ok (.iload_n 3, 1) := by decide +kernel
theorem dL_law_375 : decode cL_law 375 = .ok (.if_icmp .ge 135, 3) := by decide +kernel
theorem dL_law_378 : decode cL_law 378 = .ok (.iconst 0, 1) := by decide +kernel
theorem dL_law_379 : decode cL_law 379 = .ok (.istore 16, 2) := by decide +kernel
theorem dL_law_381 : decode cL_law 381 = .ok (.iconst 0, 1) := by decide +kernel
theorem dL_law_382 : decode cL_law 382 = .ok (.istore 17, 2) := by decide +kernel
theorem dL_law_384 : decode cL_law 384 = .ok (.iload 17, 2) := by decide +kernel
theorem dL_law_386 : decode cL_law 386 = .ok (.iload 5, 2) := by decide +kernel
theorem dL_law_388 : decode cL_law 388 = .ok (.if_icmp .ge 86, 3) := by decide +kernel
theorem dL_law_391 : decode cL_law 391 = .ok (.sipush 1000, 3) := by decide +kernel
theorem dL_law_394 : decode cL_law 394 = .ok (.istore 18, 2) := by decide +kernel
theorem dL_law_396 : decode cL_law 396 = .ok (.aload 8, 2) := by decide +kernel
theorem dL_law_398 : decode cL_law 398 = .ok (.iload 17, 2) := by decide +kernel
theorem dL_law_400 : decode cL_law 400 = .ok (.iaload, 1) := by decide +kernel
theorem dL_law_401 : decode cL_law 401 = .ok (.istore 19, 2) := by decide +kernel
theorem dL_law_403 : decode cL_law 403 = .ok (.iload 19, 2) := by decide +kernel
theorem dL_law_405 : decode cL_law 405 = .ok (.iload 12, 2) := by decide +kernel
theorem dL_law_407 : decode cL_law 407 = .ok (.if_icmp .ge 20, 3) := by decide +kernel
theorem dL_law_410 : decode cL_law 410 = .ok (.iload 18, 2) := by decide +kernel
theorem dL_law_412 : decode cL_law 412 = .ok (.iload 4, 2) := by decide +kernel
theorem dL_law_414 : decode cL_law 414 = .ok (.imul, 1) := by decide +kernel
theorem dL_law_415 : decode cL_law 415 = .ok (.sipush 1000, 3) := by decide +kernel
theorem dL_law_418 : decode cL_law 418 = .ok (.idiv, 1) := by decide +kernel
theorem dL_law_419 : decode cL_law 419 = .ok (.istore 18, 2) := by decide +kernel
theorem dL_law_421 : decode cL_law 421 = .ok (.iinc 19 1, 3) := by decide +kernel
theorem dL_law_424 : decode cL_law 424 = .ok (.goto (-21), 3) := by decide +kernel
theorem dL_law_427 : decode cL_law 427 = .ok (.iload 16, 2) := by decide +kernel
theorem dL_law_429 : decode cL_law 429 = .ok (.aload 6, 2) := by decide +kernel
theorem dL_law_431 : decode cL_law 431 = .ok (.iload 17, 2) := by decide +kernel
theorem dL_law_433 : decode cL_law 433 = .ok (.iaload, 1) := by decide +kernel
theorem dL_law_434 : decode cL_law 434 = .ok (.iload 14, 2) := by decide +kernel
theorem dL_law_436 : decode cL_law 436 = .ok (.if_icmp .ne 28, 3) := by decide +kernel
theorem dL_law_439 : decode cL_law 439 = .ok (.aload 7, 2) := by decide +kernel
theorem dL_law_441 : decode cL_law 441 = .ok (.iload 17, 2) := by decide +kernel
theorem dL_law_443 : decode cL_law 443 = .ok (.iaload, 1) := by decide +kernel
theorem dL_law_444 : decode cL_law 444 = .ok (.iload 15, 2) := by decide +kernel
theorem dL_law_446 : decode cL_law 446 = .ok (.if_icmp .ne 18, 3) := by decide +kernel
theorem dL_law_449 : decode cL_law 449 = .ok (.aload 8, 2) := by decide +kernel
theorem dL_law_451 : decode cL_law 451 = .ok (.iload 17, 2) := by decide +kernel
theorem dL_law_453 : decode cL_law 453 = .ok (.iaload, 1) := by decide +kernel
theorem dL_law_454 : decode cL_law 454 = .ok (.iload 12, 2) := by decide +kernel
theorem dL_law_456 : decode cL_law 456 = .ok (.if_icmp .gt 8, 3) := by decide +kernel
theorem dL_law_459 : decode cL_law 459 = .ok (.iload 18, 2) := by decide +kernel
theorem dL_law_461 : decode cL_law 461 = .ok (.goto 4, 3) := by decide +kernel
theorem dL_law_464 : decode cL_law 464 = .ok (.iconst 0, 1) := by decide +kernel
theorem dL_law_465 : decode cL_law 465 = .ok (.iadd, 1) := by decide +kernel
theorem dL_law_466 : decode cL_law 466 = .ok (.istore 16, 2) := by decide +kernel
theorem dL_law_468 : decode cL_law 468 = .ok (.iinc 17 1, 3) := by decide +kernel
theorem dL_law_471 : decode cL_law 471 = .ok (.goto (-87), 3) := by decide +kernel
theorem dL_law_474 : decode cL_law 474 = .ok (.aload 13, 2) := by decide +kernel
theorem dL_law_476 : decode cL_law 476 = .ok (.bipush 8, 2) := by decide +kernel
theorem dL_law_478 : decode cL_law 478 = .ok (.iload 14, 2) := by decide +kernel
theorem dL_law_480 : decode cL_law 480 = .ok (.imul, 1) := by decide +kernel
theorem dL_law_481 : decode cL_law 481 = .ok (.iload 15, 2) := by decide +kernel
theorem dL_law_483 : decode cL_law 483 = .ok (.iadd, 1) := by decide +kernel
theorem dL_law_484 : decode cL_law 484 = .ok (.iload 16, 2) := by decide +kernel
theorem dL_law_486 : decode cL_law 486 = .ok (.iastore, 1) := by decide +kernel
theorem dL_law_487 : decode cL_law 487 = .ok (.aload_n 1, 1) := by decide +kernel
theorem dL_law_488 : decode cL_law 488 = .ok (.iload 14, 2) := by decide +kernel
theorem dL_law_490 : decode cL_law 490 = .ok (.iload 15, 2) := by decide +kernel
theorem dL_law_492 : decode cL_law 492 = .ok (.iload 12, 2) := by decide +kernel
theorem dL_law_494 : decode cL_law 494 = .ok (.invokevirtual 42, 3) := by decide +kernel
theorem dL_law_497 : decode cL_law 497 = .ok (.iload 16, 2) := by decide +kernel
theorem dL_law_499 : decode cL_law 499 = .ok (.if_icmp .eq 5, 3) := by decide +kernel
theorem dL_law_502 : decode cL_law 502 = .ok (.iconst 0, 1) := by decide +kernel
theorem dL_law_503 : decode cL_law 503 = .ok (.ireturn, 1) := by decide +kernel
theorem dL_law_504 : decode cL_law 504 = .ok (.iinc 15 1, 3) := by decide +kernel
theorem dL_law_507 : decode cL_law 507 = .ok (.goto (-135), 3) := by decide +kernel
theorem dL_law_510 : decode cL_law 510 = .ok (.iinc 14 1, 3) := by decide +kernel
theorem dL_law_513 : decode cL_law 513 = .ok (.goto (-150), 3) := by decide +kernel
theorem dL_law_516 : decode cL_law 516 = .ok (.aload_n 1, 1) := by decide +kernel
theorem dL_law_517 : decode cL_law 517 = .ok (.aload_n 0, 1) := by decide +kernel
theorem dL_law_518 : decode cL_law 518 = .ok (.sipush 170, 3) := by decide +kernel
theorem dL_law_521 : decode cL_law 521 = .ok (.iconst 1, 1) := by decide +kernel
theorem dL_law_522 : decode cL_law 522 = .ok (.aload_n 0, 1) := by decide +kernel
theorem dL_law_523 : decode cL_law 523 = .ok (.sipush 169, 3) := by decide +kernel
theorem dL_law_526 : decode cL_law 526 = .ok (.iconst 4, 1) := by decide +kernel
theorem dL_law_527 : decode cL_law 527 = .ok (.invokestatic 14, 3) := by decide +kernel
theorem dL_law_530 : decode cL_law 530 = .ok (.iadd, 1) := by decide +kernel
theorem dL_law_531 : decode cL_law 531 = .ok (.iconst 4, 1) := by decide +kernel
theorem dL_law_532 : decode cL_law 532 = .ok (.invokestatic 23, 3) := by decide +kernel
theorem dL_law_535 : decode cL_law 535 = .ok (.istore 14, 2) := by decide +kernel
theorem dL_law_537 : decode cL_law 537 = .ok (.aload_n 0, 1) := by decide +kernel
theorem dL_law_538 : decode cL_law 538 = .ok (.sipush 175, 3) := by decide +kernel
theorem dL_law_541 : decode cL_law 541 = .ok (.iconst 4, 1) := by decide +kernel
theorem dL_law_542 : decode cL_law 542 = .ok (.invokestatic 14, 3) := by decide +kernel
theorem dL_law_545 : decode cL_law 545 = .ok (.istore 15, 2) := by decide +kernel
theorem dL_law_547 : decode cL_law 547 = .ok (.aload_n 1, 1) := by decide +kernel
theorem dL_law_548 : decode cL_law 548 = .ok (.iload 15, 2) := by decide +kernel
theorem dL_law_550 : decode cL_law 550 = .ok (.iload 12, 2) := by decide +kernel
theorem dL_law_552 : decode cL_law 552 = .ok (.bipush 7, 2) := by decide +kernel
theorem dL_law_554 : decode cL_law 554 = .ok (.bipush 60, 2) := by decide +kernel
theorem dL_law_556 : decode cL_law 556 = .ok (.iconst (-1), 1) := by decide +kernel
theorem dL_law_557 : decode cL_law 557 = .ok (.invokevirtual 45, 3) := by decide +kernel
theorem dL_law_560 : decode cL_law 560 = .ok (.istore 16, 2) := by decide +kernel
theorem dL_law_562 : decode cL_law 562 = .ok (.iconst 0, 1) := by decide +kernel
theorem dL_law_563 : decode cL_law 563 = .ok (.istore 17, 2) := by decide +kernel
theorem dL_law_565 : decode cL_law 565 = .ok (.iload 17, 2) := by decide +kernel
theorem dL_law_567 : decode cL_law 567 = .ok (.iconst 1, 1) := by decide +kernel
theorem dL_law_568 : decode cL_law 568 = .ok (.iadd, 1) := by decide +kernel
theorem dL_law_569 : decode cL_law 569 = .ok (.iload 16, 2) := by decide +kernel
theorem dL_law_571 : decode cL_law 571 = .ok (.if_icmp .ge 158, 3) := by decide +kernel
theorem dL_law_574 : decode cL_law 574 = .ok (.aload_n 1, 1) := by decide +kernel
theorem dL_law_575 : decode cL_law 575 = .ok (.iload 15, 2) := by decide +kernel
theorem dL_law_577 : decode cL_law 577 = .ok (.iload 12, 2) := by decide +kernel
theorem dL_law_579 : decode cL_law 579 = .ok (.bipush 7, 2) := by decide +kernel
theorem dL_law_581 : decode cL_law 581 = .ok (.bipush 60, 2) := by decide +kernel
theorem dL_law_583 : decode cL_law 583 = .ok (.iload 17, 2) := by decide +kernel
theorem dL_law_585 : decode cL_law 585 = .ok (.invokevirtual 45, 3) := by decide +kernel
theorem dL_law_588 : decode cL_law 588 = .ok (.istore 18, 2) := by decide +kernel
theorem dL_law_590 : decode cL_law 590 = .ok (.aload_n 1, 1) := by decide +kernel
theorem dL_law_591 : decode cL_law 591 = .ok (.iload 15, 2) := by decide +kernel
theorem dL_law_593 : decode cL_law 593 = .ok (.iload 12, 2) := by decide +kernel
theorem dL_law_595 : decode cL_law 595 = .ok (.bipush 7, 2) := by decide +kernel
theorem dL_law_597 : decode cL_law 597 = .ok (.bipush 60, 2) := by decide +kernel
theorem dL_law_599 : decode cL_law 599 = .ok (.iload 17, 2) := by decide +kernel
theorem dL_law_601 : decode cL_law 601 = .ok (.iconst 1, 1) := by decide +kernel
theorem dL_law_602 : decode cL_law 602 = .ok (.iadd, 1) := by decide +kernel
theorem dL_law_603 : decode cL_law 603 = .ok (.invokevirtual 45, 3) := by decide +kernel
theorem dL_law_606 : decode cL_law 606 = .ok (.istore 19, 2) := by decide +kernel
theorem dL_law_608 : decode cL_law 608 = .ok (.sipush 1000, 3) := by decide +kernel
theorem dL_law_611 : decode cL_law 611 = .ok (.aload_n 1, 1) := by decide +kernel
theorem dL_law_612 : decode cL_law 612 = .ok (.iload 18, 2) := by decide +kernel
theorem dL_law_614 : decode cL_law 614 = .ok (.iconst 2, 1) := by decide +kernel
theorem dL_law_615 : decode cL_law 615 = .ok (.invokevirtual 49, 3) := by decide +kernel
theorem dL_law_618 : decode cL_law 618 = .ok (.imul, 1) := by decide +kernel
theorem dL_law_619 : decode cL_law 619 = .ok (.aload 13, 2) := by decide +kernel
theorem dL_law_621 : decode cL_law 621 = .ok (.bipush 8, 2) := by decide +kernel
theorem dL_law_623 : decode cL_law 623 = .ok (.iload 15, 2) := by decide +kernel
theorem dL_law_625 : decode cL_law 625 = .ok (.imul, 1) := by decide +kernel
theorem dL_law_626 : decode cL_law 626 = .ok (.iload 18, 2) := by decide +kernel
theorem dL_law_628 : decode cL_law 628 = .ok (.iadd, 1) := by decide +kernel
theorem dL_law_629 : decode cL_law 629 = .ok (.iaload, 1) := by decide +kernel
theorem dL_law_630 : decode cL_law 630 = .ok (.iadd, 1) := by decide +kernel
theorem dL_law_631 : decode cL_law 631 = .ok (.istore 20, 2) := by decide +kernel
theorem dL_law_633 : decode cL_law 633 = .ok (.sipush 1000, 3) := by decide +kernel
theorem dL_law_636 : decode cL_law 636 = .ok (.aload_n 1, 1) := by decide +kernel
theorem dL_law_637 : decode cL_law 637 = .ok (.iload 19, 2) := by decide +kernel
theorem dL_law_639 : decode cL_law 639 = .ok (.iconst 2, 1) := by decide +kernel
theorem dL_law_640 : decode cL_law 640 = .ok (.invokevirtual 49, 3) := by decide +kernel
theorem dL_law_643 : decode cL_law 643 = .ok (.imul, 1) := by decide +kernel
theorem dL_law_644 : decode cL_law 644 = .ok (.aload 13, 2) := by decide +kernel
theorem dL_law_646 : decode cL_law 646 = .ok (.bipush 8, 2) := by decide +kernel
theorem dL_law_648 : decode cL_law 648 = .ok (.iload 15, 2) := by decide +kernel
theorem dL_law_650 : decode cL_law 650 = .ok (.imul, 1) := by decide +kernel
theorem dL_law_651 : decode cL_law 651 = .ok (.iload 19, 2) := by decide +kernel
theorem dL_law_653 : decode cL_law 653 = .ok (.iadd, 1) := by decide +kernel
theorem dL_law_654 : decode cL_law 654 = .ok (.iaload, 1) := by decide +kernel
theorem dL_law_655 : decode cL_law 655 = .ok (.iadd, 1) := by decide +kernel
theorem dL_law_656 : decode cL_law 656 = .ok (.istore 21, 2) := by decide +kernel
theorem dL_law_658 : decode cL_law 658 = .ok (.aload_n 1, 1) := by decide +kernel
theorem dL_law_659 : decode cL_law 659 = .ok (.iload 18, 2) := by decide +kernel
theorem dL_law_661 : decode cL_law 661 = .ok (.invokevirtual 53, 3) := by decide +kernel
theorem dL_law_664 : decode cL_law 664 = .ok (.aload_n 1, 1) := by decide +kernel
theorem dL_law_665 : decode cL_law 665 = .ok (.iload 19, 2) := by decide +kernel
theorem dL_law_667 : decode cL_law 667 = .ok (.invokevirtual 53, 3) := by decide +kernel
theorem dL_law_670 : decode cL_law 670 = .ok (.if_icmp .lt 39, 3) := by decide +kernel
theorem dL_law_673 : decode cL_law 673 = .ok (.aload_n 1, 1) := by decide +kernel
theorem dL_law_674 : decode cL_law 674 = .ok (.iload 18, 2) := by decide +kernel
theorem dL_law_676 : decode cL_law 676 = .ok (.invokevirtual 53, 3) := by decide +kernel
theorem dL_law_679 : decode cL_law 679 = .ok (.aload_n 1, 1) := by decide +kernel
theorem dL_law_680 : decode cL_law 680 = .ok (.iload 19, 2) := by decide +kernel
theorem dL_law_682 : decode cL_law 682 = .ok (.invokevirtual 53, 3) := by decide +kernel
theorem dL_law_685 : decode cL_law 685 = .ok (.if_icmp .ne 28, 3) := by decide +kernel
theorem dL_law_688 : decode cL_law 688 = .ok (.iload 20, 2) := by decide +kernel
theorem dL_law_690 : decode cL_law 690 = .ok (.iload 21, 2) := by decide +kernel
theorem dL_law_692 : decode cL_law 692 = .ok (.if_icmp .gt 17, 3) := by decide +kernel
theorem dL_law_695 : decode cL_law 695 = .ok (.iload 20, 2) := by decide +kernel
theorem dL_law_697 : decode cL_law 697 = .ok (.iload 21, 2) := by decide +kernel
theorem dL_law_699 : decode cL_law 699 = .ok (.if_icmp .ne 14, 3) := by decide +kernel
theorem dL_law_702 : decode cL_law 702 = .ok (.iload 18, 2) := by decide +kernel
theorem dL_law_704 : decode cL_law 704 = .ok (.iload 19, 2) := by decide +kernel
theorem dL_law_706 : decode cL_law 706 = .ok (.if_icmp .ge 7, 3) := by decide +kernel
theorem dL_law_709 : decode cL_law 709 = .ok (.iconst 1, 1) := by decide +kernel
theorem dL_law_710 : decode cL_law 710 = .ok (.goto 4, 3) := by decide +kernel
theorem dL_law_713 : decode cL_law 713 = .ok (.iconst 0, 1) := by decide +kernel
theorem dL_law_714 : decode cL_law 714 = .ok (.istore 22, 2) := by decide +kernel
theorem dL_law_716 : decode cL_law 716 = .ok (.iload 22, 2) := by decide +kernel
theorem dL_law_718 : decode cL_law 718 = .ok (.ifCond .ne 5, 3) := by decide +kernel
theorem dL_law_721 : decode cL_law 721 = .ok (.iconst 0, 1) := by decide +kernel
theorem dL_law_722 : decode cL_law 722 = .ok (.ireturn, 1) := by decide +kernel
theorem dL_law_723 : decode cL_law 723 = .ok (.iinc 17 1, 3) := by decide +kernel
theorem dL_law_726 : decode cL_law 726 = .ok (.goto (-161), 3) := by decide +kernel
theorem dL_law_729 : decode cL_law 729 = .ok (.iload 16, 2) := by decide +kernel
theorem dL_law_731 : decode cL_law 731 = .ok (.aload_n 1, 1) := by decide +kernel
theorem dL_law_732 : decode cL_law 732 = .ok (.bipush 7, 2) := by decide +kernel
theorem dL_law_734 : decode cL_law 734 = .ok (.bipush 60, 2) := by decide +kernel
theorem dL_law_736 : decode cL_law 736 = .ok (.iconst (-1), 1) := by decide +kernel
theorem dL_law_737 : decode cL_law 737 = .ok (.invokevirtual 56, 3) := by decide +kernel
theorem dL_law_740 : decode cL_law 740 = .ok (.if_icmp .ne 9, 3) := by decide +kernel
theorem dL_law_743 : decode cL_law 743 = .ok (.iload 14, 2) := by decide +kernel
theorem dL_law_745 : decode cL_law 745 = .ok (.iconst 1, 1) := by decide +kernel
theorem dL_law_746 : decode cL_law 746 = .ok (.if_icmp .ge 5, 3) := by decide +kernel
theorem dL_law_749 : decode cL_law 749 = .ok (.iconst 0, 1) := by decide +kernel
theorem dL_law_750 : decode cL_law 750 = .ok (.ireturn, 1) := by decide +kernel
theorem dL_law_751 : decode cL_law 751 = .ok (.iconst 1, 1) := by decide +kernel
theorem dL_law_752 : decode cL_law 752 = .ok (.aload_n 0, 1) := by decide +kernel
theorem dL_law_753 : decode cL_law 753 = .ok (.sipush 180, 3) := by decide +kernel
theorem dL_law_756 : decode cL_law 756 = .ok (.ldc 59, 2) := by decide +kernel
theorem dL_law_758 : decode cL_law 758 = .ok (.invokestatic 14, 3) := by decide +kernel
theorem dL_law_761 : decode cL_law 761 = .ok (.iadd, 1) := by decide +kernel
theorem dL_law_762 : decode cL_law 762 = .ok (.istore 17, 2) := by decide +kernel
theorem dL_law_764 : decode cL_law 764 = .ok (.aload_n 1, 1) := by decide +kernel
theorem dL_law_765 : decode cL_law 765 = .ok (.iload 17, 2) := by decide +kernel
theorem dL_law_767 : decode cL_law 767 = .ok (.invokevirtual 60, 3) := by decide +kernel
theorem dL_law_770 : decode cL_law 770 = .ok (.iconst 1, 1) := by decide +kernel
theorem dL_law_771 : decode cL_law 771 = .ok (.if_icmp .eq 5, 3) := by decide +kernel
theorem dL_law_774 : decode cL_law 774 = .ok (.iconst 0, 1) := by decide +kernel
theorem dL_law_775 : decode cL_law 775 = .ok (.ireturn, 1) := by decide +kernel
theorem dL_law_776 : decode cL_law 776 = .ok (.iconst 4, 1) := by decide +kernel
theorem dL_law_777 : decode cL_law 777 = .ok (.newarray .int, 2) := by decide +kernel
theorem dL_law_779 : decode cL_law 779 = .ok (.astore 18, 2) := by decide +kernel
theorem dL_law_781 : decode cL_law 781 = .ok (.iconst 0, 1) := by decide +kernel
theorem dL_law_782 : decode cL_law 782 = .ok (.istore 19, 2) := by decide +kernel
theorem dL_law_784 : decode cL_law 784 = .ok (.iload 19, 2) := by decide +kernel
theorem dL_law_786 : decode cL_law 786 = .ok (.iconst 4, 1) := by decide +kernel
theorem dL_law_787 : decode cL_law 787 = .ok (.if_icmp .ge 45, 3) := by decide +kernel
theorem dL_law_790 : decode cL_law 790 = .ok (.aload 18, 2) := by decide +kernel
theorem dL_law_792 : decode cL_law 792 = .ok (.iload 19, 2) := by decide +kernel
theorem dL_law_794 : decode cL_law 794 = .ok (.aload_n 0, 1) := by decide +kernel
theorem dL_law_795 : decode cL_law 795 = .ok (.iload 19, 2) := by decide +kernel
theorem dL_law_797 : decode cL_law 797 = .ok (.sipush 181, 3) := by decide +kernel
theorem dL_law_800 : decode cL_law 800 = .ok (.iadd, 1) := by decide +kernel
theorem dL_law_801 : decode cL_law 801 = .ok (.sipush 200, 3) := by decide +kernel
theorem dL_law_804 : decode cL_law 804 = .ok (.invokestatic 14, 3) := by decide +kernel
theorem dL_law_807 : decode cL_law 807 = .ok (.iastore, 1) := by decide +kernel
theorem dL_law_808 : decode cL_law 808 = .ok (.aload_n 1, 1) := by decide +kernel
theorem dL_law_809 : decode cL_law 809 = .ok (.iload 19, 2) := by decide +kernel
theorem dL_law_811 : decode cL_law 811 = .ok (.aload 18, 2) := by decide +kernel
theorem dL_law_813 : decode cL_law 813 = .ok (.iload 19, 2) := by decide +kernel
theorem dL_law_815 : decode cL_law 815 = .ok (.iaload, 1) := by decide +kernel
theorem dL_law_816 : decode cL_law 816 = .ok (.invokevirtual 63, 3) := by decide +kernel
theorem dL_law_819 : decode cL_law 819 = .ok (.bipush 100, 2) := by decide +kernel
theorem dL_law_821 : decode cL_law 821 = .ok (.if_icmp .eq 5, 3) := by decide +kernel
theorem dL_law_824 : decode cL_law 824 = .ok (.iconst 0, 1) := by decide +kernel
theorem dL_law_825 : decode cL_law 825 = .ok (.ireturn, 1) := by decide +kernel
theorem dL_law_826 : decode cL_law 826 = .ok (.iinc 19 1, 3) := by decide +kernel
theorem dL_law_829 : decode cL_law 829 = .ok (.goto (-45), 3) := by decide +kernel
theorem dL_law_832 : decode cL_law 832 = .ok (.iload 17, 2) := by decide +kernel
theorem dL_law_834 : decode cL_law 834 = .ok (.i2l, 1) := by decide +kernel
theorem dL_law_835 : decode cL_law 835 = .ok (.lstore 19, 2) := by decide +kernel
theorem dL_law_837 : decode cL_law 837 = .ok (.iconst 0, 1) := by decide +kernel
theorem dL_law_838 : decode cL_law 838 = .ok (.istore 21, 2) := by decide +kernel
theorem dL_law_840 : decode cL_law 840 = .ok (.iload 21, 2) := by decide +kernel
theorem dL_law_842 : decode cL_law 842 = .ok (.bipush 6, 2) := by decide +kernel
theorem dL_law_844 : decode cL_law 844 = .ok (.if_icmp .ge 275, 3) := by decide +kernel
theorem dL_law_847 : decode cL_law 847 = .ok (.iconst 1, 1) := by decide +kernel
theorem dL_law_848 : decode cL_law 848 = .ok (.aload_n 0, 1) := by decide +kernel
theorem dL_law_849 : decode cL_law 849 = .ok (.iconst 2, 1) := by decide +kernel
theorem dL_law_850 : decode cL_law 850 = .ok (.iload 21, 2) := by decide +kernel
theorem dL_law_852 : decode cL_law 852 = .ok (.imul, 1) := by decide +kernel
theorem dL_law_853 : decode cL_law 853 = .ok (.sipush 190, 3) := by decide +kernel
theorem dL_law_856 : decode cL_law 856 = .ok (.iadd, 1) := by decide +kernel
theorem dL_law_857 : decode cL_law 857 = .ok (.bipush 100, 2) := by decide +kernel
theorem dL_law_859 : decode cL_law 859 = .ok (.invokestatic 14, 3) := by decide +kernel
theorem dL_law_862 : decode cL_law 862 = .ok (.iadd, 1) := by decide +kernel
theorem dL_law_863 : decode cL_law 863 = .ok (.istore 22, 2) := by decide +kernel
theorem dL_law_865 : decode cL_law 865 = .ok (.aload_n 0, 1) := by decide +kernel
theorem dL_law_866 : decode cL_law 866 = .ok (.iconst 2, 1) := by decide +kernel
theorem dL_law_867 : decode cL_law 867 = .ok (.iload 21, 2) := by decide +kernel
theorem dL_law_869 : decode cL_law 869 = .ok (.imul, 1) := by decide +kernel
theorem dL_law_870 : decode cL_law 870 = .ok (.sipush 191, 3) := by decide +kernel
theorem dL_law_873 : decode cL_law 873 = .ok (.iadd, 1) := by decide +kernel
theorem dL_law_874 : decode cL_law 874 = .ok (.iload_n 3, 1) := by decide +kernel
theorem dL_law_875 : decode cL_law 875 = .ok (.invokestatic 14, 3) := by decide +kernel
theorem dL_law_878 : decode cL_law 878 = .ok (.istore 23, 2) := by decide +kernel
theorem dL_law_880 : decode cL_law 880 = .ok (.iconst 0, 1) := by decide +kernel
theorem dL_law_881 : decode cL_law 881 = .ok (.istore 24, 2) := by decide +kernel
theorem dL_law_883 : decode cL_law 883 = .ok (.iconst 0, 1) := by decide +kernel
theorem dL_law_884 : decode cL_law 884 = .ok (.istore 25, 2) := by decide +kernel
theorem dL_law_886 : decode cL_law 886 = .ok (.iconst 0, 1) := by decide +kernel
theorem dL_law_887 : decode cL_law 887 = .ok (.istore 26, 2) := by decide +kernel
theorem dL_law_889 : decode cL_law 889 = .ok (.iload 26, 2) := by decide +kernel
theorem dL_law_891 : decode cL_law 891 = .ok (.iconst 4, 1) := by decide +kernel
theorem dL_law_892 : decode cL_law 892 = .ok (.if_icmp .ge 93, 3) := by decide +kernel
theorem dL_law_895 : decode cL_law 895 = .ok (.aload 18, 2) := by decide +kernel
theorem dL_law_897 : decode cL_law 897 = .ok (.iload 26, 2) := by decide +kernel
theorem dL_law_899 : decode cL_law 899 = .ok (.iaload, 1) := by decide +kernel
theorem dL_law_900 : decode cL_law 900 = .ok (.iload 22, 2) := by decide +kernel
theorem dL_law_902 : decode cL_law 902 = .ok (.if_icmp .lt 7, 3) := by decide +kernel
theorem dL_law_905 : decode cL_law 905 = .ok (.iconst 1, 1) := by decide +kernel
theorem dL_law_906 : decode cL_law 906 = .ok (.goto 4, 3) := by decide +kernel
theorem dL_law_909 : decode cL_law 909 = .ok (.iconst 0, 1) := by decide +kernel
theorem dL_law_910 : decode cL_law 910 = .ok (.istore 27, 2) := by decide +kernel
theorem dL_law_912 : decode cL_law 912 = .ok (.iload 24, 2) := by decide +kernel
theorem dL_law_914 : decode cL_law 914 = .ok (.iload 27, 2) := by decide +kernel
theorem dL_law_916 : decode cL_law 916 = .ok (.ifCond .eq 7, 3) := by decide +kernel
theorem dL_law_919 : decode cL_law 919 = .ok (.iconst 1, 1) := by decide +kernel
theorem dL_law_920 : decode cL_law 920 = .ok (.goto 4, 3) := by decide +kernel
theorem dL_law_923 : decode cL_law 923 = .ok (.iconst 0, 1) := by decide +kernel
theorem dL_law_924 : decode cL_law 924 = .ok (.iadd, 1) := by decide +kernel
theorem dL_law_925 : decode cL_law 925 = .ok (.istore 24, 2) := by decide +kernel
theorem dL_law_927 : decode cL_law 927 = .ok (.aload 13, 2) := by decide +kernel
theorem dL_law_929 : decode cL_law 929 = .ok (.bipush 8, 2) := by decide +kernel
theorem dL_law_931 : decode cL_law 931 = .ok (.iload 26, 2) := by decide +kernel
theorem dL_law_933 : decode cL_law 933 = .ok (.imul, 1) := by decide +kernel
theorem dL_law_934 : decode cL_law 934 = .ok (.iload 23, 2) := by decide +kernel
theorem dL_law_936 : decode cL_law 936 = .ok (.iadd, 1) := by decide +kernel
theorem dL_law_937 : decode cL_law 937 = .ok (.iaload, 1) := by decide +kernel
theorem dL_law_938 : decode cL_law 938 = .ok (.sipush 5000, 3) := by decide +kernel
theorem dL_law_941 : decode cL_law 941 = .ok (.if_icmp .le 9, 3) := by decide +kernel
theorem dL_law_944 : decode cL_law 944 = .ok (.sipush 5000, 3) := by decide +kernel
theorem dL_law_947 : decode cL_law 947 = .ok (.goto 14, 3) := by decide +kernel
theorem dL_law_950 : decode cL_law 950 = .ok (.aload 13, 2) := by decide +kernel
theorem dL_law_952 : decode cL_law 952 = .ok (.bipush 8, 2) := by decide +kernel
theorem dL_law_954 : decode cL_law 954 = .ok (.iload 26, 2) := by decide +kernel
theorem dL_law_956 : decode cL_law 956 = .ok (.imul, 1) := by decide +kernel
theorem dL_law_957 : decode cL_law 957 = .ok (.iload 23, 2) := by decide +kernel
theorem dL_law_959 : decode cL_law 959 = .ok (.iadd, 1) := by decide +kernel
theorem dL_law_960 : decode cL_law 960 = .ok (.iaload, 1) := by decide +kernel
theorem dL_law_961 : decode cL_law 961 = .ok (.istore 28, 2) := by decide +kernel
theorem dL_law_963 : decode cL_law 963 = .ok (.iload 25, 2) := by decide +kernel
theorem dL_law_965 : decode cL_law 965 = .ok (.iload 27, 2) := by decide +kernel
theorem dL_law_967 : decode cL_law 967 = .ok (.ifCond .eq 8, 3) := by decide +kernel
theorem dL_law_970 : decode cL_law 970 = .ok (.iload 28, 2) := by decide +kernel
theorem dL_law_972 : decode cL_law 972 = .ok (.goto 4, 3) := by decide +kernel
theorem dL_law_975 : decode cL_law 975 = .ok (.iconst 0, 1) := by decide +kernel
theorem dL_law_976 : decode cL_law 976 = .ok (.iadd, 1) := by decide +kernel
theorem dL_law_977 : decode cL_law 977 = .ok (.istore 25, 2) := by decide +kernel
theorem dL_law_979 : decode cL_law 979 = .ok (.iinc 26 1, 3) := by decide +kernel
theorem dL_law_982 : decode cL_law 982 = .ok (.goto (-93), 3) := by decide +kernel
theorem dL_law_985 : decode cL_law 985 = .ok (.aload_n 1, 1) := by decide +kernel
theorem dL_law_986 : decode cL_law 986 = .ok (.iload 23, 2) := by decide +kernel
theorem dL_law_988 : decode cL_law 988 = .ok (.iload 22, 2) := by decide +kernel
theorem dL_law_990 : decode cL_law 990 = .ok (.iload 12, 2) := by decide +kernel
theorem dL_law_992 : decode cL_law 992 = .ok (.invokevirtual 66, 3) := by decide +kernel
theorem dL_law_995 : decode cL_law 995 = .ok (.istore 26, 2) := by decide +kernel
theorem dL_law_997 : decode cL_law 997 = .ok (.iload 24, 2) := by decide +kernel
theorem dL_law_999 : decode cL_law 999 = .ok (.iconst 2, 1) := by decide +kernel
theorem dL_law_1000 : decode cL_law 1000 = .ok (.if_icmp .ge 12, 3) := by decide +kernel
theorem dL_law_1003 : decode cL_law 1003 = .ok (.iload 26, 2) := by decide +kernel
theorem dL_law_1005 : decode cL_law 1005 = .ok (.ldc 69, 2) := by decide +kernel
theorem dL_law_1007 : decode cL_law 1007 = .ok (.if_icmp .eq 106, 3) := by decide +kernel
theorem dL_law_1010 : decode cL_law 1010 = .ok (.iconst 0, 1) := by decide +kernel
theorem dL_law_1011 : decode cL_law 1011 = .ok (.ireturn, 1) := by decide +kernel
theorem dL_law_1012 : decode cL_law 1012 = .ok (.lload 19, 2) := by decide +kernel
theorem dL_law_1014 : decode cL_law 1014 = .ok (.ldc2_w 70, 3) := by decide +kernel
theorem dL_law_1017 : decode cL_law 1017 = .ok (.lmul, 1) := by decide +kernel
theorem dL_law_1018 : decode cL_law 1018 = .ok (.ldc2_w 72, 3) := by decide +kernel
theorem dL_law_1021 : decode cL_law 1021 = .ok (.lrem, 1) := by decide +kernel
theorem dL_law_1022 : decode cL_law 1022 = .ok (.lstore 19, 2) := by decide +kernel
theorem dL_law_1024 : decode cL_law 1024 = .ok (.lload 19, 2) := by decide +kernel
theorem dL_law_1026 : decode cL_law 1026 = .ok (.ldc2_w 74, 3) := by decide +kernel
theorem dL_law_1029 : decode cL_law 1029 = .ok (.lrem, 1) := by decide +kernel
theorem dL_law_1030 : decode cL_law 1030 = .ok (.l2i, 1) := by decide +kernel
theorem dL_law_1031 : decode cL_law 1031 = .ok (.sipush 1000, 3) := by decide +kernel
theorem dL_law_1034 : decode cL_law 1034 = .ok (.isub, 1) := by decide +kernel
theorem dL_law_1035 : decode cL_law 1035 = .ok (.istore 27, 2) := by decide +kernel
theorem dL_law_1037 : decode cL_law 1037 = .ok (.iload 26, 2) := by decide +kernel
theorem dL_law_1039 : decode cL_law 1039 = .ok (.iload 25, 2) := by decide +kernel
theorem dL_law_1041 : decode cL_law 1041 = .ok (.iload 27, 2) := by decide +kernel
theorem dL_law_1043 : decode cL_law 1043 = .ok (.bipush 100, 2) := by decide +kernel
theorem dL_law_1045 : decode cL_law 1045 = .ok (.imul, 1) := by decide +kernel
theorem dL_law_1046 : decode cL_law 1046 = .ok (.iload 22, 2) := by decide +kernel
theorem dL_law_1048 : decode cL_law 1048 = .ok (.idiv, 1) := by decide +kernel
theorem dL_law_1049 : decode cL_law 1049 = .ok (.iadd, 1) := by decide +kernel
theorem dL_law_1050 : decode cL_law 1050 = .ok (.if_icmp .eq 5, 3) := by decide +kernel
theorem dL_law_1053 : decode cL_law 1053 = .ok (.iconst 0, 1) := by decide +kernel
theorem dL_law_1054 : decode cL_law 1054 = .ok (.ireturn, 1) := by decide +kernel
theorem dL_law_1055 : decode cL_law 1055 = .ok (.iconst 0, 1) := by decide +kernel
theorem dL_law_1056 : decode cL_law 1056 = .ok (.istore 28, 2) := by decide +kernel
theorem dL_law_1058 : decode cL_law 1058 = .ok (.iload 28, 2) := by decide +kernel
theorem dL_law_1060 : decode cL_law 1060 = .ok (.iconst 4, 1) := by decide +kernel
theorem dL_law_1061 : decode cL_law 1061 = .ok (.if_icmp .ge 52, 3) := by decide +kernel
theorem dL_law_1064 : decode cL_law 1064 = .ok (.aload 18, 2) := by decide +kernel
theorem dL_law_1066 : decode cL_law 1066 = .ok (.iload 28, 2) := by decide +kernel
theorem dL_law_1068 : decode cL_law 1068 = .ok (.dup2, 1) := by decide +kernel
theorem dL_law_1069 : decode cL_law 1069 = .ok (.iaload, 1) := by decide +kernel
theorem dL_law_1070 : decode cL_law 1070 = .ok (.aload 18, 2) := by decide +kernel
theorem dL_law_1072 : decode cL_law 1072 = .ok (.iload 28, 2) := by decide +kernel
theorem dL_law_1074 : decode cL_law 1074 = .ok (.iaload, 1) := by decide +kernel
theorem dL_law_1075 : decode cL_law 1075 = .ok (.iload 22, 2) := by decide +kernel
theorem dL_law_1077 : decode cL_law 1077 = .ok (.if_icmp .lt 8, 3) := by decide +kernel
theorem dL_law_1080 : decode cL_law 1080 = .ok (.iload 22, 2) := by decide +kernel
theorem dL_law_1082 : decode cL_law 1082 = .ok (.goto 4, 3) := by decide +kernel
theorem dL_law_1085 : decode cL_law 1085 = .ok (.iconst 0, 1) := by decide +kernel
theorem dL_law_1086 : decode cL_law 1086 = .ok (.isub, 1) := by decide +kernel
theorem dL_law_1087 : decode cL_law 1087 = .ok (.iastore, 1) := by decide +kernel
theorem dL_law_1088 : decode cL_law 1088 = .ok (.aload_n 1, 1) := by decide +kernel
theorem dL_law_1089 : decode cL_law 1089 = .ok (.bipush 30, 2) := by decide +kernel
theorem dL_law_1091 : decode cL_law 1091 = .ok (.iload 28, 2) := by decide +kernel
theorem dL_law_1093 : decode cL_law 1093 = .ok (.iadd, 1) := by decide +kernel
theorem dL_law_1094 : decode cL_law 1094 = .ok (.invokevirtual 8, 3) := by decide +kernel
theorem dL_law_1097 : decode cL_law 1097 = .ok (.aload 18, 2) := by decide +kernel
theorem dL_law_1099 : decode cL_law 1099 = .ok (.iload 28, 2) := by decide +kernel
theorem dL_law_1101 : decode cL_law 1101 = .ok (.iaload, 1) := by decide +kernel
theorem dL_law_1102 : decode cL_law 1102 = .ok (.if_icmp .eq 5, 3) := by decide +kernel
theorem dL_law_1105 : decode cL_law 1105 = .ok (.iconst 0, 1) := by decide +kernel
theorem dL_law_1106 : decode cL_law 1106 = .ok (.ireturn, 1) := by decide +kernel
theorem dL_law_1107 : decode cL_law 1107 = .ok (.iinc 28 1, 3) := by decide +kernel
theorem dL_law_1110 : decode cL_law 1110 = .ok (.goto (-52), 3) := by decide +kernel
theorem dL_law_1113 : decode cL_law 1113 = .ok (.iinc 21 1, 3) := by decide +kernel
theorem dL_law_1116 : decode cL_law 1116 = .ok (.goto (-276), 3) := by decide +kernel
theorem dL_law_1119 : decode cL_law 1119 = .ok (.aload_n 1, 1) := by decide +kernel
theorem dL_law_1120 : decode cL_law 1120 = .ok (.iconst 0, 1) := by decide +kernel
theorem dL_law_1121 : decode cL_law 1121 = .ok (.iload 10, 2) := by decide +kernel
theorem dL_law_1123 : decode cL_law 1123 = .ok (.invokevirtual 76, 3) := by decide +kernel
theorem dL_law_1126 : decode cL_law 1126 = .ok (.iload 5, 2) := by decide +kernel
theorem dL_law_1128 : decode cL_law 1128 = .ok (.iload 11, 2) := by decide +kernel
theorem dL_law_1130 : decode cL_law 1130 = .ok (.isub, 1) := by decide +kernel
theorem dL_law_1131 : decode cL_law 1131 = .ok (.if_icmp .ne 28, 3) := by decide +kernel
theorem dL_law_1134 : decode cL_law 1134 = .ok (.aload_n 1, 1) := by decide +kernel
theorem dL_law_1135 : decode cL_law 1135 = .ok (.bipush 7, 2) := by decide +kernel
theorem dL_law_1137 : decode cL_law 1137 = .ok (.invokevirtual 8, 3) := by decide +kernel
theorem dL_law_1140 : decode cL_law 1140 = .ok (.aload_n 2, 1) := by decide +kernel
theorem dL_law_1141 : decode cL_law 1141 = .ok (.bipush 7, 2) := by decide +kernel
theorem dL_law_1143 : decode cL_law 1143 = .ok (.invokevirtual 8, 3) := by decide +kernel
theorem dL_law_1146 : decode cL_law 1146 = .ok (.if_icmp .ne 13, 3) := by decide +kernel
theorem dL_law_1149 : decode cL_law 1149 = .ok (.aload_n 1, 1) := by decide +kernel
theorem dL_law_1150 : decode cL_law 1150 = .ok (.iconst 0, 1) := by decide +kernel
theorem dL_law_1151 : decode cL_law 1151 = .ok (.iload 10, 2) := by decide +kernel
theorem dL_law_1153 : decode cL_law 1153 = .ok (.invokevirtual 76, 3) := by decide +kernel
theorem dL_law_1156 : decode cL_law 1156 = .ok (.ifCond .eq 5, 3) := by decide +kernel
theorem dL_law_1159 : decode cL_law 1159 = .ok (.iconst 0, 1) := by decide +kernel
theorem dL_law_1160 : decode cL_law 1160 = .ok (.ireturn, 1) := by decide +kernel
theorem dL_law_1161 : decode cL_law 1161 = .ok (.iconst 0, 1) := by decide +kernel
theorem dL_law_1162 : decode cL_law 1162 = .ok (.istore 21, 2) := by decide +kernel
theorem dL_law_1164 : decode cL_law 1164 = .ok (.iload 21, 2) := by decide +kernel
theorem dL_law_1166 : decode cL_law 1166 = .ok (.iconst 4, 1) := by decide +kernel
theorem dL_law_1167 : decode cL_law 1167 = .ok (.if_icmp .ge 49, 3) := by decide +kernel
theorem dL_law_1170 : decode cL_law 1170 = .ok (.iconst 0, 1) := by decide +kernel
theorem dL_law_1171 : decode cL_law 1171 = .ok (.istore 22, 2) := by decide +kernel
theorem dL_law_1173 : decode cL_law 1173 = .ok (.iload 22, 2) := by decide +kernel
theorem dL_law_1175 : decode cL_law 1175 = .ok (.iload_n 3, 1) := by decide +kernel
theorem dL_law_1176 : decode cL_law 1176 = .ok (.if_icmp .ge 34, 3) := by decide +kernel
theorem dL_law_1179 : decode cL_law 1179 = .ok (.aload_n 1, 1) := by decide +kernel
theorem dL_law_1180 : decode cL_law 1180 = .ok (.iload 21, 2) := by decide +kernel
theorem dL_law_1182 : decode cL_law 1182 = .ok (.iload 22, 2) := by decide +kernel
theorem dL_law_1184 : decode cL_law 1184 = .ok (.iload 12, 2) := by decide +kernel
theorem dL_law_1186 : decode cL_law 1186 = .ok (.invokevirtual 42, 3) := by decide +kernel
theorem dL_law_1189 : decode cL_law 1189 = .ok (.aload_n 2, 1) := by decide +kernel
theorem dL_law_1190 : decode cL_law 1190 = .ok (.iload 21, 2) := by decide +kernel
theorem dL_law_1192 : decode cL_law 1192 = .ok (.iload 22, 2) := by decide +kernel
theorem dL_law_1194 : decode cL_law 1194 = .ok (.iload 12, 2) := by decide +kernel
theorem dL_law_1196 : decode cL_law 1196 = .ok (.invokevirtual 42, 3) := by decide +kernel
theorem dL_law_1199 : decode cL_law 1199 = .ok (.if_icmp .eq 5, 3) := by decide +kernel
theorem dL_law_1202 : decode cL_law 1202 = .ok (.iconst 0, 1) := by decide +kernel
theorem dL_law_1203 : decode cL_law 1203 = .ok (.ireturn, 1) := by decide +kernel
theorem dL_law_1204 : decode cL_law 1204 = .ok (.iinc 22 1, 3) := by decide +kernel
theorem dL_law_1207 : decode cL_law 1207 = .ok (.goto (-34), 3) := by decide +kernel
theorem dL_law_1210 : decode cL_law 1210 = .ok (.iinc 21 1, 3) := by decide +kernel
theorem dL_law_1213 : decode cL_law 1213 = .ok (.goto (-49), 3) := by decide +kernel
theorem dL_law_1216 : decode cL_law 1216 = .ok (.aload_n 1, 1) := by decide +kernel
theorem dL_law_1217 : decode cL_law 1217 = .ok (.iconst 1, 1) := by decide +kernel
theorem dL_law_1218 : decode cL_law 1218 = .ok (.iconst (-1), 1) := by decide +kernel
theorem dL_law_1219 : decode cL_law 1219 = .ok (.invokevirtual 76, 3) := by decide +kernel
theorem dL_law_1222 : decode cL_law 1222 = .ok (.aload_n 2, 1) := by decide +kernel
theorem dL_law_1223 : decode cL_law 1223 = .ok (.iconst 1, 1) := by decide +kernel
theorem dL_law_1224 : decode cL_law 1224 = .ok (.iconst (-1), 1) := by decide +kernel
theorem dL_law_1225 : decode cL_law 1225 = .ok (.invokevirtual 76, 3) := by decide +kernel
theorem dL_law_1228 : decode cL_law 1228 = .ok (.if_icmp .ne 7, 3) := by decide +kernel
theorem dL_law_1231 : decode cL_law 1231 = .ok (.iconst 1, 1) := by decide +kernel
theorem dL_law_1232 : decode cL_law 1232 = .ok (.goto 4, 3) := by decide +kernel
theorem dL_law_1235 : decode cL_law 1235 = .ok (.iconst 0, 1) := by decide +kernel
theorem dL_law_1236 : decode cL_law 1236 = .ok (.ireturn, 1) := by decide +kernel
end
section
/-! THE MEMORY that the walks speak of: a shape (kind and length of each cell, the references, the heap's end) and the numbers that the cells hold. -/
abbrev kdS : Type := (Nat → Nat × Nat) × (Nat → Nat → Option Nat) × Nat
abbrev kdM : Type := (Nat → Nat → Int32) × (Nat → Nat → Int64)
abbrev kdE : Type := Launch × va_G × (Nat → ClassId) × Nat
/-- the fields' kinds: 0 an int, 2 a reference -/
def kdT : List (List Nat) := [[2, 2, 0, 2, 2, 2, 2, 2], [2, 2, 2], [2, 2, 2, 2, 0, 0], [0, 2, 2, 2, 2, 0, 2, 0, 0], [2, 2, 2, 2, 0], [2, 2, 2, 2, 2, 2, 2, 2, 0], [2, 0], [2, 2], [2, 2, 0, 2, 2, 2, 2, 2], [2, 2, 2, 2, 2, 2, 2, 2, 2, 0, 0, 0], [2, 2, 2, 2], [2, 2, 2, 2, 2, 2, 2, 2, 2, 2, 2, 2], []]
def kdv (k j : Nat) : Nat := if k < 13 then (kdT.getD k []).getD j 2 else if k = 13 then 0 else if k = 14 then 1 else if k = 15 then 0 else 2
def kdV (E : kdE) (G : kdS) (σ : kdM) (a j : Nat) : Value := if kdv (G.1 a).1 j = 0 then .int (σ.1 a j) else if kdv (G.1 a).1 j = 1 then .long (σ.2 a j) else va_rf ((G.2.1 a j).map (fun b => E.2.2.2 + b))
/-- a reference: addresses are counted from the heap's size at the law's entry on -/
abbrev kr (E : kdE) (a : Nat) : Value := .ref (E.2.2.2 + a)
def kdC (E : kdE) (G : kdS) (σ : kdM) (a : Nat) (H : Heap) : Prop :=
  ((G.1 a).1 < 13 → ∃ r : vw_C, vwCl[(G.1 a).1]? = some r ∧ t_OB (E.2.2.2 + a) (E.2.1.1 (G.1 a).1) r.2.2 (E.2.1.2 (G.1 a).1) H (kdV E G σ a)) ∧
  (13 ≤ (G.1 a).1 → H[E.2.2.2 + a]? = some (arrV (E.2.2.1 (G.1 a).1) (G.1 a).2 (kdV E G σ a)))
def kdR (E : kdE) (G : kdS) (σ : kdM) (H : Heap) : Prop := H.size = E.2.2.2 + G.2.2 ∧ ∀ a, (G.1 a).1 < 20 → kdC E G σ a H
def kdty (cy : Nat → ClassId) : List (ClassId × FieldType) := [(cy 13, .int), (cy 14, .long), (cy 15, .boolean), (cy 16, .object "KeyDesk$Row"), (cy 17, .object "KeyDesk$Tongue"), (cy 18, .array .int), (cy 19, .array .long)]
def u2 {α : Type} (f : Nat → Nat → α) (a k : Nat) (v : α) : Nat → Nat → α := fun b j => if b = a ∧ j = k then v else f b j
theorem u2_same {α : Type} (f : Nat → Nat → α) (a k : Nat) (v : α) : u2 f a k v a k = v := if_pos ⟨rfl, rfl⟩
theorem u2_ne {α : Type} (f : Nat → Nat → α) (a k : Nat) (v : α) {b : Nat} (j : Nat) (h : b ≠ a) : u2 f a k v b j = f b j := if_neg (fun q => h q.1)
theorem u2_nk {α : Type} (f : Nat → Nat → α) (a k : Nat) (v : α) {b j : Nat} (h : j ≠ k) : u2 f a k v b j = f b j := if_neg (fun q => h q.2)
theorem u2_row {α : Type} (f : Nat → Nat → α) (a k : Nat) (v : α) {b : Nat} (h : b ≠ a) : u2 f a k v b = f b := funext fun j => u2_ne f a k v j h
/-! what a walk does, said of the memory alone -/
section KDP
variable {α β : Type}
def rt (x : α) : kdM → Option (α × kdM) := fun σ => some (x, σ)
def cnd (c : Prop) [Decidable c] (k1 k2 : kdM → Option β) : kdM → Option β := fun σ => if c then k1 σ else k2 σ
def ltI (x : Int32) (f : Int32 → kdM → Option β) : kdM → Option β := f x
def ltL (x : Int64) (f : Int64 → kdM → Option β) : kdM → Option β := f x
def kcl (g : kdM → Option (α × kdM)) (f : α → kdM → Option β) : kdM → Option β := fun σ => match g σ with
  | some r => f r.1 r.2
  | none => none
def kcv (G : kdS) (ci b : Nat) (g : kdM → Option (α × kdM)) (f : α → kdM → Option β) : kdM → Option β := fun σ => if (G.1 b).1 = ci then kcl g f σ else none
def nz (y : Int32) (f : kdM → Option β) : kdM → Option β := fun σ => if y = 0 then none else f σ
def nzL (y : Int64) (f : kdM → Option β) : kdM → Option β := fun σ => if y = 0 then none else f σ
def inb (i : Int32) (n : Nat) : Prop := 0 ≤ i.toInt ∧ i.toInt < (n : Int)
def ix (i : Int32) : Nat := i.toInt.toNat
def gI (G : kdS) (ci k a : Nat) (f : Int32 → kdM → Option β) : kdM → Option β := fun σ => if (G.1 a).1 = ci then f (σ.1 a k) σ else none
def gR (G : kdS) (ci k a : Nat) (f : Nat → kdM → Option β) : kdM → Option β := fun σ => if (G.1 a).1 = ci then (match G.2.1 a k with
  | some b => f b σ
  | none => none) else none
def sI (G : kdS) (ci k a : Nat) (v : Int32) (f : kdM → Option β) : kdM → Option β := fun σ => if (G.1 a).1 = ci then f (u2 σ.1 a k v, σ.2) else none
def aI (G : kdS) (a : Nat) (i : Int32) (f : Int32 → kdM → Option β) : kdM → Option β := fun σ => if (G.1 a).1 = 13 ∧ 0 ≤ i.toInt ∧ i.toInt < ((G.1 a).2 : Int) then f (σ.1 a (ix i)) σ else none
def aZ (G : kdS) (a : Nat) (i : Int32) (f : Int32 → kdM → Option β) : kdM → Option β := fun σ => if (G.1 a).1 = 15 ∧ 0 ≤ i.toInt ∧ i.toInt < ((G.1 a).2 : Int) then f (σ.1 a (ix i)) σ else none
def aL (G : kdS) (a : Nat) (i : Int32) (f : Int64 → kdM → Option β) : kdM → Option β := fun σ => if (G.1 a).1 = 14 ∧ 0 ≤ i.toInt ∧ i.toInt < ((G.1 a).2 : Int) then f (σ.2 a (ix i)) σ else none
def aN (G : kdS) (a : Nat) (f : Int32 → kdM → Option β) : kdM → Option β := fun σ => if (G.1 a).1 = 13 then f (Int32.ofNat (G.1 a).2) σ else none
def aR (G : kdS) (t a : Nat) (i : Int32) (f : Nat → kdM → Option β) : kdM → Option β := fun σ => if (G.1 a).1 = t ∧ 0 ≤ i.toInt ∧ i.toInt < ((G.1 a).2 : Int) then (match G.2.1 a (ix i) with
  | some b => f b σ
  | none => none) else none
def tI (G : kdS) (a : Nat) (i v : Int32) (f : kdM → Option β) : kdM → Option β := fun σ => if (G.1 a).1 = 13 ∧ 0 ≤ i.toInt ∧ i.toInt < ((G.1 a).2 : Int) then f (u2 σ.1 a (ix i) v, σ.2) else none
def tZ (G : kdS) (a : Nat) (i v : Int32) (f : kdM → Option β) : kdM → Option β := fun σ => if (G.1 a).1 = 15 ∧ 0 ≤ i.toInt ∧ i.toInt < ((G.1 a).2 : Int) then f (u2 σ.1 a (ix i) (vp_nar .boolean v), σ.2) else none
def tL (G : kdS) (a : Nat) (i : Int32) (v : Int64) (f : kdM → Option β) : kdM → Option β := fun σ => if (G.1 a).1 = 14 ∧ 0 ≤ i.toInt ∧ i.toInt < ((G.1 a).2 : Int) then f (σ.1, u2 σ.2 a (ix i) v) else none
def kmax (x y : Int32) : Int32 := if x < y then y else x
def kmin (x y : Int32) : Int32 := if y < x then y else x
def kabs (x : Int32) : Int32 := if 0 ≤ x then x else 0 - x
def krem (x y : Int32) : Int32 := x - x / y * y
def kremL (x y : Int64) : Int64 := x - x / y * y
/-- a loop: so many rounds at most -/
def lp {τ : Type} (bot : τ) (F : τ → τ) : Nat → τ
  | 0 => bot
  | n + 1 => F (lp bot F n)
theorem lp_ind {τ : Type} {bot : τ} {F : τ → τ} {Q : τ → Prop} (h0 : Q bot) (hs : ∀ k, Q k → Q (F k)) : ∀ n, Q (lp bot F n)
  | 0 => h0
  | n + 1 => hs _ (lp_ind h0 hs n)
theorem lp_indN {τ : Type} {bot : τ} {F : τ → τ} {Q : Nat → τ → Prop} (h0 : Q 0 bot) (hs : ∀ n k, Q n k → Q (n + 1) (F k)) : ∀ n, Q n (lp bot F n)
  | 0 => h0
  | n + 1 => hs n _ (lp_indN h0 hs n)
theorem lp_succ {τ : Type} (bot : τ) (F : τ → τ) (n : Nat) : lp bot F (n + 1) = F (lp bot F n) := rfl
def NN : Nat := 1000000
end KDP

/-! the words that every method carries: those of the tables that stay, and the links to nest mates -/
def kdtb : List Cond := lw_tbl.filter goodWord
theorem kdtb_mem {w : Cond} (i : Nat) (h : lw_tbl[i]? = some w) (hg : goodWord w = true) : w ∈ kdtb := List.mem_filter.mpr ⟨List.mem_of_getElem? h, hg⟩
theorem kdtb_good : ∀ w ∈ kdtb, goodWord w = true := fun w h => (List.mem_filter.mp h).2
theorem kdG {y : MethodName} {bytes : ByteArray} {maxL : Nat} {ret : Option FieldType} (h : Cond.code y bytes maxL ret ∈ kdtb) : GoodIn kdtb (Cond.code y bytes maxL ret :: kdtb) := by
  intro w hw
  have hm : w ∈ kdtb := by
    rcases List.mem_cons.mp hw with e | e
    · rw [e]; exact h
    · exact e
  exact ⟨hm, good_of_word (kdtb_good w hm)⟩
abbrev kdNL : Type := String × Nat × MethodName × String
def kdnw (q : kdNL) : Cond := .methodLinkNest q.1 q.2.1 q.2.2.1 q.2.2.2
def kdN : List kdNL := [
  ("KeyDesk", 30, ({ cls := "KeyDesk$Line", name := "<init>", desc := "()V" } : Jvm.MethodName), "KeyDesk"),
  ("KeyDesk", 44, ({ cls := "KeyDesk$Slips", name := "<init>", desc := "()V" } : Jvm.MethodName), "KeyDesk"),
  ("KeyDesk", 51, ({ cls := "KeyDesk$Guesses", name := "<init>", desc := "()V" } : Jvm.MethodName), "KeyDesk"),
  ("KeyDesk", 76, ({ cls := "KeyDesk$Hands", name := "<init>", desc := "()V" } : Jvm.MethodName), "KeyDesk")]
def kdW (U : State) : Prop := ∀ q ∈ kdN, va_Nw (kdnw q) U
theorem kdW.warm {s U : State} (hW : s.WarmedH U.vm) (h : kdW s) : kdW U := fun q hq => va_Nw.warmM hW (h q hq)
theorem kdW.same {u U : State} (e : u.vm = U.vm) (h : kdW u) : kdW U := fun q hq => va_Nw.same rfl e (h q hq)
/-! the judgement -/
abbrev kdA : Type := Program × Env × Room × State × MethodId × Array Value × List Frame × Method × Code
def kdrm (h : Nat) : Room := { frames := h, cells := 0, slots := 0, locals := 40 * h }
def kdQ (E : kdE) (G : kdS) (z : Option Value × kdM) : Array Value → State → Outcome → State → Prop := fun _ st o t => o = .returned z.1 ∧ kdR E G z.2 t.heap ∧ va_F (fun q => E.2.2.2 ≤ q) st t
abbrev kdZ : Type := (Option Value × kdM) ⊕ (Nat × Nat)
/-- the judgement, for any relation of the heap, any end, any room used so far -/
def SWg (E : kdE) (A : kdA) (nL : Nat) (Q : State → Prop) (Rl : Heap → Prop) (c0 s0 pc : Nat) (L : List (Nat × Value)) (st : List Value) : Prop :=
  match A with
  | (p, e, R, s, m, args, below, meth, c) => ∀ (H : Heap) (locs : List Loc) (ls : Array Slot), lv_has ls nL L → Rl H → va_S (fun q => E.2.2.2 ≤ q) s.heap H locs →
    W p E.1 e R s m args below meth c H locs c0 s0 Q (F0 m pc ls st)
def kdEnd (E : kdE) (G : kdS) (z : kdZ) (A : kdA) : State → Prop := match A with
  | (_, _, _, s, _, args, below, _, _) => match z with
    | .inl z => MQ below (kdQ E G z) args s 0 0 (fun q => E.2.2.2 ≤ q)
    | .inr _ => fun t => ∃ o, t.status = .running ∧ Ended t below o ∧ o = .returned (some (.int 1)) ∧ Framed s o t [] 600000 7302250
def kdzc : kdZ → Nat
  | .inl _ => 0
  | .inr n => n.1
def kdzs : kdZ → Nat
  | .inl _ => 0
  | .inr n => n.2
def kdRO (A : kdA) (c0 s0 : Nat) : Prop := match A with
  | (_, _, R, _, _, _, _, _, _) => c0 ≤ R.cells ∧ s0 ≤ R.slots
theorem kdz0 {A : kdA} {z : Option Value × kdM} : kdRO A (kdzc (.inl z)) (kdzs (.inl z)) := by
  obtain ⟨p, e, R, s, m, args, below, meth, c⟩ := A
  exact ⟨Nat.zero_le _, Nat.zero_le _⟩
def SW (E : kdE) (G : kdS) (z : kdZ) (A : kdA) (nL : Nat) (σ : kdM) (pc : Nat) (L : List (Nat × Value)) (st : List Value) : Prop := SWg E A nL (kdEnd E G z A) (kdR E G σ) (kdzc z) (kdzs z) pc L st
def kdX (E : kdE) (A : kdA) (cc : ByteArray) (nL : Nat) (own : String) (ret : Option FieldType) (h : Nat) : Prop :=
  match A with
  | (p, e, R, s, m, args, below, meth, c) => p.tables.exec = Jvm.exec ∧ c.code = cc ∧ c.maxLocals = nL ∧ s.vm.findClass own = some m.cls ∧ (∀ w ∈ kdtb, w.before args s = true) ∧ va_K E.2.1 vwCl (kdty E.2.2.1) s ∧ kdW s ∧ meth.locks = false ∧ meth.sig.returnType = ret ∧ h ≤ R.frames ∧ 40 * h ≤ R.locals
def Con (E : kdE) (G : kdS) (y : MethodName) (bytes : ByteArray) (maxL : Nat) (ret : Option FieldType) (h : Nat) (av : List Value) (σ : kdM) (z : Option Value × kdM) : Prop :=
  Met E.1 y (Cond.code y bytes maxL ret :: kdtb) (kdrm h) (va_Pc av (fun U => kdR E G σ U.heap ∧ va_K E.2.1 vwCl (kdty E.2.2.1) U ∧ kdW U)) (kdQ E G z) 0 0 (fun q => E.2.2.2 ≤ q)
theorem kdPre {E : kdE} {G : kdS} {av : List Value} {σ : kdM} {s : State} {H : Heap} (hR : kdR E G σ H) (hK : va_K E.2.1 vwCl (kdty E.2.2.1) s) (hN : kdW s) : PreS s H (va_Pc av (fun U => kdR E G σ U.heap ∧ va_K E.2.1 vwCl (kdty E.2.2.1) U ∧ kdW U)) av :=
  ⟨fun a U g mk q => ⟨q.1, q.2.1, va_K.moved (u := U) (U := U.calling g mk a) (Vm.Alike.refl U.vm) q.2.2.1, kdW.same (u := U) (U := U.calling g mk a) rfl q.2.2.2⟩, fun U hU hW => ⟨rfl, by rw [hU]; exact hR, va_K.moved hW.alike hK, kdW.warm hW hN⟩⟩
theorem kdC.kept {E : kdE} {G : kdS} {σ σ' : kdM} {a : Nat} {H H' : Heap} (h : kdC E G σ a H) (hq : H'[E.2.2.2 + a]? = H[E.2.2.2 + a]?) (h1 : σ'.1 a = σ.1 a) (h2 : σ'.2 a = σ.2 a) : kdC E G σ' a H' := by
  have e : kdV E G σ' a = kdV E G σ a := by funext j; simp only [kdV, h1, h2]
  refine ⟨fun hk => ?_, fun hk => ?_⟩
  · obtain ⟨r, q1, q2⟩ := h.1 hk
    exact ⟨r, q1, by rw [e]; exact q2.kept hq⟩
  · rw [hq, e]; exact h.2 hk
theorem kdR.set {E : kdE} {G : kdS} {σ σ' : kdM} {a : Nat} {H H' : Heap} (h : kdR E G σ H) (hz : H'.size = H.size) (hq : ∀ q : Nat, q ≠ E.2.2.2 + a → H'[q]? = H[q]?) (h1 : ∀ b, b ≠ a → σ'.1 b = σ.1 b) (h2 : ∀ b, b ≠ a → σ'.2 b = σ.2 b) (hc : kdC E G σ' a H') : kdR E G σ' H' := by
  refine ⟨hz.trans h.1, fun b hb => ?_⟩
  by_cases e : b = a
  · rw [e]; exact hc
  · exact (h.2 b hb).kept (hq _ (by omega)) (h1 b e) (h2 b e)

section KDR
variable {E : kdE} {G : kdS} {z : kdZ} {A : kdA} {Q : State → Prop} {Rl : Heap → Prop} {c0 s0 : Nat} {nL h : Nat} {σ : kdM} {pc : Nat} {L : List (Nat × Value)} {st : List Value} {cc : ByteArray} {own : String} {ret : Option FieldType}
theorem r_iconst {n : Int} {v : Int32} (hX : kdX E A cc nL own ret h) (hd : decode cc pc = .ok (.iconst n, 1)) (hv : Int32.ofInt n = v) (k : SWg E A nL Q Rl c0 s0 (pc + 1) L (.int v :: st)) : SWg E A nL Q Rl c0 s0 pc L st := by
  obtain ⟨p, e, R, s, m, args, below, meth, c⟩ := A
  intro H locs ls hl hR hS
  exact lv_iconst hX.1 hX.2.1 hd hv (k H locs ls hl hR hS)
theorem r_bipush {n : Int} {v : Int32} (hX : kdX E A cc nL own ret h) (hd : decode cc pc = .ok (.bipush n, 2)) (hv : (Int8.ofInt n).toInt32 = v) (k : SWg E A nL Q Rl c0 s0 (pc + 2) L (.int v :: st)) : SWg E A nL Q Rl c0 s0 pc L st := by
  obtain ⟨p, e, R, s, m, args, below, meth, c⟩ := A
  intro H locs ls hl hR hS
  exact lv_bipush hX.1 hX.2.1 hd hv (k H locs ls hl hR hS)
theorem r_sipush {n : Int} {v : Int32} (hX : kdX E A cc nL own ret h) (hd : decode cc pc = .ok (.sipush n, 3)) (hv : (Int16.ofInt n).toInt32 = v) (k : SWg E A nL Q Rl c0 s0 (pc + 3) L (.int v :: st)) : SWg E A nL Q Rl c0 s0 pc L st := by
  obtain ⟨p, e, R, s, m, args, below, meth, c⟩ := A
  intro H locs ls hl hR hS
  exact lv_sipush hX.1 hX.2.1 hd hv (k H locs ls hl hR hS)
theorem r_lconst {n : Fin 2} {v : Int64} (hX : kdX E A cc nL own ret h) (hd : decode cc pc = .ok (.lconst n, 1)) (hv : Int64.ofNat (n : Nat) = v) (k : SWg E A nL Q Rl c0 s0 (pc + 1) L (.long v :: st)) : SWg E A nL Q Rl c0 s0 pc L st := by
  obtain ⟨p, e, R, s, m, args, below, meth, c⟩ := A
  intro H locs ls hl hR hS
  exact lv_lconst hX.1 hX.2.1 hd hv (k H locs ls hl hR hS)
theorem r_ldc {i : Nat} {v : Int32} (hX : kdX E A cc nL own ret h) (hd : decode cc pc = .ok (.ldc i, 2)) (hc : Jvm.Cond.constant own i v ∈ kdtb) (k : SWg E A nL Q Rl c0 s0 (pc + 2) L (.int v :: st)) : SWg E A nL Q Rl c0 s0 pc L st := by
  obtain ⟨p, e, R, s, m, args, below, meth, c⟩ := A
  intro H locs ls hl hR hS
  exact lv_ldc hX.1 hX.2.1 hX.2.2.2.1 (hX.2.2.2.2.1 _ hc) hd (k H locs ls hl hR hS)
theorem r_ldc_w {i : Nat} {v : Int32} (hX : kdX E A cc nL own ret h) (hd : decode cc pc = .ok (.ldc_w i, 3)) (hc : Jvm.Cond.constant own i v ∈ kdtb) (k : SWg E A nL Q Rl c0 s0 (pc + 3) L (.int v :: st)) : SWg E A nL Q Rl c0 s0 pc L st := by
  obtain ⟨p, e, R, s, m, args, below, meth, c⟩ := A
  intro H locs ls hl hR hS
  exact lv_ldcw hX.1 hX.2.1 hX.2.2.2.1 (hX.2.2.2.2.1 _ hc) hd (k H locs ls hl hR hS)
theorem r_ldc2_w {i : Nat} {v : Int64} (hX : kdX E A cc nL own ret h) (hd : decode cc pc = .ok (.ldc2_w i, 3)) (hc : Jvm.Cond.constantLong own i v ∈ kdtb) (k : SWg E A nL Q Rl c0 s0 (pc + 3) L (.long v :: st)) : SWg E A nL Q Rl c0 s0 pc L st := by
  obtain ⟨p, e, R, s, m, args, below, meth, c⟩ := A
  intro H locs ls hl hR hS
  exact lv_ldc2 hX.1 hX.2.1 hX.2.2.2.1 (hX.2.2.2.2.1 _ hc) hd (k H locs ls hl hR hS)
theorem r_iload_n {q : Fin 4} {i : Nat} {x : Int32} (hX : kdX E A cc nL own ret h) (hd : decode cc pc = .ok (.iload_n q, 1)) (hi : (q : Nat) = i) (j : Nat) (hk : L[j]? = some (i, .int x)) (k : SWg E A nL Q Rl c0 s0 (pc + 1) L (.int x :: st)) : SWg E A nL Q Rl c0 s0 pc L st := by
  obtain ⟨p, e, R, s, m, args, below, meth, c⟩ := A
  intro H locs ls hl hR hS
  exact lv_iload_n hX.1 hX.2.1 hd hi (lv_at hl j hk) (k H locs ls hl hR hS)
theorem r_iload {i : Nat} {x : Int32} (hX : kdX E A cc nL own ret h) (hd : decode cc pc = .ok (.iload i, 2)) (j : Nat) (hk : L[j]? = some (i, .int x)) (k : SWg E A nL Q Rl c0 s0 (pc + 2) L (.int x :: st)) : SWg E A nL Q Rl c0 s0 pc L st := by
  obtain ⟨p, e, R, s, m, args, below, meth, c⟩ := A
  intro H locs ls hl hR hS
  exact lv_iload hX.1 hX.2.1 hd (lv_at hl j hk) (k H locs ls hl hR hS)
theorem r_istore_n {q : Fin 4} {i : Nat} {x : Int32} {L2 : List (Nat × Value)} (hX : kdX E A cc nL own ret h) (hd : decode cc pc = .ok (.istore_n q, 1)) (hi : (q : Nat) = i) (hn : i < nL) (hl2 : (i, .int x) :: L.filter (fun q => !(q.1 == i) && !(q.1 + 1 == i && q.2.category == 2)) = L2) (k : SWg E A nL Q Rl c0 s0 (pc + 1) L2 st) : SWg E A nL Q Rl c0 s0 pc L (.int x :: st) := by
  obtain ⟨p, e, R, s, m, args, below, meth, c⟩ := A
  intro H locs ls hl hR hS
  exact lv_istore_n hX.1 hX.2.1 hd hi hl hn hl2 (fun ls hl => k H locs ls hl hR hS)
theorem r_istore {i : Nat} {x : Int32} {L2 : List (Nat × Value)} (hX : kdX E A cc nL own ret h) (hd : decode cc pc = .ok (.istore i, 2)) (hn : i < nL) (hl2 : (i, .int x) :: L.filter (fun q => !(q.1 == i) && !(q.1 + 1 == i && q.2.category == 2)) = L2) (k : SWg E A nL Q Rl c0 s0 (pc + 2) L2 st) : SWg E A nL Q Rl c0 s0 pc L (.int x :: st) := by
  obtain ⟨p, e, R, s, m, args, below, meth, c⟩ := A
  intro H locs ls hl hR hS
  exact lv_istore hX.1 hX.2.1 hd hl hn hl2 (fun ls hl => k H locs ls hl hR hS)
theorem r_lload_n {q : Fin 4} {i : Nat} {x : Int64} (hX : kdX E A cc nL own ret h) (hd : decode cc pc = .ok (.lload_n q, 1)) (hi : (q : Nat) = i) (j : Nat) (hk : L[j]? = some (i, .long x)) (k : SWg E A nL Q Rl c0 s0 (pc + 1) L (.long x :: st)) : SWg E A nL Q Rl c0 s0 pc L st := by
  obtain ⟨p, e, R, s, m, args, below, meth, c⟩ := A
  intro H locs ls hl hR hS
  exact lv_lload_n hX.1 hX.2.1 hd hi (lv_at hl j hk) (k H locs ls hl hR hS)
theorem r_lload {i : Nat} {x : Int64} (hX : kdX E A cc nL own ret h) (hd : decode cc pc = .ok (.lload i, 2)) (j : Nat) (hk : L[j]? = some (i, .long x)) (k : SWg E A nL Q Rl c0 s0 (pc + 2) L (.long x :: st)) : SWg E A nL Q Rl c0 s0 pc L st := by
  obtain ⟨p, e, R, s, m, args, below, meth, c⟩ := A
  intro H locs ls hl hR hS
  exact lv_lload hX.1 hX.2.1 hd (lv_at hl j hk) (k H locs ls hl hR hS)
theorem r_lstore_n {q : Fin 4} {i : Nat} {x : Int64} {L2 : List (Nat × Value)} (hX : kdX E A cc nL own ret h) (hd : decode cc pc = .ok (.lstore_n q, 1)) (hi : (q : Nat) = i) (hn : i + 1 < nL) (hl2 : (i, .long x) :: L.filter (fun q => !(q.1 == i) && (!(q.1 == i + 1) && !(q.1 + 1 == i && q.2.category == 2))) = L2) (k : SWg E A nL Q Rl c0 s0 (pc + 1) L2 st) : SWg E A nL Q Rl c0 s0 pc L (.long x :: st) := by
  obtain ⟨p, e, R, s, m, args, below, meth, c⟩ := A
  intro H locs ls hl hR hS
  exact lv_lstore_n hX.1 hX.2.1 hd hi hl hn hl2 (fun ls hl => k H locs ls hl hR hS)
theorem r_lstore {i : Nat} {x : Int64} {L2 : List (Nat × Value)} (hX : kdX E A cc nL own ret h) (hd : decode cc pc = .ok (.lstore i, 2)) (hn : i + 1 < nL) (hl2 : (i, .long x) :: L.filter (fun q => !(q.1 == i) && (!(q.1 == i + 1) && !(q.1 + 1 == i && q.2.category == 2))) = L2) (k : SWg E A nL Q Rl c0 s0 (pc + 2) L2 st) : SWg E A nL Q Rl c0 s0 pc L (.long x :: st) := by
  obtain ⟨p, e, R, s, m, args, below, meth, c⟩ := A
  intro H locs ls hl hR hS
  exact lv_lstore hX.1 hX.2.1 hd hl hn hl2 (fun ls hl => k H locs ls hl hR hS)
theorem r_aload_n {q : Fin 4} {i : Nat} {x : Nat} (hX : kdX E A cc nL own ret h) (hd : decode cc pc = .ok (.aload_n q, 1)) (hi : (q : Nat) = i) (j : Nat) (hk : L[j]? = some (i, kr E x)) (k : SWg E A nL Q Rl c0 s0 (pc + 1) L (kr E x :: st)) : SWg E A nL Q Rl c0 s0 pc L st := by
  obtain ⟨p, e, R, s, m, args, below, meth, c⟩ := A
  intro H locs ls hl hR hS
  exact lv_aload_n hX.1 hX.2.1 hd hi (lv_at hl j hk) (k H locs ls hl hR hS)
theorem r_aload {i : Nat} {x : Nat} (hX : kdX E A cc nL own ret h) (hd : decode cc pc = .ok (.aload i, 2)) (j : Nat) (hk : L[j]? = some (i, kr E x)) (k : SWg E A nL Q Rl c0 s0 (pc + 2) L (kr E x :: st)) : SWg E A nL Q Rl c0 s0 pc L st := by
  obtain ⟨p, e, R, s, m, args, below, meth, c⟩ := A
  intro H locs ls hl hR hS
  exact lv_aload hX.1 hX.2.1 hd (lv_at hl j hk) (k H locs ls hl hR hS)
theorem r_astore_n {q : Fin 4} {i : Nat} {x : Nat} {L2 : List (Nat × Value)} (hX : kdX E A cc nL own ret h) (hd : decode cc pc = .ok (.astore_n q, 1)) (hi : (q : Nat) = i) (hn : i < nL) (hl2 : (i, kr E x) :: L.filter (fun q => !(q.1 == i) && !(q.1 + 1 == i && q.2.category == 2)) = L2) (k : SWg E A nL Q Rl c0 s0 (pc + 1) L2 st) : SWg E A nL Q Rl c0 s0 pc L (kr E x :: st) := by
  obtain ⟨p, e, R, s, m, args, below, meth, c⟩ := A
  intro H locs ls hl hR hS
  exact lv_astore_n hX.1 hX.2.1 hd hi hl hn hl2 (fun ls hl => k H locs ls hl hR hS)
theorem r_astore {i : Nat} {x : Nat} {L2 : List (Nat × Value)} (hX : kdX E A cc nL own ret h) (hd : decode cc pc = .ok (.astore i, 2)) (hn : i < nL) (hl2 : (i, kr E x) :: L.filter (fun q => !(q.1 == i) && !(q.1 + 1 == i && q.2.category == 2)) = L2) (k : SWg E A nL Q Rl c0 s0 (pc + 2) L2 st) : SWg E A nL Q Rl c0 s0 pc L (kr E x :: st) := by
  obtain ⟨p, e, R, s, m, args, below, meth, c⟩ := A
  intro H locs ls hl hR hS
  exact lv_astore hX.1 hX.2.1 hd hl hn hl2 (fun ls hl => k H locs ls hl hR hS)
theorem r_iinc {i : Nat} {n : Int} {x v : Int32} {L2 : List (Nat × Value)} (hX : kdX E A cc nL own ret h) (hd : decode cc pc = .ok (.iinc i n, 3)) (j : Nat) (hk : L[j]? = some (i, .int x)) (hv : x + Int32.ofInt n = v) (hn : i < nL) (hl2 : (i, Value.int v) :: L.filter (fun q => !(q.1 == i) && !(q.1 + 1 == i && q.2.category == 2)) = L2) (k : SWg E A nL Q Rl c0 s0 (pc + 3) L2 st) : SWg E A nL Q Rl c0 s0 pc L st := by
  obtain ⟨p, e, R, s, m, args, below, meth, c⟩ := A
  intro H locs ls hl hR hS
  exact lv_iinc hX.1 hX.2.1 hd hl hk hv hn hl2 (fun ls hl => k H locs ls hl hR hS)
theorem r_iadd {x y : Int32} (hX : kdX E A cc nL own ret h) (hd : decode cc pc = .ok (.iadd, 1))  (k : SWg E A nL Q Rl c0 s0 (pc + 1) L (.int (x + y) :: st)) : SWg E A nL Q Rl c0 s0 pc L (.int y :: .int x :: st) := by
  obtain ⟨p, e, R, s, m, args, below, meth, c⟩ := A
  intro H locs ls hl hR hS
  exact lv_iadd hX.1 hX.2.1 hd (k H locs ls hl hR hS)
theorem r_ladd {x y : Int64} (hX : kdX E A cc nL own ret h) (hd : decode cc pc = .ok (.ladd, 1))  (k : SWg E A nL Q Rl c0 s0 (pc + 1) L (.long (x + y) :: st)) : SWg E A nL Q Rl c0 s0 pc L (.long y :: .long x :: st) := by
  obtain ⟨p, e, R, s, m, args, below, meth, c⟩ := A
  intro H locs ls hl hR hS
  exact lv_ladd hX.1 hX.2.1 hd (k H locs ls hl hR hS)
theorem r_isub {x y : Int32} (hX : kdX E A cc nL own ret h) (hd : decode cc pc = .ok (.isub, 1))  (k : SWg E A nL Q Rl c0 s0 (pc + 1) L (.int (x - y) :: st)) : SWg E A nL Q Rl c0 s0 pc L (.int y :: .int x :: st) := by
  obtain ⟨p, e, R, s, m, args, below, meth, c⟩ := A
  intro H locs ls hl hR hS
  exact lv_isub hX.1 hX.2.1 hd (k H locs ls hl hR hS)
theorem r_lsub {x y : Int64} (hX : kdX E A cc nL own ret h) (hd : decode cc pc = .ok (.lsub, 1))  (k : SWg E A nL Q Rl c0 s0 (pc + 1) L (.long (x - y) :: st)) : SWg E A nL Q Rl c0 s0 pc L (.long y :: .long x :: st) := by
  obtain ⟨p, e, R, s, m, args, below, meth, c⟩ := A
  intro H locs ls hl hR hS
  exact lv_lsub hX.1 hX.2.1 hd (k H locs ls hl hR hS)
theorem r_imul {x y : Int32} (hX : kdX E A cc nL own ret h) (hd : decode cc pc = .ok (.imul, 1))  (k : SWg E A nL Q Rl c0 s0 (pc + 1) L (.int (x * y) :: st)) : SWg E A nL Q Rl c0 s0 pc L (.int y :: .int x :: st) := by
  obtain ⟨p, e, R, s, m, args, below, meth, c⟩ := A
  intro H locs ls hl hR hS
  exact lv_imul hX.1 hX.2.1 hd (k H locs ls hl hR hS)
theorem r_lmul {x y : Int64} (hX : kdX E A cc nL own ret h) (hd : decode cc pc = .ok (.lmul, 1))  (k : SWg E A nL Q Rl c0 s0 (pc + 1) L (.long (x * y) :: st)) : SWg E A nL Q Rl c0 s0 pc L (.long y :: .long x :: st) := by
  obtain ⟨p, e, R, s, m, args, below, meth, c⟩ := A
  intro H locs ls hl hR hS
  exact lv_lmul hX.1 hX.2.1 hd (k H locs ls hl hR hS)
theorem r_iand {x y : Int32} (hX : kdX E A cc nL own ret h) (hd : decode cc pc = .ok (.iand, 1))  (k : SWg E A nL Q Rl c0 s0 (pc + 1) L (.int (x &&& y) :: st)) : SWg E A nL Q Rl c0 s0 pc L (.int y :: .int x :: st) := by
  obtain ⟨p, e, R, s, m, args, below, meth, c⟩ := A
  intro H locs ls hl hR hS
  exact lv_iand hX.1 hX.2.1 hd (k H locs ls hl hR hS)
theorem r_ior {x y : Int32} (hX : kdX E A cc nL own ret h) (hd : decode cc pc = .ok (.ior, 1))  (k : SWg E A nL Q Rl c0 s0 (pc + 1) L (.int (x ||| y) :: st)) : SWg E A nL Q Rl c0 s0 pc L (.int y :: .int x :: st) := by
  obtain ⟨p, e, R, s, m, args, below, meth, c⟩ := A
  intro H locs ls hl hR hS
  exact lv_ior hX.1 hX.2.1 hd (k H locs ls hl hR hS)
theorem r_ixor {x y : Int32} (hX : kdX E A cc nL own ret h) (hd : decode cc pc = .ok (.ixor, 1))  (k : SWg E A nL Q Rl c0 s0 (pc + 1) L (.int (x ^^^ y) :: st)) : SWg E A nL Q Rl c0 s0 pc L (.int y :: .int x :: st) := by
  obtain ⟨p, e, R, s, m, args, below, meth, c⟩ := A
  intro H locs ls hl hR hS
  exact lv_ixor hX.1 hX.2.1 hd (k H locs ls hl hR hS)
theorem r_ishl {x y : Int32} (hX : kdX E A cc nL own ret h) (hd : decode cc pc = .ok (.ishl, 1))  (k : SWg E A nL Q Rl c0 s0 (pc + 1) L (.int (x <<< (y &&& 31)) :: st)) : SWg E A nL Q Rl c0 s0 pc L (.int y :: .int x :: st) := by
  obtain ⟨p, e, R, s, m, args, below, meth, c⟩ := A
  intro H locs ls hl hR hS
  exact lv_ishl hX.1 hX.2.1 hd (k H locs ls hl hR hS)
theorem r_ishr {x y : Int32} (hX : kdX E A cc nL own ret h) (hd : decode cc pc = .ok (.ishr, 1))  (k : SWg E A nL Q Rl c0 s0 (pc + 1) L (.int (x >>> (y &&& 31)) :: st)) : SWg E A nL Q Rl c0 s0 pc L (.int y :: .int x :: st) := by
  obtain ⟨p, e, R, s, m, args, below, meth, c⟩ := A
  intro H locs ls hl hR hS
  exact lv_ishr hX.1 hX.2.1 hd (k H locs ls hl hR hS)
theorem r_ineg {x : Int32} (hX : kdX E A cc nL own ret h) (hd : decode cc pc = .ok (.ineg, 1))  (k : SWg E A nL Q Rl c0 s0 (pc + 1) L (.int (-x) :: st)) : SWg E A nL Q Rl c0 s0 pc L (.int x :: st) := by
  obtain ⟨p, e, R, s, m, args, below, meth, c⟩ := A
  intro H locs ls hl hR hS
  exact lv_ineg hX.1 hX.2.1 hd (k H locs ls hl hR hS)
theorem r_i2l {x : Int32} (hX : kdX E A cc nL own ret h) (hd : decode cc pc = .ok (.i2l, 1))  (k : SWg E A nL Q Rl c0 s0 (pc + 1) L (.long x.toInt64 :: st)) : SWg E A nL Q Rl c0 s0 pc L (.int x :: st) := by
  obtain ⟨p, e, R, s, m, args, below, meth, c⟩ := A
  intro H locs ls hl hR hS
  exact lv_i2l hX.1 hX.2.1 hd rfl (k H locs ls hl hR hS)
theorem r_l2i {x : Int64} (hX : kdX E A cc nL own ret h) (hd : decode cc pc = .ok (.l2i, 1))  (k : SWg E A nL Q Rl c0 s0 (pc + 1) L (.int x.toInt32 :: st)) : SWg E A nL Q Rl c0 s0 pc L (.long x :: st) := by
  obtain ⟨p, e, R, s, m, args, below, meth, c⟩ := A
  intro H locs ls hl hR hS
  exact lv_l2i hX.1 hX.2.1 hd rfl (k H locs ls hl hR hS)
theorem r_lcmp {x y : Int64} (hX : kdX E A cc nL own ret h) (hd : decode cc pc = .ok (.lcmp, 1))  (k : SWg E A nL Q Rl c0 s0 (pc + 1) L (.int (lg_cmp x y) :: st)) : SWg E A nL Q Rl c0 s0 pc L (.long y :: .long x :: st) := by
  obtain ⟨p, e, R, s, m, args, below, meth, c⟩ := A
  intro H locs ls hl hR hS
  exact W.lcmp hX.1 hX.2.1 hd (k H locs ls hl hR hS)
theorem r_dup {v : Value} (hX : kdX E A cc nL own ret h) (hd : decode cc pc = .ok (.dup, 1)) (hv : v.category = 1) (k : SWg E A nL Q Rl c0 s0 (pc + 1) L (v :: v :: st)) : SWg E A nL Q Rl c0 s0 pc L (v :: st) := by
  obtain ⟨p, e, R, s, m, args, below, meth, c⟩ := A
  intro H locs ls hl hR hS
  exact lv_dup hX.1 hX.2.1 hd hv (k H locs ls hl hR hS)
theorem r_dup2 {v u : Value} (hX : kdX E A cc nL own ret h) (hd : decode cc pc = .ok (.dup2, 1)) (hv : v.category = 1) (hu : u.category = 1) (k : SWg E A nL Q Rl c0 s0 (pc + 1) L (v :: u :: v :: u :: st)) : SWg E A nL Q Rl c0 s0 pc L (v :: u :: st) := by
  obtain ⟨p, e, R, s, m, args, below, meth, c⟩ := A
  intro H locs ls hl hR hS
  exact lv_dup2_11 hX.1 hX.2.1 hd hv hu (k H locs ls hl hR hS)
theorem r_dup2L {v : Value} (hX : kdX E A cc nL own ret h) (hd : decode cc pc = .ok (.dup2, 1)) (hv : v.category = 2) (k : SWg E A nL Q Rl c0 s0 (pc + 1) L (v :: v :: st)) : SWg E A nL Q Rl c0 s0 pc L (v :: st) := by
  obtain ⟨p, e, R, s, m, args, below, meth, c⟩ := A
  intro H locs ls hl hR hS
  exact lv_dup2_2 hX.1 hX.2.1 hd hv (k H locs ls hl hR hS)
theorem r_pop {v : Value} (hX : kdX E A cc nL own ret h) (hd : decode cc pc = .ok (.pop, 1)) (hv : v.category = 1) (k : SWg E A nL Q Rl c0 s0 (pc + 1) L st) : SWg E A nL Q Rl c0 s0 pc L (v :: st) := by
  obtain ⟨p, e, R, s, m, args, below, meth, c⟩ := A
  intro H locs ls hl hR hS
  exact lv_pop hX.1 hX.2.1 hd hv (k H locs ls hl hR hS)
theorem r_pop2L {v : Value} (hX : kdX E A cc nL own ret h) (hd : decode cc pc = .ok (.pop2, 1)) (hv : v.category = 2) (k : SWg E A nL Q Rl c0 s0 (pc + 1) L st) : SWg E A nL Q Rl c0 s0 pc L (v :: st) := by
  obtain ⟨p, e, R, s, m, args, below, meth, c⟩ := A
  intro H locs ls hl hR hS
  exact lv_pop2_2 hX.1 hX.2.1 hd hv (k H locs ls hl hR hS)
theorem r_idiv {x y : Int32} {β : Type} {f : kdM → Option β} {w : β} (hX : kdX E A cc nL own ret h) (hd : decode cc pc = .ok (.idiv, 1)) (hh : nz y f σ = some w) (k : f σ = some w → SW E G z A nL σ (pc + 1) L (.int (x / y) :: st)) : SW E G z A nL σ pc L (.int y :: .int x :: st) := by
  have hne : ¬ y = 0 := fun q => by simp [nz, q] at hh
  have hf : f σ = some w := by simpa [nz, hne] using hh
  have k := k hf
  obtain ⟨p, e, R, s, m, args, below, meth, c⟩ := A
  intro H locs ls hl hR hS
  exact lv_idiv hX.1 hX.2.1 hd hne (k H locs ls hl hR hS)
theorem r_irem {x y : Int32} {β : Type} {f : kdM → Option β} {w : β} (hX : kdX E A cc nL own ret h) (hd : decode cc pc = .ok (.irem, 1)) (hh : nz y f σ = some w) (k : f σ = some w → SW E G z A nL σ (pc + 1) L (.int (krem x y) :: st)) : SW E G z A nL σ pc L (.int y :: .int x :: st) := by
  have hne : ¬ y = 0 := fun q => by simp [nz, q] at hh
  have hf : f σ = some w := by simpa [nz, hne] using hh
  have k := k hf
  obtain ⟨p, e, R, s, m, args, below, meth, c⟩ := A
  intro H locs ls hl hR hS
  exact lv_irem hX.1 hX.2.1 hd hne (k H locs ls hl hR hS)
theorem r_lrem {x y : Int64} {β : Type} {f : kdM → Option β} {w : β} (hX : kdX E A cc nL own ret h) (hd : decode cc pc = .ok (.lrem, 1)) (hh : nzL y f σ = some w) (k : f σ = some w → SW E G z A nL σ (pc + 1) L (.long (kremL x y) :: st)) : SW E G z A nL σ pc L (.long y :: .long x :: st) := by
  have hne : ¬ y = 0 := fun q => by simp [nzL, q] at hh
  have hf : f σ = some w := by simpa [nzL, hne] using hh
  have k := k hf
  obtain ⟨p, e, R, s, m, args, below, meth, c⟩ := A
  intro H locs ls hl hR hS
  exact lv_lrem hX.1 hX.2.1 hd hne (k H locs ls hl hR hS)
theorem r_letI {x : Int32} {β : Type} {f : Int32 → kdM → Option β} {w : β} (hh : ltI x f σ = some w) (k : ∀ y : Int32, f y σ = some w → SW E G z A nL σ pc L (.int y :: st)) : SW E G z A nL σ pc L (.int x :: st) := k x hh
theorem r_letL {x : Int64} {β : Type} {f : Int64 → kdM → Option β} {w : β} (hh : ltL x f σ = some w) (k : ∀ y : Int64, f y σ = some w → SW E G z A nL σ pc L (.long y :: st)) : SW E G z A nL σ pc L (.long x :: st) := k x hh
theorem r_iincL {i : Nat} {n : Int} {x : Int32} {β : Type} {f : Int32 → kdM → Option β} {w : β} {L2 : Int32 → List (Nat × Value)} (hX : kdX E A cc nL own ret h) (hd : decode cc pc = .ok (.iinc i n, 3)) (hh : ltI (x + Int32.ofInt n) f σ = some w) (j : Nat) (hk : L[j]? = some (i, .int x)) (hn : i < nL) (hl2 : ∀ v : Int32, (i, Value.int v) :: L.filter (fun q => !(q.1 == i) && !(q.1 + 1 == i && q.2.category == 2)) = L2 v) (k : ∀ v : Int32, f v σ = some w → SW E G z A nL σ (pc + 3) (L2 v) st) : SW E G z A nL σ pc L st := by
  have k := k _ hh
  obtain ⟨p, e, R, s, m, args, below, meth, c⟩ := A
  intro H locs ls hl hR hS
  exact lv_iinc hX.1 hX.2.1 hd hl hk rfl hn (hl2 _) (fun ls hl => k H locs ls hl hR hS)
theorem r_sub {L2 : List (Nat × Value)} (ks : List Nat) (hl2 : lv_pick L ks = L2) (k : SWg E A nL Q Rl c0 s0 pc L2 st) : SWg E A nL Q Rl c0 s0 pc L st := by
  obtain ⟨p, e, R, s, m, args, below, meth, c⟩ := A
  intro H locs ls hl hR hS
  exact k H locs ls (lv_sub hl ks hl2) hR hS
theorem r_goto {off : Int} {tgt : Nat} (hX : kdX E A cc nL own ret h) (hd : decode cc pc = .ok (.goto off, 3)) (ht : (pc : Int) + off = (tgt : Int)) (k : SWg E A nL Q Rl c0 s0 tgt L st) : SWg E A nL Q Rl c0 s0 pc L st := by
  obtain ⟨p, e, R, s, m, args, below, meth, c⟩ := A
  intro H locs ls hl hR hS
  exact lv_goto hX.1 hX.2.1 hd ht (k H locs ls hl hR hS)
theorem r_if_eq {x : Int32} {off : Int} {tgt : Nat} {β : Type} {f1 f2 : kdM → Option β} {w : β} (hX : kdX E A cc nL own ret h) (hd : decode cc pc = .ok (.ifCond .eq off, 3)) (ht : (pc : Int) + off = (tgt : Int)) (hh : cnd (x = 0) f1 f2 σ = some w) (k1 : f1 σ = some w → SW E G z A nL σ tgt L st) (k2 : f2 σ = some w → SW E G z A nL σ (pc + 3) L st) : SW E G z A nL σ pc L (.int x :: st) := by
  obtain ⟨p, e, R, s, m, args, below, meth, c⟩ := A
  intro H locs ls hl hR hS
  refine lv_if_eq hX.1 hX.2.1 hd ht (fun q => ?_) (fun q => ?_)
  · exact k1 (by simpa only [cnd, if_pos q] using hh) H locs ls hl hR hS
  · exact k2 (by simpa only [cnd, if_neg q] using hh) H locs ls hl hR hS
theorem r_if_ne {x : Int32} {off : Int} {tgt : Nat} {β : Type} {f1 f2 : kdM → Option β} {w : β} (hX : kdX E A cc nL own ret h) (hd : decode cc pc = .ok (.ifCond .ne off, 3)) (ht : (pc : Int) + off = (tgt : Int)) (hh : cnd (x = 0) f1 f2 σ = some w) (k1 : f1 σ = some w → SW E G z A nL σ (pc + 3) L st) (k2 : f2 σ = some w → SW E G z A nL σ tgt L st) : SW E G z A nL σ pc L (.int x :: st) := by
  obtain ⟨p, e, R, s, m, args, below, meth, c⟩ := A
  intro H locs ls hl hR hS
  refine lv_if_ne hX.1 hX.2.1 hd ht (fun q => ?_) (fun q => ?_)
  · exact k2 (by simpa [cnd, q] using hh) H locs ls hl hR hS
  · exact k1 (by simpa [cnd, q] using hh) H locs ls hl hR hS
theorem r_if_lt {x : Int32} {off : Int} {tgt : Nat} {β : Type} {f1 f2 : kdM → Option β} {w : β} (hX : kdX E A cc nL own ret h) (hd : decode cc pc = .ok (.ifCond .lt off, 3)) (ht : (pc : Int) + off = (tgt : Int)) (hh : cnd (x < 0) f1 f2 σ = some w) (k1 : f1 σ = some w → SW E G z A nL σ tgt L st) (k2 : f2 σ = some w → SW E G z A nL σ (pc + 3) L st) : SW E G z A nL σ pc L (.int x :: st) := by
  obtain ⟨p, e, R, s, m, args, below, meth, c⟩ := A
  intro H locs ls hl hR hS
  refine lv_if_lt hX.1 hX.2.1 hd ht (fun q => ?_) (fun q => ?_)
  · exact k1 (by simpa only [cnd, if_pos q] using hh) H locs ls hl hR hS
  · exact k2 (by simpa only [cnd, if_neg q] using hh) H locs ls hl hR hS
theorem r_if_ge {x : Int32} {off : Int} {tgt : Nat} {β : Type} {f1 f2 : kdM → Option β} {w : β} (hX : kdX E A cc nL own ret h) (hd : decode cc pc = .ok (.ifCond .ge off, 3)) (ht : (pc : Int) + off = (tgt : Int)) (hh : cnd (0 ≤ x) f1 f2 σ = some w) (k1 : f1 σ = some w → SW E G z A nL σ tgt L st) (k2 : f2 σ = some w → SW E G z A nL σ (pc + 3) L st) : SW E G z A nL σ pc L (.int x :: st) := by
  obtain ⟨p, e, R, s, m, args, below, meth, c⟩ := A
  intro H locs ls hl hR hS
  refine lv_if_ge hX.1 hX.2.1 hd ht (fun q => ?_) (fun q => ?_)
  · exact k1 (by simpa only [cnd, if_pos q] using hh) H locs ls hl hR hS
  · exact k2 (by simpa only [cnd, if_neg q] using hh) H locs ls hl hR hS
theorem r_if_gt {x : Int32} {off : Int} {tgt : Nat} {β : Type} {f1 f2 : kdM → Option β} {w : β} (hX : kdX E A cc nL own ret h) (hd : decode cc pc = .ok (.ifCond .gt off, 3)) (ht : (pc : Int) + off = (tgt : Int)) (hh : cnd (0 < x) f1 f2 σ = some w) (k1 : f1 σ = some w → SW E G z A nL σ tgt L st) (k2 : f2 σ = some w → SW E G z A nL σ (pc + 3) L st) : SW E G z A nL σ pc L (.int x :: st) := by
  obtain ⟨p, e, R, s, m, args, below, meth, c⟩ := A
  intro H locs ls hl hR hS
  refine lv_if_gt hX.1 hX.2.1 hd ht (fun q => ?_) (fun q => ?_)
  · exact k1 (by simpa only [cnd, if_pos q] using hh) H locs ls hl hR hS
  · exact k2 (by simpa only [cnd, if_neg q] using hh) H locs ls hl hR hS
theorem r_if_le {x : Int32} {off : Int} {tgt : Nat} {β : Type} {f1 f2 : kdM → Option β} {w : β} (hX : kdX E A cc nL own ret h) (hd : decode cc pc = .ok (.ifCond .le off, 3)) (ht : (pc : Int) + off = (tgt : Int)) (hh : cnd (x ≤ 0) f1 f2 σ = some w) (k1 : f1 σ = some w → SW E G z A nL σ tgt L st) (k2 : f2 σ = some w → SW E G z A nL σ (pc + 3) L st) : SW E G z A nL σ pc L (.int x :: st) := by
  obtain ⟨p, e, R, s, m, args, below, meth, c⟩ := A
  intro H locs ls hl hR hS
  refine lv_if_le hX.1 hX.2.1 hd ht (fun q => ?_) (fun q => ?_)
  · exact k1 (by simpa only [cnd, if_pos q] using hh) H locs ls hl hR hS
  · exact k2 (by simpa only [cnd, if_neg q] using hh) H locs ls hl hR hS
theorem r_icmp_eq {x y : Int32} {off : Int} {tgt : Nat} {β : Type} {f1 f2 : kdM → Option β} {w : β} (hX : kdX E A cc nL own ret h) (hd : decode cc pc = .ok (.if_icmp .eq off, 3)) (ht : (pc : Int) + off = (tgt : Int)) (hh : cnd (x = y) f1 f2 σ = some w) (k1 : f1 σ = some w → SW E G z A nL σ tgt L st) (k2 : f2 σ = some w → SW E G z A nL σ (pc + 3) L st) : SW E G z A nL σ pc L (.int y :: .int x :: st) := by
  obtain ⟨p, e, R, s, m, args, below, meth, c⟩ := A
  intro H locs ls hl hR hS
  refine lv_icmp_eq hX.1 hX.2.1 hd ht (fun q => ?_) (fun q => ?_)
  · exact k1 (by simpa only [cnd, if_pos q] using hh) H locs ls hl hR hS
  · exact k2 (by simpa only [cnd, if_neg q] using hh) H locs ls hl hR hS
theorem r_icmp_ne {x y : Int32} {off : Int} {tgt : Nat} {β : Type} {f1 f2 : kdM → Option β} {w : β} (hX : kdX E A cc nL own ret h) (hd : decode cc pc = .ok (.if_icmp .ne off, 3)) (ht : (pc : Int) + off = (tgt : Int)) (hh : cnd (x = y) f1 f2 σ = some w) (k1 : f1 σ = some w → SW E G z A nL σ (pc + 3) L st) (k2 : f2 σ = some w → SW E G z A nL σ tgt L st) : SW E G z A nL σ pc L (.int y :: .int x :: st) := by
  obtain ⟨p, e, R, s, m, args, below, meth, c⟩ := A
  intro H locs ls hl hR hS
  refine lv_icmp_ne hX.1 hX.2.1 hd ht (fun q => ?_) (fun q => ?_)
  · exact k2 (by simpa [cnd, q] using hh) H locs ls hl hR hS
  · exact k1 (by simpa [cnd, q] using hh) H locs ls hl hR hS
theorem r_icmp_lt {x y : Int32} {off : Int} {tgt : Nat} {β : Type} {f1 f2 : kdM → Option β} {w : β} (hX : kdX E A cc nL own ret h) (hd : decode cc pc = .ok (.if_icmp .lt off, 3)) (ht : (pc : Int) + off = (tgt : Int)) (hh : cnd (x < y) f1 f2 σ = some w) (k1 : f1 σ = some w → SW E G z A nL σ tgt L st) (k2 : f2 σ = some w → SW E G z A nL σ (pc + 3) L st) : SW E G z A nL σ pc L (.int y :: .int x :: st) := by
  obtain ⟨p, e, R, s, m, args, below, meth, c⟩ := A
  intro H locs ls hl hR hS
  refine lv_icmp_lt hX.1 hX.2.1 hd ht (fun q => ?_) (fun q => ?_)
  · exact k1 (by simpa only [cnd, if_pos q] using hh) H locs ls hl hR hS
  · exact k2 (by simpa only [cnd, if_neg q] using hh) H locs ls hl hR hS
theorem r_icmp_ge {x y : Int32} {off : Int} {tgt : Nat} {β : Type} {f1 f2 : kdM → Option β} {w : β} (hX : kdX E A cc nL own ret h) (hd : decode cc pc = .ok (.if_icmp .ge off, 3)) (ht : (pc : Int) + off = (tgt : Int)) (hh : cnd (y ≤ x) f1 f2 σ = some w) (k1 : f1 σ = some w → SW E G z A nL σ tgt L st) (k2 : f2 σ = some w → SW E G z A nL σ (pc + 3) L st) : SW E G z A nL σ pc L (.int y :: .int x :: st) := by
  obtain ⟨p, e, R, s, m, args, below, meth, c⟩ := A
  intro H locs ls hl hR hS
  refine lv_icmp_ge hX.1 hX.2.1 hd ht (fun q => ?_) (fun q => ?_)
  · exact k1 (by simpa only [cnd, if_pos q] using hh) H locs ls hl hR hS
  · exact k2 (by simpa only [cnd, if_neg q] using hh) H locs ls hl hR hS
theorem r_icmp_gt {x y : Int32} {off : Int} {tgt : Nat} {β : Type} {f1 f2 : kdM → Option β} {w : β} (hX : kdX E A cc nL own ret h) (hd : decode cc pc = .ok (.if_icmp .gt off, 3)) (ht : (pc : Int) + off = (tgt : Int)) (hh : cnd (y < x) f1 f2 σ = some w) (k1 : f1 σ = some w → SW E G z A nL σ tgt L st) (k2 : f2 σ = some w → SW E G z A nL σ (pc + 3) L st) : SW E G z A nL σ pc L (.int y :: .int x :: st) := by
  obtain ⟨p, e, R, s, m, args, below, meth, c⟩ := A
  intro H locs ls hl hR hS
  refine lv_icmp_gt hX.1 hX.2.1 hd ht (fun q => ?_) (fun q => ?_)
  · exact k1 (by simpa only [cnd, if_pos q] using hh) H locs ls hl hR hS
  · exact k2 (by simpa only [cnd, if_neg q] using hh) H locs ls hl hR hS
theorem r_icmp_le {x y : Int32} {off : Int} {tgt : Nat} {β : Type} {f1 f2 : kdM → Option β} {w : β} (hX : kdX E A cc nL own ret h) (hd : decode cc pc = .ok (.if_icmp .le off, 3)) (ht : (pc : Int) + off = (tgt : Int)) (hh : cnd (x ≤ y) f1 f2 σ = some w) (k1 : f1 σ = some w → SW E G z A nL σ tgt L st) (k2 : f2 σ = some w → SW E G z A nL σ (pc + 3) L st) : SW E G z A nL σ pc L (.int y :: .int x :: st) := by
  obtain ⟨p, e, R, s, m, args, below, meth, c⟩ := A
  intro H locs ls hl hR hS
  refine lv_icmp_le hX.1 hX.2.1 hd ht (fun q => ?_) (fun q => ?_)
  · exact k1 (by simpa only [cnd, if_pos q] using hh) H locs ls hl hR hS
  · exact k2 (by simpa only [cnd, if_neg q] using hh) H locs ls hl hR hS
theorem r_case {q : Prop} [Decidable q] {β : Type} {f1 f2 : kdM → Option β} {w : β} (hh : cnd q f1 f2 σ = some w) (k1 : q → f1 σ = some w → SW E G z A nL σ pc L st) (k2 : ¬ q → f2 σ = some w → SW E G z A nL σ pc L st) : SW E G z A nL σ pc L st := by
  by_cases hq : q
  · exact k1 hq (by simpa only [cnd, if_pos hq] using hh)
  · exact k2 hq (by simpa only [cnd, if_neg hq] using hh)
theorem r_tsIn {dflt lo hi : Int} {offs : Array Int} {len : Nat} {x v : Int32} {off : Int} {tgt : Nat} (hX : kdX E A cc nL own ret h) (hd : decode cc pc = .ok (.tableswitch dflt lo hi offs, len)) (hv : x = v) (h1 : ¬ v.toInt < lo) (h2 : ¬ hi < v.toInt) (ho : offs[(v.toInt - lo).toNat]? = some off) (ht : (pc : Int) + off = (tgt : Int)) (k : SW E G z A nL σ tgt L st) : SW E G z A nL σ pc L (.int x :: st) := by
  subst hv
  obtain ⟨p, e, R, s, m, args, below, meth, c⟩ := A
  intro H locs ls hl hR hS
  exact lv_tableIn hX.1 hX.2.1 hd h1 h2 ho ht (k H locs ls hl hR hS)
theorem r_tsOut {dflt lo hi : Int} {offs : Array Int} {len : Nat} {x : Int32} {tgt : Nat} (hX : kdX E A cc nL own ret h) (hd : decode cc pc = .ok (.tableswitch dflt lo hi offs, len)) (hv : x.toInt < lo ∨ hi < x.toInt) (ht : (pc : Int) + dflt = (tgt : Int)) (k : SW E G z A nL σ tgt L st) : SW E G z A nL σ pc L (.int x :: st) := by
  obtain ⟨p, e, R, s, m, args, below, meth, c⟩ := A
  intro H locs ls hl hR hS
  exact lv_tableOut hX.1 hX.2.1 hd hv ht (k H locs ls hl hR hS)
theorem r_ls {dflt : Int} {ps : Array (Int × Int)} {len : Nat} {x : Int32} {off : Int} {tgt : Nat} (hX : kdX E A cc nL own ret h) (hd : decode cc pc = .ok (.lookupswitch dflt ps, len)) (hp : (ps.toList.zip (ps.toList.drop 1)).all (fun (a, next) => a.1 < next.1) = true) (ho : Op.lookupswitch.offset ps.toList dflt x.toInt = off) (ht : (pc : Int) + off = (tgt : Int)) (k : SW E G z A nL σ tgt L st) : SW E G z A nL σ pc L (.int x :: st) := by
  obtain ⟨p, e, R, s, m, args, below, meth, c⟩ := A
  intro H locs ls hl hR hS
  exact lv_lookup hX.1 hX.2.1 hd hp ho ht (k H locs ls hl hR hS)
theorem kd_ne {x k : Int32} {a : Int} (h : ¬ x = k) (hk : k.toInt = a) : x.toInt ≠ a := fun q => h (Int32.toInt_inj.mp (by rw [hk]; exact q))
/-- a field, as the class's table and the tables' words have it -/
def kdF (own : String) (idx ci k : Nat) : Prop := ∃ (C : String) (T : u_T) (N : Nat), vwCl[ci]? = some (C, T, N) ∧ k < N ∧ Cond.fieldLink own idx C (T k).2.1 (T k).2.2.1 ∈ kdtb ∧ (T k).1 = C ∧ (∀ w ∈ u_ws C T N, w ∈ kdtb) ∧ (∀ a, a < N → ∀ b, b < N → a ≠ b → (T a).2.1 ≠ (T b).2.1) ∧ ∃ ty : Nat → FieldType, (∀ k, k < N → parseFieldDescriptor (T k).2.2.1 = some (ty k)) ∧ (kdv ci k = 0 → (T k).2.2.2 = false → ty k = .int)
theorem kd_get {p : Program} {e : Env} {R : Room} {s : State} {m : MethodId} {args : Array Value} {below : List Frame} {meth : Method} {c : Code} {H : Heap} {locs : List Loc} {ls : Array Slot} {Q : State → Prop} {ci k idx a : Nat} (hx : p.tables.exec = Jvm.exec) (hb : c.code = cc) (hown : s.vm.findClass own = some m.cls) (hts : ∀ w ∈ kdtb, w.before args s = true) (hK : va_K E.2.1 vwCl (kdty E.2.2.1) s) (hd : decode cc pc = .ok (.getfield idx, 3)) (hf : kdF own idx ci k) (hR : kdR E G σ H) (hci : (G.1 a).1 = ci)
    (kk : W p E.1 e R s m args below meth c H locs c0 s0 Q (F0 m (pc + 3) ls (kdV E G σ a k :: st))) : W p E.1 e R s m args below meth c H locs c0 s0 Q (F0 m pc ls (kr E a :: st)) := by
  obtain ⟨C, T, N, hc, hk, hlink, hC, hin, -⟩ := hf
  have hci13 : ci < 13 := Nat.lt_of_lt_of_le (List.getElem?_eq_some_iff.mp hc).1 (Nat.le_of_ble_eq_true rfl)
  obtain ⟨r, h1, cell, q1, q2, q3, q4⟩ := (hR.2 a (by rw [hci]; omega)).1 (by rw [hci]; exact hci13)
  rw [hci] at h1 q2 q4
  have hr : r = (C, T, N) := Option.some.inj (h1.symm.trans hc)
  subst hr
  obtain ⟨hS, hfc, kC, hkC, hkind⟩ := hK.1 ci _ hc
  obtain ⟨cf, kf, fi, f, hi, hsl⟩ := hS k hk
  have hi2 := hi
  rw [hC] at hi2
  refine W.getf hx hb hown (hts _ hlink) hi2 (u_facts hfc hkC (u_lays hts hin hk) hi).1 q1 (by rw [q3]; exact fun h => by cases h) (v := kdV E G σ a k) ?_ rfl rfl hd kk
  rw [hsl, q4 k hk]
theorem r_gI {ci k idx a : Nat} {β : Type} {f : Int32 → kdM → Option β} {w : β} (hX : kdX E A cc nL own ret h) (hd : decode cc pc = .ok (.getfield idx, 3)) (hf : kdF own idx ci k) (hv : kdv ci k = 0) (hh : gI G ci k a f σ = some w) (kk : ∀ v : Int32, f v σ = some w → SW E G z A nL σ (pc + 3) L (.int v :: st)) : SW E G z A nL σ pc L (kr E a :: st) := by
  unfold gI at hh
  split at hh
  case isFalse => cases hh
  case isTrue hci =>
    have kk := kk _ hh
    obtain ⟨p, e, R, s, m, args, below, meth, c⟩ := A
    intro H locs ls hl hR hS
    refine kd_get hX.1 hX.2.1 hX.2.2.2.1 hX.2.2.2.2.1 hX.2.2.2.2.2.1 hd hf hR hci ?_
    have e : kdV E G σ a k = .int (σ.1 a k) := by simp only [kdV, hci, hv, if_true]
    rw [e]
    exact kk H locs ls hl hR hS
theorem r_gR {ci k idx a : Nat} {β : Type} {f : Nat → kdM → Option β} {w : β} (hX : kdX E A cc nL own ret h) (hd : decode cc pc = .ok (.getfield idx, 3)) (hf : kdF own idx ci k) (hv : kdv ci k = 2) (hh : gR G ci k a f σ = some w) (kk : ∀ b : Nat, f b σ = some w → SW E G z A nL σ (pc + 3) L (kr E b :: st)) : SW E G z A nL σ pc L (kr E a :: st) := by
  unfold gR at hh
  split at hh
  case isFalse => cases hh
  case isTrue hci =>
    cases hb : G.2.1 a k with
    | none => rw [hb] at hh; cases hh
    | some b =>
      rw [hb] at hh
      have kk := kk b hh
      obtain ⟨p, e, R, s, m, args, below, meth, c⟩ := A
      intro H locs ls hl hR hS
      refine kd_get hX.1 hX.2.1 hX.2.2.2.1 hX.2.2.2.2.1 hX.2.2.2.2.2.1 hd hf hR hci ?_
      have e : kdV E G σ a k = kr E b := by simp [kdV, hci, hv, hb, va_rf]
      rw [e]
      exact kk H locs ls hl hR hS
theorem r_sI {ci k idx a : Nat} {v : Int32} {β : Type} {f : kdM → Option β} {w : β} (hX : kdX E A cc nL own ret h) (hd : decode cc pc = .ok (.putfield idx, 3)) (hf : kdF own idx ci k) (hv : kdv ci k = 0) (hfin : ∀ q, vwCl[ci]? = some q → (q.2.1 k).2.2.2 = false) (hh : sI G ci k a v f σ = some w) (kk : ∀ σ1 : kdM, f σ1 = some w → SW E G z A nL σ1 (pc + 3) L st) : SW E G z A nL σ pc L (.int v :: kr E a :: st) := by
  unfold sI at hh
  split at hh
  case isFalse => cases hh
  case isTrue hci =>
    have kk := kk _ hh
    obtain ⟨p, e, R, s, m, args, below, meth, c⟩ := A
    intro H locs ls hl hR hS
    obtain ⟨C, T, N, hc, hk, hlink, hC, hin, hnm, ty0, hty, hint⟩ := hf
    have hts := hX.2.2.2.2.1
    have hK := hX.2.2.2.2.2.1
    have hown := hX.2.2.2.1
    have hfin : (T k).2.2.2 = false := hfin _ hc
    have hint := hint hv hfin
    have hci13 : ci < 13 := Nat.lt_of_lt_of_le (List.getElem?_eq_some_iff.mp hc).1 (Nat.le_of_ble_eq_true rfl)
    obtain ⟨r, h1, cell, q1, q2, q3, q4⟩ := (hR.2 a (by rw [hci]; omega)).1 (by rw [hci]; exact hci13)
    rw [hci] at h1 q2 q4
    have hr : r = (C, T, N) := Option.some.inj (h1.symm.trans hc)
    subst hr
    have hap := va_apart (own := own) hts hin ty0 hty hnm hK hc
    obtain ⟨hS1, hfc, kC, hkC, hkind⟩ := hK.1 ci _ hc
    obtain ⟨cf, kf, fi, fd, hi, hsl⟩ := hS1 k hk
    have hi2 := hi
    rw [hC] at hi2
    have hlay := hts _ (hin _ (u_in_lay hk))
    unfold u_lay at hlay
    rw [if_neg (by rw [hfin]; decide)] at hlay
    have hst := (u_facts hfc hkC (u_lays hts hin hk) hi).1
    have h6 := u_store (ty := .int) (v := .int v) hfc hkC hkind hlay hi (by rw [hty k hk, hint]) rfl rfl
    refine W.putK hX.1 hX.2.1 (f := fd) ⟨hown, hts _ hlink, ⟨_, _, _, hi2⟩, hst⟩ (by rw [q2]; exact h6) q1 q3 (by rw [hsl]; exact k2_hasslot (q4 k hk)) rfl rfl hd fun H' e1 e2 e3 => ?_
    rw [hsl] at e1 ⊢
    refine kk H' _ ls hl ?_ (hS.put e2 e3 (Nat.le_add_right _ _))
    refine hR.set (a := a) e2 e3 (fun b hb => u2_row _ _ _ _ hb) (fun _ _ => rfl) ⟨fun _ => ⟨_, by rw [hci]; exact hc, ?_⟩, fun h13 => absurd h13 (by rw [hci]; omega)⟩
    rw [hci]
    refine t_OB.to (V := updV (kdV E G σ a) k (.int v)) ⟨_, e1, q2, q3, t_set q4 hap hk (.int v)⟩ (fun j hj => ?_)
    by_cases hjk : j = k
    · subst hjk
      simp [updV, kdV, hci, hv, u2_same]
    · simp [updV, hjk, kdV, hci, u2_nk _ _ _ _ hjk]
theorem kd_in {i : Int32} {n : Nat} (h : 0 ≤ i.toInt ∧ i.toInt < (n : Int)) : vp_in i n := vp_in_iff.mpr h
theorem r_aI {a : Nat} {i : Int32} {β : Type} {f : Int32 → kdM → Option β} {w : β} (hX : kdX E A cc nL own ret h) (hd : decode cc pc = .ok (.iaload, 1)) (hh : aI G a i f σ = some w) (kk : ∀ v : Int32, f v σ = some w → SW E G z A nL σ (pc + 1) L (.int v :: st)) : SW E G z A nL σ pc L (.int i :: kr E a :: st) := by
  unfold aI at hh
  split at hh
  case isFalse => cases hh
  case isTrue hq =>
    have kk := kk _ hh
    obtain ⟨p, e, R, s, m, args, below, meth, c⟩ := A
    intro H locs ls hl hR hS
    obtain ⟨hk, hin⟩ := hq
    have hcell := (hR.2 a (by rw [hk]; omega)).2 (by rw [hk]; omega)
    have e : kdV E G σ a (ix i) = .int (σ.1 a (ix i)) := by simp [kdV, hk, kdv]
    refine W.iald (v := .int (σ.1 a (ix i))) hX.1 hX.2.1 hcell (by rw [hk]; exact (hX.2.2.2.2.2.1.2 0 _ rfl).1 _ _) (fun q => by cases q) ?_ ?_ rfl rfl hd (kk H locs ls hl hR hS)
    · rw [arrV_size]; exact kd_in hin
    · rw [← e]; exact arrV_read _ _ (show ix i < (G.1 a).2 by unfold ix; omega)
theorem r_aZ {a : Nat} {i : Int32} {β : Type} {f : Int32 → kdM → Option β} {w : β} (hX : kdX E A cc nL own ret h) (hd : decode cc pc = .ok (.baload, 1)) (hh : aZ G a i f σ = some w) (kk : ∀ v : Int32, f v σ = some w → SW E G z A nL σ (pc + 1) L (.int v :: st)) : SW E G z A nL σ pc L (.int i :: kr E a :: st) := by
  unfold aZ at hh
  split at hh
  case isFalse => cases hh
  case isTrue hq =>
    have kk := kk _ hh
    obtain ⟨p, e, R, s, m, args, below, meth, c⟩ := A
    intro H locs ls hl hR hS
    obtain ⟨hk, hin⟩ := hq
    have hcell := (hR.2 a (by rw [hk]; omega)).2 (by rw [hk]; omega)
    have e : kdV E G σ a (ix i) = .int (σ.1 a (ix i)) := by simp [kdV, hk, kdv]
    refine W.zald (v := .int (σ.1 a (ix i))) hX.1 hX.2.1 hcell (by rw [hk]; exact (hX.2.2.2.2.2.1.2 2 _ rfl).1 _ _) (fun q => by cases q) ?_ ?_ rfl rfl hd (kk H locs ls hl hR hS)
    · rw [arrV_size]; exact kd_in hin
    · rw [← e]; exact arrV_read _ _ (show ix i < (G.1 a).2 by unfold ix; omega)
theorem r_aL {a : Nat} {i : Int32} {β : Type} {f : Int64 → kdM → Option β} {w : β} (hX : kdX E A cc nL own ret h) (hd : decode cc pc = .ok (.laload, 1)) (hh : aL G a i f σ = some w) (kk : ∀ v : Int64, f v σ = some w → SW E G z A nL σ (pc + 1) L (.long v :: st)) : SW E G z A nL σ pc L (.int i :: kr E a :: st) := by
  unfold aL at hh
  split at hh
  case isFalse => cases hh
  case isTrue hq =>
    have kk := kk _ hh
    obtain ⟨p, e, R, s, m, args, below, meth, c⟩ := A
    intro H locs ls hl hR hS
    obtain ⟨hk, hin⟩ := hq
    have hcell := (hR.2 a (by rw [hk]; omega)).2 (by rw [hk]; omega)
    have e : kdV E G σ a (ix i) = .long (σ.2 a (ix i)) := by simp [kdV, hk, kdv]
    refine W.lald (v := .long (σ.2 a (ix i))) hX.1 hX.2.1 hcell (by rw [hk]; exact (hX.2.2.2.2.2.1.2 1 _ rfl).1 _ _) (fun q => by cases q) ?_ ?_ rfl rfl hd (kk H locs ls hl hR hS)
    · rw [arrV_size]; exact kd_in hin
    · rw [← e]; exact arrV_read _ _ (show ix i < (G.1 a).2 by unfold ix; omega)
theorem r_aN {a : Nat} {β : Type} {f : Int32 → kdM → Option β} {w : β} (hX : kdX E A cc nL own ret h) (hd : decode cc pc = .ok (.arraylength, 1)) (hh : aN G a f σ = some w) (kk : ∀ v : Int32, f v σ = some w → SW E G z A nL σ (pc + 1) L (.int v :: st)) : SW E G z A nL σ pc L (kr E a :: st) := by
  unfold aN at hh
  split at hh
  case isFalse => cases hh
  case isTrue hk =>
    have kk := kk _ hh
    obtain ⟨p, e, R, s, m, args, below, meth, c⟩ := A
    intro H locs ls hl hR hS
    have hcell := (hR.2 a (by rw [hk]; omega)).2 (by rw [hk]; omega)
    exact W.alen (n := Int32.ofNat (G.1 a).2) hX.1 hX.2.1 hcell (by rw [hk]; exact (hX.2.2.2.2.2.1.2 0 _ rfl).1 _ _) (by rw [arrV_size] <;> rfl) rfl rfl hd (kk H locs ls hl hR hS)
theorem r_aR16 {a : Nat} {i : Int32} {β : Type} {f : Nat → kdM → Option β} {w : β} (hX : kdX E A cc nL own ret h) (hd : decode cc pc = .ok (.aaload, 1)) (hh : aR G 16 a i f σ = some w) (kk : ∀ b : Nat, f b σ = some w → SW E G z A nL σ (pc + 1) L (kr E b :: st)) : SW E G z A nL σ pc L (.int i :: kr E a :: st) := by
  unfold aR at hh
  split at hh
  case isFalse => cases hh
  case isTrue hq =>
    cases hb : G.2.1 a (ix i) with
    | none => rw [hb] at hh; cases hh
    | some b =>
      rw [hb] at hh
      have kk := kk b hh
      obtain ⟨p, e, R, s, m, args, below, meth, c⟩ := A
      intro H locs ls hl hR hS
      obtain ⟨hk, hin⟩ := hq
      have hcell := (hR.2 a (by rw [hk]; omega)).2 (by rw [hk]; omega)
      have e : kdV E G σ a (ix i) = kr E b := by simp [kdV, hk, kdv, hb, va_rf]
      refine W.aald (v := kr E b) hX.1 hX.2.1 hcell (by rw [hk]; exact (hX.2.2.2.2.2.1.2 3 _ rfl).1 _ _) rfl (fun q => by cases q) ?_ ?_ rfl rfl hd (kk H locs ls hl hR hS)
      · rw [arrV_size]; exact kd_in hin
      · rw [← e]; exact arrV_read _ _ (show ix i < (G.1 a).2 by unfold ix; omega)
theorem r_aR17 {a : Nat} {i : Int32} {β : Type} {f : Nat → kdM → Option β} {w : β} (hX : kdX E A cc nL own ret h) (hd : decode cc pc = .ok (.aaload, 1)) (hh : aR G 17 a i f σ = some w) (kk : ∀ b : Nat, f b σ = some w → SW E G z A nL σ (pc + 1) L (kr E b :: st)) : SW E G z A nL σ pc L (.int i :: kr E a :: st) := by
  unfold aR at hh
  split at hh
  case isFalse => cases hh
  case isTrue hq =>
    cases hb : G.2.1 a (ix i) with
    | none => rw [hb] at hh; cases hh
    | some b =>
      rw [hb] at hh
      have kk := kk b hh
      obtain ⟨p, e, R, s, m, args, below, meth, c⟩ := A
      intro H locs ls hl hR hS
      obtain ⟨hk, hin⟩ := hq
      have hcell := (hR.2 a (by rw [hk]; omega)).2 (by rw [hk]; omega)
      have e : kdV E G σ a (ix i) = kr E b := by simp [kdV, hk, kdv, hb, va_rf]
      refine W.aald (v := kr E b) hX.1 hX.2.1 hcell (by rw [hk]; exact (hX.2.2.2.2.2.1.2 4 _ rfl).1 _ _) rfl (fun q => by cases q) ?_ ?_ rfl rfl hd (kk H locs ls hl hR hS)
      · rw [arrV_size]; exact kd_in hin
      · rw [← e]; exact arrV_read _ _ (show ix i < (G.1 a).2 by unfold ix; omega)
theorem r_aR18 {a : Nat} {i : Int32} {β : Type} {f : Nat → kdM → Option β} {w : β} (hX : kdX E A cc nL own ret h) (hd : decode cc pc = .ok (.aaload, 1)) (hh : aR G 18 a i f σ = some w) (kk : ∀ b : Nat, f b σ = some w → SW E G z A nL σ (pc + 1) L (kr E b :: st)) : SW E G z A nL σ pc L (.int i :: kr E a :: st) := by
  unfold aR at hh
  split at hh
  case isFalse => cases hh
  case isTrue hq =>
    cases hb : G.2.1 a (ix i) with
    | none => rw [hb] at hh; cases hh
    | some b =>
      rw [hb] at hh
      have kk := kk b hh
      obtain ⟨p, e, R, s, m, args, below, meth, c⟩ := A
      intro H locs ls hl hR hS
      obtain ⟨hk, hin⟩ := hq
      have hcell := (hR.2 a (by rw [hk]; omega)).2 (by rw [hk]; omega)
      have e : kdV E G σ a (ix i) = kr E b := by simp [kdV, hk, kdv, hb, va_rf]
      refine W.aald (v := kr E b) hX.1 hX.2.1 hcell (by rw [hk]; exact (hX.2.2.2.2.2.1.2 5 _ rfl).1 _ _) rfl (fun q => by cases q) ?_ ?_ rfl rfl hd (kk H locs ls hl hR hS)
      · rw [arrV_size]; exact kd_in hin
      · rw [← e]; exact arrV_read _ _ (show ix i < (G.1 a).2 by unfold ix; omega)
theorem r_aR19 {a : Nat} {i : Int32} {β : Type} {f : Nat → kdM → Option β} {w : β} (hX : kdX E A cc nL own ret h) (hd : decode cc pc = .ok (.aaload, 1)) (hh : aR G 19 a i f σ = some w) (kk : ∀ b : Nat, f b σ = some w → SW E G z A nL σ (pc + 1) L (kr E b :: st)) : SW E G z A nL σ pc L (.int i :: kr E a :: st) := by
  unfold aR at hh
  split at hh
  case isFalse => cases hh
  case isTrue hq =>
    cases hb : G.2.1 a (ix i) with
    | none => rw [hb] at hh; cases hh
    | some b =>
      rw [hb] at hh
      have kk := kk b hh
      obtain ⟨p, e, R, s, m, args, below, meth, c⟩ := A
      intro H locs ls hl hR hS
      obtain ⟨hk, hin⟩ := hq
      have hcell := (hR.2 a (by rw [hk]; omega)).2 (by rw [hk]; omega)
      have e : kdV E G σ a (ix i) = kr E b := by simp [kdV, hk, kdv, hb, va_rf]
      refine W.aald (v := kr E b) hX.1 hX.2.1 hcell (by rw [hk]; exact (hX.2.2.2.2.2.1.2 6 _ rfl).1 _ _) rfl (fun q => by cases q) ?_ ?_ rfl rfl hd (kk H locs ls hl hR hS)
      · rw [arrV_size]; exact kd_in hin
      · rw [← e]; exact arrV_read _ _ (show ix i < (G.1 a).2 by unfold ix; omega)
theorem r_tI {a : Nat} {i : Int32} {v : Int32} {β : Type} {f : kdM → Option β} {w : β} (hX : kdX E A cc nL own ret h) (hd : decode cc pc = .ok (.iastore, 1)) (hh : tI G a i v f σ = some w) (kk : ∀ σ1 : kdM, f σ1 = some w → SW E G z A nL σ1 (pc + 1) L st) : SW E G z A nL σ pc L (.int v :: .int i :: kr E a :: st) := by
  unfold tI at hh
  split at hh
  case isFalse => cases hh
  case isTrue hq =>
    have kk := kk _ hh
    obtain ⟨p, e, R, s, m, args, below, meth, c⟩ := A
    intro H locs ls hl hR hS
    obtain ⟨hk, hin⟩ := hq
    have hcell := (hR.2 a (by rw [hk]; omega)).2 (by rw [hk]; omega)
    refine W.iast hX.1 hX.2.1 hcell (by rw [hk]; exact (hX.2.2.2.2.2.1.2 0 _ rfl).1 _ _) (fun q => by cases q) (by rw [arrV_size]; exact kd_in hin) rfl rfl hd fun H' e1 e2 e3 => ?_
    refine kk H' _ ls hl ?_ (hS.put e2 e3 (Nat.le_add_right _ _))
    refine hR.set (a := a) e2 e3 (fun b hb => u2_row _ _ _ _ hb) (fun _ _ => rfl) ⟨fun h13 => absurd h13 (by rw [hk]; omega), fun _ => ?_⟩
    rw [e1, arrV_store]
    refine congrArg some (congrArg _ (funext fun j => ?_))
    by_cases hj : j = ix i
    · subst hj
      have e0 : i.toNatClampNeg = ix i := rfl
      simp [updV, e0, kdV, hk, kdv, u2_same]
      
    · have hj2 : ¬ j = i.toNatClampNeg := hj
      simp [updV, hj2, kdV, hk, kdv, u2_nk _ _ _ _ hj]
theorem r_tZ {a : Nat} {i : Int32} {v : Int32} {β : Type} {f : kdM → Option β} {w : β} (hX : kdX E A cc nL own ret h) (hd : decode cc pc = .ok (.bastore, 1)) (hh : tZ G a i v f σ = some w) (kk : ∀ σ1 : kdM, f σ1 = some w → SW E G z A nL σ1 (pc + 1) L st) : SW E G z A nL σ pc L (.int v :: .int i :: kr E a :: st) := by
  unfold tZ at hh
  split at hh
  case isFalse => cases hh
  case isTrue hq =>
    have kk := kk _ hh
    obtain ⟨p, e, R, s, m, args, below, meth, c⟩ := A
    intro H locs ls hl hR hS
    obtain ⟨hk, hin⟩ := hq
    have hcell := (hR.2 a (by rw [hk]; omega)).2 (by rw [hk]; omega)
    refine W.zast hX.1 hX.2.1 hcell (by rw [hk]; exact (hX.2.2.2.2.2.1.2 2 _ rfl).1 _ _) (fun q => by cases q) (by rw [arrV_size]; exact kd_in hin) rfl rfl hd fun H' e1 e2 e3 => ?_
    refine kk H' _ ls hl ?_ (hS.put e2 e3 (Nat.le_add_right _ _))
    refine hR.set (a := a) e2 e3 (fun b hb => u2_row _ _ _ _ hb) (fun _ _ => rfl) ⟨fun h13 => absurd h13 (by rw [hk]; omega), fun _ => ?_⟩
    rw [e1, arrV_store]
    refine congrArg some (congrArg _ (funext fun j => ?_))
    by_cases hj : j = ix i
    · subst hj
      have e0 : i.toNatClampNeg = ix i := rfl
      simp [updV, e0, kdV, hk, kdv, u2_same, vp_nar]
      try rfl
    · have hj2 : ¬ j = i.toNatClampNeg := hj
      simp [updV, hj2, kdV, hk, kdv, u2_nk _ _ _ _ hj]
theorem r_tL {a : Nat} {i : Int32} {v : Int64} {β : Type} {f : kdM → Option β} {w : β} (hX : kdX E A cc nL own ret h) (hd : decode cc pc = .ok (.lastore, 1)) (hh : tL G a i v f σ = some w) (kk : ∀ σ1 : kdM, f σ1 = some w → SW E G z A nL σ1 (pc + 1) L st) : SW E G z A nL σ pc L (.long v :: .int i :: kr E a :: st) := by
  unfold tL at hh
  split at hh
  case isFalse => cases hh
  case isTrue hq =>
    have kk := kk _ hh
    obtain ⟨p, e, R, s, m, args, below, meth, c⟩ := A
    intro H locs ls hl hR hS
    obtain ⟨hk, hin⟩ := hq
    have hcell := (hR.2 a (by rw [hk]; omega)).2 (by rw [hk]; omega)
    refine W.last hX.1 hX.2.1 hcell (by rw [hk]; exact (hX.2.2.2.2.2.1.2 1 _ rfl).1 _ _) (fun q => by cases q) (by rw [arrV_size]; exact kd_in hin) rfl rfl hd fun H' e1 e2 e3 => ?_
    refine kk H' _ ls hl ?_ (hS.put e2 e3 (Nat.le_add_right _ _))
    refine hR.set (a := a) e2 e3 (fun _ _ => rfl) (fun b hb => u2_row _ _ _ _ hb) ⟨fun h13 => absurd h13 (by rw [hk]; omega), fun _ => ?_⟩
    rw [e1, arrV_store]
    refine congrArg some (congrArg _ (funext fun j => ?_))
    by_cases hj : j = ix i
    · subst hj
      have e0 : i.toNatClampNeg = ix i := rfl
      simp [updV, e0, kdV, hk, kdv, u2_same]
      
    · have hj2 : ¬ j = i.toNatClampNeg := hj
      simp [updV, hj2, kdV, hk, kdv, u2_nk _ _ _ _ hj]
theorem kd_call {p : Program} {e : Env} {R : Room} {s : State} {m : MethodId} {args : Array Value} {below : List Frame} {meth : Method} {c : Code} {H : Heap} {locs : List Loc} {ls : Array Slot} {st0 : List Value} {v : Option Value} {σ1 : kdM} {aa : Array Value} (hr : va_Run p E.1 e R s m args below meth c H locs (kdzc z) (kdzs z) 0 0 (F0 m pc ls st0) st (kdQ E G (v, σ1) aa) (fun q => E.2.2.2 ≤ q)) (hl : lv_has ls nL L) (hS : va_S (fun q => E.2.2.2 ≤ q) s.heap H locs)
    (kk : SW E G z (p, e, R, s, m, args, below, meth, c) nL σ1 (pc + 3) L (v.toList ++ st)) : W p E.1 e R s m args below meth c H locs (kdzc z) (kdzs z) (kdEnd E G z (p, e, R, s, m, args, below, meth, c)) (F0 m pc ls st0) := by
  intro T hT X
  obtain ⟨v', st₀, t, T', L', h0, X', hL, e1, e2, ⟨hv, hR1, hz, hk⟩, step⟩ := hr T hT X
  cases hv
  rw [h0] at hz hk
  have hS1 : va_S (fun q => E.2.2.2 ≤ q) s.heap T'.heap (locs ++ L') := ⟨Nat.le_trans hS.1 (by rw [e1]; exact hz), fun q h1 h2 => by rw [e1, hk q (Nat.lt_of_lt_of_le h1 hS.1) h2]; exact hS.2.1 q h1 h2, fun q hq => by
    rcases List.mem_append.mp hq with h | h
    · exact hS.2.2 q h
    · exact hL q h⟩
  obtain ⟨t2, a1, b1⟩ := kk T'.heap (locs ++ L') ls hl (by rw [e1]; exact hR1) hS1 T' rfl X'
  exact ⟨t2, step t2 a1, b1⟩
/-- what a call of a method is owed: its words, and that it is lower -/
def kdL (y : MethodName) (bytes : ByteArray) (maxL : Nat) (ret : Option FieldType) (n : Nat) : Prop := Cond.code y bytes maxL ret ∈ kdtb ∧ Cond.initialized y.cls ∈ kdtb ∧ (y.cls ≠ "java/lang/invoke/MethodHandle" ∧ y.cls ≠ "java/lang/invoke/VarHandle") ∧ (parseMethodDescriptor y.desc).map (fun d => d.parameters.length) = some n ∧ maxL ≤ 20
theorem kd_recv {s : State} {H : Heap} {ci b : Nat} {C : String} (hR : kdR E G σ H) (hK : va_K E.2.1 vwCl (kdty E.2.2.1) s) (hci : (G.1 b).1 = ci) (hc : ∃ T N, vwCl[ci]? = some (C, T, N)) : ∃ cell : Cell, H[E.2.2.2 + b]? = some cell ∧ cell.vm.isStatics = false ∧ s.vm.findClass C = some cell.cls := by
  obtain ⟨T, N, hc⟩ := hc
  have hci13 : ci < 13 := Nat.lt_of_lt_of_le (List.getElem?_eq_some_iff.mp hc).1 (Nat.le_of_ble_eq_true rfl)
  obtain ⟨r, h1, cell, q1, q2, q3, q4⟩ := (hR.2 b (by rw [hci]; omega)).1 (by rw [hci]; exact hci13)
  refine ⟨cell, q1, by rw [q3]; rfl, ?_⟩
  obtain ⟨-, hfc, -⟩ := hK.1 ci _ hc
  rw [q2, hci]
  exact hfc
theorem r_cV {y : MethodName} {bytes : ByteArray} {maxL n idx b ci h2 : Nat} {ret2 : Option FieldType} {As : List Value} {v : Option Value} {σ1 : kdM} (hX : kdX E A cc nL own ret h) (hd : decode cc pc = .ok (.invokevirtual idx, 3)) (hL : kdL y bytes maxL ret2 n) (hlink : Cond.methodLink own idx y ∈ kdtb) (hinst : Cond.instanceMethod y ∈ kdtb) (hsel : Cond.selects y.cls y y ∈ kdtb) (hh : h2 < h) (hci : (G.1 b).1 = ci) (hc : ∃ T N, vwCl[ci]? = some (y.cls, T, N)) (hn : As.length = n) (hst : (st.map fun v => v.category).sum ≤ 8) (hcs : kdRO A (kdzc z) (kdzs z))
    (hC : Con E G y bytes maxL ret2 h2 (kr E b :: As) σ (v, σ1)) (kk : SW E G z A nL σ1 (pc + 3) L (v.toList ++ st)) : SW E G z A nL σ pc L (As.reverse ++ kr E b :: st) := by
  obtain ⟨p, e, R, s, m, args, below, meth, c⟩ := A
  intro H locs ls hl hR hS
  obtain ⟨x1, x2, x3, x4, x5, x6, x7, x8, x9, x10, x11⟩ := hX
  obtain ⟨l1, l2, l3, l4, l5⟩ := hL
  have cw : CallW R s args own y.cls idx y bytes maxL ret2 (Cond.code y bytes maxL ret2 :: kdtb) (kdrm h2) 0 0 n := ⟨callB_of n x5 (kdG l1) rfl rfl rfl (x5 _ l2) (x5 _ hlink) ⟨l3.1, l3.2, l4⟩ ⟨by show h2 + 1 ≤ _; omega, by show 8 + (maxL + 11) + 40 * h2 ≤ _; omega⟩, x5 _ hinst, x5 _ hsel⟩
  have hp : PreV s H y.cls (E.2.2.2 + b) (va_Pc (kr E b :: As) (fun U => kdR E G σ U.heap ∧ va_K E.2.1 vwCl (kdty E.2.2.1) U ∧ kdW U)) As := ⟨(kdPre (av := kr E b :: As) hR x6 x7).1, kd_recv hR x6 hci hc, (kdPre (av := kr E b :: As) hR x6 x7).2⟩
  exact kd_call (va_runV (rest := st) ⟨x1, x2, x3, x4, x5⟩ hC cw hp rfl hn hl.1 rfl (lv_room hst) hd hcs) hl hS kk
theorem r_cS {y : MethodName} {bytes : ByteArray} {maxL n idx h2 : Nat} {ret2 : Option FieldType} {As : List Value} {v : Option Value} {σ1 : kdM} (hX : kdX E A cc nL own ret h) (hd : decode cc pc = .ok (.invokestatic idx, 3)) (hL : kdL y bytes maxL ret2 n) (hlink : Cond.methodLink own idx y ∈ kdtb) (hstat : Cond.static y ∈ kdtb) (hh : h2 < h) (hn : As.length = n) (hst : (st.map fun v => v.category).sum ≤ 8) (hcs : kdRO A (kdzc z) (kdzs z))
    (hC : Con E G y bytes maxL ret2 h2 As σ (v, σ1)) (kk : SW E G z A nL σ1 (pc + 3) L (v.toList ++ st)) : SW E G z A nL σ pc L (As.reverse ++ st) := by
  obtain ⟨p, e, R, s, m, args, below, meth, c⟩ := A
  intro H locs ls hl hR hS
  obtain ⟨x1, x2, x3, x4, x5, x6, x7, x8, x9, x10, x11⟩ := hX
  obtain ⟨l1, l2, l3, l4, l5⟩ := hL
  have cw : CallB R s args own idx y bytes maxL ret2 (Cond.code y bytes maxL ret2 :: kdtb) (kdrm h2) 0 0 n := callB_of n x5 (kdG l1) rfl rfl rfl (x5 _ l2) (x5 _ hlink) ⟨l3.1, l3.2, l4⟩ ⟨by show h2 + 1 ≤ _; omega, by show 8 + (maxL + 11) + 40 * h2 ≤ _; omega⟩
  exact kd_call (va_runS (rest := st) ⟨x1, x2, x3, x4, x5⟩ hC ⟨cw, x5 _ hstat⟩ (kdPre hR x6 x7) rfl hn hl.1 rfl (lv_room hst) hd hcs) hl hS kk
theorem r_cSN {y : MethodName} {bytes : ByteArray} {maxL n idx h2 : Nat} {host : String} {ret2 : Option FieldType} {As : List Value} {v : Option Value} {σ1 : kdM} (hX : kdX E A cc nL own ret h) (hd : decode cc pc = .ok (.invokestatic idx, 3)) (hL : kdL y bytes maxL ret2 n) (hlink : (own, idx, y, host) ∈ kdN) (hstat : Cond.static y ∈ kdtb) (hh : h2 < h) (hn : As.length = n) (hst : (st.map fun v => v.category).sum ≤ 8) (hcs : kdRO A (kdzc z) (kdzs z))
    (hC : Con E G y bytes maxL ret2 h2 As σ (v, σ1)) (kk : SW E G z A nL σ1 (pc + 3) L (v.toList ++ st)) : SW E G z A nL σ pc L (As.reverse ++ st) := by
  obtain ⟨p, e, R, s, m, args, below, meth, c⟩ := A
  intro H locs ls hl hR hS
  obtain ⟨x1, x2, x3, x4, x5, x6, x7, x8, x9, x10, x11⟩ := hX
  obtain ⟨l1, l2, l3, l4, l5⟩ := hL
  have cw := va_cnB (own := own) (host := host) (index := idx) (y := y) (bytes := bytes) (maxL := maxL) (ret := ret2) (R := R) (rm := kdrm h2) (mc := 0) (ms := 0) n x5 (kdG l1) rfl rfl rfl (x7 _ hlink) (x5 _ l2) ⟨l3.1, l3.2, l4⟩ ⟨by show h2 + 1 ≤ _; omega, by show 8 + (maxL + 11) + 40 * h2 ≤ _; omega⟩
  exact kd_call (va_runSN (rest := st) ⟨x1, x2, x3, x4, x5⟩ hC ⟨cw, x5 _ hstat, trivial⟩ (kdPre hR x6 x7) rfl hn hl.1 rfl (lv_room hst) hd hcs) hl hS kk
theorem kcl_inv {α β : Type} {g : kdM → Option (α × kdM)} {f : α → kdM → Option β} {w : β} (h : kcl g f σ = some w) : ∃ (r : α) (σ1 : kdM), g σ = some (r, σ1) ∧ f r σ1 = some w := by
  unfold kcl at h
  cases hg : g σ with
  | none => rw [hg] at h; cases h
  | some r => rw [hg] at h; exact ⟨r.1, r.2, rfl, h⟩
theorem r_mmax {x y : Int32} {idx : Nat} (hX : kdX E A cc nL own ret h) (hd : decode cc pc = .ok (.invokestatic idx, 3)) (hlink : Cond.methodLink own idx Lib.Math.max.name ∈ kdtb) (hstat : Cond.static Lib.Math.max.name ∈ kdtb) (hini : Cond.initialized "java/lang/Math" ∈ kdtb) (hcode : Cond.code Lib.Math.max.name Lib.Math.max.code 2 (some .int) ∈ kdtb) (hh : 0 < h) (hst : (st.map fun v => v.category).sum ≤ 8) (hcs : kdRO A c0 s0) (k : SWg E A nL Q Rl c0 s0 (pc + 3) L (.int (kmax x y) :: st)) : SWg E A nL Q Rl c0 s0 pc L (.int y :: .int x :: st) := by
  obtain ⟨p, e, R, s, m, args, below, meth, c⟩ := A
  intro H locs ls hl hR hS
  obtain ⟨x1, x2, x3, x4, x5, x6, x7, x8, x9, x10, x11⟩ := hX
  exact va_mmax x1 x2 (x3.trans hl.1.symm) x4 (x5 _ hlink) (x5 _ hstat) (x5 _ hini) (x5 _ hcode) (by omega) (by omega) hcs.1 hcs.2 hd (k H locs ls hl hR hS)
theorem r_mmin {x y : Int32} {idx : Nat} (hX : kdX E A cc nL own ret h) (hd : decode cc pc = .ok (.invokestatic idx, 3)) (hlink : Cond.methodLink own idx Lib.Math.min.name ∈ kdtb) (hstat : Cond.static Lib.Math.min.name ∈ kdtb) (hini : Cond.initialized "java/lang/Math" ∈ kdtb) (hcode : Cond.code Lib.Math.min.name Lib.Math.min.code 2 (some .int) ∈ kdtb) (hh : 0 < h) (hst : (st.map fun v => v.category).sum ≤ 8) (hcs : kdRO A c0 s0) (k : SWg E A nL Q Rl c0 s0 (pc + 3) L (.int (kmin x y) :: st)) : SWg E A nL Q Rl c0 s0 pc L (.int y :: .int x :: st) := by
  obtain ⟨p, e, R, s, m, args, below, meth, c⟩ := A
  intro H locs ls hl hR hS
  obtain ⟨x1, x2, x3, x4, x5, x6, x7, x8, x9, x10, x11⟩ := hX
  exact va_mmin x1 x2 (x3.trans hl.1.symm) x4 (x5 _ hlink) (x5 _ hstat) (x5 _ hini) (x5 _ hcode) (by omega) (by omega) hcs.1 hcs.2 hd (k H locs ls hl hR hS)
theorem r_mabs {x : Int32} {idx : Nat} (hX : kdX E A cc nL own ret h) (hd : decode cc pc = .ok (.invokestatic idx, 3)) (hlink : Cond.methodLink own idx Lib.Math.abs.name ∈ kdtb) (hstat : Cond.static Lib.Math.abs.name ∈ kdtb) (hini : Cond.initialized "java/lang/Math" ∈ kdtb) (hcode : Cond.code Lib.Math.abs.name Lib.Math.abs.code 1 (some .int) ∈ kdtb) (hh : 0 < h) (hst : (st.map fun v => v.category).sum ≤ 8) (hcs : kdRO A c0 s0) (k : SWg E A nL Q Rl c0 s0 (pc + 3) L (.int (kabs x) :: st)) : SWg E A nL Q Rl c0 s0 pc L (.int x :: st) := by
  obtain ⟨p, e, R, s, m, args, below, meth, c⟩ := A
  intro H locs ls hl hR hS
  obtain ⟨x1, x2, x3, x4, x5, x6, x7, x8, x9, x10, x11⟩ := hX
  exact va_mabs x1 x2 (x3.trans hl.1.symm) x4 (x5 _ hlink) (x5 _ hstat) (x5 _ hini) (x5 _ hcode) (by omega) (by omega) hcs.1 hcs.2 hd (k H locs ls hl hR hS)
theorem kcv_inv {α β : Type} {ci b : Nat} {g : kdM → Option (α × kdM)} {f : α → kdM → Option β} {w : β} (h : kcv G ci b g f σ = some w) : (G.1 b).1 = ci ∧ kcl g f σ = some w := by
  unfold kcv at h
  split at h
  case isFalse => cases h
  case isTrue q => exact ⟨q, h⟩
theorem r_cVi {y : MethodName} {bytes : ByteArray} {maxL n idx h2 : Nat} {b ci : Nat} {ret2 : Option FieldType} {As st1 : List Value} {β : Type} {g : kdM → Option (Int32 × kdM)} {f : Int32 → kdM → Option β} {w : β} (hX : kdX E A cc nL own ret h) (hd : decode cc pc = .ok (.invokevirtual idx, 3)) (hL : kdL y bytes maxL ret2 n) (hlink : Cond.methodLink own idx y ∈ kdtb) (hinst : Cond.instanceMethod y ∈ kdtb) (hsel : Cond.selects y.cls y y ∈ kdtb) (hc : ∃ T N, vwCl[ci]? = some (y.cls, T, N)) (hh : h2 < h) (hn : As.length = n) (hst : (st.map fun v => v.category).sum ≤ 8) (hs : (As.reverse ++ kr E b :: st) = st1) (hcs : kdRO A (kdzc z) (kdzs z)) (hq : kcv G ci b g f σ = some w) (hC : ∀ (r : Int32) (σ1 : kdM), g σ = some (r, σ1) → Con E G y bytes maxL ret2 h2 (kr E b :: As) σ (some (.int r), σ1)) (kk : ∀ (r : Int32) (σ1 : kdM), f r σ1 = some w → SW E G z A nL σ1 (pc + 3) L (.int r :: st)) : SW E G z A nL σ pc L st1 := by
  subst hs
  obtain ⟨hci, hq⟩ := kcv_inv hq
  obtain ⟨r, σ1, e1, e2⟩ := kcl_inv hq
  exact r_cV hX hd hL hlink hinst hsel hh hci hc hn hst hcs (hC r σ1 e1) (kk r σ1 e2)
theorem r_cVl {y : MethodName} {bytes : ByteArray} {maxL n idx h2 : Nat} {b ci : Nat} {ret2 : Option FieldType} {As st1 : List Value} {β : Type} {g : kdM → Option (Int64 × kdM)} {f : Int64 → kdM → Option β} {w : β} (hX : kdX E A cc nL own ret h) (hd : decode cc pc = .ok (.invokevirtual idx, 3)) (hL : kdL y bytes maxL ret2 n) (hlink : Cond.methodLink own idx y ∈ kdtb) (hinst : Cond.instanceMethod y ∈ kdtb) (hsel : Cond.selects y.cls y y ∈ kdtb) (hc : ∃ T N, vwCl[ci]? = some (y.cls, T, N)) (hh : h2 < h) (hn : As.length = n) (hst : (st.map fun v => v.category).sum ≤ 8) (hs : (As.reverse ++ kr E b :: st) = st1) (hcs : kdRO A (kdzc z) (kdzs z)) (hq : kcv G ci b g f σ = some w) (hC : ∀ (r : Int64) (σ1 : kdM), g σ = some (r, σ1) → Con E G y bytes maxL ret2 h2 (kr E b :: As) σ (some (.long r), σ1)) (kk : ∀ (r : Int64) (σ1 : kdM), f r σ1 = some w → SW E G z A nL σ1 (pc + 3) L (.long r :: st)) : SW E G z A nL σ pc L st1 := by
  subst hs
  obtain ⟨hci, hq⟩ := kcv_inv hq
  obtain ⟨r, σ1, e1, e2⟩ := kcl_inv hq
  exact r_cV hX hd hL hlink hinst hsel hh hci hc hn hst hcs (hC r σ1 e1) (kk r σ1 e2)
theorem r_cVv {y : MethodName} {bytes : ByteArray} {maxL n idx h2 : Nat} {b ci : Nat} {ret2 : Option FieldType} {As st1 : List Value} {β : Type} {g : kdM → Option (Unit × kdM)} {f : Unit → kdM → Option β} {w : β} (hX : kdX E A cc nL own ret h) (hd : decode cc pc = .ok (.invokevirtual idx, 3)) (hL : kdL y bytes maxL ret2 n) (hlink : Cond.methodLink own idx y ∈ kdtb) (hinst : Cond.instanceMethod y ∈ kdtb) (hsel : Cond.selects y.cls y y ∈ kdtb) (hc : ∃ T N, vwCl[ci]? = some (y.cls, T, N)) (hh : h2 < h) (hn : As.length = n) (hst : (st.map fun v => v.category).sum ≤ 8) (hs : (As.reverse ++ kr E b :: st) = st1) (hcs : kdRO A (kdzc z) (kdzs z)) (hq : kcv G ci b g f σ = some w) (hC : ∀ (r : Unit) (σ1 : kdM), g σ = some (r, σ1) → Con E G y bytes maxL ret2 h2 (kr E b :: As) σ (none, σ1)) (kk : ∀ (r : Unit) (σ1 : kdM), f r σ1 = some w → SW E G z A nL σ1 (pc + 3) L st) : SW E G z A nL σ pc L st1 := by
  subst hs
  obtain ⟨hci, hq⟩ := kcv_inv hq
  obtain ⟨r, σ1, e1, e2⟩ := kcl_inv hq
  exact r_cV hX hd hL hlink hinst hsel hh hci hc hn hst hcs (hC r σ1 e1) (kk r σ1 e2)
theorem r_cVa {y : MethodName} {bytes : ByteArray} {maxL n idx h2 : Nat} {b ci : Nat} {ret2 : Option FieldType} {As st1 : List Value} {β : Type} {g : kdM → Option (Nat × kdM)} {f : Nat → kdM → Option β} {w : β} (hX : kdX E A cc nL own ret h) (hd : decode cc pc = .ok (.invokevirtual idx, 3)) (hL : kdL y bytes maxL ret2 n) (hlink : Cond.methodLink own idx y ∈ kdtb) (hinst : Cond.instanceMethod y ∈ kdtb) (hsel : Cond.selects y.cls y y ∈ kdtb) (hc : ∃ T N, vwCl[ci]? = some (y.cls, T, N)) (hh : h2 < h) (hn : As.length = n) (hst : (st.map fun v => v.category).sum ≤ 8) (hs : (As.reverse ++ kr E b :: st) = st1) (hcs : kdRO A (kdzc z) (kdzs z)) (hq : kcv G ci b g f σ = some w) (hC : ∀ (r : Nat) (σ1 : kdM), g σ = some (r, σ1) → Con E G y bytes maxL ret2 h2 (kr E b :: As) σ (some (kr E r), σ1)) (kk : ∀ (r : Nat) (σ1 : kdM), f r σ1 = some w → SW E G z A nL σ1 (pc + 3) L (kr E r :: st)) : SW E G z A nL σ pc L st1 := by
  subst hs
  obtain ⟨hci, hq⟩ := kcv_inv hq
  obtain ⟨r, σ1, e1, e2⟩ := kcl_inv hq
  exact r_cV hX hd hL hlink hinst hsel hh hci hc hn hst hcs (hC r σ1 e1) (kk r σ1 e2)
theorem r_cSi {y : MethodName} {bytes : ByteArray} {maxL n idx h2 : Nat} {ret2 : Option FieldType} {As st1 : List Value} {β : Type} {g : kdM → Option (Int32 × kdM)} {f : Int32 → kdM → Option β} {w : β} (hX : kdX E A cc nL own ret h) (hd : decode cc pc = .ok (.invokestatic idx, 3)) (hL : kdL y bytes maxL ret2 n) (hlink : Cond.methodLink own idx y ∈ kdtb) (hstat : Cond.static y ∈ kdtb) (hh : h2 < h) (hn : As.length = n) (hst : (st.map fun v => v.category).sum ≤ 8) (hs : (As.reverse ++ st) = st1) (hcs : kdRO A (kdzc z) (kdzs z)) (hq : kcl g f σ = some w) (hC : ∀ (r : Int32) (σ1 : kdM), g σ = some (r, σ1) → Con E G y bytes maxL ret2 h2 As σ (some (.int r), σ1)) (kk : ∀ (r : Int32) (σ1 : kdM), f r σ1 = some w → SW E G z A nL σ1 (pc + 3) L (.int r :: st)) : SW E G z A nL σ pc L st1 := by
  subst hs
  obtain ⟨r, σ1, e1, e2⟩ := kcl_inv hq
  exact r_cS hX hd hL hlink hstat hh hn hst hcs (hC r σ1 e1) (kk r σ1 e2)
theorem r_cSl {y : MethodName} {bytes : ByteArray} {maxL n idx h2 : Nat} {ret2 : Option FieldType} {As st1 : List Value} {β : Type} {g : kdM → Option (Int64 × kdM)} {f : Int64 → kdM → Option β} {w : β} (hX : kdX E A cc nL own ret h) (hd : decode cc pc = .ok (.invokestatic idx, 3)) (hL : kdL y bytes maxL ret2 n) (hlink : Cond.methodLink own idx y ∈ kdtb) (hstat : Cond.static y ∈ kdtb) (hh : h2 < h) (hn : As.length = n) (hst : (st.map fun v => v.category).sum ≤ 8) (hs : (As.reverse ++ st) = st1) (hcs : kdRO A (kdzc z) (kdzs z)) (hq : kcl g f σ = some w) (hC : ∀ (r : Int64) (σ1 : kdM), g σ = some (r, σ1) → Con E G y bytes maxL ret2 h2 As σ (some (.long r), σ1)) (kk : ∀ (r : Int64) (σ1 : kdM), f r σ1 = some w → SW E G z A nL σ1 (pc + 3) L (.long r :: st)) : SW E G z A nL σ pc L st1 := by
  subst hs
  obtain ⟨r, σ1, e1, e2⟩ := kcl_inv hq
  exact r_cS hX hd hL hlink hstat hh hn hst hcs (hC r σ1 e1) (kk r σ1 e2)
theorem r_cSv {y : MethodName} {bytes : ByteArray} {maxL n idx h2 : Nat} {ret2 : Option FieldType} {As st1 : List Value} {β : Type} {g : kdM → Option (Unit × kdM)} {f : Unit → kdM → Option β} {w : β} (hX : kdX E A cc nL own ret h) (hd : decode cc pc = .ok (.invokestatic idx, 3)) (hL : kdL y bytes maxL ret2 n) (hlink : Cond.methodLink own idx y ∈ kdtb) (hstat : Cond.static y ∈ kdtb) (hh : h2 < h) (hn : As.length = n) (hst : (st.map fun v => v.category).sum ≤ 8) (hs : (As.reverse ++ st) = st1) (hcs : kdRO A (kdzc z) (kdzs z)) (hq : kcl g f σ = some w) (hC : ∀ (r : Unit) (σ1 : kdM), g σ = some (r, σ1) → Con E G y bytes maxL ret2 h2 As σ (none, σ1)) (kk : ∀ (r : Unit) (σ1 : kdM), f r σ1 = some w → SW E G z A nL σ1 (pc + 3) L st) : SW E G z A nL σ pc L st1 := by
  subst hs
  obtain ⟨r, σ1, e1, e2⟩ := kcl_inv hq
  exact r_cS hX hd hL hlink hstat hh hn hst hcs (hC r σ1 e1) (kk r σ1 e2)
theorem r_cSa {y : MethodName} {bytes : ByteArray} {maxL n idx h2 : Nat} {ret2 : Option FieldType} {As st1 : List Value} {β : Type} {g : kdM → Option (Nat × kdM)} {f : Nat → kdM → Option β} {w : β} (hX : kdX E A cc nL own ret h) (hd : decode cc pc = .ok (.invokestatic idx, 3)) (hL : kdL y bytes maxL ret2 n) (hlink : Cond.methodLink own idx y ∈ kdtb) (hstat : Cond.static y ∈ kdtb) (hh : h2 < h) (hn : As.length = n) (hst : (st.map fun v => v.category).sum ≤ 8) (hs : (As.reverse ++ st) = st1) (hcs : kdRO A (kdzc z) (kdzs z)) (hq : kcl g f σ = some w) (hC : ∀ (r : Nat) (σ1 : kdM), g σ = some (r, σ1) → Con E G y bytes maxL ret2 h2 As σ (some (kr E r), σ1)) (kk : ∀ (r : Nat) (σ1 : kdM), f r σ1 = some w → SW E G z A nL σ1 (pc + 3) L (kr E r :: st)) : SW E G z A nL σ pc L st1 := by
  subst hs
  obtain ⟨r, σ1, e1, e2⟩ := kcl_inv hq
  exact r_cS hX hd hL hlink hstat hh hn hst hcs (hC r σ1 e1) (kk r σ1 e2)
theorem r_cNi {y : MethodName} {bytes : ByteArray} {maxL n idx h2 : Nat} {host : String} {ret2 : Option FieldType} {As st1 : List Value} {β : Type} {g : kdM → Option (Int32 × kdM)} {f : Int32 → kdM → Option β} {w : β} (hX : kdX E A cc nL own ret h) (hd : decode cc pc = .ok (.invokestatic idx, 3)) (hL : kdL y bytes maxL ret2 n) (hlink : (own, idx, y, host) ∈ kdN) (hstat : Cond.static y ∈ kdtb) (hh : h2 < h) (hn : As.length = n) (hst : (st.map fun v => v.category).sum ≤ 8) (hs : (As.reverse ++ st) = st1) (hcs : kdRO A (kdzc z) (kdzs z)) (hq : kcl g f σ = some w) (hC : ∀ (r : Int32) (σ1 : kdM), g σ = some (r, σ1) → Con E G y bytes maxL ret2 h2 As σ (some (.int r), σ1)) (kk : ∀ (r : Int32) (σ1 : kdM), f r σ1 = some w → SW E G z A nL σ1 (pc + 3) L (.int r :: st)) : SW E G z A nL σ pc L st1 := by
  subst hs
  obtain ⟨r, σ1, e1, e2⟩ := kcl_inv hq
  exact r_cSN hX hd hL hlink hstat hh hn hst hcs (hC r σ1 e1) (kk r σ1 e2)
theorem r_cNl {y : MethodName} {bytes : ByteArray} {maxL n idx h2 : Nat} {host : String} {ret2 : Option FieldType} {As st1 : List Value} {β : Type} {g : kdM → Option (Int64 × kdM)} {f : Int64 → kdM → Option β} {w : β} (hX : kdX E A cc nL own ret h) (hd : decode cc pc = .ok (.invokestatic idx, 3)) (hL : kdL y bytes maxL ret2 n) (hlink : (own, idx, y, host) ∈ kdN) (hstat : Cond.static y ∈ kdtb) (hh : h2 < h) (hn : As.length = n) (hst : (st.map fun v => v.category).sum ≤ 8) (hs : (As.reverse ++ st) = st1) (hcs : kdRO A (kdzc z) (kdzs z)) (hq : kcl g f σ = some w) (hC : ∀ (r : Int64) (σ1 : kdM), g σ = some (r, σ1) → Con E G y bytes maxL ret2 h2 As σ (some (.long r), σ1)) (kk : ∀ (r : Int64) (σ1 : kdM), f r σ1 = some w → SW E G z A nL σ1 (pc + 3) L (.long r :: st)) : SW E G z A nL σ pc L st1 := by
  subst hs
  obtain ⟨r, σ1, e1, e2⟩ := kcl_inv hq
  exact r_cSN hX hd hL hlink hstat hh hn hst hcs (hC r σ1 e1) (kk r σ1 e2)
theorem r_cNv {y : MethodName} {bytes : ByteArray} {maxL n idx h2 : Nat} {host : String} {ret2 : Option FieldType} {As st1 : List Value} {β : Type} {g : kdM → Option (Unit × kdM)} {f : Unit → kdM → Option β} {w : β} (hX : kdX E A cc nL own ret h) (hd : decode cc pc = .ok (.invokestatic idx, 3)) (hL : kdL y bytes maxL ret2 n) (hlink : (own, idx, y, host) ∈ kdN) (hstat : Cond.static y ∈ kdtb) (hh : h2 < h) (hn : As.length = n) (hst : (st.map fun v => v.category).sum ≤ 8) (hs : (As.reverse ++ st) = st1) (hcs : kdRO A (kdzc z) (kdzs z)) (hq : kcl g f σ = some w) (hC : ∀ (r : Unit) (σ1 : kdM), g σ = some (r, σ1) → Con E G y bytes maxL ret2 h2 As σ (none, σ1)) (kk : ∀ (r : Unit) (σ1 : kdM), f r σ1 = some w → SW E G z A nL σ1 (pc + 3) L st) : SW E G z A nL σ pc L st1 := by
  subst hs
  obtain ⟨r, σ1, e1, e2⟩ := kcl_inv hq
  exact r_cSN hX hd hL hlink hstat hh hn hst hcs (hC r σ1 e1) (kk r σ1 e2)
theorem r_cNa {y : MethodName} {bytes : ByteArray} {maxL n idx h2 : Nat} {host : String} {ret2 : Option FieldType} {As st1 : List Value} {β : Type} {g : kdM → Option (Nat × kdM)} {f : Nat → kdM → Option β} {w : β} (hX : kdX E A cc nL own ret h) (hd : decode cc pc = .ok (.invokestatic idx, 3)) (hL : kdL y bytes maxL ret2 n) (hlink : (own, idx, y, host) ∈ kdN) (hstat : Cond.static y ∈ kdtb) (hh : h2 < h) (hn : As.length = n) (hst : (st.map fun v => v.category).sum ≤ 8) (hs : (As.reverse ++ st) = st1) (hcs : kdRO A (kdzc z) (kdzs z)) (hq : kcl g f σ = some w) (hC : ∀ (r : Nat) (σ1 : kdM), g σ = some (r, σ1) → Con E G y bytes maxL ret2 h2 As σ (some (kr E r), σ1)) (kk : ∀ (r : Nat) (σ1 : kdM), f r σ1 = some w → SW E G z A nL σ1 (pc + 3) L (kr E r :: st)) : SW E G z A nL σ pc L st1 := by
  subst hs
  obtain ⟨r, σ1, e1, e2⟩ := kcl_inv hq
  exact r_cSN hX hd hL hlink hstat hh hn hst hcs (hC r σ1 e1) (kk r σ1 e2)
theorem kd_end {p : Program} {s : State} {args : Array Value} {H : Heap} {locs : List Loc} {v : Option Value} (hR : kdR E G σ H) (hS : va_S (fun q => E.2.2.2 ≤ q) s.heap H locs) : ∀ t : State, t.heap = H → s.WarmedH t.vm → kdQ E G (v, σ) args s (.returned v) t := fun t ht _ => ⟨rfl, by rw [ht]; exact hR, hS.F ht⟩
theorem r_iret {x r : Int32} {σ1 : kdM} (hX : kdX E A cc nL own (some .int) h) (hd : decode cc pc = .ok (.ireturn, 1)) (hh : rt x σ = some (r, σ1)) : SW E G (.inl (some (.int r), σ1)) A nL σ pc L [.int x] := by
  cases hh
  obtain ⟨p, e, R, s, m, args, below, meth, c⟩ := A
  intro H locs ls hl hR hS
  exact W.iret hX.1 hX.2.1 hX.2.2.2.2.2.2.2.2.1 (kd_end (p := p) hR hS) hS.2.2 hd hX.2.2.2.2.2.2.2.1
theorem kd_nar (x : Int32) : narrow .boolean (.int x) = .int (vp_nar .boolean x) := rfl
theorem kd_zret {p : Program} {l : Launch} {e : Env} {R : Room} {s : State} {m : MethodId} {args : Array Value} {below : List Frame} {meth : Method} {c : Code} {H : Heap} {locs : List Loc} {cells slots : Nat} {Qc : Array Value → State → Outcome → State → Prop} {free : Addr → Prop} {v : Int32} (hexec : p.tables.exec = Jvm.exec) (hb : c.code = cc) (hr : meth.sig.returnType = some .boolean)
    (hq : ∀ t : State, t.heap = H → s.WarmedH t.vm → Qc args s (.returned (some (.int (vp_nar .boolean v)))) t) (hf : ∀ q ∈ locs, free q.base)
    {ls : Array Slot} (hdg : decode cc pc = .ok (.ireturn, 1)) (hlocks : meth.locks = false) : W p l e R s m args below meth c H locs cells slots (MQ below Qc args s cells slots free) (F0 m pc ls [.int v]) := by
  intro T hT X
  obtain ⟨fs, hret, hrun, hended, hW, hframe⟩ := X.leave (v := some (.int (vp_nar .boolean v))) (hlocks := hlocks) (fun h => by rw [hr] at h; cases h)
  have hmeth' : T.vm.method? m = some meth := X.method'
  refine ⟨T.setFrames fs, ?_, .returned (some (.int (vp_nar .boolean v))), hrun, hended, hq _ hT hW, locs, ⟨⟨_, rfl⟩, hW, hframe⟩, hf⟩
  jvm_step X.here [X.here.top, hexec, hb, hdg, hmeth', hr, kd_nar]
  (try refine ⟨rfl, ?_⟩); (try refine ⟨rfl, ?_⟩)
  first | (intro acts; rw [hret _ acts rfl rfl rfl]) | rw [hret _ _ rfl rfl rfl]
  exact Steps.refl _
theorem r_zret {x r : Int32} {σ1 : kdM} (hX : kdX E A cc nL own (some .boolean) h) (hd : decode cc pc = .ok (.ireturn, 1)) (hh : rt (vp_nar .boolean x) σ = some (r, σ1)) : SW E G (.inl (some (.int r), σ1)) A nL σ pc L [.int x] := by
  cases hh
  obtain ⟨p, e, R, s, m, args, below, meth, c⟩ := A
  intro H locs ls hl hR hS
  exact kd_zret hX.1 hX.2.1 hX.2.2.2.2.2.2.2.2.1 (kd_end (p := p) hR hS) hS.2.2 hd hX.2.2.2.2.2.2.2.1
theorem r_lret {x r : Int64} {σ1 : kdM} (hX : kdX E A cc nL own (some .long) h) (hd : decode cc pc = .ok (.lreturn, 1)) (hh : rt x σ = some (r, σ1)) : SW E G (.inl (some (.long r), σ1)) A nL σ pc L [.long x] := by
  cases hh
  obtain ⟨p, e, R, s, m, args, below, meth, c⟩ := A
  intro H locs ls hl hR hS
  exact W.lret hX.1 hX.2.1 hX.2.2.2.2.2.2.2.2.1 (kd_end (p := p) hR hS) hS.2.2 hd hX.2.2.2.2.2.2.2.1
theorem r_vret {r : Unit} {σ1 : kdM} (hX : kdX E A cc nL own none h) (hd : decode cc pc = .ok (.return_, 1)) (hh : rt () σ = some (r, σ1)) : SW E G (.inl (none, σ1)) A nL σ pc L [] := by
  cases hh
  obtain ⟨p, e, R, s, m, args, below, meth, c⟩ := A
  intro H locs ls hl hR hS
  exact W.vret hX.1 hX.2.1 hX.2.2.2.2.2.2.2.2.1 (kd_end (p := p) hR hS) hS.2.2 hd hX.2.2.2.2.2.2.2.1
theorem r_aret {x r : Nat} {C : String} {σ1 : kdM} (hX : kdX E A cc nL own (some (.object C)) h) (hd : decode cc pc = .ok (.areturn, 1)) (hh : rt x σ = some (r, σ1)) : SW E G (.inl (some (kr E r), σ1)) A nL σ pc L [kr E x] := by
  cases hh
  obtain ⟨p, e, R, s, m, args, below, meth, c⟩ := A
  intro H locs ls hl hR hS
  exact W.aret hX.1 hX.2.1 hX.2.2.2.2.2.2.2.2.1 (Or.inl ⟨C, rfl⟩) (Or.inr ⟨_, rfl⟩) (kd_end (p := p) hR hS) hS.2.2 hd hX.2.2.2.2.2.2.2.1
end KDR
/-- a contract out of a walk from the entry -/
theorem kd_head {E : kdE} {G : kdS} {y : MethodName} {bytes : ByteArray} {maxL h : Nat} {ret : Option FieldType} {own : String} {av : List Value} {σ : kdM} {z : Option Value × kdM} (hy : y.cls = own) (hpl : plainName y.cls = true) (hlen : (lg_sl av).length ≤ maxL) (body : ∀ A : kdA, kdX E A bytes maxL own ret h → SW E G (.inl z) A maxL σ 0 (lv_args 0 av) []) : Con E G y bytes maxL ret h av σ z := by
  refine Met.ofW (cc := bytes) (maxL := maxL) (ret := ret) hpl rfl ?_
  intro p e s m args below meth c s₁ B hml hv
  obtain ⟨rfl, hR, hK, hN⟩ := hv
  have hts := atoms_spec (ws := Cond.code y bytes maxL ret :: kdtb) B.pre
  have hown : s.vm.findClass own = some m.cls := hy ▸ findClass_of_methodNamed B.named
  have hb := body (p, e, (headSpec (Cond.code y bytes maxL ret :: kdtb) (kdrm h)).room, s, m, av.toArray, below, meth, c) ⟨B.exec, B.bytes, hml, hown, fun w hw => hts w (List.mem_cons_of_mem _ hw), hK, hN, B.notSynchronized, B.returns, Nat.le_refl _, Nat.le_refl _⟩
  rw [lg_entry_eq]
  exact hb s.heap [] _ (lv_entry av hlen) hR va_S.rf
end
section
-- words of the tables, fields, callees: by program (wip/p49/gen/gen.py)
theorem kk_i_1 : Int32.ofInt 1 = (1 : Int32) := by decide
theorem kk_i_0 : Int32.ofInt 0 = (0 : Int32) := by decide
theorem kk_i_m1 : Int32.ofInt (-1) = ((-1) : Int32) := by decide
theorem kk_b_m4 : (Int8.ofInt (-4)).toInt32 = ((-4) : Int32) := by decide
theorem kk_i_4 : Int32.ofInt 4 = (4 : Int32) := by decide
theorem kk_i_2 : Int32.ofInt 2 = (2 : Int32) := by decide
theorem kk_i_3 : Int32.ofInt 3 = (3 : Int32) := by decide
theorem kk_b_m6 : (Int8.ofInt (-6)).toInt32 = ((-6) : Int32) := by decide
theorem kk_s_1000 : (Int16.ofInt 1000).toInt32 = (1000 : Int32) := by decide
theorem kk_s_2001 : (Int16.ofInt 2001).toInt32 = (2001 : Int32) := by decide
theorem kk_b_100 : (Int8.ofInt 100).toInt32 = (100 : Int32) := by decide
theorem kk_s_5000 : (Int16.ofInt 5000).toInt32 = (5000 : Int32) := by decide
theorem kk_b_7 : (Int8.ofInt 7).toInt32 = (7 : Int32) := by decide
theorem kk_b_11 : (Int8.ofInt 11).toInt32 = (11 : Int32) := by decide
theorem kk_b_m2 : (Int8.ofInt (-2)).toInt32 = ((-2) : Int32) := by decide
theorem kk_b_m5 : (Int8.ofInt (-5)).toInt32 = ((-5) : Int32) := by decide
theorem kk_s_999 : (Int16.ofInt 999).toInt32 = (999 : Int32) := by decide
theorem kk_b_8 : (Int8.ofInt 8).toInt32 = (8 : Int32) := by decide
theorem kk_b_10 : (Int8.ofInt 10).toInt32 = (10 : Int32) := by decide
theorem kk_b_m3 : (Int8.ofInt (-3)).toInt32 = ((-3) : Int32) := by decide
theorem kk_b_60 : (Int8.ofInt 60).toInt32 = (60 : Int32) := by decide
theorem kk_s_3000 : (Int16.ofInt 3000).toInt32 = (3000 : Int32) := by decide
theorem kk_b_20 : (Int8.ofInt 20).toInt32 = (20 : Int32) := by decide
theorem kk_b_30 : (Int8.ofInt 30).toInt32 = (30 : Int32) := by decide
theorem w_fl_X6_21 : Cond.fieldLink RX6 21 "KeyDesk$Row" "size" "I" ∈ kdtb := kdtb_mem 40 (by decide +kernel) rfl
theorem w_fl_X6_15 : Cond.fieldLink RX6 15 "KeyDesk$Row" "items" "[I" ∈ kdtb := kdtb_mem 39 (by decide +kernel) rfl
theorem w_cd_X6_isFull : Cond.code yX6_isFull cX6_isFull 1 (some .boolean) ∈ kdtb := kdtb_mem 512 (by decide +kernel) rfl
theorem w_in_X6 : Cond.initialized RX6 ∈ kdtb := kdtb_mem 10 (by decide +kernel) rfl
theorem w_ml_X6_29 : Cond.methodLink RX6 29 yX6_isFull ∈ kdtb := kdtb_mem 509 (by decide +kernel) rfl
theorem w_im_X6_isFull : Cond.instanceMethod yX6_isFull ∈ kdtb := kdtb_mem 510 (by decide +kernel) rfl
theorem w_se_X6_isFull : Cond.selects yX6_isFull.cls yX6_isFull yX6_isFull ∈ kdtb := kdtb_mem 511 (by decide +kernel) rfl
theorem w_cd_X6_insert : Cond.code yX6_insert cX6_insert 4 none ∈ kdtb := kdtb_mem 508 (by decide +kernel) rfl
theorem w_ml_X6_25 : Cond.methodLink RX6 25 yX6_insert ∈ kdtb := kdtb_mem 546 (by decide +kernel) rfl
theorem w_im_X6_insert : Cond.instanceMethod yX6_insert ∈ kdtb := kdtb_mem 506 (by decide +kernel) rfl
theorem w_se_X6_insert : Cond.selects yX6_insert.cls yX6_insert yX6_insert ∈ kdtb := kdtb_mem 507 (by decide +kernel) rfl
theorem w_cd_X6_at : Cond.code yX6_at cX6_at 2 (some .int) ∈ kdtb := kdtb_mem 395 (by decide +kernel) rfl
theorem w_ml_X6_33 : Cond.methodLink RX6 33 yX6_at ∈ kdtb := kdtb_mem 563 (by decide +kernel) rfl
theorem w_im_X6_at : Cond.instanceMethod yX6_at ∈ kdtb := kdtb_mem 393 (by decide +kernel) rfl
theorem w_se_X6_at : Cond.selects yX6_at.cls yX6_at yX6_at ∈ kdtb := kdtb_mem 394 (by decide +kernel) rfl
theorem w_cd_X6_has : Cond.code yX6_has cX6_has 2 (some .boolean) ∈ kdtb := kdtb_mem 387 (by decide +kernel) rfl
theorem w_ml_X6_37 : Cond.methodLink RX6 37 yX6_has ∈ kdtb := kdtb_mem 564 (by decide +kernel) rfl
theorem w_im_X6_has : Cond.instanceMethod yX6_has ∈ kdtb := kdtb_mem 385 (by decide +kernel) rfl
theorem w_se_X6_has : Cond.selects yX6_has.cls yX6_has yX6_has ∈ kdtb := kdtb_mem 386 (by decide +kernel) rfl
theorem w_cd_X6_add : Cond.code yX6_add cX6_add 2 none ∈ kdtb := kdtb_mem 545 (by decide +kernel) rfl
theorem w_ml_X6_45 : Cond.methodLink RX6 45 yX6_add ∈ kdtb := kdtb_mem 702 (by decide +kernel) rfl
theorem w_im_X6_add : Cond.instanceMethod yX6_add ∈ kdtb := kdtb_mem 543 (by decide +kernel) rfl
theorem w_se_X6_add : Cond.selects yX6_add.cls yX6_add yX6_add ∈ kdtb := kdtb_mem 544 (by decide +kernel) rfl
theorem w_cd_X6_clear : Cond.code yX6_clear cX6_clear 2 (some .int) ∈ kdtb := kdtb_mem 468 (by decide +kernel) rfl
theorem w_ml_X6_41 : Cond.methodLink RX6 41 yX6_clear ∈ kdtb := kdtb_mem 701 (by decide +kernel) rfl
theorem w_im_X6_clear : Cond.instanceMethod yX6_clear ∈ kdtb := kdtb_mem 466 (by decide +kernel) rfl
theorem w_se_X6_clear : Cond.selects yX6_clear.cls yX6_clear yX6_clear ∈ kdtb := kdtb_mem 467 (by decide +kernel) rfl
theorem w_fl_X8_40 : Cond.fieldLink RX8 40 "KeyDesk$Tongue" "rules" "I" ∈ kdtb := kdtb_mem 59 (by decide +kernel) rfl
theorem w_fl_X8_30 : Cond.fieldLink RX8 30 "KeyDesk$Tongue" "joints" "LKeyDesk$Row;" ∈ kdtb := kdtb_mem 62 (by decide +kernel) rfl
theorem w_cd_X6_size : Cond.code yX6_size cX6_size 1 (some .int) ∈ kdtb := kdtb_mem 411 (by decide +kernel) rfl
theorem w_ml_X8_44 : Cond.methodLink RX8 44 yX6_size ∈ kdtb := kdtb_mem 658 (by decide +kernel) rfl
theorem w_im_X6_size : Cond.instanceMethod yX6_size ∈ kdtb := kdtb_mem 409 (by decide +kernel) rfl
theorem w_se_X6_size : Cond.selects yX6_size.cls yX6_size yX6_size ∈ kdtb := kdtb_mem 410 (by decide +kernel) rfl
theorem w_fl_X4_14 : Cond.fieldLink RX4 14 "KeyDesk$Line" "strokes" "LKeyDesk$Row;" ∈ kdtb := kdtb_mem 91 (by decide +kernel) rfl
theorem w_fl_X4_29 : Cond.fieldLink RX4 29 "KeyDesk$Line" "tongue" "I" ∈ kdtb := kdtb_mem 95 (by decide +kernel) rfl
theorem w_fl_X10_14 : Cond.fieldLink RX10 14 "KeyDesk$Words" "tonguesOfWords" "LKeyDesk$Row;" ∈ kdtb := kdtb_mem 115 (by decide +kernel) rfl
theorem w_ml_X10_30 : Cond.methodLink RX10 30 yX6_size ∈ kdtb := kdtb_mem 473 (by decide +kernel) rfl
theorem w_ml_X10_34 : Cond.methodLink RX10 34 yX6_isFull ∈ kdtb := kdtb_mem 690 (by decide +kernel) rfl
theorem w_ml_X10_38 : Cond.methodLink RX10 38 yX6_has ∈ kdtb := kdtb_mem 384 (by decide +kernel) rfl
theorem w_ml_X10_42 : Cond.methodLink RX10 42 yX6_at ∈ kdtb := kdtb_mem 392 (by decide +kernel) rfl
theorem w_fl_X10_20 : Cond.fieldLink RX10 20 "KeyDesk$Words" "signsOfWords" "LKeyDesk$Row;" ∈ kdtb := kdtb_mem 116 (by decide +kernel) rfl
theorem w_fl_X10_23 : Cond.fieldLink RX10 23 "KeyDesk$Words" "countsOfWords" "LKeyDesk$Row;" ∈ kdtb := kdtb_mem 117 (by decide +kernel) rfl
theorem w_fl_X10_26 : Cond.fieldLink RX10 26 "KeyDesk$Words" "keysOfWords" "[LKeyDesk$Row;" ∈ kdtb := kdtb_mem 118 (by decide +kernel) rfl
theorem w_cd_X10_isFull : Cond.code yX10_isFull cX10_isFull 1 (some .boolean) ∈ kdtb := kdtb_mem 689 (by decide +kernel) rfl
theorem w_in_X10 : Cond.initialized RX10 ∈ kdtb := kdtb_mem 14 (by decide +kernel) rfl
theorem w_ml_X10_50 : Cond.methodLink RX10 50 yX10_isFull ∈ kdtb := kdtb_mem 695 (by decide +kernel) rfl
theorem w_im_X10_isFull : Cond.instanceMethod yX10_isFull ∈ kdtb := kdtb_mem 687 (by decide +kernel) rfl
theorem w_se_X10_isFull : Cond.selects yX10_isFull.cls yX10_isFull yX10_isFull ∈ kdtb := kdtb_mem 688 (by decide +kernel) rfl
theorem w_cd_X10_size : Cond.code yX10_size cX10_size 1 (some .int) ∈ kdtb := kdtb_mem 472 (by decide +kernel) rfl
theorem w_ml_X10_51 : Cond.methodLink RX10 51 yX10_size ∈ kdtb := kdtb_mem 696 (by decide +kernel) rfl
theorem w_im_X10_size : Cond.instanceMethod yX10_size ∈ kdtb := kdtb_mem 470 (by decide +kernel) rfl
theorem w_se_X10_size : Cond.selects yX10_size.cls yX10_size yX10_size ∈ kdtb := kdtb_mem 471 (by decide +kernel) rfl
theorem w_cd_X6_copy : Cond.code yX6_copy cX6_copy 3 none ∈ kdtb := kdtb_mem 700 (by decide +kernel) rfl
theorem w_ml_X10_52 : Cond.methodLink RX10 52 yX6_copy ∈ kdtb := kdtb_mem 697 (by decide +kernel) rfl
theorem w_im_X6_copy : Cond.instanceMethod yX6_copy ∈ kdtb := kdtb_mem 698 (by decide +kernel) rfl
theorem w_se_X6_copy : Cond.selects yX6_copy.cls yX6_copy yX6_copy ∈ kdtb := kdtb_mem 699 (by decide +kernel) rfl
theorem w_ml_X10_56 : Cond.methodLink RX10 56 yX6_add ∈ kdtb := kdtb_mem 703 (by decide +kernel) rfl
theorem w_fl_X7_17 : Cond.fieldLink RX7 17 "KeyDesk$Slips" "least" "[[I" ∈ kdtb := kdtb_mem 137 (by decide +kernel) rfl
theorem w_ml_X7_20 : Cond.methodLink RX7 20 yX6_size ∈ kdtb := kdtb_mem 426 (by decide +kernel) rfl
theorem w_ml_X7_51 : Cond.methodLink RX7 51 Lib.Math.abs.name ∈ kdtb := kdtb_mem 443 (by decide +kernel) rfl
theorem w_st_Math_abs : Cond.static Lib.Math.abs.name ∈ kdtb := kdtb_mem 444 (by decide +kernel) rfl
theorem w_in_Math : Cond.initialized "java/lang/Math" ∈ kdtb := kdtb_mem 11 (by decide +kernel) rfl
theorem w_cd_Math_abs : Cond.code Lib.Math.abs.name Lib.Math.abs.code 1 (some .int) ∈ kdtb := kdtb_mem 445 (by decide +kernel) rfl
theorem w_fl_X7_9 : Cond.fieldLink RX7 9 "KeyDesk$Slips" "prices" "[I" ∈ kdtb := kdtb_mem 136 (by decide +kernel) rfl
theorem w_ml_X7_38 : Cond.methodLink RX7 38 yX6_at ∈ kdtb := kdtb_mem 435 (by decide +kernel) rfl
theorem w_ml_X7_42 : Cond.methodLink RX7 42 Lib.Math.min.name ∈ kdtb := kdtb_mem 436 (by decide +kernel) rfl
theorem w_st_Math_min : Cond.static Lib.Math.min.name ∈ kdtb := kdtb_mem 437 (by decide +kernel) rfl
theorem w_cd_Math_min : Cond.code Lib.Math.min.name Lib.Math.min.code 2 (some .int) ∈ kdtb := kdtb_mem 438 (by decide +kernel) rfl
theorem w_cd_X7_priceOfOne : Cond.code yX7_priceOfOne cX7_priceOfOne 5 (some .int) ∈ kdtb := kdtb_mem 442 (by decide +kernel) rfl
theorem w_in_X7 : Cond.initialized RX7 ∈ kdtb := kdtb_mem 15 (by decide +kernel) rfl
theorem w_ml_X7_48 : Cond.methodLink RX7 48 yX7_priceOfOne ∈ kdtb := kdtb_mem 439 (by decide +kernel) rfl
theorem w_im_X7_priceOfOne : Cond.instanceMethod yX7_priceOfOne ∈ kdtb := kdtb_mem 441 (by decide +kernel) rfl
theorem w_se_X7_priceOfOne : Cond.selects yX7_priceOfOne.cls yX7_priceOfOne yX7_priceOfOne ∈ kdtb := kdtb_mem 1 (by decide +kernel) rfl
theorem w_cd_X7_leastSum : Cond.code yX7_leastSum cX7_leastSum 9 (some .int) ∈ kdtb := kdtb_mem 434 (by decide +kernel) rfl
theorem w_ml_X7_34 : Cond.methodLink RX7 34 yX7_leastSum ∈ kdtb := kdtb_mem 431 (by decide +kernel) rfl
theorem w_im_X7_leastSum : Cond.instanceMethod yX7_leastSum ∈ kdtb := kdtb_mem 433 (by decide +kernel) rfl
theorem w_se_X7_leastSum : Cond.selects yX7_leastSum.cls yX7_leastSum yX7_leastSum ∈ kdtb := kdtb_mem 0 (by decide +kernel) rfl
theorem w_cd_X7_workOut : Cond.code yX7_workOut cX7_workOut 7 none ∈ kdtb := kdtb_mem 430 (by decide +kernel) rfl
theorem w_ml_X7_26 : Cond.methodLink RX7 26 yX7_workOut ∈ kdtb := kdtb_mem 427 (by decide +kernel) rfl
theorem w_im_X7_workOut : Cond.instanceMethod yX7_workOut ∈ kdtb := kdtb_mem 428 (by decide +kernel) rfl
theorem w_se_X7_workOut : Cond.selects yX7_workOut.cls yX7_workOut yX7_workOut ∈ kdtb := kdtb_mem 429 (by decide +kernel) rfl
theorem w_cd_X7_leastFor : Cond.code yX7_leastFor cX7_leastFor 3 (some .int) ∈ kdtb := kdtb_mem 449 (by decide +kernel) rfl
theorem w_ml_X7_30 : Cond.methodLink RX7 30 yX7_leastFor ∈ kdtb := kdtb_mem 446 (by decide +kernel) rfl
theorem w_im_X7_leastFor : Cond.instanceMethod yX7_leastFor ∈ kdtb := kdtb_mem 447 (by decide +kernel) rfl
theorem w_se_X7_leastFor : Cond.selects yX7_leastFor.cls yX7_leastFor yX7_leastFor ∈ kdtb := kdtb_mem 448 (by decide +kernel) rfl
theorem w_fl_X1_14 : Cond.fieldLink RX1 14 "KeyDesk$Guesses" "found" "LKeyDesk$Row;" ∈ kdtb := kdtb_mem 151 (by decide +kernel) rfl
theorem w_ml_X1_26 : Cond.methodLink RX1 26 yX6_clear ∈ kdtb := kdtb_mem 465 (by decide +kernel) rfl
theorem w_fl_X1_20 : Cond.fieldLink RX1 20 "KeyDesk$Guesses" "prices" "LKeyDesk$Row;" ∈ kdtb := kdtb_mem 152 (by decide +kernel) rfl
theorem w_fl_X1_23 : Cond.fieldLink RX1 23 "KeyDesk$Guesses" "weights" "LKeyDesk$Row;" ∈ kdtb := kdtb_mem 153 (by decide +kernel) rfl
theorem w_ml_X1_41 : Cond.methodLink RX1 41 yX6_at ∈ kdtb := kdtb_mem 504 (by decide +kernel) rfl
theorem w_ml_X1_37 : Cond.methodLink RX1 37 yX6_insert ∈ kdtb := kdtb_mem 505 (by decide +kernel) rfl
theorem w_cd_X1_goesAhead : Cond.code yX1_goesAhead cX1_goesAhead 4 (some .boolean) ∈ kdtb := kdtb_mem 503 (by decide +kernel) rfl
theorem w_in_X1 : Cond.initialized RX1 ∈ kdtb := kdtb_mem 16 (by decide +kernel) rfl
theorem w_ml_X1_33 : Cond.methodLink RX1 33 yX1_goesAhead ∈ kdtb := kdtb_mem 500 (by decide +kernel) rfl
theorem w_im_X1_goesAhead : Cond.instanceMethod yX1_goesAhead ∈ kdtb := kdtb_mem 502 (by decide +kernel) rfl
theorem w_se_X1_goesAhead : Cond.selects yX1_goesAhead.cls yX1_goesAhead yX1_goesAhead ∈ kdtb := kdtb_mem 5 (by decide +kernel) rfl
theorem w_ml_X1_30 : Cond.methodLink RX1 30 yX6_size ∈ kdtb := kdtb_mem 499 (by decide +kernel) rfl
theorem w_ml_X1_45 : Cond.methodLink RX1 45 yX6_has ∈ kdtb := kdtb_mem 517 (by decide +kernel) rfl
theorem w_fl_X0_43 : Cond.fieldLink RX0 43 "KeyDesk$Choice" "pairs" "I" ∈ kdtb := kdtb_mem 209 (by decide +kernel) rfl
theorem w_fl_X0_21 : Cond.fieldLink RX0 21 "KeyDesk$Choice" "pad" "LKeyDesk$Row;" ∈ kdtb := kdtb_mem 210 (by decide +kernel) rfl
theorem w_ml_X0_47 : Cond.methodLink RX0 47 yX6_size ∈ kdtb := kdtb_mem 625 (by decide +kernel) rfl
theorem w_fl_X2_14 : Cond.fieldLink RX2 14 "KeyDesk$Hands" "handsOfLearnings" "LKeyDesk$Row;" ∈ kdtb := kdtb_mem 241 (by decide +kernel) rfl
theorem w_ml_X2_37 : Cond.methodLink RX2 37 yX6_size ∈ kdtb := kdtb_mem 485 (by decide +kernel) rfl
theorem w_ml_X2_41 : Cond.methodLink RX2 41 yX6_isFull ∈ kdtb := kdtb_mem 532 (by decide +kernel) rfl
theorem w_ml_X2_45 : Cond.methodLink RX2 45 yX6_add ∈ kdtb := kdtb_mem 542 (by decide +kernel) rfl
theorem w_fl_X2_20 : Cond.fieldLink RX2 20 "KeyDesk$Hands" "wordsOfLearnings" "LKeyDesk$Row;" ∈ kdtb := kdtb_mem 242 (by decide +kernel) rfl
theorem w_fl_X2_23 : Cond.fieldLink RX2 23 "KeyDesk$Hands" "daysOfLearnings" "LKeyDesk$Row;" ∈ kdtb := kdtb_mem 243 (by decide +kernel) rfl
theorem w_cd_X2_learnings : Cond.code yX2_learnings cX2_learnings 1 (some .int) ∈ kdtb := kdtb_mem 484 (by decide +kernel) rfl
theorem w_in_X2 : Cond.initialized RX2 ∈ kdtb := kdtb_mem 19 (by decide +kernel) rfl
theorem w_ml_X2_48 : Cond.methodLink RX2 48 yX2_learnings ∈ kdtb := kdtb_mem 481 (by decide +kernel) rfl
theorem w_im_X2_learnings : Cond.instanceMethod yX2_learnings ∈ kdtb := kdtb_mem 482 (by decide +kernel) rfl
theorem w_se_X2_learnings : Cond.selects yX2_learnings.cls yX2_learnings yX2_learnings ∈ kdtb := kdtb_mem 483 (by decide +kernel) rfl
theorem w_ml_X2_51 : Cond.methodLink RX2 51 yX6_at ∈ kdtb := kdtb_mem 490 (by decide +kernel) rfl
theorem w_ml_X2_55 : Cond.methodLink RX2 55 Lib.Math.max.name ∈ kdtb := kdtb_mem 537 (by decide +kernel) rfl
theorem w_st_Math_max : Cond.static Lib.Math.max.name ∈ kdtb := kdtb_mem 37 (by decide +kernel) rfl
theorem w_cd_Math_max : Cond.code Lib.Math.max.name Lib.Math.max.code 2 (some .int) ∈ kdtb := kdtb_mem 38 (by decide +kernel) rfl
theorem w_fl_X2_30 : Cond.fieldLink RX2 30 "KeyDesk$Hands" "fading" "I" ∈ kdtb := kdtb_mem 245 (by decide +kernel) rfl
theorem w_cd_X2_isOf : Cond.code yX2_isOf cX2_isOf 4 (some .boolean) ∈ kdtb := kdtb_mem 489 (by decide +kernel) rfl
theorem w_ml_X2_61 : Cond.methodLink RX2 61 yX2_isOf ∈ kdtb := kdtb_mem 486 (by decide +kernel) rfl
theorem w_im_X2_isOf : Cond.instanceMethod yX2_isOf ∈ kdtb := kdtb_mem 488 (by decide +kernel) rfl
theorem w_se_X2_isOf : Cond.selects yX2_isOf.cls yX2_isOf yX2_isOf ∈ kdtb := kdtb_mem 3 (by decide +kernel) rfl
theorem w_cd_X2_faded : Cond.code yX2_faded cX2_faded 5 (some .int) ∈ kdtb := kdtb_mem 494 (by decide +kernel) rfl
theorem w_ml_X2_65 : Cond.methodLink RX2 65 yX2_faded ∈ kdtb := kdtb_mem 491 (by decide +kernel) rfl
theorem w_im_X2_faded : Cond.instanceMethod yX2_faded ∈ kdtb := kdtb_mem 493 (by decide +kernel) rfl
theorem w_se_X2_faded : Cond.selects yX2_faded.cls yX2_faded yX2_faded ∈ kdtb := kdtb_mem 4 (by decide +kernel) rfl
theorem w_cd_X6_remove : Cond.code yX6_remove cX6_remove 4 (some .int) ∈ kdtb := kdtb_mem 562 (by decide +kernel) rfl
theorem w_ml_X2_68 : Cond.methodLink RX2 68 yX6_remove ∈ kdtb := kdtb_mem 559 (by decide +kernel) rfl
theorem w_im_X6_remove : Cond.instanceMethod yX6_remove ∈ kdtb := kdtb_mem 560 (by decide +kernel) rfl
theorem w_se_X6_remove : Cond.selects yX6_remove.cls yX6_remove yX6_remove ∈ kdtb := kdtb_mem 561 (by decide +kernel) rfl
theorem w_fl_X2_26 : Cond.fieldLink RX2 26 "KeyDesk$Hands" "budgets" "[I" ∈ kdtb := kdtb_mem 244 (by decide +kernel) rfl
theorem w_fl_X2_34 : Cond.fieldLink RX2 34 "KeyDesk$Hands" "lotSeed" "I" ∈ kdtb := kdtb_mem 246 (by decide +kernel) rfl
theorem w_cl_X2_81 : Cond.constantLong RX2 81 (16807) ∈ kdtb := kdtb_mem 615 (by decide +kernel) rfl
theorem w_cl_X2_83 : Cond.constantLong RX2 83 (2147483647) ∈ kdtb := kdtb_mem 616 (by decide +kernel) rfl
theorem w_cd_X2_drawLot : Cond.code yX2_drawLot cX2_drawLot 2 (some .int) ∈ kdtb := kdtb_mem 614 (by decide +kernel) rfl
theorem w_ml_X2_78 : Cond.methodLink RX2 78 yX2_drawLot ∈ kdtb := kdtb_mem 611 (by decide +kernel) rfl
theorem w_im_X2_drawLot : Cond.instanceMethod yX2_drawLot ∈ kdtb := kdtb_mem 613 (by decide +kernel) rfl
theorem w_se_X2_drawLot : Cond.selects yX2_drawLot.cls yX2_drawLot yX2_drawLot ∈ kdtb := kdtb_mem 6 (by decide +kernel) rfl
theorem w_cd_X2_worthOf : Cond.code yX2_worthOf cX2_worthOf 6 (some .int) ∈ kdtb := kdtb_mem 480 (by decide +kernel) rfl
theorem w_ml_X2_71 : Cond.methodLink RX2 71 yX2_worthOf ∈ kdtb := kdtb_mem 609 (by decide +kernel) rfl
theorem w_im_X2_worthOf : Cond.instanceMethod yX2_worthOf ∈ kdtb := kdtb_mem 478 (by decide +kernel) rfl
theorem w_se_X2_worthOf : Cond.selects yX2_worthOf.cls yX2_worthOf yX2_worthOf ∈ kdtb := kdtb_mem 479 (by decide +kernel) rfl
theorem w_ml_X2_75 : Cond.methodLink RX2 75 Lib.Math.min.name ∈ kdtb := kdtb_mem 610 (by decide +kernel) rfl
theorem w_fl_X3_37 : Cond.fieldLink RX3 37 "KeyDesk$Layouts" "size" "I" ∈ kdtb := kdtb_mem 271 (by decide +kernel) rfl
theorem w_fl_X3_23 : Cond.fieldLink RX3 23 "KeyDesk$Layouts" "pairLoads" "[[I" ∈ kdtb := kdtb_mem 275 (by decide +kernel) rfl
theorem w_fl_X3_9 : Cond.fieldLink RX3 9 "KeyDesk$Layouts" "efforts" "[I" ∈ kdtb := kdtb_mem 272 (by decide +kernel) rfl
theorem w_fl_X3_15 : Cond.fieldLink RX3 15 "KeyDesk$Layouts" "fingers" "[I" ∈ kdtb := kdtb_mem 273 (by decide +kernel) rfl
theorem w_fl_X3_18 : Cond.fieldLink RX3 18 "KeyDesk$Layouts" "loads" "[I" ∈ kdtb := kdtb_mem 274 (by decide +kernel) rfl
theorem w_cd_X11_within : Cond.code yX11_within cX11_within 3 (some .boolean) ∈ kdtb := kdtb_mem 456 (by decide +kernel) rfl
theorem w_in_X11 : Cond.initialized RX11 ∈ kdtb := kdtb_mem 9 (by decide +kernel) rfl
theorem w_ml_X11_165 : Cond.methodLink RX11 165 yX11_within ∈ kdtb := kdtb_mem 454 (by decide +kernel) rfl
theorem w_st_X11_within : Cond.static yX11_within ∈ kdtb := kdtb_mem 455 (by decide +kernel) rfl
theorem w_cd_X11_isKey : Cond.code yX11_isKey cX11_isKey 1 (some .boolean) ∈ kdtb := kdtb_mem 676 (by decide +kernel) rfl
theorem w_ml_X11_97 : Cond.methodLink RX11 97 yX11_isKey ∈ kdtb := kdtb_mem 674 (by decide +kernel) rfl
theorem w_st_X11_isKey : Cond.static yX11_isKey ∈ kdtb := kdtb_mem 675 (by decide +kernel) rfl
theorem w_fl_X11_14 : Cond.fieldLink RX11 14 "KeyDesk" "padKeys" "LKeyDesk$Row;" ∈ kdtb := kdtb_mem 339 (by decide +kernel) rfl
theorem w_ml_X11_101 : Cond.methodLink RX11 101 yX6_isFull ∈ kdtb := kdtb_mem 677 (by decide +kernel) rfl
theorem w_ml_X11_105 : Cond.methodLink RX11 105 yX6_add ∈ kdtb := kdtb_mem 678 (by decide +kernel) rfl
theorem w_ml_X11_108 : Cond.methodLink RX11 108 yX6_size ∈ kdtb := kdtb_mem 408 (by decide +kernel) rfl
theorem w_cd_X11_isTongue : Cond.code yX11_isTongue cX11_isTongue 1 (some .boolean) ∈ kdtb := kdtb_mem 649 (by decide +kernel) rfl
theorem w_ml_X11_121 : Cond.methodLink RX11 121 yX11_isTongue ∈ kdtb := kdtb_mem 647 (by decide +kernel) rfl
theorem w_st_X11_isTongue : Cond.static yX11_isTongue ∈ kdtb := kdtb_mem 648 (by decide +kernel) rfl
theorem w_fl_X11_38 : Cond.fieldLink RX11 38 "KeyDesk" "words" "LKeyDesk$Words;" ∈ kdtb := kdtb_mem 343 (by decide +kernel) rfl
theorem w_ml_X11_207 : Cond.methodLink RX11 207 yX10_isFull ∈ kdtb := kdtb_mem 686 (by decide +kernel) rfl
theorem w_cd_X6_isEmpty : Cond.code yX6_isEmpty cX6_isEmpty 1 (some .boolean) ∈ kdtb := kdtb_mem 421 (by decide +kernel) rfl
theorem w_ml_X11_127 : Cond.methodLink RX11 127 yX6_isEmpty ∈ kdtb := kdtb_mem 418 (by decide +kernel) rfl
theorem w_im_X6_isEmpty : Cond.instanceMethod yX6_isEmpty ∈ kdtb := kdtb_mem 419 (by decide +kernel) rfl
theorem w_se_X6_isEmpty : Cond.selects yX6_isEmpty.cls yX6_isEmpty yX6_isEmpty ∈ kdtb := kdtb_mem 420 (by decide +kernel) rfl
theorem w_cd_X10_addWord : Cond.code yX10_addWord cX10_addWord 5 (some .int) ∈ kdtb := kdtb_mem 694 (by decide +kernel) rfl
theorem w_ml_X11_208 : Cond.methodLink RX11 208 yX10_addWord ∈ kdtb := kdtb_mem 691 (by decide +kernel) rfl
theorem w_im_X10_addWord : Cond.instanceMethod yX10_addWord ∈ kdtb := kdtb_mem 692 (by decide +kernel) rfl
theorem w_se_X10_addWord : Cond.selects yX10_addWord.cls yX10_addWord yX10_addWord ∈ kdtb := kdtb_mem 693 (by decide +kernel) rfl
theorem w_ml_X11_115 : Cond.methodLink RX11 115 yX6_clear ∈ kdtb := kdtb_mem 704 (by decide +kernel) rfl
theorem w_cd_X10_has : Cond.code yX10_has cX10_has 2 (some .boolean) ∈ kdtb := kdtb_mem 383 (by decide +kernel) rfl
theorem w_ml_X11_212 : Cond.methodLink RX11 212 yX10_has ∈ kdtb := kdtb_mem 380 (by decide +kernel) rfl
theorem w_im_X10_has : Cond.instanceMethod yX10_has ∈ kdtb := kdtb_mem 381 (by decide +kernel) rfl
theorem w_se_X10_has : Cond.selects yX10_has.cls yX10_has yX10_has ∈ kdtb := kdtb_mem 382 (by decide +kernel) rfl
theorem w_cd_X10_tongueOf : Cond.code yX10_tongueOf cX10_tongueOf 2 (some .int) ∈ kdtb := kdtb_mem 391 (by decide +kernel) rfl
theorem w_ml_X11_213 : Cond.methodLink RX11 213 yX10_tongueOf ∈ kdtb := kdtb_mem 388 (by decide +kernel) rfl
theorem w_im_X10_tongueOf : Cond.instanceMethod yX10_tongueOf ∈ kdtb := kdtb_mem 389 (by decide +kernel) rfl
theorem w_se_X10_tongueOf : Cond.selects yX10_tongueOf.cls yX10_tongueOf yX10_tongueOf ∈ kdtb := kdtb_mem 390 (by decide +kernel) rfl
theorem w_cd_X10_signOf : Cond.code yX10_signOf cX10_signOf 2 (some .int) ∈ kdtb := kdtb_mem 399 (by decide +kernel) rfl
theorem w_ml_X11_216 : Cond.methodLink RX11 216 yX10_signOf ∈ kdtb := kdtb_mem 396 (by decide +kernel) rfl
theorem w_im_X10_signOf : Cond.instanceMethod yX10_signOf ∈ kdtb := kdtb_mem 397 (by decide +kernel) rfl
theorem w_se_X10_signOf : Cond.selects yX10_signOf.cls yX10_signOf yX10_signOf ∈ kdtb := kdtb_mem 398 (by decide +kernel) rfl
theorem w_cd_X10_countOf : Cond.code yX10_countOf cX10_countOf 2 (some .int) ∈ kdtb := kdtb_mem 403 (by decide +kernel) rfl
theorem w_ml_X11_219 : Cond.methodLink RX11 219 yX10_countOf ∈ kdtb := kdtb_mem 400 (by decide +kernel) rfl
theorem w_im_X10_countOf : Cond.instanceMethod yX10_countOf ∈ kdtb := kdtb_mem 401 (by decide +kernel) rfl
theorem w_se_X10_countOf : Cond.selects yX10_countOf.cls yX10_countOf yX10_countOf ∈ kdtb := kdtb_mem 402 (by decide +kernel) rfl
theorem w_cd_X10_keysOf : Cond.code yX10_keysOf cX10_keysOf 2 (some (.object "KeyDesk$Row")) ∈ kdtb := kdtb_mem 407 (by decide +kernel) rfl
theorem w_ml_X11_222 : Cond.methodLink RX11 222 yX10_keysOf ∈ kdtb := kdtb_mem 404 (by decide +kernel) rfl
theorem w_im_X10_keysOf : Cond.instanceMethod yX10_keysOf ∈ kdtb := kdtb_mem 405 (by decide +kernel) rfl
theorem w_se_X10_keysOf : Cond.selects yX10_keysOf.cls yX10_keysOf yX10_keysOf ∈ kdtb := kdtb_mem 406 (by decide +kernel) rfl
theorem w_ml_X11_173 : Cond.methodLink RX11 173 yX6_has ∈ kdtb := kdtb_mem 412 (by decide +kernel) rfl
theorem w_ml_X11_194 : Cond.methodLink RX11 194 yX6_at ∈ kdtb := kdtb_mem 413 (by decide +kernel) rfl
theorem w_fl_X11_45 : Cond.fieldLink RX11 45 "KeyDesk" "slips" "LKeyDesk$Slips;" ∈ kdtb := kdtb_mem 344 (by decide +kernel) rfl
theorem w_cd_X7_priceOf : Cond.code yX7_priceOf cX7_priceOf 3 (some .int) ∈ kdtb := kdtb_mem 425 (by decide +kernel) rfl
theorem w_ml_X11_232 : Cond.methodLink RX11 232 yX7_priceOf ∈ kdtb := kdtb_mem 422 (by decide +kernel) rfl
theorem w_im_X7_priceOf : Cond.instanceMethod yX7_priceOf ∈ kdtb := kdtb_mem 423 (by decide +kernel) rfl
theorem w_se_X7_priceOf : Cond.selects yX7_priceOf.cls yX7_priceOf yX7_priceOf ∈ kdtb := kdtb_mem 424 (by decide +kernel) rfl
theorem w_ml_X11_367 : Cond.methodLink RX11 367 yX10_size ∈ kdtb := kdtb_mem 469 (by decide +kernel) rfl
theorem w_cd_X11_hasBit : Cond.code yX11_hasBit cX11_hasBit 2 (some .boolean) ∈ kdtb := kdtb_mem 476 (by decide +kernel) rfl
theorem w_ml_X11_385 : Cond.methodLink RX11 385 yX11_hasBit ∈ kdtb := kdtb_mem 474 (by decide +kernel) rfl
theorem w_st_X11_hasBit : Cond.static yX11_hasBit ∈ kdtb := kdtb_mem 475 (by decide +kernel) rfl
theorem w_fl_X11_52 : Cond.fieldLink RX11 52 "KeyDesk" "guesses" "LKeyDesk$Guesses;" ∈ kdtb := kdtb_mem 345 (by decide +kernel) rfl
theorem w_fl_X11_77 : Cond.fieldLink RX11 77 "KeyDesk" "hands" "LKeyDesk$Hands;" ∈ kdtb := kdtb_mem 348 (by decide +kernel) rfl
theorem w_ml_X11_289 : Cond.methodLink RX11 289 yX2_worthOf ∈ kdtb := kdtb_mem 477 (by decide +kernel) rfl
theorem w_cd_X1_insert : Cond.code yX1_insert cX1_insert 5 none ∈ kdtb := kdtb_mem 498 (by decide +kernel) rfl
theorem w_ml_X11_389 : Cond.methodLink RX11 389 yX1_insert ∈ kdtb := kdtb_mem 495 (by decide +kernel) rfl
theorem w_im_X1_insert : Cond.instanceMethod yX1_insert ∈ kdtb := kdtb_mem 496 (by decide +kernel) rfl
theorem w_se_X1_insert : Cond.selects yX1_insert.cls yX1_insert yX1_insert ∈ kdtb := kdtb_mem 497 (by decide +kernel) rfl
theorem w_cd_X1_clear : Cond.code yX1_clear cX1_clear 1 none ∈ kdtb := kdtb_mem 464 (by decide +kernel) rfl
theorem w_ml_X11_383 : Cond.methodLink RX11 383 yX1_clear ∈ kdtb := kdtb_mem 461 (by decide +kernel) rfl
theorem w_im_X1_clear : Cond.instanceMethod yX1_clear ∈ kdtb := kdtb_mem 462 (by decide +kernel) rfl
theorem w_se_X1_clear : Cond.selects yX1_clear.cls yX1_clear yX1_clear ∈ kdtb := kdtb_mem 463 (by decide +kernel) rfl
theorem w_cd_X11_gather : Cond.code yX11_gather cX11_gather 7 none ∈ kdtb := kdtb_mem 460 (by decide +kernel) rfl
theorem w_ml_X11_235 : Cond.methodLink RX11 235 yX11_gather ∈ kdtb := kdtb_mem 457 (by decide +kernel) rfl
theorem w_im_X11_gather : Cond.instanceMethod yX11_gather ∈ kdtb := kdtb_mem 459 (by decide +kernel) rfl
theorem w_se_X11_gather : Cond.selects yX11_gather.cls yX11_gather yX11_gather ∈ kdtb := kdtb_mem 2 (by decide +kernel) rfl
theorem w_cd_X1_guessAt : Cond.code yX1_guessAt cX1_guessAt 2 (some .int) ∈ kdtb := kdtb_mem 516 (by decide +kernel) rfl
theorem w_ml_X11_239 : Cond.methodLink RX11 239 yX1_guessAt ∈ kdtb := kdtb_mem 513 (by decide +kernel) rfl
theorem w_im_X1_guessAt : Cond.instanceMethod yX1_guessAt ∈ kdtb := kdtb_mem 514 (by decide +kernel) rfl
theorem w_se_X1_guessAt : Cond.selects yX1_guessAt.cls yX1_guessAt yX1_guessAt ∈ kdtb := kdtb_mem 515 (by decide +kernel) rfl
theorem w_cd_X11_isHand : Cond.code yX11_isHand cX11_isHand 1 (some .boolean) ∈ kdtb := kdtb_mem 524 (by decide +kernel) rfl
theorem w_ml_X11_276 : Cond.methodLink RX11 276 yX11_isHand ∈ kdtb := kdtb_mem 522 (by decide +kernel) rfl
theorem w_st_X11_isHand : Cond.static yX11_isHand ∈ kdtb := kdtb_mem 523 (by decide +kernel) rfl
theorem w_cd_X11_isDay : Cond.code yX11_isDay cX11_isDay 1 (some .boolean) ∈ kdtb := kdtb_mem 527 (by decide +kernel) rfl
theorem w_ml_X11_279 : Cond.methodLink RX11 279 yX11_isDay ∈ kdtb := kdtb_mem 525 (by decide +kernel) rfl
theorem w_st_X11_isDay : Cond.static yX11_isDay ∈ kdtb := kdtb_mem 526 (by decide +kernel) rfl
theorem w_cd_X2_isFull : Cond.code yX2_isFull cX2_isFull 1 (some .boolean) ∈ kdtb := kdtb_mem 531 (by decide +kernel) rfl
theorem w_ml_X11_282 : Cond.methodLink RX11 282 yX2_isFull ∈ kdtb := kdtb_mem 528 (by decide +kernel) rfl
theorem w_im_X2_isFull : Cond.instanceMethod yX2_isFull ∈ kdtb := kdtb_mem 529 (by decide +kernel) rfl
theorem w_se_X2_isFull : Cond.selects yX2_isFull.cls yX2_isFull yX2_isFull ∈ kdtb := kdtb_mem 530 (by decide +kernel) rfl
theorem w_cd_X2_latestDay : Cond.code yX2_latestDay cX2_latestDay 4 (some .int) ∈ kdtb := kdtb_mem 536 (by decide +kernel) rfl
theorem w_ml_X11_283 : Cond.methodLink RX11 283 yX2_latestDay ∈ kdtb := kdtb_mem 533 (by decide +kernel) rfl
theorem w_im_X2_latestDay : Cond.instanceMethod yX2_latestDay ∈ kdtb := kdtb_mem 534 (by decide +kernel) rfl
theorem w_se_X2_latestDay : Cond.selects yX2_latestDay.cls yX2_latestDay yX2_latestDay ∈ kdtb := kdtb_mem 535 (by decide +kernel) rfl
theorem w_cd_X2_addLearning : Cond.code yX2_addLearning cX2_addLearning 4 (some .int) ∈ kdtb := kdtb_mem 541 (by decide +kernel) rfl
theorem w_ml_X11_286 : Cond.methodLink RX11 286 yX2_addLearning ∈ kdtb := kdtb_mem 538 (by decide +kernel) rfl
theorem w_im_X2_addLearning : Cond.instanceMethod yX2_addLearning ∈ kdtb := kdtb_mem 539 (by decide +kernel) rfl
theorem w_se_X2_addLearning : Cond.selects yX2_addLearning.cls yX2_addLearning yX2_addLearning ∈ kdtb := kdtb_mem 540 (by decide +kernel) rfl
theorem w_cd_X2_dropLearnings : Cond.code yX2_dropLearnings cX2_dropLearnings 5 (some .int) ∈ kdtb := kdtb_mem 558 (by decide +kernel) rfl
theorem w_ml_X11_292 : Cond.methodLink RX11 292 yX2_dropLearnings ∈ kdtb := kdtb_mem 555 (by decide +kernel) rfl
theorem w_im_X2_dropLearnings : Cond.instanceMethod yX2_dropLearnings ∈ kdtb := kdtb_mem 556 (by decide +kernel) rfl
theorem w_se_X2_dropLearnings : Cond.selects yX2_dropLearnings.cls yX2_dropLearnings yX2_dropLearnings ∈ kdtb := kdtb_mem 557 (by decide +kernel) rfl
theorem w_cd_X2_setFade : Cond.code yX2_setFade cX2_setFade 3 (some .int) ∈ kdtb := kdtb_mem 572 (by decide +kernel) rfl
theorem w_ml_X11_295 : Cond.methodLink RX11 295 yX2_setFade ∈ kdtb := kdtb_mem 569 (by decide +kernel) rfl
theorem w_im_X2_setFade : Cond.instanceMethod yX2_setFade ∈ kdtb := kdtb_mem 570 (by decide +kernel) rfl
theorem w_se_X2_setFade : Cond.selects yX2_setFade.cls yX2_setFade yX2_setFade ∈ kdtb := kdtb_mem 571 (by decide +kernel) rfl
theorem w_cd_X2_setBudget : Cond.code yX2_setBudget cX2_setBudget 4 (some .int) ∈ kdtb := kdtb_mem 584 (by decide +kernel) rfl
theorem w_ml_X11_298 : Cond.methodLink RX11 298 yX2_setBudget ∈ kdtb := kdtb_mem 581 (by decide +kernel) rfl
theorem w_im_X2_setBudget : Cond.instanceMethod yX2_setBudget ∈ kdtb := kdtb_mem 582 (by decide +kernel) rfl
theorem w_se_X2_setBudget : Cond.selects yX2_setBudget.cls yX2_setBudget yX2_setBudget ∈ kdtb := kdtb_mem 583 (by decide +kernel) rfl
theorem w_ct_X11_301 : Cond.constant RX11 301 (1000000) ∈ kdtb := kdtb_mem 589 (by decide +kernel) rfl
theorem w_cd_X2_setSeed : Cond.code yX2_setSeed cX2_setSeed 3 (some .int) ∈ kdtb := kdtb_mem 593 (by decide +kernel) rfl
theorem w_ml_X11_302 : Cond.methodLink RX11 302 yX2_setSeed ∈ kdtb := kdtb_mem 590 (by decide +kernel) rfl
theorem w_im_X2_setSeed : Cond.instanceMethod yX2_setSeed ∈ kdtb := kdtb_mem 591 (by decide +kernel) rfl
theorem w_se_X2_setSeed : Cond.selects yX2_setSeed.cls yX2_setSeed yX2_setSeed ∈ kdtb := kdtb_mem 592 (by decide +kernel) rfl
theorem w_ct_X11_306 : Cond.constant RX11 306 (-1000002) ∈ kdtb := kdtb_mem 599 (by decide +kernel) rfl
theorem w_ct_X11_305 : Cond.constant RX11 305 (-1000001) ∈ kdtb := kdtb_mem 598 (by decide +kernel) rfl
theorem w_cd_X2_givers : Cond.code yX2_givers cX2_givers 4 (some .int) ∈ kdtb := kdtb_mem 603 (by decide +kernel) rfl
theorem w_ml_X11_307 : Cond.methodLink RX11 307 yX2_givers ∈ kdtb := kdtb_mem 600 (by decide +kernel) rfl
theorem w_im_X2_givers : Cond.instanceMethod yX2_givers ∈ kdtb := kdtb_mem 601 (by decide +kernel) rfl
theorem w_se_X2_givers : Cond.selects yX2_givers.cls yX2_givers yX2_givers ∈ kdtb := kdtb_mem 602 (by decide +kernel) rfl
theorem w_cd_X2_sumWithLot : Cond.code yX2_sumWithLot cX2_sumWithLot 6 (some .int) ∈ kdtb := kdtb_mem 608 (by decide +kernel) rfl
theorem w_ml_X11_311 : Cond.methodLink RX11 311 yX2_sumWithLot ∈ kdtb := kdtb_mem 605 (by decide +kernel) rfl
theorem w_im_X2_sumWithLot : Cond.instanceMethod yX2_sumWithLot ∈ kdtb := kdtb_mem 606 (by decide +kernel) rfl
theorem w_se_X2_sumWithLot : Cond.selects yX2_sumWithLot.cls yX2_sumWithLot yX2_sumWithLot ∈ kdtb := kdtb_mem 607 (by decide +kernel) rfl
theorem w_ct_X11_310 : Cond.constant RX11 310 (-1000005) ∈ kdtb := kdtb_mem 604 (by decide +kernel) rfl
theorem w_cd_X2_budgetOf : Cond.code yX2_budgetOf cX2_budgetOf 2 (some .int) ∈ kdtb := kdtb_mem 662 (by decide +kernel) rfl
theorem w_ml_X11_380 : Cond.methodLink RX11 380 yX2_budgetOf ∈ kdtb := kdtb_mem 659 (by decide +kernel) rfl
theorem w_im_X2_budgetOf : Cond.instanceMethod yX2_budgetOf ∈ kdtb := kdtb_mem 660 (by decide +kernel) rfl
theorem w_se_X2_budgetOf : Cond.selects yX2_budgetOf.cls yX2_budgetOf yX2_budgetOf ∈ kdtb := kdtb_mem 661 (by decide +kernel) rfl
theorem w_fl_X11_23 : Cond.fieldLink RX11 23 "KeyDesk" "tongues" "[LKeyDesk$Tongue;" ∈ kdtb := kdtb_mem 341 (by decide +kernel) rfl
theorem w_cd_X8_joins : Cond.code yX8_joins cX8_joins 1 (some .int) ∈ kdtb := kdtb_mem 657 (by decide +kernel) rfl
theorem w_in_X8 : Cond.initialized RX8 ∈ kdtb := kdtb_mem 12 (by decide +kernel) rfl
theorem w_ml_X11_377 : Cond.methodLink RX11 377 yX8_joins ∈ kdtb := kdtb_mem 654 (by decide +kernel) rfl
theorem w_im_X8_joins : Cond.instanceMethod yX8_joins ∈ kdtb := kdtb_mem 655 (by decide +kernel) rfl
theorem w_se_X8_joins : Cond.selects yX8_joins.cls yX8_joins yX8_joins ∈ kdtb := kdtb_mem 656 (by decide +kernel) rfl
theorem w_cd_X8_rules : Cond.code yX8_rules cX8_rules 1 (some .int) ∈ kdtb := kdtb_mem 653 (by decide +kernel) rfl
theorem w_ml_X11_374 : Cond.methodLink RX11 374 yX8_rules ∈ kdtb := kdtb_mem 650 (by decide +kernel) rfl
theorem w_im_X8_rules : Cond.instanceMethod yX8_rules ∈ kdtb := kdtb_mem 651 (by decide +kernel) rfl
theorem w_se_X8_rules : Cond.selects yX8_rules.cls yX8_rules yX8_rules ∈ kdtb := kdtb_mem 652 (by decide +kernel) rfl
theorem w_fl_X11_18 : Cond.fieldLink RX11 18 "KeyDesk" "padLetters" "LKeyDesk$Row;" ∈ kdtb := kdtb_mem 340 (by decide +kernel) rfl
theorem w_fl_X11_70 : Cond.fieldLink RX11 70 "KeyDesk" "choice" "LKeyDesk$Choice;" ∈ kdtb := kdtb_mem 347 (by decide +kernel) rfl
theorem w_cd_X0_padSize : Cond.code yX0_padSize cX0_padSize 1 (some .int) ∈ kdtb := kdtb_mem 624 (by decide +kernel) rfl
theorem w_in_X0 : Cond.initialized RX0 ∈ kdtb := kdtb_mem 18 (by decide +kernel) rfl
theorem w_ml_X11_361 : Cond.methodLink RX11 361 yX0_padSize ∈ kdtb := kdtb_mem 621 (by decide +kernel) rfl
theorem w_im_X0_padSize : Cond.instanceMethod yX0_padSize ∈ kdtb := kdtb_mem 622 (by decide +kernel) rfl
theorem w_se_X0_padSize : Cond.selects yX0_padSize.cls yX0_padSize yX0_padSize ∈ kdtb := kdtb_mem 623 (by decide +kernel) rfl
theorem w_fl_X11_31 : Cond.fieldLink RX11 31 "KeyDesk" "line" "LKeyDesk$Line;" ∈ kdtb := kdtb_mem 342 (by decide +kernel) rfl
theorem w_cd_X4_tongue : Cond.code yX4_tongue cX4_tongue 1 (some .int) ∈ kdtb := kdtb_mem 629 (by decide +kernel) rfl
theorem w_in_X4 : Cond.initialized RX4 ∈ kdtb := kdtb_mem 13 (by decide +kernel) rfl
theorem w_ml_X11_364 : Cond.methodLink RX11 364 yX4_tongue ∈ kdtb := kdtb_mem 626 (by decide +kernel) rfl
theorem w_im_X4_tongue : Cond.instanceMethod yX4_tongue ∈ kdtb := kdtb_mem 627 (by decide +kernel) rfl
theorem w_se_X4_tongue : Cond.selects yX4_tongue.cls yX4_tongue yX4_tongue ∈ kdtb := kdtb_mem 628 (by decide +kernel) rfl
theorem w_cd_X4_strokes : Cond.code yX4_strokes cX4_strokes 1 (some (.object "KeyDesk$Row")) ∈ kdtb := kdtb_mem 633 (by decide +kernel) rfl
theorem w_ml_X11_161 : Cond.methodLink RX11 161 yX4_strokes ∈ kdtb := kdtb_mem 630 (by decide +kernel) rfl
theorem w_im_X4_strokes : Cond.instanceMethod yX4_strokes ∈ kdtb := kdtb_mem 631 (by decide +kernel) rfl
theorem w_se_X4_strokes : Cond.selects yX4_strokes.cls yX4_strokes yX4_strokes ∈ kdtb := kdtb_mem 632 (by decide +kernel) rfl
theorem w_cd_X0_pairs : Cond.code yX0_pairs cX0_pairs 1 (some .int) ∈ kdtb := kdtb_mem 637 (by decide +kernel) rfl
theorem w_ml_X11_256 : Cond.methodLink RX11 256 yX0_pairs ∈ kdtb := kdtb_mem 634 (by decide +kernel) rfl
theorem w_im_X0_pairs : Cond.instanceMethod yX0_pairs ∈ kdtb := kdtb_mem 635 (by decide +kernel) rfl
theorem w_se_X0_pairs : Cond.selects yX0_pairs.cls yX0_pairs yX0_pairs ∈ kdtb := kdtb_mem 636 (by decide +kernel) rfl
theorem w_ml_X11_368 : Cond.methodLink RX11 368 yX2_learnings ∈ kdtb := kdtb_mem 638 (by decide +kernel) rfl
theorem w_fl_X11_84 : Cond.fieldLink RX11 84 "KeyDesk" "layouts" "LKeyDesk$Layouts;" ∈ kdtb := kdtb_mem 349 (by decide +kernel) rfl
theorem w_cd_X3_size : Cond.code yX3_size cX3_size 1 (some .int) ∈ kdtb := kdtb_mem 642 (by decide +kernel) rfl
theorem w_in_X3 : Cond.initialized RX3 ∈ kdtb := kdtb_mem 20 (by decide +kernel) rfl
theorem w_ml_X11_351 : Cond.methodLink RX11 351 yX3_size ∈ kdtb := kdtb_mem 639 (by decide +kernel) rfl
theorem w_im_X3_size : Cond.instanceMethod yX3_size ∈ kdtb := kdtb_mem 640 (by decide +kernel) rfl
theorem w_se_X3_size : Cond.selects yX3_size.cls yX3_size yX3_size ∈ kdtb := kdtb_mem 641 (by decide +kernel) rfl
theorem w_cd_X11_toldOfOne : Cond.code yX11_toldOfOne cX11_toldOfOne 2 (some .int) ∈ kdtb := kdtb_mem 646 (by decide +kernel) rfl
theorem w_ml_X11_371 : Cond.methodLink RX11 371 yX11_toldOfOne ∈ kdtb := kdtb_mem 643 (by decide +kernel) rfl
theorem w_im_X11_toldOfOne : Cond.instanceMethod yX11_toldOfOne ∈ kdtb := kdtb_mem 645 (by decide +kernel) rfl
theorem w_se_X11_toldOfOne : Cond.selects yX11_toldOfOne.cls yX11_toldOfOne yX11_toldOfOne ∈ kdtb := kdtb_mem 7 (by decide +kernel) rfl
theorem kd_in_X0 : ∀ w ∈ u_ws RX0 TX0 8, w ∈ kdtb := by decide +kernel
theorem kd_in_X1 : ∀ w ∈ u_ws RX1 TX1 3, w ∈ kdtb := by decide +kernel
theorem kd_in_X2 : ∀ w ∈ u_ws RX2 TX2 6, w ∈ kdtb := by decide +kernel
theorem kd_in_X3 : ∀ w ∈ u_ws RX3 TX3 9, w ∈ kdtb := by decide +kernel
theorem kd_in_X4 : ∀ w ∈ u_ws RX4 TX4 5, w ∈ kdtb := by decide +kernel
theorem kd_in_X5 : ∀ w ∈ u_ws RX5 TX5 9, w ∈ kdtb := by decide +kernel
theorem kd_in_X6 : ∀ w ∈ u_ws RX6 TX6 2, w ∈ kdtb := by decide +kernel
theorem kd_in_X7 : ∀ w ∈ u_ws RX7 TX7 2, w ∈ kdtb := by decide +kernel
theorem kd_in_X8 : ∀ w ∈ u_ws RX8 TX8 8, w ∈ kdtb := by decide +kernel
theorem kd_in_X9 : ∀ w ∈ u_ws RX9 TX9 12, w ∈ kdtb := by decide +kernel
theorem kd_in_X10 : ∀ w ∈ u_ws RX10 TX10 4, w ∈ kdtb := by decide +kernel
theorem kd_in_X11 : ∀ w ∈ u_ws RX11 TX11 12, w ∈ kdtb := by decide +kernel
theorem kf_X6_21 : kdF RX6 21 6 1 := ⟨RX6, TX6, 2, rfl, by decide, w_fl_X6_21, rfl, kd_in_X6, nmX6, tyX6, tyX6_ok, fun _ _ => rfl⟩
theorem kf_X6_15 : kdF RX6 15 6 0 := ⟨RX6, TX6, 2, rfl, by decide, w_fl_X6_15, rfl, kd_in_X6, nmX6, tyX6, tyX6_ok, fun h => absurd h (by decide +kernel)⟩
theorem kf_X8_40 : kdF RX8 40 8 2 := ⟨RX8, TX8, 8, rfl, by decide, w_fl_X8_40, rfl, kd_in_X8, nmX8, tyX8, tyX8_ok, fun _ _ => rfl⟩
theorem kf_X8_30 : kdF RX8 30 8 5 := ⟨RX8, TX8, 8, rfl, by decide, w_fl_X8_30, rfl, kd_in_X8, nmX8, tyX8, tyX8_ok, fun h => absurd h (by decide +kernel)⟩
theorem kf_X4_14 : kdF RX4 14 4 0 := ⟨RX4, TX4, 5, rfl, by decide, w_fl_X4_14, rfl, kd_in_X4, nmX4, tyX4, tyX4_ok, fun h => absurd h (by decide +kernel)⟩
theorem kf_X4_29 : kdF RX4 29 4 4 := ⟨RX4, TX4, 5, rfl, by decide, w_fl_X4_29, rfl, kd_in_X4, nmX4, tyX4, tyX4_ok, fun _ _ => rfl⟩
theorem kf_X10_14 : kdF RX10 14 10 0 := ⟨RX10, TX10, 4, rfl, by decide, w_fl_X10_14, rfl, kd_in_X10, nmX10, tyX10, tyX10_ok, fun h => absurd h (by decide +kernel)⟩
theorem kf_X10_20 : kdF RX10 20 10 1 := ⟨RX10, TX10, 4, rfl, by decide, w_fl_X10_20, rfl, kd_in_X10, nmX10, tyX10, tyX10_ok, fun h => absurd h (by decide +kernel)⟩
theorem kf_X10_23 : kdF RX10 23 10 2 := ⟨RX10, TX10, 4, rfl, by decide, w_fl_X10_23, rfl, kd_in_X10, nmX10, tyX10, tyX10_ok, fun h => absurd h (by decide +kernel)⟩
theorem kf_X10_26 : kdF RX10 26 10 3 := ⟨RX10, TX10, 4, rfl, by decide, w_fl_X10_26, rfl, kd_in_X10, nmX10, tyX10, tyX10_ok, fun h => absurd h (by decide +kernel)⟩
theorem kf_X7_17 : kdF RX7 17 7 1 := ⟨RX7, TX7, 2, rfl, by decide, w_fl_X7_17, rfl, kd_in_X7, nmX7, tyX7, tyX7_ok, fun h => absurd h (by decide +kernel)⟩
theorem kf_X7_9 : kdF RX7 9 7 0 := ⟨RX7, TX7, 2, rfl, by decide, w_fl_X7_9, rfl, kd_in_X7, nmX7, tyX7, tyX7_ok, fun h => absurd h (by decide +kernel)⟩
theorem kf_X1_14 : kdF RX1 14 1 0 := ⟨RX1, TX1, 3, rfl, by decide, w_fl_X1_14, rfl, kd_in_X1, nmX1, tyX1, tyX1_ok, fun h => absurd h (by decide +kernel)⟩
theorem kf_X1_20 : kdF RX1 20 1 1 := ⟨RX1, TX1, 3, rfl, by decide, w_fl_X1_20, rfl, kd_in_X1, nmX1, tyX1, tyX1_ok, fun h => absurd h (by decide +kernel)⟩
theorem kf_X1_23 : kdF RX1 23 1 2 := ⟨RX1, TX1, 3, rfl, by decide, w_fl_X1_23, rfl, kd_in_X1, nmX1, tyX1, tyX1_ok, fun h => absurd h (by decide +kernel)⟩
theorem kf_X0_43 : kdF RX0 43 0 2 := ⟨RX0, TX0, 8, rfl, by decide, w_fl_X0_43, rfl, kd_in_X0, nmX0, tyX0, tyX0_ok, fun _ _ => rfl⟩
theorem kf_X0_21 : kdF RX0 21 0 3 := ⟨RX0, TX0, 8, rfl, by decide, w_fl_X0_21, rfl, kd_in_X0, nmX0, tyX0, tyX0_ok, fun h => absurd h (by decide +kernel)⟩
theorem kf_X2_14 : kdF RX2 14 2 0 := ⟨RX2, TX2, 6, rfl, by decide, w_fl_X2_14, rfl, kd_in_X2, nmX2, tyX2, tyX2_ok, fun h => absurd h (by decide +kernel)⟩
theorem kf_X2_20 : kdF RX2 20 2 1 := ⟨RX2, TX2, 6, rfl, by decide, w_fl_X2_20, rfl, kd_in_X2, nmX2, tyX2, tyX2_ok, fun h => absurd h (by decide +kernel)⟩
theorem kf_X2_23 : kdF RX2 23 2 2 := ⟨RX2, TX2, 6, rfl, by decide, w_fl_X2_23, rfl, kd_in_X2, nmX2, tyX2, tyX2_ok, fun h => absurd h (by decide +kernel)⟩
theorem kf_X2_30 : kdF RX2 30 2 4 := ⟨RX2, TX2, 6, rfl, by decide, w_fl_X2_30, rfl, kd_in_X2, nmX2, tyX2, tyX2_ok, fun _ _ => rfl⟩
theorem kf_X2_26 : kdF RX2 26 2 3 := ⟨RX2, TX2, 6, rfl, by decide, w_fl_X2_26, rfl, kd_in_X2, nmX2, tyX2, tyX2_ok, fun h => absurd h (by decide +kernel)⟩
theorem kf_X2_34 : kdF RX2 34 2 5 := ⟨RX2, TX2, 6, rfl, by decide, w_fl_X2_34, rfl, kd_in_X2, nmX2, tyX2, tyX2_ok, fun _ _ => rfl⟩
theorem kf_X3_37 : kdF RX3 37 3 0 := ⟨RX3, TX3, 9, rfl, by decide, w_fl_X3_37, rfl, kd_in_X3, nmX3, tyX3, tyX3_ok, fun _ _ => rfl⟩
theorem kf_X3_23 : kdF RX3 23 3 4 := ⟨RX3, TX3, 9, rfl, by decide, w_fl_X3_23, rfl, kd_in_X3, nmX3, tyX3, tyX3_ok, fun h => absurd h (by decide +kernel)⟩
theorem kf_X3_9 : kdF RX3 9 3 1 := ⟨RX3, TX3, 9, rfl, by decide, w_fl_X3_9, rfl, kd_in_X3, nmX3, tyX3, tyX3_ok, fun h => absurd h (by decide +kernel)⟩
theorem kf_X3_15 : kdF RX3 15 3 2 := ⟨RX3, TX3, 9, rfl, by decide, w_fl_X3_15, rfl, kd_in_X3, nmX3, tyX3, tyX3_ok, fun h => absurd h (by decide +kernel)⟩
theorem kf_X3_18 : kdF RX3 18 3 3 := ⟨RX3, TX3, 9, rfl, by decide, w_fl_X3_18, rfl, kd_in_X3, nmX3, tyX3, tyX3_ok, fun h => absurd h (by decide +kernel)⟩
theorem kf_X11_14 : kdF RX11 14 11 0 := ⟨RX11, TX11, 12, rfl, by decide, w_fl_X11_14, rfl, kd_in_X11, nmX11, tyX11, tyX11_ok, fun h => absurd h (by decide +kernel)⟩
theorem kf_X11_38 : kdF RX11 38 11 4 := ⟨RX11, TX11, 12, rfl, by decide, w_fl_X11_38, rfl, kd_in_X11, nmX11, tyX11, tyX11_ok, fun h => absurd h (by decide +kernel)⟩
theorem kf_X11_45 : kdF RX11 45 11 5 := ⟨RX11, TX11, 12, rfl, by decide, w_fl_X11_45, rfl, kd_in_X11, nmX11, tyX11, tyX11_ok, fun h => absurd h (by decide +kernel)⟩
theorem kf_X11_52 : kdF RX11 52 11 6 := ⟨RX11, TX11, 12, rfl, by decide, w_fl_X11_52, rfl, kd_in_X11, nmX11, tyX11, tyX11_ok, fun h => absurd h (by decide +kernel)⟩
theorem kf_X11_77 : kdF RX11 77 11 9 := ⟨RX11, TX11, 12, rfl, by decide, w_fl_X11_77, rfl, kd_in_X11, nmX11, tyX11, tyX11_ok, fun h => absurd h (by decide +kernel)⟩
theorem kf_X11_23 : kdF RX11 23 11 2 := ⟨RX11, TX11, 12, rfl, by decide, w_fl_X11_23, rfl, kd_in_X11, nmX11, tyX11, tyX11_ok, fun h => absurd h (by decide +kernel)⟩
theorem kf_X11_18 : kdF RX11 18 11 1 := ⟨RX11, TX11, 12, rfl, by decide, w_fl_X11_18, rfl, kd_in_X11, nmX11, tyX11, tyX11_ok, fun h => absurd h (by decide +kernel)⟩
theorem kf_X11_70 : kdF RX11 70 11 8 := ⟨RX11, TX11, 12, rfl, by decide, w_fl_X11_70, rfl, kd_in_X11, nmX11, tyX11, tyX11_ok, fun h => absurd h (by decide +kernel)⟩
theorem kf_X11_31 : kdF RX11 31 11 3 := ⟨RX11, TX11, 12, rfl, by decide, w_fl_X11_31, rfl, kd_in_X11, nmX11, tyX11, tyX11_ok, fun h => absurd h (by decide +kernel)⟩
theorem kf_X11_84 : kdF RX11 84 11 10 := ⟨RX11, TX11, 12, rfl, by decide, w_fl_X11_84, rfl, kd_in_X11, nmX11, tyX11, tyX11_ok, fun h => absurd h (by decide +kernel)⟩
theorem kl_X6_isFull : kdL yX6_isFull cX6_isFull 1 (some .boolean) 0 := ⟨w_cd_X6_isFull, w_in_X6, by decide +kernel, by decide +kernel, by decide⟩
theorem kl_X6_insert : kdL yX6_insert cX6_insert 4 none 2 := ⟨w_cd_X6_insert, w_in_X6, by decide +kernel, by decide +kernel, by decide⟩
theorem kl_X6_at : kdL yX6_at cX6_at 2 (some .int) 1 := ⟨w_cd_X6_at, w_in_X6, by decide +kernel, by decide +kernel, by decide⟩
theorem kl_X6_has : kdL yX6_has cX6_has 2 (some .boolean) 1 := ⟨w_cd_X6_has, w_in_X6, by decide +kernel, by decide +kernel, by decide⟩
theorem kl_X6_add : kdL yX6_add cX6_add 2 none 1 := ⟨w_cd_X6_add, w_in_X6, by decide +kernel, by decide +kernel, by decide⟩
theorem kl_X6_clear : kdL yX6_clear cX6_clear 2 (some .int) 0 := ⟨w_cd_X6_clear, w_in_X6, by decide +kernel, by decide +kernel, by decide⟩
theorem kl_X6_size : kdL yX6_size cX6_size 1 (some .int) 0 := ⟨w_cd_X6_size, w_in_X6, by decide +kernel, by decide +kernel, by decide⟩
theorem kl_X10_isFull : kdL yX10_isFull cX10_isFull 1 (some .boolean) 0 := ⟨w_cd_X10_isFull, w_in_X10, by decide +kernel, by decide +kernel, by decide⟩
theorem kl_X10_size : kdL yX10_size cX10_size 1 (some .int) 0 := ⟨w_cd_X10_size, w_in_X10, by decide +kernel, by decide +kernel, by decide⟩
theorem kl_X6_copy : kdL yX6_copy cX6_copy 3 none 1 := ⟨w_cd_X6_copy, w_in_X6, by decide +kernel, by decide +kernel, by decide⟩
theorem kl_X7_priceOfOne : kdL yX7_priceOfOne cX7_priceOfOne 5 (some .int) 2 := ⟨w_cd_X7_priceOfOne, w_in_X7, by decide +kernel, by decide +kernel, by decide⟩
theorem kl_X7_leastSum : kdL yX7_leastSum cX7_leastSum 9 (some .int) 5 := ⟨w_cd_X7_leastSum, w_in_X7, by decide +kernel, by decide +kernel, by decide⟩
theorem kl_X7_workOut : kdL yX7_workOut cX7_workOut 7 none 4 := ⟨w_cd_X7_workOut, w_in_X7, by decide +kernel, by decide +kernel, by decide⟩
theorem kl_X7_leastFor : kdL yX7_leastFor cX7_leastFor 3 (some .int) 2 := ⟨w_cd_X7_leastFor, w_in_X7, by decide +kernel, by decide +kernel, by decide⟩
theorem kl_X1_goesAhead : kdL yX1_goesAhead cX1_goesAhead 4 (some .boolean) 3 := ⟨w_cd_X1_goesAhead, w_in_X1, by decide +kernel, by decide +kernel, by decide⟩
theorem kl_X2_learnings : kdL yX2_learnings cX2_learnings 1 (some .int) 0 := ⟨w_cd_X2_learnings, w_in_X2, by decide +kernel, by decide +kernel, by decide⟩
theorem kl_X2_isOf : kdL yX2_isOf cX2_isOf 4 (some .boolean) 3 := ⟨w_cd_X2_isOf, w_in_X2, by decide +kernel, by decide +kernel, by decide⟩
theorem kl_X2_faded : kdL yX2_faded cX2_faded 5 (some .int) 1 := ⟨w_cd_X2_faded, w_in_X2, by decide +kernel, by decide +kernel, by decide⟩
theorem kl_X6_remove : kdL yX6_remove cX6_remove 4 (some .int) 1 := ⟨w_cd_X6_remove, w_in_X6, by decide +kernel, by decide +kernel, by decide⟩
theorem kl_X2_drawLot : kdL yX2_drawLot cX2_drawLot 2 (some .int) 1 := ⟨w_cd_X2_drawLot, w_in_X2, by decide +kernel, by decide +kernel, by decide⟩
theorem kl_X2_worthOf : kdL yX2_worthOf cX2_worthOf 6 (some .int) 3 := ⟨w_cd_X2_worthOf, w_in_X2, by decide +kernel, by decide +kernel, by decide⟩
theorem kl_X11_within : kdL yX11_within cX11_within 3 (some .boolean) 3 := ⟨w_cd_X11_within, w_in_X11, by decide +kernel, by decide +kernel, by decide⟩
theorem kl_X11_isKey : kdL yX11_isKey cX11_isKey 1 (some .boolean) 1 := ⟨w_cd_X11_isKey, w_in_X11, by decide +kernel, by decide +kernel, by decide⟩
theorem kl_X11_isTongue : kdL yX11_isTongue cX11_isTongue 1 (some .boolean) 1 := ⟨w_cd_X11_isTongue, w_in_X11, by decide +kernel, by decide +kernel, by decide⟩
theorem kl_X6_isEmpty : kdL yX6_isEmpty cX6_isEmpty 1 (some .boolean) 0 := ⟨w_cd_X6_isEmpty, w_in_X6, by decide +kernel, by decide +kernel, by decide⟩
theorem kl_X10_addWord : kdL yX10_addWord cX10_addWord 5 (some .int) 4 := ⟨w_cd_X10_addWord, w_in_X10, by decide +kernel, by decide +kernel, by decide⟩
theorem kl_X10_has : kdL yX10_has cX10_has 2 (some .boolean) 1 := ⟨w_cd_X10_has, w_in_X10, by decide +kernel, by decide +kernel, by decide⟩
theorem kl_X10_tongueOf : kdL yX10_tongueOf cX10_tongueOf 2 (some .int) 1 := ⟨w_cd_X10_tongueOf, w_in_X10, by decide +kernel, by decide +kernel, by decide⟩
theorem kl_X10_signOf : kdL yX10_signOf cX10_signOf 2 (some .int) 1 := ⟨w_cd_X10_signOf, w_in_X10, by decide +kernel, by decide +kernel, by decide⟩
theorem kl_X10_countOf : kdL yX10_countOf cX10_countOf 2 (some .int) 1 := ⟨w_cd_X10_countOf, w_in_X10, by decide +kernel, by decide +kernel, by decide⟩
theorem kl_X10_keysOf : kdL yX10_keysOf cX10_keysOf 2 (some (.object "KeyDesk$Row")) 1 := ⟨w_cd_X10_keysOf, w_in_X10, by decide +kernel, by decide +kernel, by decide⟩
theorem kl_X7_priceOf : kdL yX7_priceOf cX7_priceOf 3 (some .int) 2 := ⟨w_cd_X7_priceOf, w_in_X7, by decide +kernel, by decide +kernel, by decide⟩
theorem kl_X11_hasBit : kdL yX11_hasBit cX11_hasBit 2 (some .boolean) 2 := ⟨w_cd_X11_hasBit, w_in_X11, by decide +kernel, by decide +kernel, by decide⟩
theorem kl_X1_insert : kdL yX1_insert cX1_insert 5 none 3 := ⟨w_cd_X1_insert, w_in_X1, by decide +kernel, by decide +kernel, by decide⟩
theorem kl_X1_clear : kdL yX1_clear cX1_clear 1 none 0 := ⟨w_cd_X1_clear, w_in_X1, by decide +kernel, by decide +kernel, by decide⟩
theorem kl_X11_gather : kdL yX11_gather cX11_gather 7 none 4 := ⟨w_cd_X11_gather, w_in_X11, by decide +kernel, by decide +kernel, by decide⟩
theorem kl_X1_guessAt : kdL yX1_guessAt cX1_guessAt 2 (some .int) 1 := ⟨w_cd_X1_guessAt, w_in_X1, by decide +kernel, by decide +kernel, by decide⟩
theorem kl_X11_isHand : kdL yX11_isHand cX11_isHand 1 (some .boolean) 1 := ⟨w_cd_X11_isHand, w_in_X11, by decide +kernel, by decide +kernel, by decide⟩
theorem kl_X11_isDay : kdL yX11_isDay cX11_isDay 1 (some .boolean) 1 := ⟨w_cd_X11_isDay, w_in_X11, by decide +kernel, by decide +kernel, by decide⟩
theorem kl_X2_isFull : kdL yX2_isFull cX2_isFull 1 (some .boolean) 0 := ⟨w_cd_X2_isFull, w_in_X2, by decide +kernel, by decide +kernel, by decide⟩
theorem kl_X2_latestDay : kdL yX2_latestDay cX2_latestDay 4 (some .int) 1 := ⟨w_cd_X2_latestDay, w_in_X2, by decide +kernel, by decide +kernel, by decide⟩
theorem kl_X2_addLearning : kdL yX2_addLearning cX2_addLearning 4 (some .int) 3 := ⟨w_cd_X2_addLearning, w_in_X2, by decide +kernel, by decide +kernel, by decide⟩
theorem kl_X2_dropLearnings : kdL yX2_dropLearnings cX2_dropLearnings 5 (some .int) 2 := ⟨w_cd_X2_dropLearnings, w_in_X2, by decide +kernel, by decide +kernel, by decide⟩
theorem kl_X2_setFade : kdL yX2_setFade cX2_setFade 3 (some .int) 1 := ⟨w_cd_X2_setFade, w_in_X2, by decide +kernel, by decide +kernel, by decide⟩
theorem kl_X2_setBudget : kdL yX2_setBudget cX2_setBudget 4 (some .int) 2 := ⟨w_cd_X2_setBudget, w_in_X2, by decide +kernel, by decide +kernel, by decide⟩
theorem kl_X2_setSeed : kdL yX2_setSeed cX2_setSeed 3 (some .int) 1 := ⟨w_cd_X2_setSeed, w_in_X2, by decide +kernel, by decide +kernel, by decide⟩
theorem kl_X2_givers : kdL yX2_givers cX2_givers 4 (some .int) 1 := ⟨w_cd_X2_givers, w_in_X2, by decide +kernel, by decide +kernel, by decide⟩
theorem kl_X2_sumWithLot : kdL yX2_sumWithLot cX2_sumWithLot 6 (some .int) 3 := ⟨w_cd_X2_sumWithLot, w_in_X2, by decide +kernel, by decide +kernel, by decide⟩
theorem kl_X2_budgetOf : kdL yX2_budgetOf cX2_budgetOf 2 (some .int) 1 := ⟨w_cd_X2_budgetOf, w_in_X2, by decide +kernel, by decide +kernel, by decide⟩
theorem kl_X8_joins : kdL yX8_joins cX8_joins 1 (some .int) 0 := ⟨w_cd_X8_joins, w_in_X8, by decide +kernel, by decide +kernel, by decide⟩
theorem kl_X8_rules : kdL yX8_rules cX8_rules 1 (some .int) 0 := ⟨w_cd_X8_rules, w_in_X8, by decide +kernel, by decide +kernel, by decide⟩
theorem kl_X0_padSize : kdL yX0_padSize cX0_padSize 1 (some .int) 0 := ⟨w_cd_X0_padSize, w_in_X0, by decide +kernel, by decide +kernel, by decide⟩
theorem kl_X4_tongue : kdL yX4_tongue cX4_tongue 1 (some .int) 0 := ⟨w_cd_X4_tongue, w_in_X4, by decide +kernel, by decide +kernel, by decide⟩
theorem kl_X4_strokes : kdL yX4_strokes cX4_strokes 1 (some (.object "KeyDesk$Row")) 0 := ⟨w_cd_X4_strokes, w_in_X4, by decide +kernel, by decide +kernel, by decide⟩
theorem kl_X0_pairs : kdL yX0_pairs cX0_pairs 1 (some .int) 0 := ⟨w_cd_X0_pairs, w_in_X0, by decide +kernel, by decide +kernel, by decide⟩
theorem kl_X3_size : kdL yX3_size cX3_size 1 (some .int) 0 := ⟨w_cd_X3_size, w_in_X3, by decide +kernel, by decide +kernel, by decide⟩
theorem kl_X11_toldOfOne : kdL yX11_toldOfOne cX11_toldOfOne 2 (some .int) 1 := ⟨w_cd_X11_toldOfOne, w_in_X11, by decide +kernel, by decide +kernel, by decide⟩
end
section
/-! what constructors do: they make cells, out of a purse of cells and slots -/
abbrev kd1 : Type := kdS × kdM × Nat × Nat
def kdAR (A : kdA) : Room := A.2.2.1
def ga (G : kdS) (q : Nat × Nat) : kdS := ((fun a => if a = G.2.2 then q else G.1 a), (fun a j => if a = G.2.2 then none else G.2.1 a j), G.2.2 + 1)
def gz (t : Nat) (σ : kdM) : kdM := ((fun a j => if a = t then 0 else σ.1 a j), (fun a j => if a = t then 0 else σ.2 a j))
section K1
variable {α β : Type}
def rt1 (x : α) : kd1 → Option (α × kd1) := fun S => some (x, S)
def cnd1 (c : Prop) [Decidable c] (k1 k2 : kd1 → Option β) : kd1 → Option β := fun S => if c then k1 S else k2 S
def lt1 (x : Int32) (f : Int32 → kd1 → Option β) : kd1 → Option β := f x
def n1 (ci n : Nat) (f : Nat → kd1 → Option β) : kd1 → Option β := fun S => if 1 ≤ S.2.2.1 ∧ n ≤ S.2.2.2 then f S.1.2.2 (ga S.1 (ci, 0), gz S.1.2.2 S.2.1, S.2.2.1 - 1, S.2.2.2 - n) else none
def n1A (k : Nat) (len : Int32) (f : Nat → kd1 → Option β) : kd1 → Option β := fun S => if 1 ≤ S.2.2.1 ∧ 0 ≤ len.toInt ∧ len.toInt ≤ 100000 ∧ len.toInt.toNat ≤ S.2.2.2 then f S.1.2.2 (ga S.1 (k, len.toInt.toNat), gz S.1.2.2 S.2.1, S.2.2.1 - 1, S.2.2.2 - len.toInt.toNat) else none
def g1R (ci k a : Nat) (f : Nat → kd1 → Option β) : kd1 → Option β := fun S => if (S.1.1 a).1 = ci then (match S.1.2.1 a k with
  | some b => f b S
  | none => none) else none
def g1I (ci k a : Nat) (f : Int32 → kd1 → Option β) : kd1 → Option β := fun S => if (S.1.1 a).1 = ci then f (S.2.1.1 a k) S else none
def s1R (ci k a b : Nat) (f : kd1 → Option β) : kd1 → Option β := fun S => if (S.1.1 a).1 = ci then f ((S.1.1, u2 S.1.2.1 a k (some b), S.1.2.2), S.2) else none
def s1I (ci k a : Nat) (v : Int32) (f : kd1 → Option β) : kd1 → Option β := fun S => if (S.1.1 a).1 = ci then f (S.1, (u2 S.2.1.1 a k v, S.2.1.2), S.2.2) else none
def t1I (a : Nat) (i v : Int32) (f : kd1 → Option β) : kd1 → Option β := fun S => if (S.1.1 a).1 = 13 ∧ 0 ≤ i.toInt ∧ i.toInt < ((S.1.1 a).2 : Int) then f (S.1, (u2 S.2.1.1 a (ix i) v, S.2.1.2), S.2.2) else none
def t1R (t ci a : Nat) (i : Int32) (b : Nat) (f : kd1 → Option β) : kd1 → Option β := fun S => if (S.1.1 a).1 = t ∧ (S.1.1 b).1 = ci ∧ 0 ≤ i.toInt ∧ i.toInt < ((S.1.1 a).2 : Int) then f ((S.1.1, u2 S.1.2.1 a (ix i) (some b), S.1.2.2), S.2) else none
def sub1 (mc ms : Nat) (g : kd1 → Option (Unit × kd1)) (f : kd1 → Option β) : kd1 → Option β := fun S => if mc ≤ S.2.2.1 ∧ ms ≤ S.2.2.2 then (match g (S.1, S.2.1, mc, ms) with
  | some r => f (r.2.1, r.2.2.1, S.2.2.1 - mc, S.2.2.2 - ms)
  | none => none) else none
def kcv1 (ci b : Nat) (g : kdS → kdM → Option (α × kdM)) (f : α → kd1 → Option β) : kd1 → Option β := fun S => if (S.1.1 b).1 = ci then (match g S.1 S.2.1 with
  | some r => f r.1 (S.1, r.2, S.2.2)
  | none => none) else none
/-- new T[n][m]: the outer cell, then the inner ones -/
def ga2 (G : kdS) (k n k2 m : Nat) : kdS := ((fun a => if a = G.2.2 then (k, n) else if G.2.2 < a ∧ a ≤ G.2.2 + n then (k2, m) else G.1 a), (fun a j => if a = G.2.2 then (if j < n then some (G.2.2 + 1 + j) else none) else if G.2.2 < a ∧ a ≤ G.2.2 + n then none else G.2.1 a j), G.2.2 + 1 + n)
def gz2 (t n : Nat) (σ : kdM) : kdM := ((fun a j => if t ≤ a ∧ a ≤ t + n then 0 else σ.1 a j), (fun a j => if t ≤ a ∧ a ≤ t + n then 0 else σ.2 a j))
def n1M (k k2 : Nat) (n m : Int32) (f : Nat → kd1 → Option β) : kd1 → Option β := fun S => if 0 ≤ n.toInt ∧ n.toInt ≤ 1000 ∧ 0 ≤ m.toInt ∧ m.toInt ≤ 1000 ∧ 1 + n.toInt.toNat ≤ S.2.2.1 ∧ n.toInt.toNat + n.toInt.toNat * m.toInt.toNat ≤ S.2.2.2 then f S.1.2.2 (ga2 S.1 k n.toInt.toNat k2 m.toInt.toNat, gz2 S.1.2.2 n.toInt.toNat S.2.1, S.2.2.1 - (1 + n.toInt.toNat), S.2.2.2 - (n.toInt.toNat + n.toInt.toNat * m.toInt.toNat)) else none
end K1
/-- what the tables say of arrays of references -/
def kdO (U : State) : Prop := va_AO "KeyDesk$Row" U ∧ va_AO "KeyDesk$Tongue" U ∧ (Cond.arrayOver (.array .int)).before #[] U = true ∧ (Cond.arrayOver (.array .long)).before #[] U = true
theorem kd_aoA {t : FieldType} {u U : State} (hvm : u.vm.Alike U.vm) (h : (Cond.arrayOver (.array t)).before #[] u = true) : (Cond.arrayOver (.array t)).before #[] U = true := by
  obtain ⟨comp, c, k, h1, h2, h3, h4, h5⟩ := arrayOverA_spec h
  obtain ⟨k', hk', he⟩ := hvm.2.2 _ _ h3
  have e1 := va_idx_bare (vm := U.vm) (comp := comp)
  have e2 := va_idx_bare (vm := u.vm) (comp := comp)
  first | rw [hvm.bare_eq] at e2 | rw [← hvm.bare_eq] at e2
  have hi : (U.vm.classes.findIdx? fun (x : Class) => match x.kind with | .array component _ => component == comp | _ => false) = some c := e1.symm.trans (e2.trans h2)
  have hkind : k'.kind = .array comp (.array t) := by rw [he]; exact h4
  have f1 : U.vm.findClass (FieldType.array t).toString = some comp := by rw [hvm.findClass]; exact h1
  have f2 : U.vm.findClass ("[" ++ (FieldType.array t).toString) = some c := by rw [hvm.findClass]; exact h5
  unfold Cond.before Cond.holds
  simp only [Cond.value]
  rw [f1, Option.bind_some]
  refine (congrArg (fun o : Option Nat => (o.bind (fun c => (U.vm.classes[c]?).map fun (k : Class) => match k.kind with | .array _ ty => decide (ty = FieldType.array t) && decide (U.vm.findClass ("[" ++ (FieldType.array t).toString) = some c) | _ => false) == some true)) hi).trans ?_
  simp [hk', hkind, f2]
theorem kdO.moved {u U : State} (hvm : u.vm.Alike U.vm) (h : kdO u) : kdO U := ⟨h.1.moved hvm, h.2.1.moved hvm, kd_aoA hvm h.2.2.1, kd_aoA hvm h.2.2.2⟩
def kdY (A : kdA) : Prop := match A with
  | (_, _, _, s, _, _, _, meth, _) => kdO s ∧ meth.name = "<init>"
def kd1E (E : kdE) (z : Option Value × kdS × kdM) (A : kdA) : State → Prop := match A with
  | (_, _, R, s, _, args, below, _, _) => MQ below (kdQ E z.2.1 (z.1, z.2.2)) args s R.cells R.slots (fun q => E.2.2.2 ≤ q)
def kdr1 (h mc ms : Nat) : Room := { frames := h, cells := mc, slots := ms, locals := 40 * h }
def Con1 (E : kdE) (y : MethodName) (bytes : ByteArray) (maxL : Nat) (ret : Option FieldType) (h mc ms : Nat) (av : List Value) (G : kdS) (σ : kdM) (z : Option Value × kdS × kdM) : Prop :=
  Met E.1 y (Cond.code y bytes maxL ret :: kdtb) (kdr1 h mc ms) (va_Pc av (fun U => kdR E G σ U.heap ∧ va_K E.2.1 vwCl (kdty E.2.2.1) U ∧ kdW U ∧ kdO U)) (kdQ E z.2.1 (z.1, z.2.2)) mc ms (fun q => E.2.2.2 ≤ q)
theorem kd1Pre {E : kdE} {G : kdS} {av : List Value} {σ : kdM} {s : State} {H : Heap} (hR : kdR E G σ H) (hK : va_K E.2.1 vwCl (kdty E.2.2.1) s) (hN : kdW s) (hO : kdO s) : PreS s H (va_Pc av (fun U => kdR E G σ U.heap ∧ va_K E.2.1 vwCl (kdty E.2.2.1) U ∧ kdW U ∧ kdO U)) av :=
  ⟨fun a U g mk q => ⟨q.1, q.2.1, va_K.moved (u := U) (U := U.calling g mk a) (Vm.Alike.refl U.vm) q.2.2.1, kdW.same (u := U) (U := U.calling g mk a) rfl q.2.2.2.1, kdO.moved (u := U) (U := U.calling g mk a) (Vm.Alike.refl U.vm) q.2.2.2.2⟩, fun U hU hW => ⟨rfl, by rw [hU]; exact hR, va_K.moved hW.alike hK, kdW.warm hW hN, kdO.moved hW.alike hO⟩⟩
/-- an address that a cell stands at lies below the end -/
theorem kdC.lt {E : kdE} {G : kdS} {σ : kdM} {a : Nat} {H : Heap} (h : kdC E G σ a H) : E.2.2.2 + a < H.size := by
  by_cases hk : (G.1 a).1 < 13
  · obtain ⟨r, -, cell, q, -⟩ := h.1 hk
    exact (Array.getElem?_eq_some_iff.mp q).1
  · exact (Array.getElem?_eq_some_iff.mp (h.2 (by omega))).1
theorem kdC.keptG {E : kdE} {G G' : kdS} {σ σ' : kdM} {a : Nat} {H H' : Heap} (h : kdC E G σ a H) (hq : H'[E.2.2.2 + a]? = H[E.2.2.2 + a]?) (h0 : G'.1 a = G.1 a) (hr : G'.2.1 a = G.2.1 a) (h1 : σ'.1 a = σ.1 a) (h2 : σ'.2 a = σ.2 a) : kdC E G' σ' a H' := by
  have e : kdV E G' σ' a = kdV E G σ a := by funext j; simp only [kdV, h0, hr, h1, h2]
  refine ⟨fun hk => ?_, fun hk => ?_⟩
  · rw [h0] at hk
    obtain ⟨r, q1, q2⟩ := h.1 hk
    exact ⟨r, by rw [h0]; exact q1, by rw [e, h0]; exact q2.kept hq⟩
  · rw [h0] at hk
    rw [hq, e, h0]; exact h.2 hk
/-- a cell more -/
theorem kdR.push {E : kdE} {G : kdS} {σ : kdM} {H H' : Heap} {q : Nat × Nat} (h : kdR E G σ H) (hz : H'.size = H.size + 1) (ho : ∀ x : Nat, x < H.size → H'[x]? = H[x]?) (hc : kdC E (ga G q) (gz G.2.2 σ) G.2.2 H') : kdR E (ga G q) (gz G.2.2 σ) H' := by
  refine ⟨by rw [hz, h.1]; rfl, fun a ha => ?_⟩
  by_cases e : a = G.2.2
  · rw [e]; exact hc
  · have ha' : (G.1 a).1 < 20 := by simpa [ga, e] using ha
    have hk := h.2 a ha'
    exact hk.keptG (ho _ hk.lt) (by simp [ga, e]) (by funext j; simp [ga, e]) (by funext j; simp [gz, e]) (by funext j; simp [gz, e])
theorem va_S_push {A : Nat → Prop} {H0 H H' : Heap} {locs : List Loc} (hS : va_S A H0 H locs) (hz : H.size ≤ H'.size) (ho : ∀ x : Nat, x < H.size → H'[x]? = H[x]?) : va_S A H0 H' locs :=
  ⟨Nat.le_trans hS.1 hz, fun q h1 h2 => (ho q (Nat.lt_of_lt_of_le h1 hS.1)).trans (hS.2.1 q h1 h2), hS.2.2⟩
section KDR1
variable {E : kdE} {A : kdA} {G : kdS} {σ : kdM} {nL h c0 s0 cc cs pc : Nat} {Q : State → Prop} {L : List (Nat × Value)} {st : List Value} {bc : ByteArray} {own : String} {ret : Option FieldType}
theorem r1_if {q : Prop} [Decidable q] {β : Type} {f1 f2 : kd1 → Option β} {w : β} {S : kd1} {X : Prop} (hh : cnd1 q f1 f2 S = some w) (k1 : q → f1 S = some w → X) (k2 : ¬ q → f2 S = some w → X) : X := by
  by_cases hq : q
  · exact k1 hq (by simpa only [cnd1, if_pos hq] using hh)
  · exact k2 hq (by simpa only [cnd1, if_neg hq] using hh)
/-- what a class's table gives a new object: each field's first value -/
def kdD (ci : Nat) : Prop := ∃ (C : String) (T : u_T) (N : Nat) (ty : Nat → FieldType), vwCl[ci]? = some (C, T, N) ∧ (∀ w ∈ u_ws C T N, w ∈ kdtb) ∧ (∀ k, k < N → parseFieldDescriptor (T k).2.2.1 = some (ty k)) ∧ (∀ k, k < N → defaultValue (ty k) = if kdv ci k = 0 then .int 0 else if kdv ci k = 1 then .long 0 else .null)
theorem r1_new {ci n idx : Nat} {C : String} {β : Type} {f : Nat → kd1 → Option β} {w : β} (hX : kdX E A bc nL own ret h) (hY : kdY A) (hd : decode bc pc = .ok (.new idx, 3)) (hD : kdD ci) (hcC : ∃ T, vwCl[ci]? = some (C, T, n)) (hcl : Cond.classLink own idx C ∈ kdtb) (hin : Cond.instantiable C n ∈ kdtb) (hini : Cond.initialized C ∈ kdtb) (hc : c0 + cc = (kdAR A).cells) (hs : s0 + cs = (kdAR A).slots) (hh : n1 ci n f (G, σ, cc, cs) = some w)
    (kk : ∀ (t : Nat) (G' : kdS) (σ' : kdM) (cc' cs' c0' s0' : Nat), c0' + cc' = (kdAR A).cells → s0' + cs' = (kdAR A).slots → f t (G', σ', cc', cs') = some w → SWg E A nL Q (kdR E G' σ') c0' s0' (pc + 3) L (kr E t :: st)) : SWg E A nL Q (kdR E G σ) c0 s0 pc L st := by
  unfold n1 at hh
  split at hh
  case isFalse => cases hh
  case isTrue hq =>
    obtain ⟨q1, q2⟩ := hq
    have q1 : 1 ≤ cc := q1
    have q2 : n ≤ cs := q2
    have kk := kk _ _ _ _ _ (c0 + 1) (s0 + n) (by show c0 + 1 + (cc - 1) = _; omega) (by show s0 + n + (cs - n) = _; omega) hh
    obtain ⟨p, e, R, s, m, args, below, meth, c⟩ := A
    intro H locs ls hl hR hS
    obtain ⟨x1, x2, x3, x4, x5, x6, -⟩ := hX
    obtain ⟨T', hcC⟩ := hcC
    obtain ⟨C', T, N, ty, hcv, hws, hty, hdf⟩ := hD
    cases hcv.symm.trans hcC
    have hKn := x6.1 ci _ hcv
    have hci13 : ci < 13 := Nat.lt_of_lt_of_le (List.getElem?_eq_some_iff.mp hcv).1 (Nat.le_of_ble_eq_true rfl)
    have hc' : c0 + cc = R.cells := hc
    have hs' : s0 + cs = R.slots := hs
    refine W.newcK x1 x2 x4 (x5 _ hcl) (x5 _ hin) (x5 _ hini) rfl hd (by omega) (by omega) hKn.2.1 hR.1 fun H1 kC hkC e1 z1 o1 => ?_
    have ho : ∀ x : Nat, x < H.size → H1[x]? = H[x]? := fun x hx => o1 x (by rw [← hR.1]; exact hx)
    refine kk H1 locs ls hl (hR.push (by rw [z1, hR.1]) ho ⟨fun _ => ⟨_, by simpa [ga] using hcv, ?_⟩, fun h13 => absurd h13 (by simp [ga]; omega)⟩) (va_S_push hS (by rw [z1, hR.1]; omega) ho)
    have hb := u_born ty x5 hws hKn hkC e1 hty
    have e9 : ((ga G (ci, 0)).1 G.2.2).1 = ci := by simp [ga]
    rw [e9]
    refine hb.to (fun j hj => ?_)
    rw [hdf j hj]
    simp [kdV, ga, gz, va_rf]
theorem r1_newa13 {len : Int32} {β : Type} {f : Nat → kd1 → Option β} {w : β} (hX : kdX E A bc nL own ret h) (hY : kdY A) (hd : decode bc pc = .ok (.newarray .int, 2)) (hac : Cond.arrayClass .int ∈ kdtb) (hc : c0 + cc = (kdAR A).cells) (hs : s0 + cs = (kdAR A).slots) (hh : n1A 13 len f (G, σ, cc, cs) = some w)
    (kk : ∀ (t : Nat) (G' : kdS) (σ' : kdM) (cc' cs' c0' s0' : Nat), c0' + cc' = (kdAR A).cells → s0' + cs' = (kdAR A).slots → f t (G', σ', cc', cs') = some w → SWg E A nL Q (kdR E G' σ') c0' s0' (pc + 2) L (kr E t :: st)) : SWg E A nL Q (kdR E G σ) c0 s0 pc L (.int len :: st) := by
  unfold n1A at hh
  split at hh
  case isFalse => cases hh
  case isTrue hq =>
    obtain ⟨q1, q2, q3, q4⟩ := hq
    have q1 : 1 ≤ cc := q1
    have q4 : len.toInt.toNat ≤ cs := q4
    have kk := kk _ _ _ _ _ (c0 + 1) (s0 + len.toInt.toNat) (by show c0 + 1 + (cc - 1) = _; omega) (by show s0 + len.toInt.toNat + (cs - len.toInt.toNat) = _; omega) hh
    obtain ⟨p, e, R, s, m, args, below, meth, c⟩ := A
    intro H locs ls hl hR hS
    obtain ⟨x1, x2, x3, x4, x5, x6, -⟩ := hX
    have hc' : c0 + cc = R.cells := hc
    have hs' : s0 + cs = R.slots := hs
    have hcy := (x6.2 0 _ rfl).2
    refine va_newaK (atype := .int) x1 x2 (x5 _ hac) rfl hd rfl (by rw [Int32.lt_iff_toInt_lt, Int32.toInt_zero]; omega) rfl (by show len.toInt.toNat * _ ≤ _; simp only [newarray.typeOf, componentBytes]; omega) (by omega) (by show s0 + len.toInt.toNat ≤ _; omega) hR.1 fun H1 cA e1 z1 o1 hA hfc => ?_
    cases hcy.symm.trans hfc
    have ho : ∀ x : Nat, x < H.size → H1[x]? = H[x]? := fun x hx => o1 x (by rw [← hR.1]; exact hx)
    refine kk H1 locs ls hl (hR.push (by rw [z1, hR.1]) ho ⟨fun h13 => absurd h13 (by simp [ga]), fun _ => ?_⟩) (va_S_push hS (by rw [z1, hR.1]; omega) ho)
    have e8 : (ga G (13, len.toInt.toNat)).1 G.2.2 = (13, len.toInt.toNat) := by simp [ga]
    rw [e1, e8]
    refine congrArg some (congrArg _ (funext fun j => ?_))
    simp [kdV, ga, gz, kdv, defaultValue, newarray.typeOf]
theorem r1_newa14 {len : Int32} {β : Type} {f : Nat → kd1 → Option β} {w : β} (hX : kdX E A bc nL own ret h) (hY : kdY A) (hd : decode bc pc = .ok (.newarray .long, 2)) (hac : Cond.arrayClass .long ∈ kdtb) (hc : c0 + cc = (kdAR A).cells) (hs : s0 + cs = (kdAR A).slots) (hh : n1A 14 len f (G, σ, cc, cs) = some w)
    (kk : ∀ (t : Nat) (G' : kdS) (σ' : kdM) (cc' cs' c0' s0' : Nat), c0' + cc' = (kdAR A).cells → s0' + cs' = (kdAR A).slots → f t (G', σ', cc', cs') = some w → SWg E A nL Q (kdR E G' σ') c0' s0' (pc + 2) L (kr E t :: st)) : SWg E A nL Q (kdR E G σ) c0 s0 pc L (.int len :: st) := by
  unfold n1A at hh
  split at hh
  case isFalse => cases hh
  case isTrue hq =>
    obtain ⟨q1, q2, q3, q4⟩ := hq
    have q1 : 1 ≤ cc := q1
    have q4 : len.toInt.toNat ≤ cs := q4
    have kk := kk _ _ _ _ _ (c0 + 1) (s0 + len.toInt.toNat) (by show c0 + 1 + (cc - 1) = _; omega) (by show s0 + len.toInt.toNat + (cs - len.toInt.toNat) = _; omega) hh
    obtain ⟨p, e, R, s, m, args, below, meth, c⟩ := A
    intro H locs ls hl hR hS
    obtain ⟨x1, x2, x3, x4, x5, x6, -⟩ := hX
    have hc' : c0 + cc = R.cells := hc
    have hs' : s0 + cs = R.slots := hs
    have hcy := (x6.2 1 _ rfl).2
    refine va_newaK (atype := .long) x1 x2 (x5 _ hac) rfl hd rfl (by rw [Int32.lt_iff_toInt_lt, Int32.toInt_zero]; omega) rfl (by show len.toInt.toNat * _ ≤ _; simp only [newarray.typeOf, componentBytes]; omega) (by omega) (by show s0 + len.toInt.toNat ≤ _; omega) hR.1 fun H1 cA e1 z1 o1 hA hfc => ?_
    cases hcy.symm.trans hfc
    have ho : ∀ x : Nat, x < H.size → H1[x]? = H[x]? := fun x hx => o1 x (by rw [← hR.1]; exact hx)
    refine kk H1 locs ls hl (hR.push (by rw [z1, hR.1]) ho ⟨fun h13 => absurd h13 (by simp [ga]), fun _ => ?_⟩) (va_S_push hS (by rw [z1, hR.1]; omega) ho)
    have e8 : (ga G (14, len.toInt.toNat)).1 G.2.2 = (14, len.toInt.toNat) := by simp [ga]
    rw [e1, e8]
    refine congrArg some (congrArg _ (funext fun j => ?_))
    simp [kdV, ga, gz, kdv, defaultValue, newarray.typeOf]
theorem r1_newa15 {len : Int32} {β : Type} {f : Nat → kd1 → Option β} {w : β} (hX : kdX E A bc nL own ret h) (hY : kdY A) (hd : decode bc pc = .ok (.newarray .boolean, 2)) (hac : Cond.arrayClass .boolean ∈ kdtb) (hc : c0 + cc = (kdAR A).cells) (hs : s0 + cs = (kdAR A).slots) (hh : n1A 15 len f (G, σ, cc, cs) = some w)
    (kk : ∀ (t : Nat) (G' : kdS) (σ' : kdM) (cc' cs' c0' s0' : Nat), c0' + cc' = (kdAR A).cells → s0' + cs' = (kdAR A).slots → f t (G', σ', cc', cs') = some w → SWg E A nL Q (kdR E G' σ') c0' s0' (pc + 2) L (kr E t :: st)) : SWg E A nL Q (kdR E G σ) c0 s0 pc L (.int len :: st) := by
  unfold n1A at hh
  split at hh
  case isFalse => cases hh
  case isTrue hq =>
    obtain ⟨q1, q2, q3, q4⟩ := hq
    have q1 : 1 ≤ cc := q1
    have q4 : len.toInt.toNat ≤ cs := q4
    have kk := kk _ _ _ _ _ (c0 + 1) (s0 + len.toInt.toNat) (by show c0 + 1 + (cc - 1) = _; omega) (by show s0 + len.toInt.toNat + (cs - len.toInt.toNat) = _; omega) hh
    obtain ⟨p, e, R, s, m, args, below, meth, c⟩ := A
    intro H locs ls hl hR hS
    obtain ⟨x1, x2, x3, x4, x5, x6, -⟩ := hX
    have hc' : c0 + cc = R.cells := hc
    have hs' : s0 + cs = R.slots := hs
    have hcy := (x6.2 2 _ rfl).2
    refine va_newaK (atype := .boolean) x1 x2 (x5 _ hac) rfl hd rfl (by rw [Int32.lt_iff_toInt_lt, Int32.toInt_zero]; omega) rfl (by show len.toInt.toNat * _ ≤ _; simp only [newarray.typeOf, componentBytes]; omega) (by omega) (by show s0 + len.toInt.toNat ≤ _; omega) hR.1 fun H1 cA e1 z1 o1 hA hfc => ?_
    cases hcy.symm.trans hfc
    have ho : ∀ x : Nat, x < H.size → H1[x]? = H[x]? := fun x hx => o1 x (by rw [← hR.1]; exact hx)
    refine kk H1 locs ls hl (hR.push (by rw [z1, hR.1]) ho ⟨fun h13 => absurd h13 (by simp [ga]), fun _ => ?_⟩) (va_S_push hS (by rw [z1, hR.1]; omega) ho)
    have e8 : (ga G (15, len.toInt.toNat)).1 G.2.2 = (15, len.toInt.toNat) := by simp [ga]
    rw [e1, e8]
    refine congrArg some (congrArg _ (funext fun j => ?_))
    simp [kdV, ga, gz, kdv, defaultValue, newarray.typeOf]
theorem r1_newq16 {len : Int32} {idx : Nat} {β : Type} {f : Nat → kd1 → Option β} {w : β} (hX : kdX E A bc nL own ret h) (hY : kdY A) (hd : decode bc pc = .ok (.anewarray idx, 3)) (hcl : Cond.classLink own idx "KeyDesk$Row" ∈ kdtb) (hc : c0 + cc = (kdAR A).cells) (hs : s0 + cs = (kdAR A).slots) (hh : n1A 16 len f (G, σ, cc, cs) = some w)
    (kk : ∀ (t : Nat) (G' : kdS) (σ' : kdM) (cc' cs' c0' s0' : Nat), c0' + cc' = (kdAR A).cells → s0' + cs' = (kdAR A).slots → f t (G', σ', cc', cs') = some w → SWg E A nL Q (kdR E G' σ') c0' s0' (pc + 3) L (kr E t :: st)) : SWg E A nL Q (kdR E G σ) c0 s0 pc L (.int len :: st) := by
  unfold n1A at hh
  split at hh
  case isFalse => cases hh
  case isTrue hq =>
    obtain ⟨q1, q2, q3, q4⟩ := hq
    have q1 : 1 ≤ cc := q1
    have q4 : len.toInt.toNat ≤ cs := q4
    have kk := kk _ _ _ _ _ (c0 + 1) (s0 + len.toInt.toNat) (by show c0 + 1 + (cc - 1) = _; omega) (by show s0 + len.toInt.toNat + (cs - len.toInt.toNat) = _; omega) hh
    obtain ⟨p, e, R, s, m, args, below, meth, c⟩ := A
    intro H locs ls hl hR hS
    obtain ⟨x1, x2, x3, x4, x5, x6, -⟩ := hX
    have hc' : c0 + cc = R.cells := hc
    have hs' : s0 + cs = R.slots := hs
    obtain ⟨kA9, comp9, -, -, -, hcy⟩ := (x6.2 3 _ rfl).2
    refine W.anew x1 x2 x4 (x5 _ hcl) (va_AO.use hY.1.1) rfl hd rfl (by rw [Int32.lt_iff_toInt_lt, Int32.toInt_zero]; omega) (by show len.toInt.toNat * 4 ≤ _; omega) (by omega) (by show s0 + len.toInt.toNat ≤ _; omega) fun cA kA comp f1 f2 f3 f4 => ?_
    cases hcy.symm.trans f1
    generalize hH1 : H.push ({ cls := E.2.2.1 16, slots := Array.replicate len.toNatClampNeg .null, vm := .none } : Cell) = H1
    have z1 : H1.size = H.size + 1 := by rw [← hH1, Array.size_push]
    have e1 : H1[H.size]? = some (arrV (E.2.2.1 16) len.toNatClampNeg (fun _ => .null)) := by rw [← hH1, Array.getElem?_push_size, ← arrV_new]
    have ho : ∀ q : Nat, q < H.size → H1[q]? = H[q]? := fun q hq => by rw [← hH1, Array.getElem?_push, if_neg (Nat.ne_of_lt hq)]
    have e7 : H.size = E.2.2.2 + G.2.2 := hR.1
    rw [e7]
    refine kk H1 locs ls hl (hR.push z1 ho ⟨fun h13 => absurd h13 (by simp [ga]), fun _ => ?_⟩) (va_S_push hS (by omega) ho)
    have e8 : (ga G (16, len.toInt.toNat)).1 G.2.2 = (16, len.toInt.toNat) := by simp [ga]
    rw [← e7, e1, e8]
    refine congrArg some (congrArg _ (funext fun j => ?_))
    simp [kdV, ga, gz, kdv, va_rf]
theorem r1_newq17 {len : Int32} {idx : Nat} {β : Type} {f : Nat → kd1 → Option β} {w : β} (hX : kdX E A bc nL own ret h) (hY : kdY A) (hd : decode bc pc = .ok (.anewarray idx, 3)) (hcl : Cond.classLink own idx "KeyDesk$Tongue" ∈ kdtb) (hc : c0 + cc = (kdAR A).cells) (hs : s0 + cs = (kdAR A).slots) (hh : n1A 17 len f (G, σ, cc, cs) = some w)
    (kk : ∀ (t : Nat) (G' : kdS) (σ' : kdM) (cc' cs' c0' s0' : Nat), c0' + cc' = (kdAR A).cells → s0' + cs' = (kdAR A).slots → f t (G', σ', cc', cs') = some w → SWg E A nL Q (kdR E G' σ') c0' s0' (pc + 3) L (kr E t :: st)) : SWg E A nL Q (kdR E G σ) c0 s0 pc L (.int len :: st) := by
  unfold n1A at hh
  split at hh
  case isFalse => cases hh
  case isTrue hq =>
    obtain ⟨q1, q2, q3, q4⟩ := hq
    have q1 : 1 ≤ cc := q1
    have q4 : len.toInt.toNat ≤ cs := q4
    have kk := kk _ _ _ _ _ (c0 + 1) (s0 + len.toInt.toNat) (by show c0 + 1 + (cc - 1) = _; omega) (by show s0 + len.toInt.toNat + (cs - len.toInt.toNat) = _; omega) hh
    obtain ⟨p, e, R, s, m, args, below, meth, c⟩ := A
    intro H locs ls hl hR hS
    obtain ⟨x1, x2, x3, x4, x5, x6, -⟩ := hX
    have hc' : c0 + cc = R.cells := hc
    have hs' : s0 + cs = R.slots := hs
    obtain ⟨kA9, comp9, -, -, -, hcy⟩ := (x6.2 4 _ rfl).2
    refine W.anew x1 x2 x4 (x5 _ hcl) (va_AO.use hY.1.2.1) rfl hd rfl (by rw [Int32.lt_iff_toInt_lt, Int32.toInt_zero]; omega) (by show len.toInt.toNat * 4 ≤ _; omega) (by omega) (by show s0 + len.toInt.toNat ≤ _; omega) fun cA kA comp f1 f2 f3 f4 => ?_
    cases hcy.symm.trans f1
    generalize hH1 : H.push ({ cls := E.2.2.1 17, slots := Array.replicate len.toNatClampNeg .null, vm := .none } : Cell) = H1
    have z1 : H1.size = H.size + 1 := by rw [← hH1, Array.size_push]
    have e1 : H1[H.size]? = some (arrV (E.2.2.1 17) len.toNatClampNeg (fun _ => .null)) := by rw [← hH1, Array.getElem?_push_size, ← arrV_new]
    have ho : ∀ q : Nat, q < H.size → H1[q]? = H[q]? := fun q hq => by rw [← hH1, Array.getElem?_push, if_neg (Nat.ne_of_lt hq)]
    have e7 : H.size = E.2.2.2 + G.2.2 := hR.1
    rw [e7]
    refine kk H1 locs ls hl (hR.push z1 ho ⟨fun h13 => absurd h13 (by simp [ga]), fun _ => ?_⟩) (va_S_push hS (by omega) ho)
    have e8 : (ga G (17, len.toInt.toNat)).1 G.2.2 = (17, len.toInt.toNat) := by simp [ga]
    rw [← e7, e1, e8]
    refine congrArg some (congrArg _ (funext fun j => ?_))
    simp [kdV, ga, gz, kdv, va_rf]
theorem r1_gR {ci k idx a : Nat} {β : Type} {f : Nat → kd1 → Option β} {w : β} (hX : kdX E A bc nL own ret h) (hY : kdY A) (hd : decode bc pc = .ok (.getfield idx, 3)) (hf : kdF own idx ci k) (hv : kdv ci k = 2) (hc : c0 + cc = (kdAR A).cells) (hs : s0 + cs = (kdAR A).slots) (hh : g1R ci k a f (G, σ, cc, cs) = some w)
    (kk : ∀ (b : Nat) (G' : kdS) (σ' : kdM) (cc' cs' c0' s0' : Nat), c0' + cc' = (kdAR A).cells → s0' + cs' = (kdAR A).slots → f b (G', σ', cc', cs') = some w → SWg E A nL Q (kdR E G' σ') c0' s0' (pc + 3) L (kr E b :: st)) : SWg E A nL Q (kdR E G σ) c0 s0 pc L (kr E a :: st) := by
  unfold g1R at hh
  split at hh
  case isFalse => cases hh
  case isTrue hci =>
    have hci : (G.1 a).1 = ci := hci
    cases hb : G.2.1 a k with
    | none => simp only [hb] at hh; cases hh
    | some b =>
      simp only [hb] at hh
      have kk := kk b _ _ _ _ c0 s0 hc hs hh
      obtain ⟨p, e, R, s, m, args, below, meth, c⟩ := A
      intro H locs ls hl hR hS
      refine kd_get hX.1 hX.2.1 hX.2.2.2.1 hX.2.2.2.2.1 hX.2.2.2.2.2.1 hd hf hR hci ?_
      have e : kdV E G σ a k = kr E b := by simp [kdV, hci, hv, hb, va_rf]
      rw [e]
      exact kk H locs ls hl hR hS
/-- putfield in a constructor, of any field -/
theorem kd_put {p : Program} {e : Env} {R : Room} {s : State} {m : MethodId} {args : Array Value} {below : List Frame} {meth : Method} {c : Code} {H : Heap} {locs : List Loc} {ls : Array Slot} {ci k idx a : Nat} {v : Value} {G' : kdS} {σ' : kdM} (hx : p.tables.exec = Jvm.exec) (hb : c.code = bc) (hown : s.vm.findClass own = some m.cls) (hts : ∀ w ∈ kdtb, w.before args s = true) (hK : va_K E.2.1 vwCl (kdty E.2.2.1) s) (hname : meth.name = "<init>") (hd : decode bc pc = .ok (.putfield idx, 3)) (hf : kdF own idx ci k) (hdecl : ∃ T N, vwCl[ci]? = some (own, T, N)) (hn : ∀ ty : FieldType, (kdv ci k = 0 ∧ ty = .int ∨ kdv ci k = 2 ∧ ((∃ q, ty = .object q) ∨ ∃ q, ty = .array q)) → narrow ty v = v ∧ fits ty v = true) (hkty : ∀ q, vwCl[ci]? = some q → ∃ ty : FieldType, parseFieldDescriptor (q.2.1 k).2.2.1 = some ty ∧ (kdv ci k = 0 ∧ ty = .int ∨ kdv ci k = 2 ∧ ((∃ q, ty = .object q) ∨ ∃ q, ty = .array q))) (hR : kdR E G σ H) (hci : (G.1 a).1 = ci)
    (hG : ∀ b, G'.1 b = G.1 b) (htop : G'.2.2 = G.2.2) (hoff : ∀ b, b ≠ a → G'.2.1 b = G.2.1 b ∧ σ'.1 b = σ.1 b ∧ σ'.2 b = σ.2 b) (hat : ∀ j, kdV E G' σ' a j = updV (kdV E G σ a) k v j) (hS : va_S (fun q => E.2.2.2 ≤ q) s.heap H locs)
    (kk : ∀ (H1 : Heap) (locs1 : List Loc), kdR E G' σ' H1 → va_S (fun q => E.2.2.2 ≤ q) s.heap H1 locs1 → W p E.1 e R s m args below meth c H1 locs1 c0 s0 Q (F0 m (pc + 3) ls st)) : W p E.1 e R s m args below meth c H locs c0 s0 Q (F0 m pc ls (v :: kr E a :: st)) := by
  obtain ⟨C, T, N, hc, hk, hlink, hC, hin, hnm, ty0, hty, -⟩ := hf
  obtain ⟨T9, N9, hc9⟩ := hdecl
  obtain ⟨ty, hpt, hkd⟩ := hkty _ hc
  obtain ⟨hnar, hfit⟩ := hn ty hkd
  cases hc.symm.trans hc9
  have hci13 : ci < 13 := Nat.lt_of_lt_of_le (List.getElem?_eq_some_iff.mp hc).1 (Nat.le_of_ble_eq_true rfl)
  obtain ⟨r, h1, cell, q1, q2, q3, q4⟩ := (hR.2 a (by rw [hci]; omega)).1 (by rw [hci]; exact hci13)
  rw [hci] at h1 q2 q4
  have hr : r = (own, T, N) := Option.some.inj (h1.symm.trans hc)
  subst hr
  have hap := va_apart (own := own) hts hin ty0 hty hnm hK hc
  obtain ⟨hS1, hfc, kC, hkC, hkind⟩ := hK.1 ci _ hc
  obtain ⟨cf, kf, fi, fd, hi, hsl⟩ := hS1 k hk
  have hi2 := hi
  rw [hC] at hi2
  have hst := (u_facts hfc hkC (u_lays hts hin hk) hi).1
  have hlay := hts _ (hin _ (u_in_lay hk))
  have fin : ∀ H' : Heap, H'[E.2.2.2 + a]? = some (cell.setSlot fd.slot v) → H'.size = H.size → (∀ q, q ≠ E.2.2.2 + a → H'[q]? = H[q]?) → W p E.1 e R s m args below meth c H' (locs ++ [⟨E.2.2.2 + a, fd.slot⟩]) c0 s0 Q (F0 m (pc + 3) ls st) := by
    intro H' e1 e2 e3
    rw [hsl] at e1 ⊢
    refine kk H' _ ⟨by rw [e2, hR.1, htop], fun b hb => ?_⟩ (hS.put e2 e3 (Nat.le_add_right _ _))
    rw [hG b] at hb
    by_cases eb : b = a
    · subst eb
      refine ⟨fun _ => ⟨_, by rw [hG, hci]; exact hc, ?_⟩, fun h13 => absurd h13 (by rw [hG, hci]; omega)⟩
      rw [hG, hci]
      exact t_OB.to (V := updV (kdV E G σ b) k v) ⟨_, e1, q2, q3, t_set q4 hap hk v⟩ (fun j hj => (hat j).symm)
    · obtain ⟨o1, o2, o3⟩ := hoff b eb
      exact (hR.2 b hb).keptG (e3 _ (by omega)) (hG b) o1 o2 o3
  unfold u_lay at hlay
  by_cases hfin : (T k).2.2.2 = true
  · rw [if_pos hfin] at hlay
    have hcf : m.cls = cf := by
      obtain ⟨_, _, c', _, _, _, -, -, hf', -, -, -, hown2, -⟩ := Cond.laysFinal_spec hlay
      have e1 : c' = cf := by have := hi.symm.trans hf'; simp at this; exact this.1.symm
      rw [hC] at hown2
      rw [← e1]; exact Option.some.inj (hown.symm.trans hown2)
    have h6 := u_fits hfc hkC hkind (Or.inr hlay) hi hpt hnar hfit
    exact W.putFinK hx hb hown (hts _ hlink) hi2 hst hcf hname (by rw [q2]; exact h6) q1 q3 (by rw [hsl]; exact k2_hasslot (q4 k hk)) rfl rfl hd fin
  · rw [if_neg hfin] at hlay
    have h6 := u_store hfc hkC hkind hlay hi hpt hnar hfit
    exact W.putK hx hb (f := fd) ⟨hown, hts _ hlink, ⟨_, _, _, hi2⟩, hst⟩ (by rw [q2]; exact h6) q1 q3 (by rw [hsl]; exact k2_hasslot (q4 k hk)) rfl rfl hd fin
theorem r1_sR {ci k idx a b : Nat} {β : Type} {f : kd1 → Option β} {w : β} (hX : kdX E A bc nL own ret h) (hY : kdY A) (hd : decode bc pc = .ok (.putfield idx, 3)) (hf : kdF own idx ci k) (hdecl : ∃ T N, vwCl[ci]? = some (own, T, N)) (hv : kdv ci k = 2) (hkty : ∀ q, vwCl[ci]? = some q → ∃ ty : FieldType, parseFieldDescriptor (q.2.1 k).2.2.1 = some ty ∧ ((∃ q, ty = .object q) ∨ ∃ q, ty = .array q)) (hc : c0 + cc = (kdAR A).cells) (hs : s0 + cs = (kdAR A).slots) (hh : s1R ci k a b f (G, σ, cc, cs) = some w)
    (kk : ∀ (G' : kdS) (σ' : kdM) (cc' cs' c0' s0' : Nat), c0' + cc' = (kdAR A).cells → s0' + cs' = (kdAR A).slots → f (G', σ', cc', cs') = some w → SWg E A nL Q (kdR E G' σ') c0' s0' (pc + 3) L st) : SWg E A nL Q (kdR E G σ) c0 s0 pc L (kr E b :: kr E a :: st) := by
  unfold s1R at hh
  split at hh
  case isFalse => cases hh
  case isTrue hci =>
    have hci : (G.1 a).1 = ci := hci
    have kk := kk _ _ _ _ c0 s0 hc hs hh
    obtain ⟨p, e, R, s, m, args, below, meth, c⟩ := A
    intro H locs ls hl hR hS
    refine kd_put (G' := (G.1, u2 G.2.1 a k (some b), G.2.2)) (σ' := σ) hX.1 hX.2.1 hX.2.2.2.1 hX.2.2.2.2.1 hX.2.2.2.2.2.1 hY.2 hd hf hdecl (fun ty q => ?_) (fun q hq => ?_) hR hci (fun _ => rfl) rfl (fun b' hb => ⟨u2_row _ _ _ _ hb, rfl, rfl⟩) (fun j => ?_) hS (fun H1 locs1 hR1 hS1 => kk H1 locs1 ls hl hR1 hS1)
    · rcases q with ⟨q, -⟩ | ⟨-, ⟨q, rfl⟩ | ⟨q, rfl⟩⟩
      · rw [hv] at q; cases q
      · exact ⟨rfl, rfl⟩
      · exact ⟨rfl, rfl⟩
    · obtain ⟨ty, h1, h2⟩ := hkty q hq
      exact ⟨ty, h1, Or.inr ⟨hv, h2⟩⟩
    · by_cases hj : j = k
      · subst hj
        simp [updV, kdV, hci, hv, u2_same, va_rf]
      · simp [updV, hj, kdV, hci, u2_nk _ _ _ _ hj]
theorem r1_sI {ci k idx a : Nat} {v : Int32} {β : Type} {f : kd1 → Option β} {w : β} (hX : kdX E A bc nL own ret h) (hY : kdY A) (hd : decode bc pc = .ok (.putfield idx, 3)) (hf : kdF own idx ci k) (hdecl : ∃ T N, vwCl[ci]? = some (own, T, N)) (hv : kdv ci k = 0) (hkty : ∀ q, vwCl[ci]? = some q → parseFieldDescriptor (q.2.1 k).2.2.1 = some .int) (hc : c0 + cc = (kdAR A).cells) (hs : s0 + cs = (kdAR A).slots) (hh : s1I ci k a v f (G, σ, cc, cs) = some w)
    (kk : ∀ (G' : kdS) (σ' : kdM) (cc' cs' c0' s0' : Nat), c0' + cc' = (kdAR A).cells → s0' + cs' = (kdAR A).slots → f (G', σ', cc', cs') = some w → SWg E A nL Q (kdR E G' σ') c0' s0' (pc + 3) L st) : SWg E A nL Q (kdR E G σ) c0 s0 pc L (.int v :: kr E a :: st) := by
  unfold s1I at hh
  split at hh
  case isFalse => cases hh
  case isTrue hci =>
    have hci : (G.1 a).1 = ci := hci
    have kk := kk _ _ _ _ c0 s0 hc hs hh
    obtain ⟨p, e, R, s, m, args, below, meth, c⟩ := A
    intro H locs ls hl hR hS
    refine kd_put (G' := G) (σ' := (u2 σ.1 a k v, σ.2)) hX.1 hX.2.1 hX.2.2.2.1 hX.2.2.2.2.1 hX.2.2.2.2.2.1 hY.2 hd hf hdecl (fun ty q => ?_) (fun q hq => ?_) hR hci (fun _ => rfl) rfl (fun b' hb => ⟨rfl, u2_row _ _ _ _ hb, rfl⟩) (fun j => ?_) hS (fun H1 locs1 hR1 hS1 => kk H1 locs1 ls hl hR1 hS1)
    · rcases q with ⟨-, rfl⟩ | ⟨q, -⟩
      · exact ⟨rfl, rfl⟩
      · rw [hv] at q; cases q
    · exact ⟨.int, hkty q hq, Or.inl ⟨hv, rfl⟩⟩
    · by_cases hj : j = k
      · subst hj
        simp [updV, kdV, hci, hv, u2_same]
      · simp [updV, hj, kdV, hci, u2_nk _ _ _ _ hj]
theorem r1_tI {a : Nat} {i v : Int32} {β : Type} {f : kd1 → Option β} {w : β} (hX : kdX E A bc nL own ret h) (hY : kdY A) (hd : decode bc pc = .ok (.iastore, 1)) (hc : c0 + cc = (kdAR A).cells) (hs : s0 + cs = (kdAR A).slots) (hh : t1I a i v f (G, σ, cc, cs) = some w)
    (kk : ∀ (G' : kdS) (σ' : kdM) (cc' cs' c0' s0' : Nat), c0' + cc' = (kdAR A).cells → s0' + cs' = (kdAR A).slots → f (G', σ', cc', cs') = some w → SWg E A nL Q (kdR E G' σ') c0' s0' (pc + 1) L st) : SWg E A nL Q (kdR E G σ) c0 s0 pc L (.int v :: .int i :: kr E a :: st) := by
  unfold t1I at hh
  split at hh
  case isFalse => cases hh
  case isTrue hq =>
    have kk := kk _ _ _ _ c0 s0 hc hs hh
    obtain ⟨p, e, R, s, m, args, below, meth, c⟩ := A
    intro H locs ls hl hR hS
    obtain ⟨hk, hin⟩ := hq
    have hk : (G.1 a).1 = 13 := hk
    have hin : 0 ≤ i.toInt ∧ i.toInt < ((G.1 a).2 : Int) := hin
    have hcell := (hR.2 a (by rw [hk]; omega)).2 (by rw [hk]; omega)
    refine W.iast hX.1 hX.2.1 hcell (by rw [hk]; exact (hX.2.2.2.2.2.1.2 0 _ rfl).1 _ _) (fun q => by cases q) (by rw [arrV_size]; exact kd_in hin) rfl rfl hd fun H' e1 e2 e3 => ?_
    refine kk H' _ ls hl ?_ (hS.put e2 e3 (Nat.le_add_right _ _))
    refine hR.set (a := a) e2 e3 (fun b hb => u2_row _ _ _ _ hb) (fun _ _ => rfl) ⟨fun h13 => absurd h13 (by rw [hk]; omega), fun _ => ?_⟩
    rw [e1, arrV_store]
    refine congrArg some (congrArg _ (funext fun j => ?_))
    by_cases hj : j = ix i
    · subst hj
      have e0 : i.toNatClampNeg = ix i := rfl
      simp [updV, e0, kdV, hk, kdv, u2_same]
    · have hj2 : ¬ j = i.toNatClampNeg := hj
      simp [updV, hj2, kdV, hk, kdv, u2_nk _ _ _ _ hj]
theorem r1_tR16 {a b : Nat} {i : Int32} {β : Type} {f : kd1 → Option β} {w : β} (hX : kdX E A bc nL own ret h) (hY : kdY A) (hd : decode bc pc = .ok (.aastore, 1)) (hc : c0 + cc = (kdAR A).cells) (hs : s0 + cs = (kdAR A).slots) (hh : t1R 16 6 a i b f (G, σ, cc, cs) = some w)
    (kk : ∀ (G' : kdS) (σ' : kdM) (cc' cs' c0' s0' : Nat), c0' + cc' = (kdAR A).cells → s0' + cs' = (kdAR A).slots → f (G', σ', cc', cs') = some w → SWg E A nL Q (kdR E G' σ') c0' s0' (pc + 1) L st) : SWg E A nL Q (kdR E G σ) c0 s0 pc L (kr E b :: .int i :: kr E a :: st) := by
  unfold t1R at hh
  split at hh
  case isFalse => cases hh
  case isTrue hq =>
    have kk := kk _ _ _ _ c0 s0 hc hs hh
    obtain ⟨p, e, R, s, m, args, below, meth, c⟩ := A
    intro H locs ls hl hR hS
    obtain ⟨hk, hkb, hin⟩ := hq
    have hk : (G.1 a).1 = 16 := hk
    have hkb : (G.1 b).1 = 6 := hkb
    have hin : 0 ≤ i.toInt ∧ i.toInt < ((G.1 a).2 : Int) := hin
    have hK := hX.2.2.2.2.2.1
    have hcell := (hR.2 a (by rw [hk]; omega)).2 (by rw [hk]; omega)
    obtain ⟨r, h1, cellV, g1, g2, g3, -⟩ := (hR.2 b (by rw [hkb]; omega)).1 (by rw [hkb]; omega)
    rw [hkb] at h1 g2
    have hcls := (hK.1 6 _ h1).2
    have hr1 : r.1 = "KeyDesk$Row" := by cases h1; rfl
    obtain ⟨kA, comp, k1, k2, k3, -⟩ := (hK.2 3 _ rfl).2
    have hcomp : comp = E.2.1.1 6 := Option.some.inj (k3.symm.trans (by rw [← hr1]; exact hcls.1))
    subst hcomp
    obtain ⟨kC, hkC, hkk⟩ := id hcls.2
    have hvp := kd_in hin
    refine W.aast hX.1 hX.2.1 hcell (fun q h => by cases h) (fun h => by cases h) (by rw [hk]; exact k1) k2 rfl hkC ⟨fun q => hvp (Or.inl q), by rw [arrV_size]; exact Nat.not_le.mp fun q => hvp (Or.inr q)⟩ g1 (fun q h => by rw [g3] at h; cases h) (by rw [g2]; exact hkC) (by rw [g2]; exact va_assign hcls) rfl rfl hd fun H' e1 e2 e3 => ?_
    refine kk H' _ ls hl ⟨by rw [e2]; exact hR.1, fun x hx => ?_⟩ (hS.put e2 e3 (Nat.le_add_right _ _))
    by_cases ex : x = a
    · subst ex
      refine ⟨fun h13 => absurd h13 (by show ¬ (G.1 x).1 < 13; rw [hk]; omega), fun _ => ?_⟩
      show H'[E.2.2.2 + x]? = some (arrV (E.2.2.1 (G.1 x).1) (G.1 x).2 _)
      rw [e1, arrV_store]
      refine congrArg some (congrArg _ (funext fun j => ?_))
      by_cases hj : j = ix i
      · subst hj
        have e0 : i.toNatClampNeg = ix i := rfl
        simp [updV, e0, kdV, hk, kdv, u2_same, va_rf]
      · have hj2 : ¬ j = i.toNatClampNeg := hj
        simp [updV, hj2, kdV, hk, kdv, u2_nk _ _ _ _ hj]
    · exact (hR.2 x hx).keptG (e3 (E.2.2.2 + x) (fun q => ex (Nat.add_left_cancel q))) rfl (u2_row _ _ _ _ ex) rfl rfl
theorem r1_tR17 {a b : Nat} {i : Int32} {β : Type} {f : kd1 → Option β} {w : β} (hX : kdX E A bc nL own ret h) (hY : kdY A) (hd : decode bc pc = .ok (.aastore, 1)) (hc : c0 + cc = (kdAR A).cells) (hs : s0 + cs = (kdAR A).slots) (hh : t1R 17 8 a i b f (G, σ, cc, cs) = some w)
    (kk : ∀ (G' : kdS) (σ' : kdM) (cc' cs' c0' s0' : Nat), c0' + cc' = (kdAR A).cells → s0' + cs' = (kdAR A).slots → f (G', σ', cc', cs') = some w → SWg E A nL Q (kdR E G' σ') c0' s0' (pc + 1) L st) : SWg E A nL Q (kdR E G σ) c0 s0 pc L (kr E b :: .int i :: kr E a :: st) := by
  unfold t1R at hh
  split at hh
  case isFalse => cases hh
  case isTrue hq =>
    have kk := kk _ _ _ _ c0 s0 hc hs hh
    obtain ⟨p, e, R, s, m, args, below, meth, c⟩ := A
    intro H locs ls hl hR hS
    obtain ⟨hk, hkb, hin⟩ := hq
    have hk : (G.1 a).1 = 17 := hk
    have hkb : (G.1 b).1 = 8 := hkb
    have hin : 0 ≤ i.toInt ∧ i.toInt < ((G.1 a).2 : Int) := hin
    have hK := hX.2.2.2.2.2.1
    have hcell := (hR.2 a (by rw [hk]; omega)).2 (by rw [hk]; omega)
    obtain ⟨r, h1, cellV, g1, g2, g3, -⟩ := (hR.2 b (by rw [hkb]; omega)).1 (by rw [hkb]; omega)
    rw [hkb] at h1 g2
    have hcls := (hK.1 8 _ h1).2
    have hr1 : r.1 = "KeyDesk$Tongue" := by cases h1; rfl
    obtain ⟨kA, comp, k1, k2, k3, -⟩ := (hK.2 4 _ rfl).2
    have hcomp : comp = E.2.1.1 8 := Option.some.inj (k3.symm.trans (by rw [← hr1]; exact hcls.1))
    subst hcomp
    obtain ⟨kC, hkC, hkk⟩ := id hcls.2
    have hvp := kd_in hin
    refine W.aast hX.1 hX.2.1 hcell (fun q h => by cases h) (fun h => by cases h) (by rw [hk]; exact k1) k2 rfl hkC ⟨fun q => hvp (Or.inl q), by rw [arrV_size]; exact Nat.not_le.mp fun q => hvp (Or.inr q)⟩ g1 (fun q h => by rw [g3] at h; cases h) (by rw [g2]; exact hkC) (by rw [g2]; exact va_assign hcls) rfl rfl hd fun H' e1 e2 e3 => ?_
    refine kk H' _ ls hl ⟨by rw [e2]; exact hR.1, fun x hx => ?_⟩ (hS.put e2 e3 (Nat.le_add_right _ _))
    by_cases ex : x = a
    · subst ex
      refine ⟨fun h13 => absurd h13 (by show ¬ (G.1 x).1 < 13; rw [hk]; omega), fun _ => ?_⟩
      show H'[E.2.2.2 + x]? = some (arrV (E.2.2.1 (G.1 x).1) (G.1 x).2 _)
      rw [e1, arrV_store]
      refine congrArg some (congrArg _ (funext fun j => ?_))
      by_cases hj : j = ix i
      · subst hj
        have e0 : i.toNatClampNeg = ix i := rfl
        simp [updV, e0, kdV, hk, kdv, u2_same, va_rf]
      · have hj2 : ¬ j = i.toNatClampNeg := hj
        simp [updV, hj2, kdV, hk, kdv, u2_nk _ _ _ _ hj]
    · exact (hR.2 x hx).keptG (e3 (E.2.2.2 + x) (fun q => ex (Nat.add_left_cancel q))) rfl (u2_row _ _ _ _ ex) rfl rfl
theorem r1_obj {idx a : Nat} (hX : kdX E A bc nL own ret h) (hY : kdY A) (hd : decode bc pc = .ok (.invokespecial idx, 3)) (hlink : Cond.methodLink own idx Lib.objectInit ∈ kdtb) (hinst : Cond.instanceMethod Lib.objectInit ∈ kdtb) (hcode : Cond.code Lib.objectInit ⟨#[0xb1]⟩ 1 none ∈ kdtb) (hh : 0 < h) (hst : (st.map fun v => v.category).sum ≤ 8) (k : SWg E A nL Q (kdR E G σ) c0 s0 (pc + 3) L st) : SWg E A nL Q (kdR E G σ) c0 s0 pc L (kr E a :: st) := by
  obtain ⟨p, e, R, s, m, args, below, meth, c⟩ := A
  intro H locs ls hl hR hS
  obtain ⟨x1, x2, x3, x4, x5, x6, x7, x8, x9, x10, x11⟩ := hX
  refine W.objInit x1 x2 x4 (x5 _ hlink) (x5 _ hinst) (x5 _ hcode) rfl (hl.1.trans x3.symm) rfl hd (by omega) (by show 2 * 0 + _ + 12 ≤ _; omega) ?_
  exact W.eq rfl (k H locs ls hl hR hS)
theorem kd1_call {p : Program} {e : Env} {R : Room} {s : State} {m : MethodId} {args : Array Value} {below : List Frame} {meth : Method} {c : Code} {H : Heap} {locs : List Loc} {ls : Array Slot} {st0 : List Value} {v : Option Value} {G1 : kdS} {σ1 : kdM} {aa : Array Value} {mc ms : Nat} (hr : va_Run p E.1 e R s m args below meth c H locs c0 s0 mc ms (F0 m pc ls st0) st (kdQ E G1 (v, σ1) aa) (fun q => E.2.2.2 ≤ q)) (hl : lv_has ls nL L) (hS : va_S (fun q => E.2.2.2 ≤ q) s.heap H locs)
    (kk : SWg E (p, e, R, s, m, args, below, meth, c) nL Q (kdR E G1 σ1) (c0 + mc) (s0 + ms) (pc + 3) L (v.toList ++ st)) : W p E.1 e R s m args below meth c H locs c0 s0 Q (F0 m pc ls st0) := by
  intro T hT X
  obtain ⟨v', st₀, t, T', L', h0, X', hL, e1, e2, ⟨hv, hR1, hz, hk⟩, step⟩ := hr T hT X
  cases hv
  rw [h0] at hz hk
  have hS1 : va_S (fun q => E.2.2.2 ≤ q) s.heap T'.heap (locs ++ L') := ⟨Nat.le_trans hS.1 (by rw [e1]; exact hz), fun q h1 h2 => by rw [e1, hk q (Nat.lt_of_lt_of_le h1 hS.1) h2]; exact hS.2.1 q h1 h2, fun q hq => by
    rcases List.mem_append.mp hq with h | h
    · exact hS.2.2 q h
    · exact hL q h⟩
  obtain ⟨t2, a1, b1⟩ := kk T'.heap (locs ++ L') ls hl (by rw [e1]; exact hR1) hS1 T' rfl X'
  exact ⟨t2, step t2 a1, b1⟩
theorem sub1_inv {mc ms : Nat} {g : kd1 → Option (Unit × kd1)} {β : Type} {f : kd1 → Option β} {w : β} (h : sub1 mc ms g f (G, σ, cc, cs) = some w) : mc ≤ cc ∧ ms ≤ cs ∧ ∃ (G1 : kdS) (σ1 : kdM) (c1 s1 : Nat), g (G, σ, mc, ms) = some ((), (G1, σ1, c1, s1)) ∧ f (G1, σ1, cc - mc, cs - ms) = some w := by
  unfold sub1 at h
  split at h
  case isFalse => cases h
  case isTrue q =>
    cases hg : g (G, σ, mc, ms) with
    | none => simp only [hg] at h; cases h
    | some r =>
      obtain ⟨⟨⟩, G1, σ1, c1, s1⟩ := r
      simp only [hg] at h
      exact ⟨q.1, q.2, G1, σ1, c1, s1, rfl, h⟩
theorem r1_cI {y : MethodName} {bytes : ByteArray} {maxL n idx h2 b mc ms : Nat} {As st1 : List Value} {β : Type} {g : kd1 → Option (Unit × kd1)} {f : kd1 → Option β} {w : β} (hX : kdX E A bc nL own ret h) (hY : kdY A) (hd : decode bc pc = .ok (.invokespecial idx, 3)) (hL : kdL y bytes maxL none n) (hlink : Cond.methodLink own idx y ∈ kdtb) (hinst : Cond.instanceMethod y ∈ kdtb) (hy1 : y.name = "<init>") (hh : h2 < h) (hn : As.length = n) (hst : (st.map fun v => v.category).sum ≤ 8) (hs1 : As.reverse ++ kr E b :: st = st1) (hc : c0 + cc = (kdAR A).cells) (hs : s0 + cs = (kdAR A).slots) (hq : sub1 mc ms g f (G, σ, cc, cs) = some w)
    (hC : ∀ (G1 : kdS) (σ1 : kdM) (c1 s1 : Nat), g (G, σ, mc, ms) = some ((), (G1, σ1, c1, s1)) → Con1 E y bytes maxL none h2 mc ms (kr E b :: As) G σ (none, G1, σ1))
    (kk : ∀ (G' : kdS) (σ' : kdM) (cc' cs' c0' s0' : Nat), c0' + cc' = (kdAR A).cells → s0' + cs' = (kdAR A).slots → f (G', σ', cc', cs') = some w → SWg E A nL Q (kdR E G' σ') c0' s0' (pc + 3) L st) : SWg E A nL Q (kdR E G σ) c0 s0 pc L st1 := by
  subst hs1
  obtain ⟨m1, m2, G1, σ1, c1, s1, e1, e2⟩ := sub1_inv hq
  have kk := kk G1 σ1 _ _ (c0 + mc) (s0 + ms) (by omega) (by omega) e2
  obtain ⟨p, e, R, s, m, args, below, meth, c⟩ := A
  intro H locs ls hl hR hS
  obtain ⟨x1, x2, x3, x4, x5, x6, x7, x8, x9, x10, x11⟩ := hX
  obtain ⟨l1, l2, l3, l4, l5⟩ := hL
  have hc' : c0 + cc = R.cells := hc
  have hs' : s0 + cs = R.slots := hs
  have cw : CallB R s args own idx y bytes maxL none (Cond.code y bytes maxL none :: kdtb) (kdr1 h2 mc ms) mc ms n := callB_of n x5 (kdG l1) rfl rfl rfl (x5 _ l2) (x5 _ hlink) ⟨l3.1, l3.2, l4⟩ ⟨by show h2 + 1 ≤ _; omega, by show 8 + (maxL + 11) + 40 * h2 ≤ _; omega⟩
  exact kd1_call (va_runI (As := As) (rest := st) (cells := c0) (slots := s0) (mc := mc) (ms := ms) (b := E.2.2.2 + b) (g := F0 m pc ls (As.reverse ++ kr E b :: st)) ⟨x1, x2, x3, x4, x5⟩ (hC G1 σ1 c1 s1 e1) ⟨cw, hy1, x5 _ hinst⟩ (kd1Pre (av := kr E b :: As) hR x6 x7 hY.1) rfl hn hl.1 rfl (lv_room hst) hd ⟨by omega, by omega⟩) hl hS kk
theorem r1_cIN {y : MethodName} {bytes : ByteArray} {maxL n idx h2 b mc ms : Nat} {host : String} {As st1 : List Value} {β : Type} {g : kd1 → Option (Unit × kd1)} {f : kd1 → Option β} {w : β} (hX : kdX E A bc nL own ret h) (hY : kdY A) (hd : decode bc pc = .ok (.invokespecial idx, 3)) (hL : kdL y bytes maxL none n) (hlink : (own, idx, y, host) ∈ kdN) (hinst : Cond.instanceMethod y ∈ kdtb) (hy1 : y.name = "<init>") (hh : h2 < h) (hn : As.length = n) (hst : (st.map fun v => v.category).sum ≤ 8) (hs1 : As.reverse ++ kr E b :: st = st1) (hc : c0 + cc = (kdAR A).cells) (hs : s0 + cs = (kdAR A).slots) (hq : sub1 mc ms g f (G, σ, cc, cs) = some w)
    (hC : ∀ (G1 : kdS) (σ1 : kdM) (c1 s1 : Nat), g (G, σ, mc, ms) = some ((), (G1, σ1, c1, s1)) → Con1 E y bytes maxL none h2 mc ms (kr E b :: As) G σ (none, G1, σ1))
    (kk : ∀ (G' : kdS) (σ' : kdM) (cc' cs' c0' s0' : Nat), c0' + cc' = (kdAR A).cells → s0' + cs' = (kdAR A).slots → f (G', σ', cc', cs') = some w → SWg E A nL Q (kdR E G' σ') c0' s0' (pc + 3) L st) : SWg E A nL Q (kdR E G σ) c0 s0 pc L st1 := by
  subst hs1
  obtain ⟨m1, m2, G1, σ1, c1, s1, e1, e2⟩ := sub1_inv hq
  have kk := kk G1 σ1 _ _ (c0 + mc) (s0 + ms) (by omega) (by omega) e2
  obtain ⟨p, e, R, s, m, args, below, meth, c⟩ := A
  intro H locs ls hl hR hS
  obtain ⟨x1, x2, x3, x4, x5, x6, x7, x8, x9, x10, x11⟩ := hX
  obtain ⟨l1, l2, l3, l4, l5⟩ := hL
  have hc' : c0 + cc = R.cells := hc
  have hs' : s0 + cs = R.slots := hs
  have cw := va_cnB (own := own) (host := host) (index := idx) (y := y) (bytes := bytes) (maxL := maxL) (ret := none) (R := R) (rm := kdr1 h2 mc ms) (mc := mc) (ms := ms) n x5 (kdG l1) rfl rfl rfl (x7 _ hlink) (x5 _ l2) ⟨l3.1, l3.2, l4⟩ ⟨by show h2 + 1 ≤ _; omega, by show 8 + (maxL + 11) + 40 * h2 ≤ _; omega⟩
  exact kd1_call (va_runIN (As := As) (rest := st) (cells := c0) (slots := s0) (mc := mc) (ms := ms) (b := E.2.2.2 + b) (g := F0 m pc ls (As.reverse ++ kr E b :: st)) ⟨x1, x2, x3, x4, x5⟩ (hC G1 σ1 c1 s1 e1) ⟨cw, hy1, x5 _ hinst⟩ (kd1Pre (av := kr E b :: As) hR x6 x7 hY.1) rfl hn hl.1 rfl (lv_room hst) hd ⟨by omega, by omega⟩) hl hS kk
theorem r1_cV {y : MethodName} {bytes : ByteArray} {maxL n idx b ci h2 : Nat} {ret2 : Option FieldType} {As st1 : List Value} {α β : Type} {enc : α → Option Value} {g : kdS → kdM → Option (α × kdM)} {f : α → kd1 → Option β} {w : β} (hX : kdX E A bc nL own ret h) (hY : kdY A) (hd : decode bc pc = .ok (.invokevirtual idx, 3)) (hL : kdL y bytes maxL ret2 n) (hlink : Cond.methodLink own idx y ∈ kdtb) (hinst : Cond.instanceMethod y ∈ kdtb) (hsel : Cond.selects y.cls y y ∈ kdtb) (hc9 : ∃ T N, vwCl[ci]? = some (y.cls, T, N)) (hh : h2 < h) (hn : As.length = n) (hst : (st.map fun v => v.category).sum ≤ 8) (hs1 : As.reverse ++ kr E b :: st = st1) (hc : c0 + cc = (kdAR A).cells) (hs : s0 + cs = (kdAR A).slots) (hq : kcv1 ci b g f (G, σ, cc, cs) = some w)
    (hC : ∀ (r : α) (σ1 : kdM), g G σ = some (r, σ1) → Con E G y bytes maxL ret2 h2 (kr E b :: As) σ (enc r, σ1))
    (kk : ∀ (r : α) (σ' : kdM) (cc' cs' c0' s0' : Nat), c0' + cc' = (kdAR A).cells → s0' + cs' = (kdAR A).slots → f r (G, σ', cc', cs') = some w → SWg E A nL Q (kdR E G σ') c0' s0' (pc + 3) L ((enc r).toList ++ st)) : SWg E A nL Q (kdR E G σ) c0 s0 pc L st1 := by
  subst hs1
  unfold kcv1 at hq
  split at hq
  case isFalse => cases hq
  case isTrue hci =>
    have hci : (G.1 b).1 = ci := hci
    cases hg : g G σ with
    | none => simp only [hg] at hq; cases hq
    | some r =>
      obtain ⟨r, σ1⟩ := r
      simp only [hg] at hq
      have kk := kk r σ1 _ _ c0 s0 hc hs hq
      have hC := hC r σ1 hg
      obtain ⟨p, e, R, s, m, args, below, meth, c⟩ := A
      intro H locs ls hl hR hS
      obtain ⟨x1, x2, x3, x4, x5, x6, x7, x8, x9, x10, x11⟩ := hX
      obtain ⟨l1, l2, l3, l4, l5⟩ := hL
      have hc' : c0 + cc = R.cells := hc
      have hs' : s0 + cs = R.slots := hs
      have cw : CallW R s args own y.cls idx y bytes maxL ret2 (Cond.code y bytes maxL ret2 :: kdtb) (kdrm h2) 0 0 n := ⟨callB_of n x5 (kdG l1) rfl rfl rfl (x5 _ l2) (x5 _ hlink) ⟨l3.1, l3.2, l4⟩ ⟨by show h2 + 1 ≤ _; omega, by show 8 + (maxL + 11) + 40 * h2 ≤ _; omega⟩, x5 _ hinst, x5 _ hsel⟩
      have hp : PreV s H y.cls (E.2.2.2 + b) (va_Pc (kr E b :: As) (fun U => kdR E G σ U.heap ∧ va_K E.2.1 vwCl (kdty E.2.2.1) U ∧ kdW U)) As := ⟨(kdPre (av := kr E b :: As) hR x6 x7).1, kd_recv hR x6 hci hc9, (kdPre (av := kr E b :: As) hR x6 x7).2⟩
      exact kd1_call (va_runV (rest := st) ⟨x1, x2, x3, x4, x5⟩ hC cw hp rfl hn hl.1 rfl (lv_room hst) hd ⟨by omega, by omega⟩) hl hS kk
theorem r1_vret {G1 : kdS} {σ1 : kdM} {c1 s1 : Nat} (hX : kdX E A bc nL own none h) (hc : c0 + cc = (kdAR A).cells) (hs : s0 + cs = (kdAR A).slots) (hd : decode bc pc = .ok (.return_, 1)) (hh : rt1 () (G, σ, cc, cs) = some ((), (G1, σ1, c1, s1))) : SWg E A nL (kd1E E (none, G1, σ1) A) (kdR E G σ) c0 s0 pc L [] := by
  cases hh
  obtain ⟨p, e, R, s, m, args, below, meth, c⟩ := A
  intro H locs ls hl hR hS
  have hc' : c0 + cc = R.cells := hc
  have hs' : s0 + cs = R.slots := hs
  refine W.widen (k := R.cells) (n := R.slots) (by omega) (by omega) ?_
  exact W.vret hX.1 hX.2.1 hX.2.2.2.2.2.2.2.2.1 (kd_end (p := p) hR hS) hS.2.2 hd hX.2.2.2.2.2.2.2.1
end KDR1
theorem kd1_head {E : kdE} {G : kdS} {y : MethodName} {bytes : ByteArray} {maxL h mc ms : Nat} {ret : Option FieldType} {own : String} {av : List Value} {σ : kdM} {z : Option Value × kdS × kdM} (hy : y.cls = own) (hyn : y.name = "<init>") (hpl : plainName y.cls = true) (hlen : (lg_sl av).length ≤ maxL) (body : ∀ (A : kdA), kdX E A bytes maxL own ret h → kdY A → (kdAR A).cells = mc → (kdAR A).slots = ms → SWg E A maxL (kd1E E z A) (kdR E G σ) 0 0 0 (lv_args 0 av) []) : Con1 E y bytes maxL ret h mc ms av G σ z := by
  refine Met.ofW (cc := bytes) (maxL := maxL) (ret := ret) hpl rfl ?_
  intro p e s m args below meth c s₁ B hml hv
  obtain ⟨rfl, hR, hK, hN, hO⟩ := hv
  have hts := atoms_spec (ws := Cond.code y bytes maxL ret :: kdtb) B.pre
  have hown : s.vm.findClass own = some m.cls := hy ▸ findClass_of_methodNamed B.named
  have hb := body (p, e, (headSpec (Cond.code y bytes maxL ret :: kdtb) (kdr1 h mc ms)).room, s, m, av.toArray, below, meth, c) ⟨B.exec, B.bytes, hml, hown, fun w hw => hts w (List.mem_cons_of_mem _ hw), hK, hN, B.notSynchronized, B.returns, Nat.le_refl _, Nat.le_refl _⟩ ⟨hO, ((name_of_methodNamed B.named B.method).1).trans hyn⟩ rfl rfl
  rw [lg_entry_eq]
  exact hb s.heap [] _ (lv_entry av hlen) hR va_S.rf
end
section
/-! new T[n][m]: the machine's own instruction, from its meaning: an outer cell, then so many inner ones, each told to the outer -/
def kmo (c : ClassId) (N h0 i : Nat) : Cell := arrV c N (fun j => if j < i then .ref (h0 + 1 + j) else .null)
def kmf (s : State) (c comp : ClassId) (N M : Nat) (dv : Value) : Nat → State
  | 0 => s.pushCell (kmo c N s.heap.size 0)
  | i + 1 => ((kmf s c comp N M dv i).pushCell (arrV comp M fun _ => dv)).setCell s.heap.size (kmo c N s.heap.size (i + 1))
theorem kmo_next (c : ClassId) (N h0 i : Nat) : (kmo c N h0 i).setSlot i (.ref (h0 + 1 + i)) = kmo c N h0 (i + 1) := by
  unfold kmo
  rw [arrV_store]
  congr 1
  funext j
  by_cases e : j = i
  · subst e; simp [updV]
  · by_cases h : j < i
    · simp [updV, e, h, show j < i + 1 by omega]
    · simp [updV, e, h, show ¬ j < i + 1 by omega]
theorem kmf_top (s : State) (f : JFrame) (c comp : ClassId) (N M : Nat) (dv : Value) (i : Nat) : kmf (s.setTop f) c comp N M dv i = (kmf s c comp N M dv i).setTop f := by
  induction i with
  | zero => rfl
  | succ i ih => simp only [kmf, ih, State.heap_setTop, State.pushCell_setTop, State.setCell_setTop]
theorem kmf_is (s : State) (c comp : ClassId) (N M : Nat) (dv : Value) (i : Nat) : (kmf s c comp N M dv i).heap.size = s.heap.size + 1 + i ∧ (kmf s c comp N M dv i).heap[s.heap.size]? = some (kmo c N s.heap.size i) ∧
    (kmf s c comp N M dv i).vm = s.vm ∧ (kmf s c comp N M dv i).slotsUsed = s.slotsUsed + N + i * M := by
  induction i with
  | zero => exact ⟨by simp [kmf], by simp [kmf], rfl, by simp [kmf, kmo, arrV_size]⟩
  | succ i ih =>
    obtain ⟨a, b, d, u⟩ := ih
    have hlt : s.heap.size < (kmf s c comp N M dv i).heap.size := by omega
    have hb : ((kmf s c comp N M dv i).pushCell (arrV comp M fun _ => dv)).heap[s.heap.size]? = some (kmo c N s.heap.size i) := by rw [State.heap_pushCell_of_lt (h := hlt)]; exact b
    refine ⟨?_, State.heap_setCell_self hb, by simp [kmf, d], ?_⟩
    · simp [kmf, State.setCell, a]; omega
    · simp [kmf, u, arrV_size, Nat.succ_mul]; omega
theorem kmf_old (s : State) (c comp : ClassId) (N M : Nat) (dv : Value) {a : Addr} (ha : a < s.heap.size) (i : Nat) : (kmf s c comp N M dv i).heap[a]? = s.heap[a]? := by
  induction i with
  | zero => exact State.heap_pushCell_of_lt _ _ ha
  | succ i ih =>
    have f1 := (kmf_is s c comp N M dv i).1
    show (((kmf s c comp N M dv i).pushCell (arrV comp M fun _ => dv)).setCell s.heap.size _).heap[a]? = _
    have hlt : a < (kmf s c comp N M dv i).heap.size := Nat.lt_of_lt_of_le ha (by rw [f1]; omega)
    rw [State.heap_setCell_other (Nat.ne_of_gt ha), State.heap_pushCell_of_lt (h := hlt)]
    exact ih
theorem kmf_in (s : State) (c comp : ClassId) (N M : Nat) (dv : Value) {j : Nat} (i : Nat) (h : j < i) : (kmf s c comp N M dv i).heap[s.heap.size + 1 + j]? = some (arrV comp M fun _ => dv) := by
  induction i with
  | zero => exact absurd h (Nat.not_lt_zero _)
  | succ i ih =>
    have f1 := (kmf_is s c comp N M dv i).1
    show (((kmf s c comp N M dv i).pushCell (arrV comp M fun _ => dv)).setCell s.heap.size _).heap[s.heap.size + 1 + j]? = _
    rw [State.heap_setCell_other (show s.heap.size ≠ s.heap.size + 1 + j by omega)]
    by_cases e : j < i
    · have hlt : s.heap.size + 1 + j < (kmf s c comp N M dv i).heap.size := by omega
      rw [State.heap_pushCell_of_lt (h := hlt)]
      exact ih e
    · have e2 : j = i := by omega
      subst e2
      rw [← f1]
      exact State.heap_pushCell_size _ _
theorem kmf_stand {p : Program} {l : Launch} {e : Env} {R : Room} {s : State} {m : MethodId} {args : Array Value} {below : List Frame} {meth : Method} {c : Code} {T : State} {locs : List Loc} {cells slots : Nat} (X : Stand p l e R s m args below meth c T locs cells slots) (cA comp : ClassId) (N M : Nat) (dv : Value) (i : Nat) :
    Stand p l e R s m args below meth c (kmf T cA comp N M dv i) (locs ++ (List.range i).map fun j => (⟨T.heap.size, j⟩ : Loc)) (cells + 1 + i) (slots + N + i * M) := by
  induction i with
  | zero =>
    have h := X.pushed (kmo cA N T.heap.size 0)
    rw [show (kmo cA N T.heap.size 0).slots.size = N from arrV_size _ _ _] at h
    simpa [kmf] using h
  | succ i ih =>
    obtain ⟨f1, f2, f3, f4⟩ := kmf_is T cA comp N M dv i
    have hlt0 : T.heap.size < (kmf T cA comp N M dv i).heap.size := by rw [f1]; omega
    have hcell : ((kmf T cA comp N M dv i).pushCell (arrV comp M fun _ => dv)).heap[T.heap.size]? = some (kmo cA N T.heap.size i) := by rw [State.heap_pushCell_of_lt (h := hlt0)]; exact f2
    have h := (ih.pushed (arrV comp M fun _ => dv)).stored hcell i (.ref (T.heap.size + 1 + i))
    rw [arrV_size, kmo_next] at h
    have e2 : (locs ++ (List.range (i + 1)).map fun j => (⟨T.heap.size, j⟩ : Loc)) = (locs ++ (List.range i).map fun j => (⟨T.heap.size, j⟩ : Loc)) ++ [⟨T.heap.size, i⟩] := by simp [List.range_succ, List.append_assoc]
    have e3 : slots + N + (i + 1) * M = slots + N + i * M + M := by rw [Nat.succ_mul]; omega
    rw [e2, e3]
    exact h
section KMW
variable {E : CtlPost} {e : Env} {d : Bool} {acts : List Action} {s : State}
theorem km_new {c comp : ClassId} {k : Class} {type : FieldType} {len : Nat} {init : Value} (hk : s.vm.classes[c]? = some k) (hkind : k.kind = .array comp type)
    (hlimit : ¬ len > e.platform.arrayLengthLimit) (hheap : ¬ len * componentBytes type > e.platform.maxHeapBytes) (hfit : fits type init = true) (hdef : init.isDefault = true) {Q : Addr → Pre}
    (h1 : s.heap.size < e.platform.maxCells) (h2 : s.slotsUsed + len ≤ e.platform.maxSlots)
    (hq : Q s.heap.size d acts (s.pushCell (arrV c len fun _ => init))) : wp (Jvm.newArray c len init) Q E e d acts s := by
  rw [← arrV_new] at hq
  have hfits : ∀ i v, (Array.replicate len init)[i]? = some v → s.fitsSlot c .none i v = true := by
    intro i v hv
    rw [Array.getElem?_replicate] at hv
    split at hv
    · cases hv; simp [State.fitsSlot, State.slotType?, hk, hkind, hfit]
    · cases hv
  have hda : allocActs (Array.replicate len init) s.heap.size acts = acts := by
    have hall : ((Array.replicate len init).all (·.isDefault)) = true := by
      rw [Array.all_replicate]; split <;> simp [hdef]
    unfold allocActs; rw [if_pos hall]
  simp only [Jvm.newArray, Jvm.arrayFits, wp_bind', W.ask, W.ite, hlimit, if_false, wp_pure', W.theClass, hk, hkind, hheap, W.alloc, W.stop, Option.some.injEq, exists_eq_left', Array.size_replicate, hda]
  rw [if_neg (by omega)]
  exact ⟨h1, h2, hfits, hq⟩
theorem km_one {comp cc : ClassId} {kc : Class} {type : FieldType} {m : Int32} (hkc : s.vm.classes[comp]? = some kc) (hkindc : kc.kind = .array cc type) (hm : ¬ m < 0)
    (hl2 : ¬ m.toNatClampNeg > e.platform.arrayLengthLimit) (hh2 : ¬ m.toNatClampNeg * componentBytes type > e.platform.maxHeapBytes)
    (hdf : fits type (defaultValue type) = true) (hdd : (defaultValue type).isDefault = true)
    (h1 : s.heap.size < e.platform.maxCells) (h2 : s.slotsUsed + m.toNatClampNeg ≤ e.platform.maxSlots)
    {Q : Addr → Pre} (hq : Q s.heap.size d acts (s.pushCell (arrV comp m.toNatClampNeg fun _ => defaultValue type))) : wp (multianewarray.make comp [m]) Q E e d acts s := by
  rw [multianewarray.make]
  simp only [wp_bind', W.ite, hm, if_false, wp_pure', W.theClass, hkc, hkindc, Option.some.injEq, exists_eq_left']
  exact km_new hkc hkindc hl2 hh2 hdf hdd h1 h2 hq
theorem km_two {c comp cc : ClassId} {k kc : Class} {t0 type : FieldType} {n m : Int32} (hk : s.vm.classes[c]? = some k) (hkind : k.kind = .array comp (.array t0))
    (hkc : s.vm.classes[comp]? = some kc) (hkindc : kc.kind = .array cc type) (hn : ¬ n < 0) (hm : ¬ m < 0)
    (hl1 : ¬ n.toNatClampNeg > e.platform.arrayLengthLimit) (hh1 : ¬ n.toNatClampNeg * componentBytes (.array t0) > e.platform.maxHeapBytes)
    (hl2 : ¬ m.toNatClampNeg > e.platform.arrayLengthLimit) (hh2 : ¬ m.toNatClampNeg * componentBytes type > e.platform.maxHeapBytes)
    (hdf : fits type (defaultValue type) = true) (hdd : (defaultValue type).isDefault = true)
    (hc : s.heap.size + 1 + n.toNatClampNeg ≤ e.platform.maxCells) (hs : s.slotsUsed + n.toNatClampNeg + n.toNatClampNeg * m.toNatClampNeg ≤ e.platform.maxSlots)
    {Q : Addr → Pre} (hq : ∀ d' acts', Q s.heap.size d' acts' (kmf s c comp n.toNatClampNeg m.toNatClampNeg (defaultValue type) n.toNatClampNeg)) : wp (multianewarray.make c [n, m]) Q E e d acts s := by
  have hfind : ([m].find? (· < 0)) = none := by simp [hm]
  rw [multianewarray.make]
  simp only [wp_bind', W.ite, hn, if_false, wp_pure', W.theClass, hk, hkind, Option.some.injEq, exists_eq_left']
  refine km_new hk hkind hl1 hh1 rfl rfl (by omega) (by have := Nat.zero_le (n.toNatClampNeg * m.toNatClampNeg); omega) ?_
  simp only [hfind]
  rw [ite_self, wp_bind', Std.Legacy.Range.forIn_eq_forIn_range']
  have hsz : ([:n.toNatClampNeg] : Std.Legacy.Range).size = n.toNatClampNeg := by simp [Std.Legacy.Range.size]
  rw [hsz]
  show wp (forIn (List.range' 0 n.toNatClampNeg 1) PUnit.unit _) _ E e d acts _
  have hst : s.pushCell (arrV c n.toNatClampNeg fun _ => .null) = kmf s c comp n.toNatClampNeg m.toNatClampNeg (defaultValue type) 0 := by simp [kmf, kmo]
  rw [hst]
  refine wp_forIn_inv (fun rest s' => ∃ i, i ≤ n.toNatClampNeg ∧ rest = List.range' i (n.toNatClampNeg - i) ∧ s' = kmf s c comp n.toNatClampNeg m.toNatClampNeg (defaultValue type) i) _ _ ⟨0, Nat.zero_le _, rfl, rfl⟩ ?_ ?_
  · rintro x rest s' d' acts' Q' ⟨i, hi, hl, rfl⟩ hnext
    have hlt : i < n.toNatClampNeg := by
      rcases Nat.lt_or_ge i n.toNatClampNeg with h | h
      · exact h
      · rw [show n.toNatClampNeg - i = 0 from by omega] at hl; simp at hl
    obtain ⟨rfl, hrest⟩ : x = i ∧ rest = List.range' (i + 1) (n.toNatClampNeg - (i + 1)) := by
      rw [show n.toNatClampNeg - i = (n.toNatClampNeg - (i + 1)) + 1 from by omega, List.range'_succ] at hl
      exact ⟨(List.cons.inj hl).1, (List.cons.inj hl).2⟩
    obtain ⟨f1, f2, f3, f4⟩ := kmf_is s c comp n.toNatClampNeg m.toNatClampNeg (defaultValue type) x
    have hmul : x * m.toNatClampNeg + m.toNatClampNeg ≤ n.toNatClampNeg * m.toNatClampNeg := by
      have := Nat.mul_le_mul_right m.toNatClampNeg (show x + 1 ≤ n.toNatClampNeg from hlt)
      rw [Nat.succ_mul] at this; exact this
    simp only [wp_bind']
    refine km_one (by rw [f3]; exact hkc) hkindc hm hl2 hh2 hdf hdd (by rw [f1]; omega) (by rw [f4]; omega) ?_
    have hlt0 : s.heap.size < (kmf s c comp n.toNatClampNeg m.toNatClampNeg (defaultValue type) x).heap.size := by rw [f1]; omega
    simp only [wp_bind', W.writeLoc, wp_pure']
    refine ⟨kmo c n.toNatClampNeg s.heap.size x, by rw [State.heap_pushCell_of_lt (h := hlt0)]; exact f2, by simp [kmo, arrV], by show x < (kmo c n.toNatClampNeg s.heap.size x).slots.size; rw [show (kmo c n.toNatClampNeg s.heap.size x).slots.size = n.toNatClampNeg from arrV_size _ _ _]; exact hlt, ?_, hnext _ _ _ ⟨x + 1, hlt, hrest, ?_⟩⟩
    · simp [kmo, arrV, State.fitsSlot, State.slotType?, f3, hk, hkind, fits]
    · rw [f1, kmo_next]; rfl
  · rintro s' d' acts' ⟨i, hi, hl, rfl⟩
    have hiN : i = n.toNatClampNeg := by
      rcases Nat.lt_or_ge i n.toNatClampNeg with h | h
      · rw [show n.toNatClampNeg - i = (n.toNatClampNeg - (i + 1)) + 1 from by omega, List.range'_succ] at hl; cases hl
      · omega
    subst hiN
    simp only [wp_pure']
    exact hq _ _
end KMW
theorem km_W {p : Program} {l : Launch} {e : Env} {R : Room} {s : State} {m : MethodId} {args : Array Value} {below : List Frame} {meth : Method} {c : Code} {H : Heap} {locs : List Loc} {cells slots : Nat} {Q : State → Prop} {cc : ByteArray} (hexec : p.tables.exec = Jvm.exec) (hb : c.code = cc) {own : String} {index : Nat} {ty : FieldType}
    (hown : s.vm.findClass own = some m.cls) (hclink : (Cond.classLink own index ("[" ++ (FieldType.array ty).toString)).before args s = true)
    (hover : (Cond.arrayOver (.array ty)).before #[] s = true) (harr : (Cond.arrayClass ty).before args s = true)
    {pc : Nat} {ls : Array Slot} {st : List Value} (hdg : decode cc pc = .ok (.multianewarray index 2, 4)) {n k : Int32}
    (hn : ¬ n < 0) (hk : ¬ k < 0) (hb1 : n.toNatClampNeg * 4 ≤ 536870912) (hb2 : k.toNatClampNeg * componentBytes ty ≤ 536870912) (hb3 : k.toNatClampNeg ≤ 536870912)
    (hdf : fits ty (defaultValue ty) = true) (hdd : (defaultValue ty).isDefault = true)
    (hcells : cells + (1 + n.toNatClampNeg) ≤ R.cells) (hslots : slots + (n.toNatClampNeg + n.toNatClampNeg * k.toNatClampNeg) ≤ R.slots)
    (kk : ∀ (H1 : Heap) (cA comp : ClassId), s.vm.findClass ("[" ++ (FieldType.array ty).toString) = some cA → s.vm.findClass (FieldType.array ty).toString = some comp →
      H1.size = H.size + (1 + n.toNatClampNeg) → (∀ x : Nat, x < H.size → H1[x]? = H[x]?) → H1[H.size]? = some (arrV cA n.toNatClampNeg (fun j => if j < n.toNatClampNeg then .ref (H.size + 1 + j) else .null)) →
      (∀ j, j < n.toNatClampNeg → H1[H.size + 1 + j]? = some (arrV comp k.toNatClampNeg fun _ => defaultValue ty)) →
      W p l e R s m args below meth c H1 locs (cells + (1 + n.toNatClampNeg)) (slots + (n.toNatClampNeg + n.toNatClampNeg * k.toNatClampNeg)) Q (F0 m (pc + 4) ls (.ref H.size :: st))) : W p l e R s m args below meth c H locs cells slots Q (F0 m pc ls (.int k :: .int n :: st)) := by
  intro T hT X
  subst hT; subst hb
  have hpl : e.platform.magicAccessors = ({} : Platform).magicAccessors := by rw [X.admits.platform]
  obtain ⟨comp, cA, kA, hcomp, h2, hkA, hkindA, hnameA⟩ := arrayOverA_spec hover
  obtain ⟨comp', kC, cx, hcomp', hkC, hkindC⟩ := Cond.arrayClass_spec harr
  have ecomp : comp' = comp := Option.some.inj (hcomp'.symm.trans hcomp)
  subst ecomp
  obtain ⟨c0, hfc0, hcl⟩ := Cond.classLink_spec hown hclink e.platform hpl
  cases hnameA.symm.trans hfc0
  obtain ⟨hg₁, hwarm₁, hready₁⟩ := State.classEntry (e := e) X.warmed hcl
  generalize T.vm.noted (F0 m pc ls (.int k :: .int n :: st)).method.cls index (.cls cA) = vm₁ at hg₁ hwarm₁ hready₁
  have hal : s.vm.Alike vm₁ := hwarm₁.alike
  obtain ⟨kA₁, hkA₁, heA⟩ := hal.2.2 _ _ hkA
  obtain ⟨kC₁, hkC₁, heC⟩ := hal.2.2 _ _ hkC
  have hkindA₁ : kA₁.kind = .array comp' (.array ty) := by rw [heA]; exact hkindA
  have hkindC₁ : kC₁.kind = .array cx ty := by rw [heC]; exact hkindC
  have X₁ := X.noted hwarm₁
  obtain ⟨hr1, hr2⟩ := X.roomAbove hcells hslots
  have hl1 : ¬ n.toNatClampNeg > e.platform.arrayLengthLimit := by rw [Launch.admits_arrayLengthLimit X.admits]; omega
  have hh1 : ¬ n.toNatClampNeg * componentBytes (.array ty) > e.platform.maxHeapBytes := by
    rw [Launch.admits_maxHeapBytes X.admits]; show ¬ n.toNatClampNeg * 4 > 536870912; omega
  have hl2 : ¬ k.toNatClampNeg > e.platform.arrayLengthLimit := by rw [Launch.admits_arrayLengthLimit X.admits]; omega
  have hh2 : ¬ k.toNatClampNeg * componentBytes ty > e.platform.maxHeapBytes := by rw [Launch.admits_maxHeapBytes X.admits]; omega
  have XF := kmf_stand X₁ cA comp' n.toNatClampNeg k.toNatClampNeg (defaultValue ty) n.toNatClampNeg
  have XG := XF.dropFresh (fun x hx => by
    obtain ⟨j, -, rfl⟩ := List.mem_map.mp hx
    exact X.heapGrown)
  obtain ⟨f1, f2, f3, f4⟩ := kmf_is (T.setVm vm₁) cA comp' n.toNatClampNeg k.toNatClampNeg (defaultValue ty) n.toNatClampNeg
  have XG : Stand p l e R s m args below meth c (kmf (T.setVm vm₁) cA comp' n.toNatClampNeg k.toNatClampNeg (defaultValue ty) n.toNatClampNeg) locs (cells + (1 + n.toNatClampNeg)) (slots + (n.toNatClampNeg + n.toNatClampNeg * k.toNatClampNeg)) := by
    simpa [Nat.add_assoc] using XG
  obtain ⟨t, a1, b1⟩ := kk _ cA comp' hnameA hcomp (by rw [f1]; show T.heap.size + 1 + _ = _; omega) (fun x hx => kmf_old (T.setVm vm₁) cA comp' _ _ _ hx _) f2 (fun j hj => kmf_in (T.setVm vm₁) cA comp' _ _ _ _ hj) _ rfl XG
  refine ⟨t, ?_, b1⟩
  jvm_step X.here [hexec, hdg]
  simp only [multianewarray.sem, wp_bind', W.resolveClassAt_links (mm := m) (t := T.setTop (F0 m pc ls (.int k :: .int n :: st))) (vm' := vm₁) (State.method?_setTop (F0 m pc ls (.int k :: .int n :: st)) X.here.top) hg₁]
  rw [W.popN, if_neg (by decide)]
  refine ⟨_, State.topJava?_setTop' (s := T.setVm vm₁) _ X.here.top, [.int n, .int k], st, rfl, rfl, ?_⟩
  simp only [List.mapM_cons, List.mapM_nil, wp_bind', wp_pure']
  refine km_two (k := kA₁) (kc := kC₁) (comp := comp') (cc := cx) (t0 := ty) (type := ty) hkA₁ hkindA₁ hkC₁ hkindC₁ hn hk hl1 hh1 hl2 hh2 hdf hdd (by show T.heap.size + 1 + _ ≤ _; omega) (by show T.slotsUsed + _ + _ ≤ _; omega) (fun d' acts' => ?_)
  have eS : ((T.setTop (F0 m pc ls (.int k :: .int n :: st))).setVm vm₁).setTop (F0 m pc ls st) = (T.setVm vm₁).setTop (F0 m pc ls st) := by
    show ((T.setVm vm₁).setTop _).setTop _ = _
    rw [State.setTop_setTop]
  rw [eS, kmf_top]
  simp only [wp_bind', W.mark, W.pushRef, State.topJava?_setTop' _ XF.here.top, Option.some.injEq, exists_eq_left', State.setTop_setTop, State.heap_setTop]
  intro acts
  simp [jvm, XF.here.top]
  exact a1
theorem kdR.push2 {E : kdE} {G : kdS} {σ : kdM} {H H' : Heap} {k k2 n m : Nat} {dv : Value} (h : kdR E G σ H) (hk : k = 18 ∨ k = 19) (hz : H'.size = H.size + (1 + n)) (ho : ∀ x : Nat, x < H.size → H'[x]? = H[x]?)
    (h0 : H'[H.size]? = some (arrV (E.2.2.1 k) n (fun j => if j < n then .ref (H.size + 1 + j) else .null))) (h1 : ∀ j, j < n → H'[H.size + 1 + j]? = some (arrV (E.2.2.1 k2) m fun _ => dv)) (hd : (k2 = 13 ∧ dv = .int 0) ∨ (k2 = 14 ∧ dv = .long 0)) : kdR E (ga2 G k n k2 m) (gz2 G.2.2 n σ) H' := by
  have hs := h.1
  refine ⟨by rw [hz, h.1]; show _ = E.2.2.2 + (G.2.2 + 1 + n); omega, fun a ha => ?_⟩
  by_cases e : a = G.2.2
  · subst e
    have e1 : ((ga2 G k n k2 m).1 G.2.2) = (k, n) := by simp [ga2]
    refine ⟨fun h13 => absurd h13 (by rw [e1]; show ¬ k < 13; omega), fun _ => ?_⟩
    rw [← h.1, h0, e1]
    refine congrArg some (congrArg _ (funext fun j => ?_))
    have ek : kdv k j = 2 := by rcases hk with rfl | rfl <;> rfl
    simp only [kdV, e1, ek, if_neg (show ¬ (2 : Nat) = 0 by decide), if_neg (show ¬ (2 : Nat) = 1 by decide)]
    by_cases hj : j < n
    · simp [ga2, hj, va_rf, hs, Nat.add_assoc]
    · simp [ga2, hj, va_rf]
  · by_cases e2 : G.2.2 < a ∧ a ≤ G.2.2 + n
    · obtain ⟨j, rfl⟩ : ∃ j, a = G.2.2 + 1 + j := ⟨a - G.2.2 - 1, by omega⟩
      have e1 : ((ga2 G k n k2 m).1 (G.2.2 + 1 + j)) = (k2, m) := by simp only [ga2, if_neg e, if_pos e2]
      refine ⟨fun h13 => absurd h13 (by rw [e1]; show ¬ k2 < 13; omega), fun _ => ?_⟩
      have hh := h1 j (by omega)
      rw [h.1, show E.2.2.2 + G.2.2 + 1 + j = E.2.2.2 + (G.2.2 + 1 + j) by omega] at hh
      rw [hh, e1]
      refine congrArg some (congrArg _ (funext fun i => ?_))
      have e3 : G.2.2 ≤ G.2.2 + 1 + j ∧ G.2.2 + 1 + j ≤ G.2.2 + n := by omega
      rcases hd with ⟨rfl, rfl⟩ | ⟨rfl, rfl⟩
      · simp only [kdV, e1, gz2, if_pos e3]; rfl
      · simp only [kdV, e1, gz2, if_pos e3]; rfl
    · have e1 : (ga2 G k n k2 m).1 a = G.1 a := by simp only [ga2, if_neg e, if_neg e2]
      have hk2 := h.2 a (by rw [← e1]; exact ha)
      have hl := hk2.lt
      rw [h.1] at hl
      have e3 : ¬ (G.2.2 ≤ a ∧ a ≤ G.2.2 + n) := by omega
      exact hk2.keptG (ho _ hk2.lt) e1 (by funext j; simp only [ga2, if_neg e, if_neg e2]) (by funext j; simp only [gz2, if_neg e3]) (by funext j; simp only [gz2, if_neg e3])
section KMR
variable {E : kdE} {A : kdA} {G : kdS} {σ : kdM} {nL h c0 s0 cc cs pc : Nat} {Q : State → Prop} {L : List (Nat × Value)} {st : List Value} {bc : ByteArray} {own : String} {ret : Option FieldType}
theorem r1_m18 {n m : Int32} {idx : Nat} {β : Type} {f : Nat → kd1 → Option β} {w : β} (hX : kdX E A bc nL own ret h) (hY : kdY A) (hd : decode bc pc = .ok (.multianewarray idx 2, 4)) (hcl : Cond.classLink own idx "[[I" ∈ kdtb) (hac : Cond.arrayClass .int ∈ kdtb) (hc : c0 + cc = (kdAR A).cells) (hs : s0 + cs = (kdAR A).slots) (hh : n1M 18 13 n m f (G, σ, cc, cs) = some w)
    (kk : ∀ (t : Nat) (G' : kdS) (σ' : kdM) (cc' cs' c0' s0' : Nat), c0' + cc' = (kdAR A).cells → s0' + cs' = (kdAR A).slots → f t (G', σ', cc', cs') = some w → SWg E A nL Q (kdR E G' σ') c0' s0' (pc + 4) L (kr E t :: st)) : SWg E A nL Q (kdR E G σ) c0 s0 pc L (.int m :: .int n :: st) := by
  unfold n1M at hh
  split at hh
  case isFalse => cases hh
  case isTrue hq =>
    obtain ⟨q1, q2, q3, q4, q5, q6⟩ := hq
    have q5 : 1 + n.toInt.toNat ≤ cc := q5
    have q6 : n.toInt.toNat + n.toInt.toNat * m.toInt.toNat ≤ cs := q6
    have kk := kk _ _ _ _ _ (c0 + (1 + n.toInt.toNat)) (s0 + (n.toInt.toNat + n.toInt.toNat * m.toInt.toNat)) (by show c0 + (1 + n.toInt.toNat) + (cc - (1 + n.toInt.toNat)) = _; omega) (by show s0 + _ + (cs - _) = _; omega) hh
    obtain ⟨p, e, R, s, mm, args, below, meth, c⟩ := A
    intro H locs ls hl hR hS
    obtain ⟨x1, x2, x3, x4, x5, x6, -⟩ := hX
    have hc' : c0 + cc = R.cells := hc
    have hs' : s0 + cs = R.slots := hs
    have hci := (x6.2 0 _ rfl).2
    have k4 := (x6.2 5 _ rfl).2
    have hO : (Cond.arrayOver (.array .int)).before #[] s = true := hY.1.2.2.1
    have hm1 : n.toNatClampNeg = n.toInt.toNat := rfl
    have hm2 : m.toNatClampNeg = m.toInt.toNat := rfl
    refine km_W (ty := .int) x1 x2 x4 (x5 _ hcl) hO (x5 _ hac) hd (by rw [Int32.lt_iff_toInt_lt, Int32.toInt_zero]; omega) (by rw [Int32.lt_iff_toInt_lt, Int32.toInt_zero]; omega) (by rw [hm1]; omega) (by rw [hm2]; show _ * 4 ≤ _; omega) (by rw [hm2]; omega) rfl rfl (by rw [hm1]; omega) (by rw [hm1, hm2]; omega) fun H1 cA comp' e1 e2 z1 o1 p0 p1 => ?_
    have ecA : cA = E.2.2.1 18 := Option.some.inj (e1.symm.trans k4)
    have eco : comp' = E.2.2.1 13 := Option.some.inj (e2.symm.trans hci)
    subst ecA; subst eco
    have hsz : H.size = E.2.2.2 + G.2.2 := hR.1
    have hR2 := hR.push2 (k := 18) (k2 := 13) (n := n.toInt.toNat) (m := m.toInt.toNat) (dv := .int 0) (by decide) z1 o1 p0 p1 (Or.inl ⟨rfl, rfl⟩)
    have hS2 := va_S_push hS (by rw [z1]; omega) o1
    rw [hsz]
    exact kk H1 locs ls hl hR2 hS2
theorem r1_m19 {n m : Int32} {idx : Nat} {β : Type} {f : Nat → kd1 → Option β} {w : β} (hX : kdX E A bc nL own ret h) (hY : kdY A) (hd : decode bc pc = .ok (.multianewarray idx 2, 4)) (hcl : Cond.classLink own idx "[[J" ∈ kdtb) (hac : Cond.arrayClass .long ∈ kdtb) (hc : c0 + cc = (kdAR A).cells) (hs : s0 + cs = (kdAR A).slots) (hh : n1M 19 14 n m f (G, σ, cc, cs) = some w)
    (kk : ∀ (t : Nat) (G' : kdS) (σ' : kdM) (cc' cs' c0' s0' : Nat), c0' + cc' = (kdAR A).cells → s0' + cs' = (kdAR A).slots → f t (G', σ', cc', cs') = some w → SWg E A nL Q (kdR E G' σ') c0' s0' (pc + 4) L (kr E t :: st)) : SWg E A nL Q (kdR E G σ) c0 s0 pc L (.int m :: .int n :: st) := by
  unfold n1M at hh
  split at hh
  case isFalse => cases hh
  case isTrue hq =>
    obtain ⟨q1, q2, q3, q4, q5, q6⟩ := hq
    have q5 : 1 + n.toInt.toNat ≤ cc := q5
    have q6 : n.toInt.toNat + n.toInt.toNat * m.toInt.toNat ≤ cs := q6
    have kk := kk _ _ _ _ _ (c0 + (1 + n.toInt.toNat)) (s0 + (n.toInt.toNat + n.toInt.toNat * m.toInt.toNat)) (by show c0 + (1 + n.toInt.toNat) + (cc - (1 + n.toInt.toNat)) = _; omega) (by show s0 + _ + (cs - _) = _; omega) hh
    obtain ⟨p, e, R, s, mm, args, below, meth, c⟩ := A
    intro H locs ls hl hR hS
    obtain ⟨x1, x2, x3, x4, x5, x6, -⟩ := hX
    have hc' : c0 + cc = R.cells := hc
    have hs' : s0 + cs = R.slots := hs
    have hci := (x6.2 1 _ rfl).2
    have k4 := (x6.2 6 _ rfl).2
    have hO : (Cond.arrayOver (.array .long)).before #[] s = true := hY.1.2.2.2
    have hm1 : n.toNatClampNeg = n.toInt.toNat := rfl
    have hm2 : m.toNatClampNeg = m.toInt.toNat := rfl
    refine km_W (ty := .long) x1 x2 x4 (x5 _ hcl) hO (x5 _ hac) hd (by rw [Int32.lt_iff_toInt_lt, Int32.toInt_zero]; omega) (by rw [Int32.lt_iff_toInt_lt, Int32.toInt_zero]; omega) (by rw [hm1]; omega) (by rw [hm2]; show _ * 8 ≤ _; omega) (by rw [hm2]; omega) rfl rfl (by rw [hm1]; omega) (by rw [hm1, hm2]; omega) fun H1 cA comp' e1 e2 z1 o1 p0 p1 => ?_
    have ecA : cA = E.2.2.1 19 := Option.some.inj (e1.symm.trans k4)
    have eco : comp' = E.2.2.1 14 := Option.some.inj (e2.symm.trans hci)
    subst ecA; subst eco
    have hsz : H.size = E.2.2.2 + G.2.2 := hR.1
    have hR2 := hR.push2 (k := 19) (k2 := 14) (n := n.toInt.toNat) (m := m.toInt.toNat) (dv := .long 0) (by decide) z1 o1 p0 p1 (Or.inr ⟨rfl, rfl⟩)
    have hS2 := va_S_push hS (by rw [z1]; omega) o1
    rw [hsz]
    exact kk H1 locs ls hl hR2 hS2
end KMR
end
section
def X6_size (G : kdS) (l0 : Nat) : kdM → Option (Int32 × kdM) :=
  gI G 6 1 l0 fun t1 =>
  rt t1
set_option maxRecDepth 100000 in
set_option maxHeartbeats 4000000 in
theorem wX6_size {E : kdE} {G : kdS} {l0 : Nat} {σ : kdM} {r : Int32} {σ1 : kdM} (h : X6_size G l0 σ = some (r, σ1)) : Con E G yX6_size cX6_size 1 (some .int) 0 [kr E l0] σ (some (.int r), σ1) := by
  refine kd_head (own := RX6) rfl (by decide +kernel) (Nat.le_of_ble_eq_true rfl) (fun A hX => ?_)
  show SW E G (.inl (some (.int r), σ1)) A 1 σ 0 [(0, kr E l0)] []
  unfold X6_size at h
  refine r_aload_n hX dX6_size_0 rfl 0 rfl ?_
  refine r_gI hX dX6_size_1 kf_X6_21 rfl h ?_
  clear h; intro t1 h
  exact r_iret hX dX6_size_4 h
def X6_isEmpty_12 (G : kdS) (s0 : Int32) : kdM → Option (Int32 × kdM) :=
  rt (vp_nar .boolean s0)
set_option maxRecDepth 100000 in
set_option maxHeartbeats 4000000 in
theorem wX6_isEmpty_12 {E : kdE} {G : kdS} {A : kdA} {r : Int32} {σ1 : kdM} (hX : kdX E A cX6_isEmpty 1 RX6 (some .boolean) 0) {σ : kdM} {s0 : Int32} (h : X6_isEmpty_12 G s0 σ = some (r, σ1)) : SW E G (.inl (some (.int r), σ1)) A 1 σ 12 [] [.int s0] := by
  unfold X6_isEmpty_12 at h
  exact r_zret hX dX6_isEmpty_12 h
def X6_isEmpty (G : kdS) (l0 : Nat) : kdM → Option (Int32 × kdM) :=
  gI G 6 1 l0 fun t1 =>
  cnd (t1 = 0)
    (X6_isEmpty_12 G (1 : Int32))
    (X6_isEmpty_12 G (0 : Int32))
set_option maxRecDepth 100000 in
set_option maxHeartbeats 4000000 in
theorem wX6_isEmpty {E : kdE} {G : kdS} {l0 : Nat} {σ : kdM} {r : Int32} {σ1 : kdM} (h : X6_isEmpty G l0 σ = some (r, σ1)) : Con E G yX6_isEmpty cX6_isEmpty 1 (some .boolean) 0 [kr E l0] σ (some (.int r), σ1) := by
  refine kd_head (own := RX6) rfl (by decide +kernel) (Nat.le_of_ble_eq_true rfl) (fun A hX => ?_)
  show SW E G (.inl (some (.int r), σ1)) A 1 σ 0 [(0, kr E l0)] []
  unfold X6_isEmpty at h
  refine r_aload_n hX dX6_isEmpty_0 rfl 0 rfl ?_
  refine r_gI hX dX6_isEmpty_1 kf_X6_21 rfl h ?_
  clear h; intro t1 h
  refine r_if_ne (tgt := 11) hX dX6_isEmpty_4 (by decide) h ?_ ?_
  · clear h; intro h
    refine r_iconst hX dX6_isEmpty_7 kk_i_1 ?_
    refine r_goto (tgt := 12) hX dX6_isEmpty_8 (by decide) ?_
    refine r_sub [] rfl ?_
    exact wX6_isEmpty_12 hX h
  · clear h; intro h
    refine r_iconst hX dX6_isEmpty_11 kk_i_0 ?_
    refine r_sub [] rfl ?_
    exact wX6_isEmpty_12 hX h
def X6_isFull_17 (G : kdS) (s0 : Int32) : kdM → Option (Int32 × kdM) :=
  rt (vp_nar .boolean s0)
set_option maxRecDepth 100000 in
set_option maxHeartbeats 4000000 in
theorem wX6_isFull_17 {E : kdE} {G : kdS} {A : kdA} {r : Int32} {σ1 : kdM} (hX : kdX E A cX6_isFull 1 RX6 (some .boolean) 0) {σ : kdM} {s0 : Int32} (h : X6_isFull_17 G s0 σ = some (r, σ1)) : SW E G (.inl (some (.int r), σ1)) A 1 σ 17 [] [.int s0] := by
  unfold X6_isFull_17 at h
  exact r_zret hX dX6_isFull_17 h
def X6_isFull (G : kdS) (l0 : Nat) : kdM → Option (Int32 × kdM) :=
  gI G 6 1 l0 fun t1 =>
  gR G 6 0 l0 fun t2 =>
  aN G t2 fun t3 =>
  cnd (t1 < t3)
    (X6_isFull_17 G (0 : Int32))
    (X6_isFull_17 G (1 : Int32))
set_option maxRecDepth 100000 in
set_option maxHeartbeats 4000000 in
theorem wX6_isFull {E : kdE} {G : kdS} {l0 : Nat} {σ : kdM} {r : Int32} {σ1 : kdM} (h : X6_isFull G l0 σ = some (r, σ1)) : Con E G yX6_isFull cX6_isFull 1 (some .boolean) 0 [kr E l0] σ (some (.int r), σ1) := by
  refine kd_head (own := RX6) rfl (by decide +kernel) (Nat.le_of_ble_eq_true rfl) (fun A hX => ?_)
  show SW E G (.inl (some (.int r), σ1)) A 1 σ 0 [(0, kr E l0)] []
  unfold X6_isFull at h
  refine r_aload_n hX dX6_isFull_0 rfl 0 rfl ?_
  refine r_gI hX dX6_isFull_1 kf_X6_21 rfl h ?_
  clear h; intro t1 h
  refine r_aload_n hX dX6_isFull_4 rfl 0 rfl ?_
  refine r_gR hX dX6_isFull_5 kf_X6_15 rfl h ?_
  clear h; intro t2 h
  refine r_aN hX dX6_isFull_8 h ?_
  clear h; intro t3 h
  refine r_icmp_lt (tgt := 16) hX dX6_isFull_9 (by decide) h ?_ ?_
  · clear h; intro h
    refine r_iconst hX dX6_isFull_16 kk_i_0 ?_
    refine r_sub [] rfl ?_
    exact wX6_isFull_17 hX h
  · clear h; intro h
    refine r_iconst hX dX6_isFull_12 kk_i_1 ?_
    refine r_goto (tgt := 17) hX dX6_isFull_13 (by decide) ?_
    refine r_sub [] rfl ?_
    exact wX6_isFull_17 hX h
def X6_has_17 (G : kdS) (s0 : Int32) : kdM → Option (Int32 × kdM) :=
  rt (vp_nar .boolean s0)
set_option maxRecDepth 100000 in
set_option maxHeartbeats 4000000 in
theorem wX6_has_17 {E : kdE} {G : kdS} {A : kdA} {r : Int32} {σ1 : kdM} (hX : kdX E A cX6_has 2 RX6 (some .boolean) 0) {σ : kdM} {s0 : Int32} (h : X6_has_17 G s0 σ = some (r, σ1)) : SW E G (.inl (some (.int r), σ1)) A 2 σ 17 [] [.int s0] := by
  unfold X6_has_17 at h
  exact r_zret hX dX6_has_17 h
def X6_has_16 (G : kdS) : kdM → Option (Int32 × kdM) :=
  X6_has_17 G (0 : Int32)
set_option maxRecDepth 100000 in
set_option maxHeartbeats 4000000 in
theorem wX6_has_16 {E : kdE} {G : kdS} {A : kdA} {r : Int32} {σ1 : kdM} (hX : kdX E A cX6_has 2 RX6 (some .boolean) 0) {σ : kdM} (h : X6_has_16 G  σ = some (r, σ1)) : SW E G (.inl (some (.int r), σ1)) A 2 σ 16 [] [] := by
  unfold X6_has_16 at h
  refine r_iconst hX dX6_has_16 kk_i_0 ?_
  refine r_sub [] rfl ?_
  exact wX6_has_17 hX h
def X6_has (G : kdS) (l0 : Nat) (l1 : Int32) : kdM → Option (Int32 × kdM) :=
  cnd (l1 < 0)
    (X6_has_16 G )
    (gI G 6 1 l0 fun t1 =>
    cnd (t1 ≤ l1)
      (X6_has_16 G )
      (X6_has_17 G (1 : Int32)))
set_option maxRecDepth 100000 in
set_option maxHeartbeats 4000000 in
theorem wX6_has {E : kdE} {G : kdS} {l0 : Nat} {l1 : Int32} {σ : kdM} {r : Int32} {σ1 : kdM} (h : X6_has G l0 l1 σ = some (r, σ1)) : Con E G yX6_has cX6_has 2 (some .boolean) 0 [kr E l0, .int l1] σ (some (.int r), σ1) := by
  refine kd_head (own := RX6) rfl (by decide +kernel) (Nat.le_of_ble_eq_true rfl) (fun A hX => ?_)
  show SW E G (.inl (some (.int r), σ1)) A 2 σ 0 [(0, kr E l0), (1, .int l1)] []
  unfold X6_has at h
  refine r_iload_n hX dX6_has_0 rfl 1 rfl ?_
  refine r_if_lt (tgt := 16) hX dX6_has_1 (by decide) h ?_ ?_
  · clear h; intro h
    refine r_sub [] rfl ?_
    exact wX6_has_16 hX h
  · clear h; intro h
    refine r_iload_n hX dX6_has_4 rfl 1 rfl ?_
    refine r_aload_n hX dX6_has_5 rfl 0 rfl ?_
    refine r_gI hX dX6_has_6 kf_X6_21 rfl h ?_
    clear h; intro t1 h
    refine r_icmp_ge (tgt := 16) hX dX6_has_9 (by decide) h ?_ ?_
    · clear h; intro h
      refine r_sub [] rfl ?_
      exact wX6_has_16 hX h
    · clear h; intro h
      refine r_iconst hX dX6_has_12 kk_i_1 ?_
      refine r_goto (tgt := 17) hX dX6_has_13 (by decide) ?_
      refine r_sub [] rfl ?_
      exact wX6_has_17 hX h
def X6_at_22 (G : kdS) (s0 : Int32) : kdM → Option (Int32 × kdM) :=
  rt s0
set_option maxRecDepth 100000 in
set_option maxHeartbeats 4000000 in
theorem wX6_at_22 {E : kdE} {G : kdS} {A : kdA} {r : Int32} {σ1 : kdM} (hX : kdX E A cX6_at 2 RX6 (some .int) 0) {σ : kdM} {s0 : Int32} (h : X6_at_22 G s0 σ = some (r, σ1)) : SW E G (.inl (some (.int r), σ1)) A 2 σ 22 [] [.int s0] := by
  unfold X6_at_22 at h
  exact r_iret hX dX6_at_22 h
def X6_at_21 (G : kdS) : kdM → Option (Int32 × kdM) :=
  X6_at_22 G (-1 : Int32)
set_option maxRecDepth 100000 in
set_option maxHeartbeats 4000000 in
theorem wX6_at_21 {E : kdE} {G : kdS} {A : kdA} {r : Int32} {σ1 : kdM} (hX : kdX E A cX6_at 2 RX6 (some .int) 0) {σ : kdM} (h : X6_at_21 G  σ = some (r, σ1)) : SW E G (.inl (some (.int r), σ1)) A 2 σ 21 [] [] := by
  unfold X6_at_21 at h
  refine r_iconst hX dX6_at_21 kk_i_m1 ?_
  refine r_sub [] rfl ?_
  exact wX6_at_22 hX h
def X6_at (G : kdS) (l0 : Nat) (l1 : Int32) : kdM → Option (Int32 × kdM) :=
  cnd (l1 < 0)
    (X6_at_21 G )
    (gI G 6 1 l0 fun t1 =>
    cnd (t1 ≤ l1)
      (X6_at_21 G )
      (gR G 6 0 l0 fun t2 =>
      aI G t2 (l1) fun t3 =>
      X6_at_22 G t3))
set_option maxRecDepth 100000 in
set_option maxHeartbeats 4000000 in
theorem wX6_at {E : kdE} {G : kdS} {l0 : Nat} {l1 : Int32} {σ : kdM} {r : Int32} {σ1 : kdM} (h : X6_at G l0 l1 σ = some (r, σ1)) : Con E G yX6_at cX6_at 2 (some .int) 0 [kr E l0, .int l1] σ (some (.int r), σ1) := by
  refine kd_head (own := RX6) rfl (by decide +kernel) (Nat.le_of_ble_eq_true rfl) (fun A hX => ?_)
  show SW E G (.inl (some (.int r), σ1)) A 2 σ 0 [(0, kr E l0), (1, .int l1)] []
  unfold X6_at at h
  refine r_iload_n hX dX6_at_0 rfl 1 rfl ?_
  refine r_if_lt (tgt := 21) hX dX6_at_1 (by decide) h ?_ ?_
  · clear h; intro h
    refine r_sub [] rfl ?_
    exact wX6_at_21 hX h
  · clear h; intro h
    refine r_iload_n hX dX6_at_4 rfl 1 rfl ?_
    refine r_aload_n hX dX6_at_5 rfl 0 rfl ?_
    refine r_gI hX dX6_at_6 kf_X6_21 rfl h ?_
    clear h; intro t1 h
    refine r_icmp_ge (tgt := 21) hX dX6_at_9 (by decide) h ?_ ?_
    · clear h; intro h
      refine r_sub [] rfl ?_
      exact wX6_at_21 hX h
    · clear h; intro h
      refine r_aload_n hX dX6_at_12 rfl 0 rfl ?_
      refine r_gR hX dX6_at_13 kf_X6_15 rfl h ?_
      clear h; intro t2 h
      refine r_iload_n hX dX6_at_16 rfl 1 rfl ?_
      refine r_aI hX dX6_at_17 h ?_
      clear h; intro t3 h
      refine r_goto (tgt := 22) hX dX6_at_18 (by decide) ?_
      refine r_sub [] rfl ?_
      exact wX6_at_22 hX h
def X6_insert_19 (G : kdS) : kdM → Option (Unit × kdM) :=
  rt ()
set_option maxRecDepth 100000 in
set_option maxHeartbeats 4000000 in
theorem wX6_insert_19 {E : kdE} {G : kdS} {A : kdA} {r : Unit} {σ1 : kdM} (hX : kdX E A cX6_insert 4 RX6 none 1) {σ : kdM} (h : X6_insert_19 G  σ = some (r, σ1)) : SW E G (.inl (none, σ1)) A 4 σ 19 [] [] := by
  unfold X6_insert_19 at h
  exact r_vret hX dX6_insert_19 h
def X6_insert_25B (G : kdS) (k25 : Nat → Int32 → Int32 → Int32 → kdM → Option (Unit × kdM)) (l0 : Nat) (l1 : Int32) (l2 : Int32) (l3 : Int32) : kdM → Option (Unit × kdM) :=
  cnd (l3 ≤ l1)
    (gR G 6 0 l0 fun t1 =>
    tI G t1 (l1) (l2) <|
    gI G 6 1 l0 fun t2 =>
    sI G 6 1 l0 ((t2 + (1 : Int32))) <|
    rt ())
    (gR G 6 0 l0 fun t3 =>
    gR G 6 0 l0 fun t4 =>
    aI G t4 ((l3 - (1 : Int32))) fun t5 =>
    tI G t3 (l3) (t5) <|
    ltI (l3 + Int32.ofInt (-1)) fun t6 =>
    k25 l0 l1 l2 t6)
set_option maxRecDepth 100000 in
set_option maxHeartbeats 4000000 in
theorem wX6_insert_25B {E : kdE} {G : kdS} {A : kdA} {r : Unit} {σ1 : kdM} (hX : kdX E A cX6_insert 4 RX6 none 1) (k25 : Nat → Int32 → Int32 → Int32 → kdM → Option (Unit × kdM)) (hk25 : ∀ (l0 : Nat) (l1 : Int32) (l2 : Int32) (l3 : Int32) (σ : kdM), k25 l0 l1 l2 l3 σ = some (r, σ1) → SW E G (.inl (none, σ1)) A 4 σ 25 [(0, kr E l0), (1, .int l1), (2, .int l2), (3, .int l3)] []) {σ : kdM} {l0 : Nat} {l1 : Int32} {l2 : Int32} {l3 : Int32} (h : X6_insert_25B G k25 l0 l1 l2 l3 σ = some (r, σ1)) : SW E G (.inl (none, σ1)) A 4 σ 25 [(0, kr E l0), (1, .int l1), (2, .int l2), (3, .int l3)] [] := by
  unfold X6_insert_25B at h
  refine r_iload_n hX dX6_insert_25 rfl 3 rfl ?_
  refine r_iload_n hX dX6_insert_26 rfl 1 rfl ?_
  refine r_icmp_le (tgt := 50) hX dX6_insert_27 (by decide) h ?_ ?_
  · clear h; intro h
    refine r_aload_n hX dX6_insert_50 rfl 0 rfl ?_
    refine r_gR hX dX6_insert_51 kf_X6_15 rfl h ?_
    clear h; intro t1 h
    refine r_iload_n hX dX6_insert_54 rfl 1 rfl ?_
    refine r_iload_n hX dX6_insert_55 rfl 2 rfl ?_
    refine r_tI hX dX6_insert_56 h ?_
    clear h; intro σ h
    refine r_aload_n hX dX6_insert_57 rfl 0 rfl ?_
    refine r_dup hX dX6_insert_58 rfl ?_
    refine r_gI hX dX6_insert_59 kf_X6_21 rfl h ?_
    clear h; intro t2 h
    refine r_iconst hX dX6_insert_62 kk_i_1 ?_
    refine r_iadd hX dX6_insert_63 ?_
    refine r_sI hX dX6_insert_64 kf_X6_21 rfl (by intro q hq; cases hq; rfl) h ?_
    clear h; intro σ h
    exact r_vret hX dX6_insert_67 h
  · clear h; intro h
    refine r_aload_n hX dX6_insert_30 rfl 0 rfl ?_
    refine r_gR hX dX6_insert_31 kf_X6_15 rfl h ?_
    clear h; intro t3 h
    refine r_iload_n hX dX6_insert_34 rfl 3 rfl ?_
    refine r_aload_n hX dX6_insert_35 rfl 0 rfl ?_
    refine r_gR hX dX6_insert_36 kf_X6_15 rfl h ?_
    clear h; intro t4 h
    refine r_iload_n hX dX6_insert_39 rfl 3 rfl ?_
    refine r_iconst hX dX6_insert_40 kk_i_1 ?_
    refine r_isub hX dX6_insert_41 ?_
    refine r_aI hX dX6_insert_42 h ?_
    clear h; intro t5 h
    refine r_tI hX dX6_insert_43 h ?_
    clear h; intro σ h
    refine r_iincL (L2 := fun t6 => [(3, .int t6), (0, kr E l0), (1, .int l1), (2, .int l2)]) hX dX6_insert_44 h 3 rfl (by decide) (fun _ => rfl) ?_
    clear h; intro t6 h
    refine r_goto (tgt := 25) hX dX6_insert_47 (by decide) ?_
    refine r_sub [1, 2, 3, 0] rfl ?_
    exact hk25 _ _ _ _ _ h
def X6_insert_25 (G : kdS) : Nat → Int32 → Int32 → Int32 → kdM → Option (Unit × kdM) := lp (fun _ _ _ _ _ => none) (X6_insert_25B G) NN
theorem wX6_insert_25 {E : kdE} {G : kdS} {A : kdA} {r : Unit} {σ1 : kdM} (hX : kdX E A cX6_insert 4 RX6 none 1) : ∀ (l0 : Nat) (l1 : Int32) (l2 : Int32) (l3 : Int32) (σ : kdM), X6_insert_25 G l0 l1 l2 l3 σ = some (r, σ1) → SW E G (.inl (none, σ1)) A 4 σ 25 [(0, kr E l0), (1, .int l1), (2, .int l2), (3, .int l3)] [] :=
  lp_ind (Q := fun f => ∀ (l0 : Nat) (l1 : Int32) (l2 : Int32) (l3 : Int32) (σ : kdM), f l0 l1 l2 l3 σ = some (r, σ1) → SW E G (.inl (none, σ1)) A 4 σ 25 [(0, kr E l0), (1, .int l1), (2, .int l2), (3, .int l3)] []) (by intros; contradiction) (fun k hk l0 l1 l2 l3 σ h => wX6_insert_25B hX k hk h) NN
def X6_insert (G : kdS) (l0 : Nat) (l1 : Int32) (l2 : Int32) : kdM → Option (Unit × kdM) :=
  kcv G 6 l0 (X6_isFull G l0) fun t1 =>
  cnd (t1 = 0)
    (cnd (l1 < 0)
      (X6_insert_19 G )
      (gI G 6 1 l0 fun t2 =>
      cnd (l1 ≤ t2)
        (gI G 6 1 l0 fun t3 =>
        X6_insert_25 G l0 l1 l2 t3)
        (X6_insert_19 G )))
    (X6_insert_19 G )
set_option maxRecDepth 100000 in
set_option maxHeartbeats 4000000 in
theorem wX6_insert {E : kdE} {G : kdS} {l0 : Nat} {l1 : Int32} {l2 : Int32} {σ : kdM} {r : Unit} {σ1 : kdM} (h : X6_insert G l0 l1 l2 σ = some (r, σ1)) : Con E G yX6_insert cX6_insert 4 none 1 [kr E l0, .int l1, .int l2] σ (none, σ1) := by
  refine kd_head (own := RX6) rfl (by decide +kernel) (Nat.le_of_ble_eq_true rfl) (fun A hX => ?_)
  show SW E G (.inl (none, σ1)) A 4 σ 0 [(0, kr E l0), (1, .int l1), (2, .int l2)] []
  unfold X6_insert at h
  refine r_aload_n hX dX6_insert_0 rfl 0 rfl ?_
  refine r_cVi (As := []) (st := []) hX dX6_insert_1 kl_X6_isFull w_ml_X6_29 w_im_X6_isFull w_se_X6_isFull ⟨_, _, rfl⟩ (by decide) rfl (Nat.le_of_ble_eq_true rfl) rfl kdz0 h (fun r σ1 h => wX6_isFull h) ?_
  clear h; intro t1 σ h
  refine r_if_ne (tgt := 19) hX dX6_insert_4 (by decide) h ?_ ?_
  · clear h; intro h
    refine r_iload_n hX dX6_insert_7 rfl 1 rfl ?_
    refine r_if_lt (tgt := 19) hX dX6_insert_8 (by decide) h ?_ ?_
    · clear h; intro h
      refine r_sub [] rfl ?_
      exact wX6_insert_19 hX h
    · clear h; intro h
      refine r_iload_n hX dX6_insert_11 rfl 1 rfl ?_
      refine r_aload_n hX dX6_insert_12 rfl 0 rfl ?_
      refine r_gI hX dX6_insert_13 kf_X6_21 rfl h ?_
      clear h; intro t2 h
      refine r_icmp_le (tgt := 20) hX dX6_insert_16 (by decide) h ?_ ?_
      · clear h; intro h
        refine r_aload_n hX dX6_insert_20 rfl 0 rfl ?_
        refine r_gI hX dX6_insert_21 kf_X6_21 rfl h ?_
        clear h; intro t3 h
        refine r_istore_n (L2 := [(3, .int t3), (0, kr E l0), (1, .int l1), (2, .int l2)]) hX dX6_insert_24 rfl (by decide) rfl ?_
        refine r_sub [1, 2, 3, 0] rfl ?_
        exact wX6_insert_25 hX _ _ _ _ _ h
      · clear h; intro h
        refine r_sub [] rfl ?_
        exact wX6_insert_19 hX h
  · clear h; intro h
    refine r_sub [] rfl ?_
    exact wX6_insert_19 hX h
def X6_add (G : kdS) (l0 : Nat) (l1 : Int32) : kdM → Option (Unit × kdM) :=
  gI G 6 1 l0 fun t1 =>
  kcv G 6 l0 (X6_insert G l0 t1 l1) fun _ =>
  rt ()
set_option maxRecDepth 100000 in
set_option maxHeartbeats 4000000 in
theorem wX6_add {E : kdE} {G : kdS} {l0 : Nat} {l1 : Int32} {σ : kdM} {r : Unit} {σ1 : kdM} (h : X6_add G l0 l1 σ = some (r, σ1)) : Con E G yX6_add cX6_add 2 none 2 [kr E l0, .int l1] σ (none, σ1) := by
  refine kd_head (own := RX6) rfl (by decide +kernel) (Nat.le_of_ble_eq_true rfl) (fun A hX => ?_)
  show SW E G (.inl (none, σ1)) A 2 σ 0 [(0, kr E l0), (1, .int l1)] []
  unfold X6_add at h
  refine r_aload_n hX dX6_add_0 rfl 0 rfl ?_
  refine r_aload_n hX dX6_add_1 rfl 0 rfl ?_
  refine r_gI hX dX6_add_2 kf_X6_21 rfl h ?_
  clear h; intro t1 h
  refine r_iload_n hX dX6_add_5 rfl 1 rfl ?_
  refine r_cVv (As := [.int t1, .int l1]) (st := []) hX dX6_add_6 kl_X6_insert w_ml_X6_25 w_im_X6_insert w_se_X6_insert ⟨_, _, rfl⟩ (by decide) rfl (Nat.le_of_ble_eq_true rfl) rfl kdz0 h (fun r σ1 h => wX6_insert h) ?_
  clear h; intro u σ h
  exact r_vret hX dX6_add_9 h
def X6_remove_54 (G : kdS) (l2 : Int32) : kdM → Option (Int32 × kdM) :=
  rt l2
set_option maxRecDepth 100000 in
set_option maxHeartbeats 4000000 in
theorem wX6_remove_54 {E : kdE} {G : kdS} {A : kdA} {r : Int32} {σ1 : kdM} (hX : kdX E A cX6_remove 4 RX6 (some .int) 1) {σ : kdM} {l2 : Int32} (h : X6_remove_54 G l2 σ = some (r, σ1)) : SW E G (.inl (some (.int r), σ1)) A 4 σ 54 [(2, .int l2)] [] := by
  unfold X6_remove_54 at h
  refine r_iload_n hX dX6_remove_54 rfl 0 rfl ?_
  exact r_iret hX dX6_remove_55 h
def X6_remove_26B (G : kdS) (k26 : Nat → Int32 → Int32 → kdM → Option (Int32 × kdM)) (l0 : Nat) (l2 : Int32) (l3 : Int32) : kdM → Option (Int32 × kdM) :=
  gI G 6 1 l0 fun t1 =>
  cnd (t1 ≤ l3)
    (X6_remove_54 G l2)
    (gR G 6 0 l0 fun t2 =>
    gR G 6 0 l0 fun t3 =>
    aI G t3 ((l3 + (1 : Int32))) fun t4 =>
    tI G t2 (l3) (t4) <|
    ltI (l3 + Int32.ofInt 1) fun t5 =>
    k26 l0 l2 t5)
set_option maxRecDepth 100000 in
set_option maxHeartbeats 4000000 in
theorem wX6_remove_26B {E : kdE} {G : kdS} {A : kdA} {r : Int32} {σ1 : kdM} (hX : kdX E A cX6_remove 4 RX6 (some .int) 1) (k26 : Nat → Int32 → Int32 → kdM → Option (Int32 × kdM)) (hk26 : ∀ (l0 : Nat) (l2 : Int32) (l3 : Int32) (σ : kdM), k26 l0 l2 l3 σ = some (r, σ1) → SW E G (.inl (some (.int r), σ1)) A 4 σ 26 [(0, kr E l0), (2, .int l2), (3, .int l3)] []) {σ : kdM} {l0 : Nat} {l2 : Int32} {l3 : Int32} (h : X6_remove_26B G k26 l0 l2 l3 σ = some (r, σ1)) : SW E G (.inl (some (.int r), σ1)) A 4 σ 26 [(0, kr E l0), (2, .int l2), (3, .int l3)] [] := by
  unfold X6_remove_26B at h
  refine r_iload_n hX dX6_remove_26 rfl 2 rfl ?_
  refine r_aload_n hX dX6_remove_27 rfl 0 rfl ?_
  refine r_gI hX dX6_remove_28 kf_X6_21 rfl h ?_
  clear h; intro t1 h
  refine r_icmp_ge (tgt := 54) hX dX6_remove_31 (by decide) h ?_ ?_
  · clear h; intro h
    refine r_sub [1] rfl ?_
    exact wX6_remove_54 hX h
  · clear h; intro h
    refine r_aload_n hX dX6_remove_34 rfl 0 rfl ?_
    refine r_gR hX dX6_remove_35 kf_X6_15 rfl h ?_
    clear h; intro t2 h
    refine r_iload_n hX dX6_remove_38 rfl 2 rfl ?_
    refine r_aload_n hX dX6_remove_39 rfl 0 rfl ?_
    refine r_gR hX dX6_remove_40 kf_X6_15 rfl h ?_
    clear h; intro t3 h
    refine r_iload_n hX dX6_remove_43 rfl 2 rfl ?_
    refine r_iconst hX dX6_remove_44 kk_i_1 ?_
    refine r_iadd hX dX6_remove_45 ?_
    refine r_aI hX dX6_remove_46 h ?_
    clear h; intro t4 h
    refine r_tI hX dX6_remove_47 h ?_
    clear h; intro σ h
    refine r_iincL (L2 := fun t5 => [(3, .int t5), (0, kr E l0), (2, .int l2)]) hX dX6_remove_48 h 2 rfl (by decide) (fun _ => rfl) ?_
    clear h; intro t5 h
    refine r_goto (tgt := 26) hX dX6_remove_51 (by decide) ?_
    refine r_sub [1, 2, 0] rfl ?_
    exact hk26 _ _ _ _ h
def X6_remove_26 (G : kdS) : Nat → Int32 → Int32 → kdM → Option (Int32 × kdM) := lp (fun _ _ _ _ => none) (X6_remove_26B G) NN
theorem wX6_remove_26 {E : kdE} {G : kdS} {A : kdA} {r : Int32} {σ1 : kdM} (hX : kdX E A cX6_remove 4 RX6 (some .int) 1) : ∀ (l0 : Nat) (l2 : Int32) (l3 : Int32) (σ : kdM), X6_remove_26 G l0 l2 l3 σ = some (r, σ1) → SW E G (.inl (some (.int r), σ1)) A 4 σ 26 [(0, kr E l0), (2, .int l2), (3, .int l3)] [] :=
  lp_ind (Q := fun f => ∀ (l0 : Nat) (l2 : Int32) (l3 : Int32) (σ : kdM), f l0 l2 l3 σ = some (r, σ1) → SW E G (.inl (some (.int r), σ1)) A 4 σ 26 [(0, kr E l0), (2, .int l2), (3, .int l3)] []) (by intros; contradiction) (fun k hk l0 l2 l3 σ h => wX6_remove_26B hX k hk h) NN
def X6_remove (G : kdS) (l0 : Nat) (l1 : Int32) : kdM → Option (Int32 × kdM) :=
  kcv G 6 l0 (X6_at G l0 l1) fun t1 =>
  kcv G 6 l0 (X6_has G l0 l1) fun t2 =>
  cnd (t2 = 0)
    (X6_remove_54 G t1)
    (gI G 6 1 l0 fun t3 =>
    sI G 6 1 l0 ((t3 - (1 : Int32))) <|
    X6_remove_26 G l0 t1 l1)
set_option maxRecDepth 100000 in
set_option maxHeartbeats 4000000 in
theorem wX6_remove {E : kdE} {G : kdS} {l0 : Nat} {l1 : Int32} {σ : kdM} {r : Int32} {σ1 : kdM} (h : X6_remove G l0 l1 σ = some (r, σ1)) : Con E G yX6_remove cX6_remove 4 (some .int) 1 [kr E l0, .int l1] σ (some (.int r), σ1) := by
  refine kd_head (own := RX6) rfl (by decide +kernel) (Nat.le_of_ble_eq_true rfl) (fun A hX => ?_)
  show SW E G (.inl (some (.int r), σ1)) A 4 σ 0 [(0, kr E l0), (1, .int l1)] []
  unfold X6_remove at h
  refine r_aload_n hX dX6_remove_0 rfl 0 rfl ?_
  refine r_iload_n hX dX6_remove_1 rfl 1 rfl ?_
  refine r_cVi (As := [.int l1]) (st := []) hX dX6_remove_2 kl_X6_at w_ml_X6_33 w_im_X6_at w_se_X6_at ⟨_, _, rfl⟩ (by decide) rfl (Nat.le_of_ble_eq_true rfl) rfl kdz0 h (fun r σ1 h => wX6_at h) ?_
  clear h; intro t1 σ h
  refine r_istore_n (L2 := [(2, .int t1), (0, kr E l0), (1, .int l1)]) hX dX6_remove_5 rfl (by decide) rfl ?_
  refine r_aload_n hX dX6_remove_6 rfl 1 rfl ?_
  refine r_iload_n hX dX6_remove_7 rfl 2 rfl ?_
  refine r_cVi (As := [.int l1]) (st := []) hX dX6_remove_8 kl_X6_has w_ml_X6_37 w_im_X6_has w_se_X6_has ⟨_, _, rfl⟩ (by decide) rfl (Nat.le_of_ble_eq_true rfl) rfl kdz0 h (fun r σ1 h => wX6_has h) ?_
  clear h; intro t2 σ h
  refine r_if_eq (tgt := 54) hX dX6_remove_11 (by decide) h ?_ ?_
  · clear h; intro h
    refine r_sub [0] rfl ?_
    exact wX6_remove_54 hX h
  · clear h; intro h
    refine r_aload_n hX dX6_remove_14 rfl 1 rfl ?_
    refine r_dup hX dX6_remove_15 rfl ?_
    refine r_gI hX dX6_remove_16 kf_X6_21 rfl h ?_
    clear h; intro t3 h
    refine r_iconst hX dX6_remove_19 kk_i_1 ?_
    refine r_isub hX dX6_remove_20 ?_
    refine r_sI hX dX6_remove_21 kf_X6_21 rfl (by intro q hq; cases hq; rfl) h ?_
    clear h; intro σ h
    refine r_iload_n hX dX6_remove_24 rfl 2 rfl ?_
    refine r_istore_n (L2 := [(3, .int l1), (2, .int t1), (0, kr E l0), (1, .int l1)]) hX dX6_remove_25 rfl (by decide) rfl ?_
    refine r_sub [2, 1, 0] rfl ?_
    exact wX6_remove_26 hX _ _ _ _ h
def X6_clear (G : kdS) (l0 : Nat) : kdM → Option (Int32 × kdM) :=
  gI G 6 1 l0 fun t1 =>
  sI G 6 1 l0 ((0 : Int32)) <|
  rt t1
set_option maxRecDepth 100000 in
set_option maxHeartbeats 4000000 in
theorem wX6_clear {E : kdE} {G : kdS} {l0 : Nat} {σ : kdM} {r : Int32} {σ1 : kdM} (h : X6_clear G l0 σ = some (r, σ1)) : Con E G yX6_clear cX6_clear 2 (some .int) 0 [kr E l0] σ (some (.int r), σ1) := by
  refine kd_head (own := RX6) rfl (by decide +kernel) (Nat.le_of_ble_eq_true rfl) (fun A hX => ?_)
  show SW E G (.inl (some (.int r), σ1)) A 2 σ 0 [(0, kr E l0)] []
  unfold X6_clear at h
  refine r_aload_n hX dX6_clear_0 rfl 0 rfl ?_
  refine r_gI hX dX6_clear_1 kf_X6_21 rfl h ?_
  clear h; intro t1 h
  refine r_istore_n (L2 := [(1, .int t1), (0, kr E l0)]) hX dX6_clear_4 rfl (by decide) rfl ?_
  refine r_aload_n hX dX6_clear_5 rfl 1 rfl ?_
  refine r_iconst hX dX6_clear_6 kk_i_0 ?_
  refine r_sI hX dX6_clear_7 kf_X6_21 rfl (by intro q hq; cases hq; rfl) h ?_
  clear h; intro σ h
  refine r_iload_n hX dX6_clear_10 rfl 0 rfl ?_
  exact r_iret hX dX6_clear_11 h
def X6_copy_7B (G : kdS) (k7 : Nat → Nat → Int32 → kdM → Option (Unit × kdM)) (l0 : Nat) (l1 : Nat) (l2 : Int32) : kdM → Option (Unit × kdM) :=
  gI G 6 1 l1 fun t1 =>
  cnd (t1 ≤ l2)
    (rt ())
    (gR G 6 0 l1 fun t2 =>
    aI G t2 (l2) fun t3 =>
    kcv G 6 l0 (X6_add G l0 t3) fun _ =>
    ltI (l2 + Int32.ofInt 1) fun t4 =>
    k7 l0 l1 t4)
set_option maxRecDepth 100000 in
set_option maxHeartbeats 4000000 in
theorem wX6_copy_7B {E : kdE} {G : kdS} {A : kdA} {r : Unit} {σ1 : kdM} (hX : kdX E A cX6_copy 3 RX6 none 3) (k7 : Nat → Nat → Int32 → kdM → Option (Unit × kdM)) (hk7 : ∀ (l0 : Nat) (l1 : Nat) (l2 : Int32) (σ : kdM), k7 l0 l1 l2 σ = some (r, σ1) → SW E G (.inl (none, σ1)) A 3 σ 7 [(0, kr E l0), (1, kr E l1), (2, .int l2)] []) {σ : kdM} {l0 : Nat} {l1 : Nat} {l2 : Int32} (h : X6_copy_7B G k7 l0 l1 l2 σ = some (r, σ1)) : SW E G (.inl (none, σ1)) A 3 σ 7 [(0, kr E l0), (1, kr E l1), (2, .int l2)] [] := by
  unfold X6_copy_7B at h
  refine r_iload_n hX dX6_copy_7 rfl 2 rfl ?_
  refine r_aload_n hX dX6_copy_8 rfl 1 rfl ?_
  refine r_gI hX dX6_copy_9 kf_X6_21 rfl h ?_
  clear h; intro t1 h
  refine r_icmp_ge (tgt := 31) hX dX6_copy_12 (by decide) h ?_ ?_
  · clear h; intro h
    exact r_vret hX dX6_copy_31 h
  · clear h; intro h
    refine r_aload_n hX dX6_copy_15 rfl 0 rfl ?_
    refine r_aload_n hX dX6_copy_16 rfl 1 rfl ?_
    refine r_gR hX dX6_copy_17 kf_X6_15 rfl h ?_
    clear h; intro t2 h
    refine r_iload_n hX dX6_copy_20 rfl 2 rfl ?_
    refine r_aI hX dX6_copy_21 h ?_
    clear h; intro t3 h
    refine r_cVv (As := [.int t3]) (st := []) hX dX6_copy_22 kl_X6_add w_ml_X6_45 w_im_X6_add w_se_X6_add ⟨_, _, rfl⟩ (by decide) rfl (Nat.le_of_ble_eq_true rfl) rfl kdz0 h (fun r σ1 h => wX6_add h) ?_
    clear h; intro u σ h
    refine r_iincL (L2 := fun t4 => [(2, .int t4), (0, kr E l0), (1, kr E l1)]) hX dX6_copy_25 h 2 rfl (by decide) (fun _ => rfl) ?_
    clear h; intro t4 h
    refine r_goto (tgt := 7) hX dX6_copy_28 (by decide) ?_
    refine r_sub [1, 2, 0] rfl ?_
    exact hk7 _ _ _ _ h
def X6_copy_7 (G : kdS) : Nat → Nat → Int32 → kdM → Option (Unit × kdM) := lp (fun _ _ _ _ => none) (X6_copy_7B G) NN
theorem wX6_copy_7 {E : kdE} {G : kdS} {A : kdA} {r : Unit} {σ1 : kdM} (hX : kdX E A cX6_copy 3 RX6 none 3) : ∀ (l0 : Nat) (l1 : Nat) (l2 : Int32) (σ : kdM), X6_copy_7 G l0 l1 l2 σ = some (r, σ1) → SW E G (.inl (none, σ1)) A 3 σ 7 [(0, kr E l0), (1, kr E l1), (2, .int l2)] [] :=
  lp_ind (Q := fun f => ∀ (l0 : Nat) (l1 : Nat) (l2 : Int32) (σ : kdM), f l0 l1 l2 σ = some (r, σ1) → SW E G (.inl (none, σ1)) A 3 σ 7 [(0, kr E l0), (1, kr E l1), (2, .int l2)] []) (by intros; contradiction) (fun k hk l0 l1 l2 σ h => wX6_copy_7B hX k hk h) NN
def X6_copy (G : kdS) (l0 : Nat) (l1 : Nat) : kdM → Option (Unit × kdM) :=
  kcv G 6 l0 (X6_clear G l0) fun t1 =>
  X6_copy_7 G l0 l1 (0 : Int32)
set_option maxRecDepth 100000 in
set_option maxHeartbeats 4000000 in
theorem wX6_copy {E : kdE} {G : kdS} {l0 : Nat} {l1 : Nat} {σ : kdM} {r : Unit} {σ1 : kdM} (h : X6_copy G l0 l1 σ = some (r, σ1)) : Con E G yX6_copy cX6_copy 3 none 3 [kr E l0, kr E l1] σ (none, σ1) := by
  refine kd_head (own := RX6) rfl (by decide +kernel) (Nat.le_of_ble_eq_true rfl) (fun A hX => ?_)
  show SW E G (.inl (none, σ1)) A 3 σ 0 [(0, kr E l0), (1, kr E l1)] []
  unfold X6_copy at h
  refine r_aload_n hX dX6_copy_0 rfl 0 rfl ?_
  refine r_cVi (As := []) (st := []) hX dX6_copy_1 kl_X6_clear w_ml_X6_41 w_im_X6_clear w_se_X6_clear ⟨_, _, rfl⟩ (by decide) rfl (Nat.le_of_ble_eq_true rfl) rfl kdz0 h (fun r σ1 h => wX6_clear h) ?_
  clear h; intro t1 σ h
  refine r_pop hX dX6_copy_4 rfl ?_
  refine r_iconst hX dX6_copy_5 kk_i_0 ?_
  refine r_istore_n (L2 := [(2, .int (0 : Int32)), (0, kr E l0), (1, kr E l1)]) hX dX6_copy_6 rfl (by decide) rfl ?_
  refine r_sub [1, 2, 0] rfl ?_
  exact wX6_copy_7 hX _ _ _ _ h
def X8_rules (G : kdS) (l0 : Nat) : kdM → Option (Int32 × kdM) :=
  gI G 8 2 l0 fun t1 =>
  rt t1
set_option maxRecDepth 100000 in
set_option maxHeartbeats 4000000 in
theorem wX8_rules {E : kdE} {G : kdS} {l0 : Nat} {σ : kdM} {r : Int32} {σ1 : kdM} (h : X8_rules G l0 σ = some (r, σ1)) : Con E G yX8_rules cX8_rules 1 (some .int) 0 [kr E l0] σ (some (.int r), σ1) := by
  refine kd_head (own := RX8) rfl (by decide +kernel) (Nat.le_of_ble_eq_true rfl) (fun A hX => ?_)
  show SW E G (.inl (some (.int r), σ1)) A 1 σ 0 [(0, kr E l0)] []
  unfold X8_rules at h
  refine r_aload_n hX dX8_rules_0 rfl 0 rfl ?_
  refine r_gI hX dX8_rules_1 kf_X8_40 rfl h ?_
  clear h; intro t1 h
  exact r_iret hX dX8_rules_4 h
def X8_joins (G : kdS) (l0 : Nat) : kdM → Option (Int32 × kdM) :=
  gR G 8 5 l0 fun t1 =>
  kcv G 6 t1 (X6_size G t1) fun t2 =>
  rt t2
set_option maxRecDepth 100000 in
set_option maxHeartbeats 4000000 in
theorem wX8_joins {E : kdE} {G : kdS} {l0 : Nat} {σ : kdM} {r : Int32} {σ1 : kdM} (h : X8_joins G l0 σ = some (r, σ1)) : Con E G yX8_joins cX8_joins 1 (some .int) 1 [kr E l0] σ (some (.int r), σ1) := by
  refine kd_head (own := RX8) rfl (by decide +kernel) (Nat.le_of_ble_eq_true rfl) (fun A hX => ?_)
  show SW E G (.inl (some (.int r), σ1)) A 1 σ 0 [(0, kr E l0)] []
  unfold X8_joins at h
  refine r_aload_n hX dX8_joins_0 rfl 0 rfl ?_
  refine r_gR hX dX8_joins_1 kf_X8_30 rfl h ?_
  clear h; intro t1 h
  refine r_cVi (As := []) (st := []) hX dX8_joins_4 kl_X6_size w_ml_X8_44 w_im_X6_size w_se_X6_size ⟨_, _, rfl⟩ (by decide) rfl (Nat.le_of_ble_eq_true rfl) rfl kdz0 h (fun r σ1 h => wX6_size h) ?_
  clear h; intro t2 σ h
  exact r_iret hX dX8_joins_7 h
def X4_strokes (G : kdS) (l0 : Nat) : kdM → Option (Nat × kdM) :=
  gR G 4 0 l0 fun t1 =>
  rt t1
set_option maxRecDepth 100000 in
set_option maxHeartbeats 4000000 in
theorem wX4_strokes {E : kdE} {G : kdS} {l0 : Nat} {σ : kdM} {r : Nat} {σ1 : kdM} (h : X4_strokes G l0 σ = some (r, σ1)) : Con E G yX4_strokes cX4_strokes 1 (some (.object "KeyDesk$Row")) 0 [kr E l0] σ (some (kr E r), σ1) := by
  refine kd_head (own := RX4) rfl (by decide +kernel) (Nat.le_of_ble_eq_true rfl) (fun A hX => ?_)
  show SW E G (.inl (some (kr E r), σ1)) A 1 σ 0 [(0, kr E l0)] []
  unfold X4_strokes at h
  refine r_aload_n hX dX4_strokes_0 rfl 0 rfl ?_
  refine r_gR hX dX4_strokes_1 kf_X4_14 rfl h ?_
  clear h; intro t1 h
  exact r_aret hX dX4_strokes_4 h
def X4_tongue (G : kdS) (l0 : Nat) : kdM → Option (Int32 × kdM) :=
  gI G 4 4 l0 fun t1 =>
  rt t1
set_option maxRecDepth 100000 in
set_option maxHeartbeats 4000000 in
theorem wX4_tongue {E : kdE} {G : kdS} {l0 : Nat} {σ : kdM} {r : Int32} {σ1 : kdM} (h : X4_tongue G l0 σ = some (r, σ1)) : Con E G yX4_tongue cX4_tongue 1 (some .int) 0 [kr E l0] σ (some (.int r), σ1) := by
  refine kd_head (own := RX4) rfl (by decide +kernel) (Nat.le_of_ble_eq_true rfl) (fun A hX => ?_)
  show SW E G (.inl (some (.int r), σ1)) A 1 σ 0 [(0, kr E l0)] []
  unfold X4_tongue at h
  refine r_aload_n hX dX4_tongue_0 rfl 0 rfl ?_
  refine r_gI hX dX4_tongue_1 kf_X4_29 rfl h ?_
  clear h; intro t1 h
  exact r_iret hX dX4_tongue_4 h
def X10_size (G : kdS) (l0 : Nat) : kdM → Option (Int32 × kdM) :=
  gR G 10 0 l0 fun t1 =>
  kcv G 6 t1 (X6_size G t1) fun t2 =>
  rt t2
set_option maxRecDepth 100000 in
set_option maxHeartbeats 4000000 in
theorem wX10_size {E : kdE} {G : kdS} {l0 : Nat} {σ : kdM} {r : Int32} {σ1 : kdM} (h : X10_size G l0 σ = some (r, σ1)) : Con E G yX10_size cX10_size 1 (some .int) 1 [kr E l0] σ (some (.int r), σ1) := by
  refine kd_head (own := RX10) rfl (by decide +kernel) (Nat.le_of_ble_eq_true rfl) (fun A hX => ?_)
  show SW E G (.inl (some (.int r), σ1)) A 1 σ 0 [(0, kr E l0)] []
  unfold X10_size at h
  refine r_aload_n hX dX10_size_0 rfl 0 rfl ?_
  refine r_gR hX dX10_size_1 kf_X10_14 rfl h ?_
  clear h; intro t1 h
  refine r_cVi (As := []) (st := []) hX dX10_size_4 kl_X6_size w_ml_X10_30 w_im_X6_size w_se_X6_size ⟨_, _, rfl⟩ (by decide) rfl (Nat.le_of_ble_eq_true rfl) rfl kdz0 h (fun r σ1 h => wX6_size h) ?_
  clear h; intro t2 σ h
  exact r_iret hX dX10_size_7 h
def X10_isFull (G : kdS) (l0 : Nat) : kdM → Option (Int32 × kdM) :=
  gR G 10 0 l0 fun t1 =>
  kcv G 6 t1 (X6_isFull G t1) fun t2 =>
  rt (vp_nar .boolean t2)
set_option maxRecDepth 100000 in
set_option maxHeartbeats 4000000 in
theorem wX10_isFull {E : kdE} {G : kdS} {l0 : Nat} {σ : kdM} {r : Int32} {σ1 : kdM} (h : X10_isFull G l0 σ = some (r, σ1)) : Con E G yX10_isFull cX10_isFull 1 (some .boolean) 1 [kr E l0] σ (some (.int r), σ1) := by
  refine kd_head (own := RX10) rfl (by decide +kernel) (Nat.le_of_ble_eq_true rfl) (fun A hX => ?_)
  show SW E G (.inl (some (.int r), σ1)) A 1 σ 0 [(0, kr E l0)] []
  unfold X10_isFull at h
  refine r_aload_n hX dX10_isFull_0 rfl 0 rfl ?_
  refine r_gR hX dX10_isFull_1 kf_X10_14 rfl h ?_
  clear h; intro t1 h
  refine r_cVi (As := []) (st := []) hX dX10_isFull_4 kl_X6_isFull w_ml_X10_34 w_im_X6_isFull w_se_X6_isFull ⟨_, _, rfl⟩ (by decide) rfl (Nat.le_of_ble_eq_true rfl) rfl kdz0 h (fun r σ1 h => wX6_isFull h) ?_
  clear h; intro t2 σ h
  exact r_zret hX dX10_isFull_7 h
def X10_has (G : kdS) (l0 : Nat) (l1 : Int32) : kdM → Option (Int32 × kdM) :=
  gR G 10 0 l0 fun t1 =>
  kcv G 6 t1 (X6_has G t1 l1) fun t2 =>
  rt (vp_nar .boolean t2)
set_option maxRecDepth 100000 in
set_option maxHeartbeats 4000000 in
theorem wX10_has {E : kdE} {G : kdS} {l0 : Nat} {l1 : Int32} {σ : kdM} {r : Int32} {σ1 : kdM} (h : X10_has G l0 l1 σ = some (r, σ1)) : Con E G yX10_has cX10_has 2 (some .boolean) 1 [kr E l0, .int l1] σ (some (.int r), σ1) := by
  refine kd_head (own := RX10) rfl (by decide +kernel) (Nat.le_of_ble_eq_true rfl) (fun A hX => ?_)
  show SW E G (.inl (some (.int r), σ1)) A 2 σ 0 [(0, kr E l0), (1, .int l1)] []
  unfold X10_has at h
  refine r_aload_n hX dX10_has_0 rfl 0 rfl ?_
  refine r_gR hX dX10_has_1 kf_X10_14 rfl h ?_
  clear h; intro t1 h
  refine r_iload_n hX dX10_has_4 rfl 1 rfl ?_
  refine r_cVi (As := [.int l1]) (st := []) hX dX10_has_5 kl_X6_has w_ml_X10_38 w_im_X6_has w_se_X6_has ⟨_, _, rfl⟩ (by decide) rfl (Nat.le_of_ble_eq_true rfl) rfl kdz0 h (fun r σ1 h => wX6_has h) ?_
  clear h; intro t2 σ h
  exact r_zret hX dX10_has_8 h
def X10_tongueOf (G : kdS) (l0 : Nat) (l1 : Int32) : kdM → Option (Int32 × kdM) :=
  gR G 10 0 l0 fun t1 =>
  kcv G 6 t1 (X6_at G t1 l1) fun t2 =>
  rt t2
set_option maxRecDepth 100000 in
set_option maxHeartbeats 4000000 in
theorem wX10_tongueOf {E : kdE} {G : kdS} {l0 : Nat} {l1 : Int32} {σ : kdM} {r : Int32} {σ1 : kdM} (h : X10_tongueOf G l0 l1 σ = some (r, σ1)) : Con E G yX10_tongueOf cX10_tongueOf 2 (some .int) 1 [kr E l0, .int l1] σ (some (.int r), σ1) := by
  refine kd_head (own := RX10) rfl (by decide +kernel) (Nat.le_of_ble_eq_true rfl) (fun A hX => ?_)
  show SW E G (.inl (some (.int r), σ1)) A 2 σ 0 [(0, kr E l0), (1, .int l1)] []
  unfold X10_tongueOf at h
  refine r_aload_n hX dX10_tongueOf_0 rfl 0 rfl ?_
  refine r_gR hX dX10_tongueOf_1 kf_X10_14 rfl h ?_
  clear h; intro t1 h
  refine r_iload_n hX dX10_tongueOf_4 rfl 1 rfl ?_
  refine r_cVi (As := [.int l1]) (st := []) hX dX10_tongueOf_5 kl_X6_at w_ml_X10_42 w_im_X6_at w_se_X6_at ⟨_, _, rfl⟩ (by decide) rfl (Nat.le_of_ble_eq_true rfl) rfl kdz0 h (fun r σ1 h => wX6_at h) ?_
  clear h; intro t2 σ h
  exact r_iret hX dX10_tongueOf_8 h
def X10_signOf (G : kdS) (l0 : Nat) (l1 : Int32) : kdM → Option (Int32 × kdM) :=
  gR G 10 1 l0 fun t1 =>
  kcv G 6 t1 (X6_at G t1 l1) fun t2 =>
  rt t2
set_option maxRecDepth 100000 in
set_option maxHeartbeats 4000000 in
theorem wX10_signOf {E : kdE} {G : kdS} {l0 : Nat} {l1 : Int32} {σ : kdM} {r : Int32} {σ1 : kdM} (h : X10_signOf G l0 l1 σ = some (r, σ1)) : Con E G yX10_signOf cX10_signOf 2 (some .int) 1 [kr E l0, .int l1] σ (some (.int r), σ1) := by
  refine kd_head (own := RX10) rfl (by decide +kernel) (Nat.le_of_ble_eq_true rfl) (fun A hX => ?_)
  show SW E G (.inl (some (.int r), σ1)) A 2 σ 0 [(0, kr E l0), (1, .int l1)] []
  unfold X10_signOf at h
  refine r_aload_n hX dX10_signOf_0 rfl 0 rfl ?_
  refine r_gR hX dX10_signOf_1 kf_X10_20 rfl h ?_
  clear h; intro t1 h
  refine r_iload_n hX dX10_signOf_4 rfl 1 rfl ?_
  refine r_cVi (As := [.int l1]) (st := []) hX dX10_signOf_5 kl_X6_at w_ml_X10_42 w_im_X6_at w_se_X6_at ⟨_, _, rfl⟩ (by decide) rfl (Nat.le_of_ble_eq_true rfl) rfl kdz0 h (fun r σ1 h => wX6_at h) ?_
  clear h; intro t2 σ h
  exact r_iret hX dX10_signOf_8 h
def X10_countOf (G : kdS) (l0 : Nat) (l1 : Int32) : kdM → Option (Int32 × kdM) :=
  gR G 10 2 l0 fun t1 =>
  kcv G 6 t1 (X6_at G t1 l1) fun t2 =>
  rt t2
set_option maxRecDepth 100000 in
set_option maxHeartbeats 4000000 in
theorem wX10_countOf {E : kdE} {G : kdS} {l0 : Nat} {l1 : Int32} {σ : kdM} {r : Int32} {σ1 : kdM} (h : X10_countOf G l0 l1 σ = some (r, σ1)) : Con E G yX10_countOf cX10_countOf 2 (some .int) 1 [kr E l0, .int l1] σ (some (.int r), σ1) := by
  refine kd_head (own := RX10) rfl (by decide +kernel) (Nat.le_of_ble_eq_true rfl) (fun A hX => ?_)
  show SW E G (.inl (some (.int r), σ1)) A 2 σ 0 [(0, kr E l0), (1, .int l1)] []
  unfold X10_countOf at h
  refine r_aload_n hX dX10_countOf_0 rfl 0 rfl ?_
  refine r_gR hX dX10_countOf_1 kf_X10_23 rfl h ?_
  clear h; intro t1 h
  refine r_iload_n hX dX10_countOf_4 rfl 1 rfl ?_
  refine r_cVi (As := [.int l1]) (st := []) hX dX10_countOf_5 kl_X6_at w_ml_X10_42 w_im_X6_at w_se_X6_at ⟨_, _, rfl⟩ (by decide) rfl (Nat.le_of_ble_eq_true rfl) rfl kdz0 h (fun r σ1 h => wX6_at h) ?_
  clear h; intro t2 σ h
  exact r_iret hX dX10_countOf_8 h
def X10_keysOf (G : kdS) (l0 : Nat) (l1 : Int32) : kdM → Option (Nat × kdM) :=
  gR G 10 3 l0 fun t1 =>
  aR G 16 t1 (l1) fun t2 =>
  rt t2
set_option maxRecDepth 100000 in
set_option maxHeartbeats 4000000 in
theorem wX10_keysOf {E : kdE} {G : kdS} {l0 : Nat} {l1 : Int32} {σ : kdM} {r : Nat} {σ1 : kdM} (h : X10_keysOf G l0 l1 σ = some (r, σ1)) : Con E G yX10_keysOf cX10_keysOf 2 (some (.object "KeyDesk$Row")) 0 [kr E l0, .int l1] σ (some (kr E r), σ1) := by
  refine kd_head (own := RX10) rfl (by decide +kernel) (Nat.le_of_ble_eq_true rfl) (fun A hX => ?_)
  show SW E G (.inl (some (kr E r), σ1)) A 2 σ 0 [(0, kr E l0), (1, .int l1)] []
  unfold X10_keysOf at h
  refine r_aload_n hX dX10_keysOf_0 rfl 0 rfl ?_
  refine r_gR hX dX10_keysOf_1 kf_X10_26 rfl h ?_
  clear h; intro t1 h
  refine r_iload_n hX dX10_keysOf_4 rfl 1 rfl ?_
  refine r_aR16 hX dX10_keysOf_5 h ?_
  clear h; intro t2 h
  exact r_aret hX dX10_keysOf_6 h
def X10_addWord (G : kdS) (l0 : Nat) (l1 : Int32) (l2 : Int32) (l3 : Int32) (l4 : Nat) : kdM → Option (Int32 × kdM) :=
  kcv G 10 l0 (X10_isFull G l0) fun t1 =>
  cnd (t1 = 0)
    (gR G 10 3 l0 fun t2 =>
    kcv G 10 l0 (X10_size G l0) fun t3 =>
    aR G 16 t2 (t3) fun t4 =>
    kcv G 6 t4 (X6_copy G t4 l4) fun _ =>
    gR G 10 0 l0 fun t5 =>
    kcv G 6 t5 (X6_add G t5 l1) fun _ =>
    gR G 10 1 l0 fun t6 =>
    kcv G 6 t6 (X6_add G t6 l2) fun _ =>
    gR G 10 2 l0 fun t7 =>
    kcv G 6 t7 (X6_add G t7 l3) fun _ =>
    kcv G 10 l0 (X10_size G l0) fun t8 =>
    rt (t8 - (1 : Int32)))
    (rt (-4 : Int32))
set_option maxRecDepth 100000 in
set_option maxHeartbeats 4000000 in
theorem wX10_addWord {E : kdE} {G : kdS} {l0 : Nat} {l1 : Int32} {l2 : Int32} {l3 : Int32} {l4 : Nat} {σ : kdM} {r : Int32} {σ1 : kdM} (h : X10_addWord G l0 l1 l2 l3 l4 σ = some (r, σ1)) : Con E G yX10_addWord cX10_addWord 5 (some .int) 4 [kr E l0, .int l1, .int l2, .int l3, kr E l4] σ (some (.int r), σ1) := by
  refine kd_head (own := RX10) rfl (by decide +kernel) (Nat.le_of_ble_eq_true rfl) (fun A hX => ?_)
  show SW E G (.inl (some (.int r), σ1)) A 5 σ 0 [(0, kr E l0), (1, .int l1), (2, .int l2), (3, .int l3), (4, kr E l4)] []
  unfold X10_addWord at h
  refine r_aload_n hX dX10_addWord_0 rfl 0 rfl ?_
  refine r_cVi (As := []) (st := []) hX dX10_addWord_1 kl_X10_isFull w_ml_X10_50 w_im_X10_isFull w_se_X10_isFull ⟨_, _, rfl⟩ (by decide) rfl (Nat.le_of_ble_eq_true rfl) rfl kdz0 h (fun r σ1 h => wX10_isFull h) ?_
  clear h; intro t1 σ h
  refine r_if_eq (tgt := 10) hX dX10_addWord_4 (by decide) h ?_ ?_
  · clear h; intro h
    refine r_aload_n hX dX10_addWord_10 rfl 0 rfl ?_
    refine r_gR hX dX10_addWord_11 kf_X10_26 rfl h ?_
    clear h; intro t2 h
    refine r_aload_n hX dX10_addWord_14 rfl 0 rfl ?_
    refine r_cVi (As := []) (st := [kr E t2]) hX dX10_addWord_15 kl_X10_size w_ml_X10_51 w_im_X10_size w_se_X10_size ⟨_, _, rfl⟩ (by decide) rfl (Nat.le_of_ble_eq_true rfl) rfl kdz0 h (fun r σ1 h => wX10_size h) ?_
    clear h; intro t3 σ h
    refine r_aR16 hX dX10_addWord_18 h ?_
    clear h; intro t4 h
    refine r_aload hX dX10_addWord_19 4 rfl ?_
    refine r_cVv (As := [kr E l4]) (st := []) hX dX10_addWord_21 kl_X6_copy w_ml_X10_52 w_im_X6_copy w_se_X6_copy ⟨_, _, rfl⟩ (by decide) rfl (Nat.le_of_ble_eq_true rfl) rfl kdz0 h (fun r σ1 h => wX6_copy h) ?_
    clear h; intro u σ h
    refine r_aload_n hX dX10_addWord_24 rfl 0 rfl ?_
    refine r_gR hX dX10_addWord_25 kf_X10_14 rfl h ?_
    clear h; intro t5 h
    refine r_iload_n hX dX10_addWord_28 rfl 1 rfl ?_
    refine r_cVv (As := [.int l1]) (st := []) hX dX10_addWord_29 kl_X6_add w_ml_X10_56 w_im_X6_add w_se_X6_add ⟨_, _, rfl⟩ (by decide) rfl (Nat.le_of_ble_eq_true rfl) rfl kdz0 h (fun r σ1 h => wX6_add h) ?_
    clear h; intro u σ h
    refine r_aload_n hX dX10_addWord_32 rfl 0 rfl ?_
    refine r_gR hX dX10_addWord_33 kf_X10_20 rfl h ?_
    clear h; intro t6 h
    refine r_iload_n hX dX10_addWord_36 rfl 2 rfl ?_
    refine r_cVv (As := [.int l2]) (st := []) hX dX10_addWord_37 kl_X6_add w_ml_X10_56 w_im_X6_add w_se_X6_add ⟨_, _, rfl⟩ (by decide) rfl (Nat.le_of_ble_eq_true rfl) rfl kdz0 h (fun r σ1 h => wX6_add h) ?_
    clear h; intro u σ h
    refine r_aload_n hX dX10_addWord_40 rfl 0 rfl ?_
    refine r_gR hX dX10_addWord_41 kf_X10_23 rfl h ?_
    clear h; intro t7 h
    refine r_iload_n hX dX10_addWord_44 rfl 3 rfl ?_
    refine r_cVv (As := [.int l3]) (st := []) hX dX10_addWord_45 kl_X6_add w_ml_X10_56 w_im_X6_add w_se_X6_add ⟨_, _, rfl⟩ (by decide) rfl (Nat.le_of_ble_eq_true rfl) rfl kdz0 h (fun r σ1 h => wX6_add h) ?_
    clear h; intro u σ h
    refine r_aload_n hX dX10_addWord_48 rfl 0 rfl ?_
    refine r_cVi (As := []) (st := []) hX dX10_addWord_49 kl_X10_size w_ml_X10_51 w_im_X10_size w_se_X10_size ⟨_, _, rfl⟩ (by decide) rfl (Nat.le_of_ble_eq_true rfl) rfl kdz0 h (fun r σ1 h => wX10_size h) ?_
    clear h; intro t8 σ h
    refine r_iconst hX dX10_addWord_52 kk_i_1 ?_
    refine r_isub hX dX10_addWord_53 ?_
    exact r_iret hX dX10_addWord_54 h
  · clear h; intro h
    refine r_bipush hX dX10_addWord_7 kk_b_m4 ?_
    exact r_iret hX dX10_addWord_9 h
def X7_leastFor (G : kdS) (l0 : Nat) (l1 : Int32) (l2 : Nat) : kdM → Option (Int32 × kdM) :=
  gR G 7 1 l0 fun t1 =>
  aR G 18 t1 (l1) fun t2 =>
  kcv G 6 l2 (X6_size G l2) fun t3 =>
  aI G t2 (t3) fun t4 =>
  rt t4
set_option maxRecDepth 100000 in
set_option maxHeartbeats 4000000 in
theorem wX7_leastFor {E : kdE} {G : kdS} {l0 : Nat} {l1 : Int32} {l2 : Nat} {σ : kdM} {r : Int32} {σ1 : kdM} (h : X7_leastFor G l0 l1 l2 σ = some (r, σ1)) : Con E G yX7_leastFor cX7_leastFor 3 (some .int) 1 [kr E l0, .int l1, kr E l2] σ (some (.int r), σ1) := by
  refine kd_head (own := RX7) rfl (by decide +kernel) (Nat.le_of_ble_eq_true rfl) (fun A hX => ?_)
  show SW E G (.inl (some (.int r), σ1)) A 3 σ 0 [(0, kr E l0), (1, .int l1), (2, kr E l2)] []
  unfold X7_leastFor at h
  refine r_aload_n hX dX7_leastFor_0 rfl 0 rfl ?_
  refine r_gR hX dX7_leastFor_1 kf_X7_17 rfl h ?_
  clear h; intro t1 h
  refine r_iload_n hX dX7_leastFor_4 rfl 1 rfl ?_
  refine r_aR18 hX dX7_leastFor_5 h ?_
  clear h; intro t2 h
  refine r_aload_n hX dX7_leastFor_6 rfl 2 rfl ?_
  refine r_cVi (As := []) (st := [kr E t2]) hX dX7_leastFor_7 kl_X6_size w_ml_X7_20 w_im_X6_size w_se_X6_size ⟨_, _, rfl⟩ (by decide) rfl (Nat.le_of_ble_eq_true rfl) rfl kdz0 h (fun r σ1 h => wX6_size h) ?_
  clear h; intro t3 σ h
  refine r_aI hX dX7_leastFor_10 h ?_
  clear h; intro t4 h
  exact r_iret hX dX7_leastFor_11 h
def X7_priceOfOne_50 (G : kdS) (s0 : Nat) (s1 : Int32) : kdM → Option (Int32 × kdM) :=
  aI G s0 (s1) fun t1 =>
  rt t1
set_option maxRecDepth 100000 in
set_option maxHeartbeats 4000000 in
theorem wX7_priceOfOne_50 {E : kdE} {G : kdS} {A : kdA} {r : Int32} {σ1 : kdM} (hX : kdX E A cX7_priceOfOne 5 RX7 (some .int) 1) {σ : kdM} {s0 : Nat} {s1 : Int32} (h : X7_priceOfOne_50 G s0 s1 σ = some (r, σ1)) : SW E G (.inl (some (.int r), σ1)) A 5 σ 50 [] [.int s1, kr E s0] := by
  unfold X7_priceOfOne_50 at h
  refine r_aI hX dX7_priceOfOne_50 h ?_
  clear h; intro t1 h
  exact r_iret hX dX7_priceOfOne_51 h
def X7_priceOfOne_49 (G : kdS) (s0 : Nat) : kdM → Option (Int32 × kdM) :=
  X7_priceOfOne_50 G s0 (4 : Int32)
set_option maxRecDepth 100000 in
set_option maxHeartbeats 4000000 in
theorem wX7_priceOfOne_49 {E : kdE} {G : kdS} {A : kdA} {r : Int32} {σ1 : kdM} (hX : kdX E A cX7_priceOfOne 5 RX7 (some .int) 1) {σ : kdM} {s0 : Nat} (h : X7_priceOfOne_49 G s0 σ = some (r, σ1)) : SW E G (.inl (some (.int r), σ1)) A 5 σ 49 [] [kr E s0] := by
  unfold X7_priceOfOne_49 at h
  refine r_iconst hX dX7_priceOfOne_49 kk_i_4 ?_
  refine r_sub [] rfl ?_
  exact wX7_priceOfOne_50 hX h
def X7_priceOfOne (G : kdS) (l0 : Nat) (l1 : Int32) (l2 : Int32) : kdM → Option (Int32 × kdM) :=
  cnd (l1 = l2)
    (rt (0 : Int32))
    (nz (4 : Int32) <|
    nz (4 : Int32) <|
    ltI ((kabs ((l1 / (4 : Int32)) - (l2 / (4 : Int32))))) fun t1 =>
    nz (4 : Int32) <|
    nz (4 : Int32) <|
    ltI ((kabs ((krem l1 (4 : Int32)) - (krem l2 (4 : Int32))))) fun t2 =>
    gR G 7 0 l0 fun t3 =>
    cnd ((1 : Int32) < t1)
      (X7_priceOfOne_49 G t3)
      (cnd ((1 : Int32) < t2)
        (X7_priceOfOne_49 G t3)
        (X7_priceOfOne_50 G t3 (0 : Int32))))
set_option maxRecDepth 100000 in
set_option maxHeartbeats 4000000 in
theorem wX7_priceOfOne {E : kdE} {G : kdS} {l0 : Nat} {l1 : Int32} {l2 : Int32} {σ : kdM} {r : Int32} {σ1 : kdM} (h : X7_priceOfOne G l0 l1 l2 σ = some (r, σ1)) : Con E G yX7_priceOfOne cX7_priceOfOne 5 (some .int) 1 [kr E l0, .int l1, .int l2] σ (some (.int r), σ1) := by
  refine kd_head (own := RX7) rfl (by decide +kernel) (Nat.le_of_ble_eq_true rfl) (fun A hX => ?_)
  show SW E G (.inl (some (.int r), σ1)) A 5 σ 0 [(0, kr E l0), (1, .int l1), (2, .int l2)] []
  unfold X7_priceOfOne at h
  refine r_iload_n hX dX7_priceOfOne_0 rfl 1 rfl ?_
  refine r_iload_n hX dX7_priceOfOne_1 rfl 2 rfl ?_
  refine r_icmp_ne (tgt := 7) hX dX7_priceOfOne_2 (by decide) h ?_ ?_
  · clear h; intro h
    refine r_iconst hX dX7_priceOfOne_5 kk_i_0 ?_
    exact r_iret hX dX7_priceOfOne_6 h
  · clear h; intro h
    refine r_iload_n hX dX7_priceOfOne_7 rfl 1 rfl ?_
    refine r_iconst hX dX7_priceOfOne_8 kk_i_4 ?_
    refine r_idiv hX dX7_priceOfOne_9 h ?_
    clear h; intro h
    refine r_iload_n hX dX7_priceOfOne_10 rfl 2 rfl ?_
    refine r_iconst hX dX7_priceOfOne_11 kk_i_4 ?_
    refine r_idiv hX dX7_priceOfOne_12 h ?_
    clear h; intro h
    refine r_isub hX dX7_priceOfOne_13 ?_
    refine r_mabs hX dX7_priceOfOne_14 w_ml_X7_51 w_st_Math_abs w_in_Math w_cd_Math_abs (by decide) (Nat.le_of_ble_eq_true rfl) kdz0 ?_
    refine r_letI h ?_
    clear h; intro t1 h
    refine r_istore_n (L2 := [(3, .int t1), (0, kr E l0), (1, .int l1), (2, .int l2)]) hX dX7_priceOfOne_17 rfl (by decide) rfl ?_
    refine r_iload_n hX dX7_priceOfOne_18 rfl 2 rfl ?_
    refine r_iconst hX dX7_priceOfOne_19 kk_i_4 ?_
    refine r_irem hX dX7_priceOfOne_20 h ?_
    clear h; intro h
    refine r_iload_n hX dX7_priceOfOne_21 rfl 3 rfl ?_
    refine r_iconst hX dX7_priceOfOne_22 kk_i_4 ?_
    refine r_irem hX dX7_priceOfOne_23 h ?_
    clear h; intro h
    refine r_isub hX dX7_priceOfOne_24 ?_
    refine r_mabs hX dX7_priceOfOne_25 w_ml_X7_51 w_st_Math_abs w_in_Math w_cd_Math_abs (by decide) (Nat.le_of_ble_eq_true rfl) kdz0 ?_
    refine r_letI h ?_
    clear h; intro t2 h
    refine r_istore (L2 := [(4, .int t2), (3, .int t1), (0, kr E l0), (1, .int l1), (2, .int l2)]) hX dX7_priceOfOne_28 (by decide) rfl ?_
    refine r_aload_n hX dX7_priceOfOne_30 rfl 2 rfl ?_
    refine r_gR hX dX7_priceOfOne_31 kf_X7_9 rfl h ?_
    clear h; intro t3 h
    refine r_iload_n hX dX7_priceOfOne_34 rfl 1 rfl ?_
    refine r_iconst hX dX7_priceOfOne_35 kk_i_1 ?_
    refine r_icmp_gt (tgt := 49) hX dX7_priceOfOne_36 (by decide) h ?_ ?_
    · clear h; intro h
      refine r_sub [] rfl ?_
      exact wX7_priceOfOne_49 hX h
    · clear h; intro h
      refine r_iload hX dX7_priceOfOne_39 0 rfl ?_
      refine r_iconst hX dX7_priceOfOne_41 kk_i_1 ?_
      refine r_icmp_gt (tgt := 49) hX dX7_priceOfOne_42 (by decide) h ?_ ?_
      · clear h; intro h
        refine r_sub [] rfl ?_
        exact wX7_priceOfOne_49 hX h
      · clear h; intro h
        refine r_iconst hX dX7_priceOfOne_45 kk_i_0 ?_
        refine r_goto (tgt := 50) hX dX7_priceOfOne_46 (by decide) ?_
        refine r_sub [] rfl ?_
        exact wX7_priceOfOne_50 hX h
def X7_leastSum_215 (G : kdS) (l8 : Int32) : kdM → Option (Int32 × kdM) :=
  rt l8
set_option maxRecDepth 100000 in
set_option maxHeartbeats 4000000 in
theorem wX7_leastSum_215 {E : kdE} {G : kdS} {A : kdA} {r : Int32} {σ1 : kdM} (hX : kdX E A cX7_leastSum 9 RX7 (some .int) 2) {σ : kdM} {l8 : Int32} (h : X7_leastSum_215 G l8 σ = some (r, σ1)) : SW E G (.inl (some (.int r), σ1)) A 9 σ 215 [(8, .int l8)] [] := by
  unfold X7_leastSum_215 at h
  refine r_iload hX dX7_leastSum_215 0 rfl ?_
  exact r_iret hX dX7_leastSum_217 h
def X7_leastSum_142 (G : kdS) (l0 : Nat) (l3 : Int32) (l4 : Nat) (l5 : Int32) (l6 : Int32) (l7 : Int32) (l8 : Int32) : kdM → Option (Int32 × kdM) :=
  cnd (l3 ≤ (1 : Int32))
    (X7_leastSum_215 G l8)
    (cnd (l5 ≤ (1 : Int32))
      (X7_leastSum_215 G l8)
      (cnd (l6 = l7)
        (X7_leastSum_215 G l8)
        (kcv G 6 l4 (X6_at G l4 (l5 - (2 : Int32))) fun t1 =>
        cnd (l6 = t1)
          (kcv G 6 l4 (X6_at G l4 (l5 - (1 : Int32))) fun t2 =>
          cnd (l7 = t2)
            (gR G 7 1 l0 fun t3 =>
            aR G 18 t3 ((l3 - (2 : Int32))) fun t4 =>
            aI G t4 ((l5 - (2 : Int32))) fun t5 =>
            gR G 7 0 l0 fun t6 =>
            aI G t6 ((3 : Int32)) fun t7 =>
            ltI ((kmin l8 (t5 + t7))) fun t8 =>
            X7_leastSum_215 G t8)
            (X7_leastSum_215 G l8))
          (X7_leastSum_215 G l8))))
set_option maxRecDepth 100000 in
set_option maxHeartbeats 4000000 in
theorem wX7_leastSum_142 {E : kdE} {G : kdS} {A : kdA} {r : Int32} {σ1 : kdM} (hX : kdX E A cX7_leastSum 9 RX7 (some .int) 2) {σ : kdM} {l0 : Nat} {l3 : Int32} {l4 : Nat} {l5 : Int32} {l6 : Int32} {l7 : Int32} {l8 : Int32} (h : X7_leastSum_142 G l0 l3 l4 l5 l6 l7 l8 σ = some (r, σ1)) : SW E G (.inl (some (.int r), σ1)) A 9 σ 142 [(0, kr E l0), (3, .int l3), (4, kr E l4), (5, .int l5), (6, .int l6), (7, .int l7), (8, .int l8)] [] := by
  unfold X7_leastSum_142 at h
  refine r_iload_n hX dX7_leastSum_142 rfl 1 rfl ?_
  refine r_iconst hX dX7_leastSum_143 kk_i_1 ?_
  refine r_icmp_le (tgt := 215) hX dX7_leastSum_144 (by decide) h ?_ ?_
  · clear h; intro h
    refine r_sub [6] rfl ?_
    exact wX7_leastSum_215 hX h
  · clear h; intro h
    refine r_iload hX dX7_leastSum_147 3 rfl ?_
    refine r_iconst hX dX7_leastSum_149 kk_i_1 ?_
    refine r_icmp_le (tgt := 215) hX dX7_leastSum_150 (by decide) h ?_ ?_
    · clear h; intro h
      refine r_sub [6] rfl ?_
      exact wX7_leastSum_215 hX h
    · clear h; intro h
      refine r_iload hX dX7_leastSum_153 4 rfl ?_
      refine r_iload hX dX7_leastSum_155 5 rfl ?_
      refine r_icmp_eq (tgt := 215) hX dX7_leastSum_157 (by decide) h ?_ ?_
      · clear h; intro h
        refine r_sub [6] rfl ?_
        exact wX7_leastSum_215 hX h
      · clear h; intro h
        refine r_iload hX dX7_leastSum_160 4 rfl ?_
        refine r_aload hX dX7_leastSum_162 2 rfl ?_
        refine r_iload hX dX7_leastSum_164 3 rfl ?_
        refine r_iconst hX dX7_leastSum_166 kk_i_2 ?_
        refine r_isub hX dX7_leastSum_167 ?_
        refine r_cVi (As := [.int (l5 - (2 : Int32))]) (st := [.int l6]) hX dX7_leastSum_168 kl_X6_at w_ml_X7_38 w_im_X6_at w_se_X6_at ⟨_, _, rfl⟩ (by decide) rfl (Nat.le_of_ble_eq_true rfl) rfl kdz0 h (fun r σ1 h => wX6_at h) ?_
        clear h; intro t1 σ h
        refine r_icmp_ne (tgt := 215) hX dX7_leastSum_171 (by decide) h ?_ ?_
        · clear h; intro h
          refine r_iload hX dX7_leastSum_174 5 rfl ?_
          refine r_aload hX dX7_leastSum_176 2 rfl ?_
          refine r_iload hX dX7_leastSum_178 3 rfl ?_
          refine r_iconst hX dX7_leastSum_180 kk_i_1 ?_
          refine r_isub hX dX7_leastSum_181 ?_
          refine r_cVi (As := [.int (l5 - (1 : Int32))]) (st := [.int l7]) hX dX7_leastSum_182 kl_X6_at w_ml_X7_38 w_im_X6_at w_se_X6_at ⟨_, _, rfl⟩ (by decide) rfl (Nat.le_of_ble_eq_true rfl) rfl kdz0 h (fun r σ1 h => wX6_at h) ?_
          clear h; intro t2 σ h
          refine r_icmp_ne (tgt := 215) hX dX7_leastSum_185 (by decide) h ?_ ?_
          · clear h; intro h
            refine r_iload hX dX7_leastSum_188 6 rfl ?_
            refine r_aload_n hX dX7_leastSum_190 rfl 0 rfl ?_
            refine r_gR hX dX7_leastSum_191 kf_X7_17 rfl h ?_
            clear h; intro t3 h
            refine r_iload_n hX dX7_leastSum_194 rfl 1 rfl ?_
            refine r_iconst hX dX7_leastSum_195 kk_i_2 ?_
            refine r_isub hX dX7_leastSum_196 ?_
            refine r_aR18 hX dX7_leastSum_197 h ?_
            clear h; intro t4 h
            refine r_iload hX dX7_leastSum_198 3 rfl ?_
            refine r_iconst hX dX7_leastSum_200 kk_i_2 ?_
            refine r_isub hX dX7_leastSum_201 ?_
            refine r_aI hX dX7_leastSum_202 h ?_
            clear h; intro t5 h
            refine r_aload_n hX dX7_leastSum_203 rfl 0 rfl ?_
            refine r_gR hX dX7_leastSum_204 kf_X7_9 rfl h ?_
            clear h; intro t6 h
            refine r_iconst hX dX7_leastSum_207 kk_i_3 ?_
            refine r_aI hX dX7_leastSum_208 h ?_
            clear h; intro t7 h
            refine r_iadd hX dX7_leastSum_209 ?_
            refine r_mmin hX dX7_leastSum_210 w_ml_X7_42 w_st_Math_min w_in_Math w_cd_Math_min (by decide) (Nat.le_of_ble_eq_true rfl) kdz0 ?_
            refine r_letI h ?_
            clear h; intro t8 h
            refine r_istore (L2 := [(8, .int t8), (0, kr E l0), (3, .int l3), (4, kr E l4), (5, .int l5), (6, .int l6), (7, .int l7)]) hX dX7_leastSum_213 (by decide) rfl ?_
            refine r_sub [0] rfl ?_
            exact wX7_leastSum_215 hX h
          · clear h; intro h
            refine r_sub [6] rfl ?_
            exact wX7_leastSum_215 hX h
        · clear h; intro h
          refine r_sub [6] rfl ?_
          exact wX7_leastSum_215 hX h
def X7_leastSum_72 (G : kdS) (l0 : Nat) (l3 : Int32) (l4 : Nat) (l5 : Int32) (l6 : Int32) (l7 : Int32) (s0 : Int32) (s1 : Nat) (s2 : Int32) : kdM → Option (Int32 × kdM) :=
  aI G s1 (s2) fun t1 =>
  ltI ((s0 + t1)) fun t2 =>
  cnd (l5 ≤ 0)
    (X7_leastSum_142 G l0 l3 l4 l5 l6 l7 t2)
    (gR G 7 1 l0 fun t3 =>
    aR G 18 t3 (l3) fun t4 =>
    aI G t4 ((l5 - (1 : Int32))) fun t5 =>
    gR G 7 0 l0 fun t6 =>
    aI G t6 ((2 : Int32)) fun t7 =>
    ltI ((kmin t2 (t5 + t7))) fun t8 =>
    gR G 7 1 l0 fun t9 =>
    aR G 18 t9 ((l3 - (1 : Int32))) fun t10 =>
    aI G t10 ((l5 - (1 : Int32))) fun t11 =>
    kcv G 6 l4 (X6_at G l4 (l5 - (1 : Int32))) fun t12 =>
    kcv G 7 l0 (X7_priceOfOne G l0 l6 t12) fun t13 =>
    ltI ((kmin t8 (t11 + t13))) fun t14 =>
    X7_leastSum_142 G l0 l3 l4 l5 l6 l7 t14)
set_option maxRecDepth 100000 in
set_option maxHeartbeats 4000000 in
theorem wX7_leastSum_72 {E : kdE} {G : kdS} {A : kdA} {r : Int32} {σ1 : kdM} (hX : kdX E A cX7_leastSum 9 RX7 (some .int) 2) {σ : kdM} {l0 : Nat} {l3 : Int32} {l4 : Nat} {l5 : Int32} {l6 : Int32} {l7 : Int32} {s0 : Int32} {s1 : Nat} {s2 : Int32} (h : X7_leastSum_72 G l0 l3 l4 l5 l6 l7 s0 s1 s2 σ = some (r, σ1)) : SW E G (.inl (some (.int r), σ1)) A 9 σ 72 [(0, kr E l0), (3, .int l3), (4, kr E l4), (5, .int l5), (6, .int l6), (7, .int l7)] [.int s2, kr E s1, .int s0] := by
  unfold X7_leastSum_72 at h
  refine r_aI hX dX7_leastSum_72 h ?_
  clear h; intro t1 h
  refine r_iadd hX dX7_leastSum_73 ?_
  refine r_letI h ?_
  clear h; intro t2 h
  refine r_istore (L2 := [(8, .int t2), (0, kr E l0), (3, .int l3), (4, kr E l4), (5, .int l5), (6, .int l6), (7, .int l7)]) hX dX7_leastSum_74 (by decide) rfl ?_
  refine r_iload hX dX7_leastSum_76 4 rfl ?_
  refine r_if_le (tgt := 142) hX dX7_leastSum_78 (by decide) h ?_ ?_
  · clear h; intro h
    refine r_sub [1, 2, 3, 4, 5, 6, 0] rfl ?_
    exact wX7_leastSum_142 hX h
  · clear h; intro h
    refine r_iload hX dX7_leastSum_81 0 rfl ?_
    refine r_aload_n hX dX7_leastSum_83 rfl 1 rfl ?_
    refine r_gR hX dX7_leastSum_84 kf_X7_17 rfl h ?_
    clear h; intro t3 h
    refine r_iload_n hX dX7_leastSum_87 rfl 2 rfl ?_
    refine r_aR18 hX dX7_leastSum_88 h ?_
    clear h; intro t4 h
    refine r_iload hX dX7_leastSum_89 4 rfl ?_
    refine r_iconst hX dX7_leastSum_91 kk_i_1 ?_
    refine r_isub hX dX7_leastSum_92 ?_
    refine r_aI hX dX7_leastSum_93 h ?_
    clear h; intro t5 h
    refine r_aload_n hX dX7_leastSum_94 rfl 1 rfl ?_
    refine r_gR hX dX7_leastSum_95 kf_X7_9 rfl h ?_
    clear h; intro t6 h
    refine r_iconst hX dX7_leastSum_98 kk_i_2 ?_
    refine r_aI hX dX7_leastSum_99 h ?_
    clear h; intro t7 h
    refine r_iadd hX dX7_leastSum_100 ?_
    refine r_mmin hX dX7_leastSum_101 w_ml_X7_42 w_st_Math_min w_in_Math w_cd_Math_min (by decide) (Nat.le_of_ble_eq_true rfl) kdz0 ?_
    refine r_letI h ?_
    clear h; intro t8 h
    refine r_istore (L2 := [(8, .int t8), (0, kr E l0), (3, .int l3), (4, kr E l4), (5, .int l5), (6, .int l6), (7, .int l7)]) hX dX7_leastSum_104 (by decide) rfl ?_
    refine r_iload hX dX7_leastSum_106 0 rfl ?_
    refine r_aload_n hX dX7_leastSum_108 rfl 1 rfl ?_
    refine r_gR hX dX7_leastSum_109 kf_X7_17 rfl h ?_
    clear h; intro t9 h
    refine r_iload_n hX dX7_leastSum_112 rfl 2 rfl ?_
    refine r_iconst hX dX7_leastSum_113 kk_i_1 ?_
    refine r_isub hX dX7_leastSum_114 ?_
    refine r_aR18 hX dX7_leastSum_115 h ?_
    clear h; intro t10 h
    refine r_iload hX dX7_leastSum_116 4 rfl ?_
    refine r_iconst hX dX7_leastSum_118 kk_i_1 ?_
    refine r_isub hX dX7_leastSum_119 ?_
    refine r_aI hX dX7_leastSum_120 h ?_
    clear h; intro t11 h
    refine r_aload_n hX dX7_leastSum_121 rfl 1 rfl ?_
    refine r_iload hX dX7_leastSum_122 5 rfl ?_
    refine r_aload hX dX7_leastSum_124 3 rfl ?_
    refine r_iload hX dX7_leastSum_126 4 rfl ?_
    refine r_iconst hX dX7_leastSum_128 kk_i_1 ?_
    refine r_isub hX dX7_leastSum_129 ?_
    refine r_cVi (As := [.int (l5 - (1 : Int32))]) (st := [.int l6, kr E l0, .int t11, .int t8]) hX dX7_leastSum_130 kl_X6_at w_ml_X7_38 w_im_X6_at w_se_X6_at ⟨_, _, rfl⟩ (by decide) rfl (Nat.le_of_ble_eq_true rfl) rfl kdz0 h (fun r σ1 h => wX6_at h) ?_
    clear h; intro t12 σ h
    refine r_cVi (As := [.int l6, .int t12]) (st := [.int t11, .int t8]) hX dX7_leastSum_133 kl_X7_priceOfOne w_ml_X7_48 w_im_X7_priceOfOne w_se_X7_priceOfOne ⟨_, _, rfl⟩ (by decide) rfl (Nat.le_of_ble_eq_true rfl) rfl kdz0 h (fun r σ1 h => wX7_priceOfOne h) ?_
    clear h; intro t13 σ h
    refine r_iadd hX dX7_leastSum_136 ?_
    refine r_mmin hX dX7_leastSum_137 w_ml_X7_42 w_st_Math_min w_in_Math w_cd_Math_min (by decide) (Nat.le_of_ble_eq_true rfl) kdz0 ?_
    refine r_letI h ?_
    clear h; intro t14 h
    refine r_istore (L2 := [(8, .int t14), (0, kr E l0), (3, .int l3), (4, kr E l4), (5, .int l5), (6, .int l6), (7, .int l7)]) hX dX7_leastSum_140 (by decide) rfl ?_
    refine r_sub [1, 2, 3, 4, 5, 6, 0] rfl ?_
    exact wX7_leastSum_142 hX h
def X7_leastSum_43 (G : kdS) (l0 : Nat) (l3 : Int32) (l4 : Nat) (l5 : Int32) (l6 : Int32) (s0 : Int32) : kdM → Option (Int32 × kdM) :=
  gR G 7 1 l0 fun t1 =>
  aR G 18 t1 ((l3 - (1 : Int32))) fun t2 =>
  aI G t2 (l5) fun t3 =>
  gR G 7 0 l0 fun t4 =>
  cnd (l6 = s0)
    (X7_leastSum_72 G l0 l3 l4 l5 l6 s0 t3 t4 (1 : Int32))
    (X7_leastSum_72 G l0 l3 l4 l5 l6 s0 t3 t4 (4 : Int32))
set_option maxRecDepth 100000 in
set_option maxHeartbeats 4000000 in
theorem wX7_leastSum_43 {E : kdE} {G : kdS} {A : kdA} {r : Int32} {σ1 : kdM} (hX : kdX E A cX7_leastSum 9 RX7 (some .int) 2) {σ : kdM} {l0 : Nat} {l3 : Int32} {l4 : Nat} {l5 : Int32} {l6 : Int32} {s0 : Int32} (h : X7_leastSum_43 G l0 l3 l4 l5 l6 s0 σ = some (r, σ1)) : SW E G (.inl (some (.int r), σ1)) A 9 σ 43 [(0, kr E l0), (3, .int l3), (4, kr E l4), (5, .int l5), (6, .int l6)] [.int s0] := by
  unfold X7_leastSum_43 at h
  refine r_istore (L2 := [(7, .int s0), (0, kr E l0), (3, .int l3), (4, kr E l4), (5, .int l5), (6, .int l6)]) hX dX7_leastSum_43 (by decide) rfl ?_
  refine r_aload_n hX dX7_leastSum_45 rfl 1 rfl ?_
  refine r_gR hX dX7_leastSum_46 kf_X7_17 rfl h ?_
  clear h; intro t1 h
  refine r_iload_n hX dX7_leastSum_49 rfl 2 rfl ?_
  refine r_iconst hX dX7_leastSum_50 kk_i_1 ?_
  refine r_isub hX dX7_leastSum_51 ?_
  refine r_aR18 hX dX7_leastSum_52 h ?_
  clear h; intro t2 h
  refine r_iload hX dX7_leastSum_53 4 rfl ?_
  refine r_aI hX dX7_leastSum_55 h ?_
  clear h; intro t3 h
  refine r_aload_n hX dX7_leastSum_56 rfl 1 rfl ?_
  refine r_gR hX dX7_leastSum_57 kf_X7_9 rfl h ?_
  clear h; intro t4 h
  refine r_iload hX dX7_leastSum_60 5 rfl ?_
  refine r_iload hX dX7_leastSum_62 0 rfl ?_
  refine r_icmp_ne (tgt := 71) hX dX7_leastSum_64 (by decide) h ?_ ?_
  · clear h; intro h
    refine r_iconst hX dX7_leastSum_67 kk_i_1 ?_
    refine r_goto (tgt := 72) hX dX7_leastSum_68 (by decide) ?_
    refine r_sub [1, 2, 3, 4, 5, 0] rfl ?_
    exact wX7_leastSum_72 hX h
  · clear h; intro h
    refine r_iconst hX dX7_leastSum_71 kk_i_4 ?_
    refine r_sub [1, 2, 3, 4, 5, 0] rfl ?_
    exact wX7_leastSum_72 hX h
def X7_leastSum (G : kdS) (l0 : Nat) (l1 : Nat) (l2 : Int32) (l3 : Int32) (l4 : Nat) (l5 : Int32) : kdM → Option (Int32 × kdM) :=
  cnd (l3 = 0)
    (gR G 7 0 l0 fun t1 =>
    aI G t1 ((2 : Int32)) fun t2 =>
    rt (l5 * t2))
    (kcv G 6 l1 (X6_at G l1 ((l2 + l3) - (1 : Int32))) fun t3 =>
    cnd (l3 ≤ (1 : Int32))
      (X7_leastSum_43 G l0 l3 l4 l5 t3 (-1 : Int32))
      (kcv G 6 l1 (X6_at G l1 ((l2 + l3) - (2 : Int32))) fun t4 =>
      X7_leastSum_43 G l0 l3 l4 l5 t3 t4))
set_option maxRecDepth 100000 in
set_option maxHeartbeats 4000000 in
theorem wX7_leastSum {E : kdE} {G : kdS} {l0 : Nat} {l1 : Nat} {l2 : Int32} {l3 : Int32} {l4 : Nat} {l5 : Int32} {σ : kdM} {r : Int32} {σ1 : kdM} (h : X7_leastSum G l0 l1 l2 l3 l4 l5 σ = some (r, σ1)) : Con E G yX7_leastSum cX7_leastSum 9 (some .int) 2 [kr E l0, kr E l1, .int l2, .int l3, kr E l4, .int l5] σ (some (.int r), σ1) := by
  refine kd_head (own := RX7) rfl (by decide +kernel) (Nat.le_of_ble_eq_true rfl) (fun A hX => ?_)
  show SW E G (.inl (some (.int r), σ1)) A 9 σ 0 [(0, kr E l0), (1, kr E l1), (2, .int l2), (3, .int l3), (4, kr E l4), (5, .int l5)] []
  unfold X7_leastSum at h
  refine r_iload_n hX dX7_leastSum_0 rfl 3 rfl ?_
  refine r_if_ne (tgt := 14) hX dX7_leastSum_1 (by decide) h ?_ ?_
  · clear h; intro h
    refine r_iload hX dX7_leastSum_4 5 rfl ?_
    refine r_aload_n hX dX7_leastSum_6 rfl 0 rfl ?_
    refine r_gR hX dX7_leastSum_7 kf_X7_9 rfl h ?_
    clear h; intro t1 h
    refine r_iconst hX dX7_leastSum_10 kk_i_2 ?_
    refine r_aI hX dX7_leastSum_11 h ?_
    clear h; intro t2 h
    refine r_imul hX dX7_leastSum_12 ?_
    exact r_iret hX dX7_leastSum_13 h
  · clear h; intro h
    refine r_aload_n hX dX7_leastSum_14 rfl 1 rfl ?_
    refine r_iload_n hX dX7_leastSum_15 rfl 2 rfl ?_
    refine r_iload_n hX dX7_leastSum_16 rfl 3 rfl ?_
    refine r_iadd hX dX7_leastSum_17 ?_
    refine r_iconst hX dX7_leastSum_18 kk_i_1 ?_
    refine r_isub hX dX7_leastSum_19 ?_
    refine r_cVi (As := [.int ((l2 + l3) - (1 : Int32))]) (st := []) hX dX7_leastSum_20 kl_X6_at w_ml_X7_38 w_im_X6_at w_se_X6_at ⟨_, _, rfl⟩ (by decide) rfl (Nat.le_of_ble_eq_true rfl) rfl kdz0 h (fun r σ1 h => wX6_at h) ?_
    clear h; intro t3 σ h
    refine r_istore (L2 := [(6, .int t3), (0, kr E l0), (1, kr E l1), (2, .int l2), (3, .int l3), (4, kr E l4), (5, .int l5)]) hX dX7_leastSum_23 (by decide) rfl ?_
    refine r_iload_n hX dX7_leastSum_25 rfl 4 rfl ?_
    refine r_iconst hX dX7_leastSum_26 kk_i_1 ?_
    refine r_icmp_le (tgt := 42) hX dX7_leastSum_27 (by decide) h ?_ ?_
    · clear h; intro h
      refine r_iconst hX dX7_leastSum_42 kk_i_m1 ?_
      refine r_sub [1, 4, 5, 6, 0] rfl ?_
      exact wX7_leastSum_43 hX h
    · clear h; intro h
      refine r_aload_n hX dX7_leastSum_30 rfl 2 rfl ?_
      refine r_iload_n hX dX7_leastSum_31 rfl 3 rfl ?_
      refine r_iload_n hX dX7_leastSum_32 rfl 4 rfl ?_
      refine r_iadd hX dX7_leastSum_33 ?_
      refine r_iconst hX dX7_leastSum_34 kk_i_2 ?_
      refine r_isub hX dX7_leastSum_35 ?_
      refine r_cVi (As := [.int ((l2 + l3) - (2 : Int32))]) (st := []) hX dX7_leastSum_36 kl_X6_at w_ml_X7_38 w_im_X6_at w_se_X6_at ⟨_, _, rfl⟩ (by decide) rfl (Nat.le_of_ble_eq_true rfl) rfl kdz0 h (fun r σ1 h => wX6_at h) ?_
      clear h; intro t4 σ h
      refine r_goto (tgt := 43) hX dX7_leastSum_39 (by decide) ?_
      refine r_sub [1, 4, 5, 6, 0] rfl ?_
      exact wX7_leastSum_43 hX h
def X7_workOut_12B (G : kdS) (k3 : Nat → Nat → Int32 → Int32 → Nat → Int32 → kdM → Option (Unit × kdM)) (k12 : Nat → Nat → Int32 → Int32 → Nat → Int32 → Int32 → kdM → Option (Unit × kdM)) (l0 : Nat) (l1 : Nat) (l2 : Int32) (l3 : Int32) (l4 : Nat) (l5 : Int32) (l6 : Int32) : kdM → Option (Unit × kdM) :=
  kcv G 6 l4 (X6_size G l4) fun t1 =>
  cnd (t1 < l6)
    (ltI (l5 + Int32.ofInt 1) fun t2 =>
    k3 l0 l1 l2 l3 l4 t2)
    (gR G 7 1 l0 fun t3 =>
    aR G 18 t3 (l5) fun t4 =>
    kcv G 7 l0 (X7_leastSum G l0 l1 l2 l5 l4 l6) fun t5 =>
    tI G t4 (l6) (t5) <|
    ltI (l6 + Int32.ofInt 1) fun t6 =>
    k12 l0 l1 l2 l3 l4 l5 t6)
set_option maxRecDepth 100000 in
set_option maxHeartbeats 4000000 in
theorem wX7_workOut_12B {E : kdE} {G : kdS} {A : kdA} {r : Unit} {σ1 : kdM} (hX : kdX E A cX7_workOut 7 RX7 none 3) (k3 : Nat → Nat → Int32 → Int32 → Nat → Int32 → kdM → Option (Unit × kdM)) (k12 : Nat → Nat → Int32 → Int32 → Nat → Int32 → Int32 → kdM → Option (Unit × kdM)) (hk3 : ∀ (l0 : Nat) (l1 : Nat) (l2 : Int32) (l3 : Int32) (l4 : Nat) (l5 : Int32) (σ : kdM), k3 l0 l1 l2 l3 l4 l5 σ = some (r, σ1) → SW E G (.inl (none, σ1)) A 7 σ 3 [(0, kr E l0), (1, kr E l1), (2, .int l2), (3, .int l3), (4, kr E l4), (5, .int l5)] []) (hk12 : ∀ (l0 : Nat) (l1 : Nat) (l2 : Int32) (l3 : Int32) (l4 : Nat) (l5 : Int32) (l6 : Int32) (σ : kdM), k12 l0 l1 l2 l3 l4 l5 l6 σ = some (r, σ1) → SW E G (.inl (none, σ1)) A 7 σ 12 [(0, kr E l0), (1, kr E l1), (2, .int l2), (3, .int l3), (4, kr E l4), (5, .int l5), (6, .int l6)] []) {σ : kdM} {l0 : Nat} {l1 : Nat} {l2 : Int32} {l3 : Int32} {l4 : Nat} {l5 : Int32} {l6 : Int32} (h : X7_workOut_12B G k3 k12 l0 l1 l2 l3 l4 l5 l6 σ = some (r, σ1)) : SW E G (.inl (none, σ1)) A 7 σ 12 [(0, kr E l0), (1, kr E l1), (2, .int l2), (3, .int l3), (4, kr E l4), (5, .int l5), (6, .int l6)] [] := by
  unfold X7_workOut_12B at h
  refine r_iload hX dX7_workOut_12 6 rfl ?_
  refine r_aload hX dX7_workOut_14 4 rfl ?_
  refine r_cVi (As := []) (st := [.int l6]) hX dX7_workOut_16 kl_X6_size w_ml_X7_20 w_im_X6_size w_se_X6_size ⟨_, _, rfl⟩ (by decide) rfl (Nat.le_of_ble_eq_true rfl) rfl kdz0 h (fun r σ1 h => wX6_size h) ?_
  clear h; intro t1 σ h
  refine r_icmp_gt (tgt := 50) hX dX7_workOut_19 (by decide) h ?_ ?_
  · clear h; intro h
    refine r_iincL (L2 := fun t2 => [(5, .int t2), (0, kr E l0), (1, kr E l1), (2, .int l2), (3, .int l3), (4, kr E l4), (6, .int l6)]) hX dX7_workOut_50 h 5 rfl (by decide) (fun _ => rfl) ?_
    clear h; intro t2 h
    refine r_goto (tgt := 3) hX dX7_workOut_53 (by decide) ?_
    refine r_sub [1, 2, 3, 4, 5, 0] rfl ?_
    exact hk3 _ _ _ _ _ _ _ h
  · clear h; intro h
    refine r_aload_n hX dX7_workOut_22 rfl 0 rfl ?_
    refine r_gR hX dX7_workOut_23 kf_X7_17 rfl h ?_
    clear h; intro t3 h
    refine r_iload hX dX7_workOut_26 5 rfl ?_
    refine r_aR18 hX dX7_workOut_28 h ?_
    clear h; intro t4 h
    refine r_iload hX dX7_workOut_29 6 rfl ?_
    refine r_aload_n hX dX7_workOut_31 rfl 0 rfl ?_
    refine r_aload_n hX dX7_workOut_32 rfl 1 rfl ?_
    refine r_iload_n hX dX7_workOut_33 rfl 2 rfl ?_
    refine r_iload hX dX7_workOut_34 5 rfl ?_
    refine r_aload hX dX7_workOut_36 4 rfl ?_
    refine r_iload hX dX7_workOut_38 6 rfl ?_
    refine r_cVi (As := [kr E l1, .int l2, .int l5, kr E l4, .int l6]) (st := [.int l6, kr E t4]) hX dX7_workOut_40 kl_X7_leastSum w_ml_X7_34 w_im_X7_leastSum w_se_X7_leastSum ⟨_, _, rfl⟩ (by decide) rfl (Nat.le_of_ble_eq_true rfl) rfl kdz0 h (fun r σ1 h => wX7_leastSum h) ?_
    clear h; intro t5 σ h
    refine r_tI hX dX7_workOut_43 h ?_
    clear h; intro σ h
    refine r_iincL (L2 := fun t6 => [(6, .int t6), (0, kr E l0), (1, kr E l1), (2, .int l2), (3, .int l3), (4, kr E l4), (5, .int l5)]) hX dX7_workOut_44 h 6 rfl (by decide) (fun _ => rfl) ?_
    clear h; intro t6 h
    refine r_goto (tgt := 12) hX dX7_workOut_47 (by decide) ?_
    refine r_sub [1, 2, 3, 4, 5, 6, 0] rfl ?_
    exact hk12 _ _ _ _ _ _ _ _ h
def X7_workOut_12 (G : kdS) (k3 : Nat → Nat → Int32 → Int32 → Nat → Int32 → kdM → Option (Unit × kdM)) : Nat → Nat → Int32 → Int32 → Nat → Int32 → Int32 → kdM → Option (Unit × kdM) := lp (fun _ _ _ _ _ _ _ _ => none) (X7_workOut_12B G k3) NN
theorem wX7_workOut_12 {E : kdE} {G : kdS} {A : kdA} {r : Unit} {σ1 : kdM} (hX : kdX E A cX7_workOut 7 RX7 none 3) (k3 : Nat → Nat → Int32 → Int32 → Nat → Int32 → kdM → Option (Unit × kdM)) (hk3 : ∀ (l0 : Nat) (l1 : Nat) (l2 : Int32) (l3 : Int32) (l4 : Nat) (l5 : Int32) (σ : kdM), k3 l0 l1 l2 l3 l4 l5 σ = some (r, σ1) → SW E G (.inl (none, σ1)) A 7 σ 3 [(0, kr E l0), (1, kr E l1), (2, .int l2), (3, .int l3), (4, kr E l4), (5, .int l5)] []) : ∀ (l0 : Nat) (l1 : Nat) (l2 : Int32) (l3 : Int32) (l4 : Nat) (l5 : Int32) (l6 : Int32) (σ : kdM), X7_workOut_12 G k3 l0 l1 l2 l3 l4 l5 l6 σ = some (r, σ1) → SW E G (.inl (none, σ1)) A 7 σ 12 [(0, kr E l0), (1, kr E l1), (2, .int l2), (3, .int l3), (4, kr E l4), (5, .int l5), (6, .int l6)] [] :=
  lp_ind (Q := fun f => ∀ (l0 : Nat) (l1 : Nat) (l2 : Int32) (l3 : Int32) (l4 : Nat) (l5 : Int32) (l6 : Int32) (σ : kdM), f l0 l1 l2 l3 l4 l5 l6 σ = some (r, σ1) → SW E G (.inl (none, σ1)) A 7 σ 12 [(0, kr E l0), (1, kr E l1), (2, .int l2), (3, .int l3), (4, kr E l4), (5, .int l5), (6, .int l6)] []) (by intros; contradiction) (fun k hk l0 l1 l2 l3 l4 l5 l6 σ h => wX7_workOut_12B hX k3 k hk3 hk h) NN
def X7_workOut_3B (G : kdS) (k3 : Nat → Nat → Int32 → Int32 → Nat → Int32 → kdM → Option (Unit × kdM)) (l0 : Nat) (l1 : Nat) (l2 : Int32) (l3 : Int32) (l4 : Nat) (l5 : Int32) : kdM → Option (Unit × kdM) :=
  cnd (l3 < l5)
    (rt ())
    (X7_workOut_12 G k3 l0 l1 l2 l3 l4 l5 (0 : Int32))
set_option maxRecDepth 100000 in
set_option maxHeartbeats 4000000 in
theorem wX7_workOut_3B {E : kdE} {G : kdS} {A : kdA} {r : Unit} {σ1 : kdM} (hX : kdX E A cX7_workOut 7 RX7 none 3) (k3 : Nat → Nat → Int32 → Int32 → Nat → Int32 → kdM → Option (Unit × kdM)) (hk3 : ∀ (l0 : Nat) (l1 : Nat) (l2 : Int32) (l3 : Int32) (l4 : Nat) (l5 : Int32) (σ : kdM), k3 l0 l1 l2 l3 l4 l5 σ = some (r, σ1) → SW E G (.inl (none, σ1)) A 7 σ 3 [(0, kr E l0), (1, kr E l1), (2, .int l2), (3, .int l3), (4, kr E l4), (5, .int l5)] []) {σ : kdM} {l0 : Nat} {l1 : Nat} {l2 : Int32} {l3 : Int32} {l4 : Nat} {l5 : Int32} (h : X7_workOut_3B G k3 l0 l1 l2 l3 l4 l5 σ = some (r, σ1)) : SW E G (.inl (none, σ1)) A 7 σ 3 [(0, kr E l0), (1, kr E l1), (2, .int l2), (3, .int l3), (4, kr E l4), (5, .int l5)] [] := by
  unfold X7_workOut_3B at h
  refine r_iload hX dX7_workOut_3 5 rfl ?_
  refine r_iload_n hX dX7_workOut_5 rfl 3 rfl ?_
  refine r_icmp_gt (tgt := 56) hX dX7_workOut_6 (by decide) h ?_ ?_
  · clear h; intro h
    exact r_vret hX dX7_workOut_56 h
  · clear h; intro h
    refine r_iconst hX dX7_workOut_9 kk_i_0 ?_
    refine r_istore (L2 := [(6, .int (0 : Int32)), (0, kr E l0), (1, kr E l1), (2, .int l2), (3, .int l3), (4, kr E l4), (5, .int l5)]) hX dX7_workOut_10 (by decide) rfl ?_
    refine r_sub [1, 2, 3, 4, 5, 6, 0] rfl ?_
    exact wX7_workOut_12 hX k3 hk3 _ _ _ _ _ _ _ _ h
def X7_workOut_3 (G : kdS) : Nat → Nat → Int32 → Int32 → Nat → Int32 → kdM → Option (Unit × kdM) := lp (fun _ _ _ _ _ _ _ => none) (X7_workOut_3B G) NN
theorem wX7_workOut_3 {E : kdE} {G : kdS} {A : kdA} {r : Unit} {σ1 : kdM} (hX : kdX E A cX7_workOut 7 RX7 none 3) : ∀ (l0 : Nat) (l1 : Nat) (l2 : Int32) (l3 : Int32) (l4 : Nat) (l5 : Int32) (σ : kdM), X7_workOut_3 G l0 l1 l2 l3 l4 l5 σ = some (r, σ1) → SW E G (.inl (none, σ1)) A 7 σ 3 [(0, kr E l0), (1, kr E l1), (2, .int l2), (3, .int l3), (4, kr E l4), (5, .int l5)] [] :=
  lp_ind (Q := fun f => ∀ (l0 : Nat) (l1 : Nat) (l2 : Int32) (l3 : Int32) (l4 : Nat) (l5 : Int32) (σ : kdM), f l0 l1 l2 l3 l4 l5 σ = some (r, σ1) → SW E G (.inl (none, σ1)) A 7 σ 3 [(0, kr E l0), (1, kr E l1), (2, .int l2), (3, .int l3), (4, kr E l4), (5, .int l5)] []) (by intros; contradiction) (fun k hk l0 l1 l2 l3 l4 l5 σ h => wX7_workOut_3B hX k hk h) NN
def X7_workOut (G : kdS) (l0 : Nat) (l1 : Nat) (l2 : Int32) (l3 : Int32) (l4 : Nat) : kdM → Option (Unit × kdM) :=
  X7_workOut_3 G l0 l1 l2 l3 l4 (0 : Int32)
set_option maxRecDepth 100000 in
set_option maxHeartbeats 4000000 in
theorem wX7_workOut {E : kdE} {G : kdS} {l0 : Nat} {l1 : Nat} {l2 : Int32} {l3 : Int32} {l4 : Nat} {σ : kdM} {r : Unit} {σ1 : kdM} (h : X7_workOut G l0 l1 l2 l3 l4 σ = some (r, σ1)) : Con E G yX7_workOut cX7_workOut 7 none 3 [kr E l0, kr E l1, .int l2, .int l3, kr E l4] σ (none, σ1) := by
  refine kd_head (own := RX7) rfl (by decide +kernel) (Nat.le_of_ble_eq_true rfl) (fun A hX => ?_)
  show SW E G (.inl (none, σ1)) A 7 σ 0 [(0, kr E l0), (1, kr E l1), (2, .int l2), (3, .int l3), (4, kr E l4)] []
  unfold X7_workOut at h
  refine r_iconst hX dX7_workOut_0 kk_i_0 ?_
  refine r_istore (L2 := [(5, .int (0 : Int32)), (0, kr E l0), (1, kr E l1), (2, .int l2), (3, .int l3), (4, kr E l4)]) hX dX7_workOut_1 (by decide) rfl ?_
  refine r_sub [1, 2, 3, 4, 5, 0] rfl ?_
  exact wX7_workOut_3 hX _ _ _ _ _ _ _ h
def X7_priceOf (G : kdS) (l0 : Nat) (l1 : Nat) (l2 : Nat) : kdM → Option (Int32 × kdM) :=
  kcv G 6 l1 (X6_size G l1) fun t1 =>
  kcv G 7 l0 (X7_workOut G l0 l1 (0 : Int32) t1 l2) fun _ =>
  kcv G 6 l1 (X6_size G l1) fun t2 =>
  kcv G 7 l0 (X7_leastFor G l0 t2 l2) fun t3 =>
  rt t3
set_option maxRecDepth 100000 in
set_option maxHeartbeats 4000000 in
theorem wX7_priceOf {E : kdE} {G : kdS} {l0 : Nat} {l1 : Nat} {l2 : Nat} {σ : kdM} {r : Int32} {σ1 : kdM} (h : X7_priceOf G l0 l1 l2 σ = some (r, σ1)) : Con E G yX7_priceOf cX7_priceOf 3 (some .int) 4 [kr E l0, kr E l1, kr E l2] σ (some (.int r), σ1) := by
  refine kd_head (own := RX7) rfl (by decide +kernel) (Nat.le_of_ble_eq_true rfl) (fun A hX => ?_)
  show SW E G (.inl (some (.int r), σ1)) A 3 σ 0 [(0, kr E l0), (1, kr E l1), (2, kr E l2)] []
  unfold X7_priceOf at h
  refine r_aload_n hX dX7_priceOf_0 rfl 0 rfl ?_
  refine r_aload_n hX dX7_priceOf_1 rfl 1 rfl ?_
  refine r_iconst hX dX7_priceOf_2 kk_i_0 ?_
  refine r_aload_n hX dX7_priceOf_3 rfl 1 rfl ?_
  refine r_cVi (As := []) (st := [.int (0 : Int32), kr E l1, kr E l0]) hX dX7_priceOf_4 kl_X6_size w_ml_X7_20 w_im_X6_size w_se_X6_size ⟨_, _, rfl⟩ (by decide) rfl (Nat.le_of_ble_eq_true rfl) rfl kdz0 h (fun r σ1 h => wX6_size h) ?_
  clear h; intro t1 σ h
  refine r_aload_n hX dX7_priceOf_7 rfl 2 rfl ?_
  refine r_cVv (As := [kr E l1, .int (0 : Int32), .int t1, kr E l2]) (st := []) hX dX7_priceOf_8 kl_X7_workOut w_ml_X7_26 w_im_X7_workOut w_se_X7_workOut ⟨_, _, rfl⟩ (by decide) rfl (Nat.le_of_ble_eq_true rfl) rfl kdz0 h (fun r σ1 h => wX7_workOut h) ?_
  clear h; intro u σ h
  refine r_aload_n hX dX7_priceOf_11 rfl 0 rfl ?_
  refine r_aload_n hX dX7_priceOf_12 rfl 1 rfl ?_
  refine r_cVi (As := []) (st := [kr E l0]) hX dX7_priceOf_13 kl_X6_size w_ml_X7_20 w_im_X6_size w_se_X6_size ⟨_, _, rfl⟩ (by decide) rfl (Nat.le_of_ble_eq_true rfl) rfl kdz0 h (fun r σ1 h => wX6_size h) ?_
  clear h; intro t2 σ h
  refine r_aload_n hX dX7_priceOf_16 rfl 2 rfl ?_
  refine r_cVi (As := [.int t2, kr E l2]) (st := []) hX dX7_priceOf_17 kl_X7_leastFor w_ml_X7_30 w_im_X7_leastFor w_se_X7_leastFor ⟨_, _, rfl⟩ (by decide) rfl (Nat.le_of_ble_eq_true rfl) rfl kdz0 h (fun r σ1 h => wX7_leastFor h) ?_
  clear h; intro t3 σ h
  exact r_iret hX dX7_priceOf_20 h
def X1_clear (G : kdS) (l0 : Nat) : kdM → Option (Unit × kdM) :=
  gR G 1 0 l0 fun t1 =>
  kcv G 6 t1 (X6_clear G t1) fun t2 =>
  gR G 1 1 l0 fun t3 =>
  kcv G 6 t3 (X6_clear G t3) fun t4 =>
  gR G 1 2 l0 fun t5 =>
  kcv G 6 t5 (X6_clear G t5) fun t6 =>
  rt ()
set_option maxRecDepth 100000 in
set_option maxHeartbeats 4000000 in
theorem wX1_clear {E : kdE} {G : kdS} {l0 : Nat} {σ : kdM} {r : Unit} {σ1 : kdM} (h : X1_clear G l0 σ = some (r, σ1)) : Con E G yX1_clear cX1_clear 1 none 1 [kr E l0] σ (none, σ1) := by
  refine kd_head (own := RX1) rfl (by decide +kernel) (Nat.le_of_ble_eq_true rfl) (fun A hX => ?_)
  show SW E G (.inl (none, σ1)) A 1 σ 0 [(0, kr E l0)] []
  unfold X1_clear at h
  refine r_aload_n hX dX1_clear_0 rfl 0 rfl ?_
  refine r_gR hX dX1_clear_1 kf_X1_14 rfl h ?_
  clear h; intro t1 h
  refine r_cVi (As := []) (st := []) hX dX1_clear_4 kl_X6_clear w_ml_X1_26 w_im_X6_clear w_se_X6_clear ⟨_, _, rfl⟩ (by decide) rfl (Nat.le_of_ble_eq_true rfl) rfl kdz0 h (fun r σ1 h => wX6_clear h) ?_
  clear h; intro t2 σ h
  refine r_pop hX dX1_clear_7 rfl ?_
  refine r_aload_n hX dX1_clear_8 rfl 0 rfl ?_
  refine r_gR hX dX1_clear_9 kf_X1_20 rfl h ?_
  clear h; intro t3 h
  refine r_cVi (As := []) (st := []) hX dX1_clear_12 kl_X6_clear w_ml_X1_26 w_im_X6_clear w_se_X6_clear ⟨_, _, rfl⟩ (by decide) rfl (Nat.le_of_ble_eq_true rfl) rfl kdz0 h (fun r σ1 h => wX6_clear h) ?_
  clear h; intro t4 σ h
  refine r_pop hX dX1_clear_15 rfl ?_
  refine r_aload_n hX dX1_clear_16 rfl 0 rfl ?_
  refine r_gR hX dX1_clear_17 kf_X1_23 rfl h ?_
  clear h; intro t5 h
  refine r_cVi (As := []) (st := []) hX dX1_clear_20 kl_X6_clear w_ml_X1_26 w_im_X6_clear w_se_X6_clear ⟨_, _, rfl⟩ (by decide) rfl (Nat.le_of_ble_eq_true rfl) rfl kdz0 h (fun r σ1 h => wX6_clear h) ?_
  clear h; intro t6 σ h
  refine r_pop hX dX1_clear_23 rfl ?_
  exact r_vret hX dX1_clear_24 h
def X1_goesAhead_41 (G : kdS) (s0 : Int32) : kdM → Option (Int32 × kdM) :=
  rt (vp_nar .boolean s0)
set_option maxRecDepth 100000 in
set_option maxHeartbeats 4000000 in
theorem wX1_goesAhead_41 {E : kdE} {G : kdS} {A : kdA} {r : Int32} {σ1 : kdM} (hX : kdX E A cX1_goesAhead 4 RX1 (some .boolean) 1) {σ : kdM} {s0 : Int32} (h : X1_goesAhead_41 G s0 σ = some (r, σ1)) : SW E G (.inl (some (.int r), σ1)) A 4 σ 41 [] [.int s0] := by
  unfold X1_goesAhead_41 at h
  exact r_zret hX dX1_goesAhead_41 h
def X1_goesAhead_36 (G : kdS) : kdM → Option (Int32 × kdM) :=
  X1_goesAhead_41 G (1 : Int32)
set_option maxRecDepth 100000 in
set_option maxHeartbeats 4000000 in
theorem wX1_goesAhead_36 {E : kdE} {G : kdS} {A : kdA} {r : Int32} {σ1 : kdM} (hX : kdX E A cX1_goesAhead 4 RX1 (some .boolean) 1) {σ : kdM} (h : X1_goesAhead_36 G  σ = some (r, σ1)) : SW E G (.inl (some (.int r), σ1)) A 4 σ 36 [] [] := by
  unfold X1_goesAhead_36 at h
  refine r_iconst hX dX1_goesAhead_36 kk_i_1 ?_
  refine r_goto (tgt := 41) hX dX1_goesAhead_37 (by decide) ?_
  refine r_sub [] rfl ?_
  exact wX1_goesAhead_41 hX h
def X1_goesAhead_40 (G : kdS) : kdM → Option (Int32 × kdM) :=
  X1_goesAhead_41 G (0 : Int32)
set_option maxRecDepth 100000 in
set_option maxHeartbeats 4000000 in
theorem wX1_goesAhead_40 {E : kdE} {G : kdS} {A : kdA} {r : Int32} {σ1 : kdM} (hX : kdX E A cX1_goesAhead 4 RX1 (some .boolean) 1) {σ : kdM} (h : X1_goesAhead_40 G  σ = some (r, σ1)) : SW E G (.inl (some (.int r), σ1)) A 4 σ 40 [] [] := by
  unfold X1_goesAhead_40 at h
  refine r_iconst hX dX1_goesAhead_40 kk_i_0 ?_
  refine r_sub [] rfl ?_
  exact wX1_goesAhead_41 hX h
def X1_goesAhead (G : kdS) (l0 : Nat) (l1 : Int32) (l2 : Int32) (l3 : Int32) : kdM → Option (Int32 × kdM) :=
  gR G 1 1 l0 fun t1 =>
  kcv G 6 t1 (X6_at G t1 l3) fun t2 =>
  cnd (l1 < t2)
    (X1_goesAhead_36 G )
    (gR G 1 1 l0 fun t3 =>
    kcv G 6 t3 (X6_at G t3 l3) fun t4 =>
    cnd (l1 = t4)
      (gR G 1 2 l0 fun t5 =>
      kcv G 6 t5 (X6_at G t5 l3) fun t6 =>
      cnd (l2 ≤ t6)
        (X1_goesAhead_40 G )
        (X1_goesAhead_36 G ))
      (X1_goesAhead_40 G ))
set_option maxRecDepth 100000 in
set_option maxHeartbeats 4000000 in
theorem wX1_goesAhead {E : kdE} {G : kdS} {l0 : Nat} {l1 : Int32} {l2 : Int32} {l3 : Int32} {σ : kdM} {r : Int32} {σ1 : kdM} (h : X1_goesAhead G l0 l1 l2 l3 σ = some (r, σ1)) : Con E G yX1_goesAhead cX1_goesAhead 4 (some .boolean) 1 [kr E l0, .int l1, .int l2, .int l3] σ (some (.int r), σ1) := by
  refine kd_head (own := RX1) rfl (by decide +kernel) (Nat.le_of_ble_eq_true rfl) (fun A hX => ?_)
  show SW E G (.inl (some (.int r), σ1)) A 4 σ 0 [(0, kr E l0), (1, .int l1), (2, .int l2), (3, .int l3)] []
  unfold X1_goesAhead at h
  refine r_iload_n hX dX1_goesAhead_0 rfl 1 rfl ?_
  refine r_aload_n hX dX1_goesAhead_1 rfl 0 rfl ?_
  refine r_gR hX dX1_goesAhead_2 kf_X1_20 rfl h ?_
  clear h; intro t1 h
  refine r_iload_n hX dX1_goesAhead_5 rfl 3 rfl ?_
  refine r_cVi (As := [.int l3]) (st := [.int l1]) hX dX1_goesAhead_6 kl_X6_at w_ml_X1_41 w_im_X6_at w_se_X6_at ⟨_, _, rfl⟩ (by decide) rfl (Nat.le_of_ble_eq_true rfl) rfl kdz0 h (fun r σ1 h => wX6_at h) ?_
  clear h; intro t2 σ h
  refine r_icmp_lt (tgt := 36) hX dX1_goesAhead_9 (by decide) h ?_ ?_
  · clear h; intro h
    refine r_sub [] rfl ?_
    exact wX1_goesAhead_36 hX h
  · clear h; intro h
    refine r_iload_n hX dX1_goesAhead_12 rfl 1 rfl ?_
    refine r_aload_n hX dX1_goesAhead_13 rfl 0 rfl ?_
    refine r_gR hX dX1_goesAhead_14 kf_X1_20 rfl h ?_
    clear h; intro t3 h
    refine r_iload_n hX dX1_goesAhead_17 rfl 3 rfl ?_
    refine r_cVi (As := [.int l3]) (st := [.int l1]) hX dX1_goesAhead_18 kl_X6_at w_ml_X1_41 w_im_X6_at w_se_X6_at ⟨_, _, rfl⟩ (by decide) rfl (Nat.le_of_ble_eq_true rfl) rfl kdz0 h (fun r σ1 h => wX6_at h) ?_
    clear h; intro t4 σ h
    refine r_icmp_ne (tgt := 40) hX dX1_goesAhead_21 (by decide) h ?_ ?_
    · clear h; intro h
      refine r_iload_n hX dX1_goesAhead_24 rfl 2 rfl ?_
      refine r_aload_n hX dX1_goesAhead_25 rfl 0 rfl ?_
      refine r_gR hX dX1_goesAhead_26 kf_X1_23 rfl h ?_
      clear h; intro t5 h
      refine r_iload_n hX dX1_goesAhead_29 rfl 3 rfl ?_
      refine r_cVi (As := [.int l3]) (st := [.int l2]) hX dX1_goesAhead_30 kl_X6_at w_ml_X1_41 w_im_X6_at w_se_X6_at ⟨_, _, rfl⟩ (by decide) rfl (Nat.le_of_ble_eq_true rfl) rfl kdz0 h (fun r σ1 h => wX6_at h) ?_
      clear h; intro t6 σ h
      refine r_icmp_le (tgt := 40) hX dX1_goesAhead_33 (by decide) h ?_ ?_
      · clear h; intro h
        refine r_sub [] rfl ?_
        exact wX1_goesAhead_40 hX h
      · clear h; intro h
        refine r_sub [] rfl ?_
        exact wX1_goesAhead_36 hX h
    · clear h; intro h
      refine r_sub [] rfl ?_
      exact wX1_goesAhead_40 hX h
def X1_insert_33 (G : kdS) (l0 : Nat) (l1 : Int32) (l2 : Int32) (l3 : Int32) (l4 : Int32) : kdM → Option (Unit × kdM) :=
  gR G 1 0 l0 fun t1 =>
  kcv G 6 t1 (X6_insert G t1 l4 l1) fun _ =>
  gR G 1 1 l0 fun t2 =>
  kcv G 6 t2 (X6_insert G t2 l4 l2) fun _ =>
  gR G 1 2 l0 fun t3 =>
  kcv G 6 t3 (X6_insert G t3 l4 l3) fun _ =>
  rt ()
set_option maxRecDepth 100000 in
set_option maxHeartbeats 4000000 in
theorem wX1_insert_33 {E : kdE} {G : kdS} {A : kdA} {r : Unit} {σ1 : kdM} (hX : kdX E A cX1_insert 5 RX1 none 2) {σ : kdM} {l0 : Nat} {l1 : Int32} {l2 : Int32} {l3 : Int32} {l4 : Int32} (h : X1_insert_33 G l0 l1 l2 l3 l4 σ = some (r, σ1)) : SW E G (.inl (none, σ1)) A 5 σ 33 [(0, kr E l0), (1, .int l1), (2, .int l2), (3, .int l3), (4, .int l4)] [] := by
  unfold X1_insert_33 at h
  refine r_aload_n hX dX1_insert_33 rfl 0 rfl ?_
  refine r_gR hX dX1_insert_34 kf_X1_14 rfl h ?_
  clear h; intro t1 h
  refine r_iload hX dX1_insert_37 4 rfl ?_
  refine r_iload_n hX dX1_insert_39 rfl 1 rfl ?_
  refine r_cVv (As := [.int l4, .int l1]) (st := []) hX dX1_insert_40 kl_X6_insert w_ml_X1_37 w_im_X6_insert w_se_X6_insert ⟨_, _, rfl⟩ (by decide) rfl (Nat.le_of_ble_eq_true rfl) rfl kdz0 h (fun r σ1 h => wX6_insert h) ?_
  clear h; intro u σ h
  refine r_aload_n hX dX1_insert_43 rfl 0 rfl ?_
  refine r_gR hX dX1_insert_44 kf_X1_20 rfl h ?_
  clear h; intro t2 h
  refine r_iload hX dX1_insert_47 4 rfl ?_
  refine r_iload_n hX dX1_insert_49 rfl 2 rfl ?_
  refine r_cVv (As := [.int l4, .int l2]) (st := []) hX dX1_insert_50 kl_X6_insert w_ml_X1_37 w_im_X6_insert w_se_X6_insert ⟨_, _, rfl⟩ (by decide) rfl (Nat.le_of_ble_eq_true rfl) rfl kdz0 h (fun r σ1 h => wX6_insert h) ?_
  clear h; intro u σ h
  refine r_aload_n hX dX1_insert_53 rfl 0 rfl ?_
  refine r_gR hX dX1_insert_54 kf_X1_23 rfl h ?_
  clear h; intro t3 h
  refine r_iload hX dX1_insert_57 4 rfl ?_
  refine r_iload_n hX dX1_insert_59 rfl 3 rfl ?_
  refine r_cVv (As := [.int l4, .int l3]) (st := []) hX dX1_insert_60 kl_X6_insert w_ml_X1_37 w_im_X6_insert w_se_X6_insert ⟨_, _, rfl⟩ (by decide) rfl (Nat.le_of_ble_eq_true rfl) rfl kdz0 h (fun r σ1 h => wX6_insert h) ?_
  clear h; intro u σ h
  exact r_vret hX dX1_insert_63 h
def X1_insert_9B (G : kdS) (k9 : Nat → Int32 → Int32 → Int32 → Int32 → kdM → Option (Unit × kdM)) (l0 : Nat) (l1 : Int32) (l2 : Int32) (l3 : Int32) (l4 : Int32) : kdM → Option (Unit × kdM) :=
  cnd (l4 ≤ 0)
    (X1_insert_33 G l0 l1 l2 l3 l4)
    (kcv G 1 l0 (X1_goesAhead G l0 l2 l3 (l4 - (1 : Int32))) fun t1 =>
    cnd (t1 = 0)
      (X1_insert_33 G l0 l1 l2 l3 l4)
      (ltI (l4 + Int32.ofInt (-1)) fun t2 =>
      k9 l0 l1 l2 l3 t2))
set_option maxRecDepth 100000 in
set_option maxHeartbeats 4000000 in
theorem wX1_insert_9B {E : kdE} {G : kdS} {A : kdA} {r : Unit} {σ1 : kdM} (hX : kdX E A cX1_insert 5 RX1 none 2) (k9 : Nat → Int32 → Int32 → Int32 → Int32 → kdM → Option (Unit × kdM)) (hk9 : ∀ (l0 : Nat) (l1 : Int32) (l2 : Int32) (l3 : Int32) (l4 : Int32) (σ : kdM), k9 l0 l1 l2 l3 l4 σ = some (r, σ1) → SW E G (.inl (none, σ1)) A 5 σ 9 [(0, kr E l0), (1, .int l1), (2, .int l2), (3, .int l3), (4, .int l4)] []) {σ : kdM} {l0 : Nat} {l1 : Int32} {l2 : Int32} {l3 : Int32} {l4 : Int32} (h : X1_insert_9B G k9 l0 l1 l2 l3 l4 σ = some (r, σ1)) : SW E G (.inl (none, σ1)) A 5 σ 9 [(0, kr E l0), (1, .int l1), (2, .int l2), (3, .int l3), (4, .int l4)] [] := by
  unfold X1_insert_9B at h
  refine r_iload hX dX1_insert_9 4 rfl ?_
  refine r_if_le (tgt := 33) hX dX1_insert_11 (by decide) h ?_ ?_
  · clear h; intro h
    refine r_sub [0, 1, 2, 3, 4] rfl ?_
    exact wX1_insert_33 hX h
  · clear h; intro h
    refine r_aload_n hX dX1_insert_14 rfl 0 rfl ?_
    refine r_iload_n hX dX1_insert_15 rfl 2 rfl ?_
    refine r_iload_n hX dX1_insert_16 rfl 3 rfl ?_
    refine r_iload hX dX1_insert_17 4 rfl ?_
    refine r_iconst hX dX1_insert_19 kk_i_1 ?_
    refine r_isub hX dX1_insert_20 ?_
    refine r_cVi (As := [.int l2, .int l3, .int (l4 - (1 : Int32))]) (st := []) hX dX1_insert_21 kl_X1_goesAhead w_ml_X1_33 w_im_X1_goesAhead w_se_X1_goesAhead ⟨_, _, rfl⟩ (by decide) rfl (Nat.le_of_ble_eq_true rfl) rfl kdz0 h (fun r σ1 h => wX1_goesAhead h) ?_
    clear h; intro t1 σ h
    refine r_if_eq (tgt := 33) hX dX1_insert_24 (by decide) h ?_ ?_
    · clear h; intro h
      refine r_sub [0, 1, 2, 3, 4] rfl ?_
      exact wX1_insert_33 hX h
    · clear h; intro h
      refine r_iincL (L2 := fun t2 => [(4, .int t2), (0, kr E l0), (1, .int l1), (2, .int l2), (3, .int l3)]) hX dX1_insert_27 h 4 rfl (by decide) (fun _ => rfl) ?_
      clear h; intro t2 h
      refine r_goto (tgt := 9) hX dX1_insert_30 (by decide) ?_
      refine r_sub [1, 2, 3, 4, 0] rfl ?_
      exact hk9 _ _ _ _ _ _ h
def X1_insert_9 (G : kdS) : Nat → Int32 → Int32 → Int32 → Int32 → kdM → Option (Unit × kdM) := lp (fun _ _ _ _ _ _ => none) (X1_insert_9B G) NN
theorem wX1_insert_9 {E : kdE} {G : kdS} {A : kdA} {r : Unit} {σ1 : kdM} (hX : kdX E A cX1_insert 5 RX1 none 2) : ∀ (l0 : Nat) (l1 : Int32) (l2 : Int32) (l3 : Int32) (l4 : Int32) (σ : kdM), X1_insert_9 G l0 l1 l2 l3 l4 σ = some (r, σ1) → SW E G (.inl (none, σ1)) A 5 σ 9 [(0, kr E l0), (1, .int l1), (2, .int l2), (3, .int l3), (4, .int l4)] [] :=
  lp_ind (Q := fun f => ∀ (l0 : Nat) (l1 : Int32) (l2 : Int32) (l3 : Int32) (l4 : Int32) (σ : kdM), f l0 l1 l2 l3 l4 σ = some (r, σ1) → SW E G (.inl (none, σ1)) A 5 σ 9 [(0, kr E l0), (1, .int l1), (2, .int l2), (3, .int l3), (4, .int l4)] []) (by intros; contradiction) (fun k hk l0 l1 l2 l3 l4 σ h => wX1_insert_9B hX k hk h) NN
def X1_insert (G : kdS) (l0 : Nat) (l1 : Int32) (l2 : Int32) (l3 : Int32) : kdM → Option (Unit × kdM) :=
  gR G 1 0 l0 fun t1 =>
  kcv G 6 t1 (X6_size G t1) fun t2 =>
  X1_insert_9 G l0 l1 l2 l3 t2
set_option maxRecDepth 100000 in
set_option maxHeartbeats 4000000 in
theorem wX1_insert {E : kdE} {G : kdS} {l0 : Nat} {l1 : Int32} {l2 : Int32} {l3 : Int32} {σ : kdM} {r : Unit} {σ1 : kdM} (h : X1_insert G l0 l1 l2 l3 σ = some (r, σ1)) : Con E G yX1_insert cX1_insert 5 none 2 [kr E l0, .int l1, .int l2, .int l3] σ (none, σ1) := by
  refine kd_head (own := RX1) rfl (by decide +kernel) (Nat.le_of_ble_eq_true rfl) (fun A hX => ?_)
  show SW E G (.inl (none, σ1)) A 5 σ 0 [(0, kr E l0), (1, .int l1), (2, .int l2), (3, .int l3)] []
  unfold X1_insert at h
  refine r_aload_n hX dX1_insert_0 rfl 0 rfl ?_
  refine r_gR hX dX1_insert_1 kf_X1_14 rfl h ?_
  clear h; intro t1 h
  refine r_cVi (As := []) (st := []) hX dX1_insert_4 kl_X6_size w_ml_X1_30 w_im_X6_size w_se_X6_size ⟨_, _, rfl⟩ (by decide) rfl (Nat.le_of_ble_eq_true rfl) rfl kdz0 h (fun r σ1 h => wX6_size h) ?_
  clear h; intro t2 σ h
  refine r_istore (L2 := [(4, .int t2), (0, kr E l0), (1, .int l1), (2, .int l2), (3, .int l3)]) hX dX1_insert_7 (by decide) rfl ?_
  refine r_sub [1, 2, 3, 4, 0] rfl ?_
  exact wX1_insert_9 hX _ _ _ _ _ _ h
end
section
def X1_guessAt_37 (G : kdS) (s0 : Int32) : kdM → Option (Int32 × kdM) :=
  rt s0
set_option maxRecDepth 100000 in
set_option maxHeartbeats 4000000 in
theorem wX1_guessAt_37 {E : kdE} {G : kdS} {A : kdA} {r : Int32} {σ1 : kdM} (hX : kdX E A cX1_guessAt 2 RX1 (some .int) 1) {σ : kdM} {s0 : Int32} (h : X1_guessAt_37 G s0 σ = some (r, σ1)) : SW E G (.inl (some (.int r), σ1)) A 2 σ 37 [] [.int s0] := by
  unfold X1_guessAt_37 at h
  exact r_iret hX dX1_guessAt_37 h
def X1_guessAt (G : kdS) (l0 : Nat) (l1 : Int32) : kdM → Option (Int32 × kdM) :=
  cnd (l1 = (-1 : Int32))
    (gR G 1 0 l0 fun t1 =>
    kcv G 6 t1 (X6_size G t1) fun t2 =>
    rt t2)
    (gR G 1 0 l0 fun t3 =>
    kcv G 6 t3 (X6_has G t3 l1) fun t4 =>
    cnd (t4 = 0)
      (X1_guessAt_37 G (-6 : Int32))
      (gR G 1 0 l0 fun t5 =>
      kcv G 6 t5 (X6_at G t5 l1) fun t6 =>
      X1_guessAt_37 G t6))
set_option maxRecDepth 100000 in
set_option maxHeartbeats 4000000 in
theorem wX1_guessAt {E : kdE} {G : kdS} {l0 : Nat} {l1 : Int32} {σ : kdM} {r : Int32} {σ1 : kdM} (h : X1_guessAt G l0 l1 σ = some (r, σ1)) : Con E G yX1_guessAt cX1_guessAt 2 (some .int) 1 [kr E l0, .int l1] σ (some (.int r), σ1) := by
  refine kd_head (own := RX1) rfl (by decide +kernel) (Nat.le_of_ble_eq_true rfl) (fun A hX => ?_)
  show SW E G (.inl (some (.int r), σ1)) A 2 σ 0 [(0, kr E l0), (1, .int l1)] []
  unfold X1_guessAt at h
  refine r_iload_n hX dX1_guessAt_0 rfl 1 rfl ?_
  refine r_iconst hX dX1_guessAt_1 kk_i_m1 ?_
  refine r_icmp_ne (tgt := 13) hX dX1_guessAt_2 (by decide) h ?_ ?_
  · clear h; intro h
    refine r_aload_n hX dX1_guessAt_5 rfl 0 rfl ?_
    refine r_gR hX dX1_guessAt_6 kf_X1_14 rfl h ?_
    clear h; intro t1 h
    refine r_cVi (As := []) (st := []) hX dX1_guessAt_9 kl_X6_size w_ml_X1_30 w_im_X6_size w_se_X6_size ⟨_, _, rfl⟩ (by decide) rfl (Nat.le_of_ble_eq_true rfl) rfl kdz0 h (fun r σ1 h => wX6_size h) ?_
    clear h; intro t2 σ h
    exact r_iret hX dX1_guessAt_12 h
  · clear h; intro h
    refine r_aload_n hX dX1_guessAt_13 rfl 0 rfl ?_
    refine r_gR hX dX1_guessAt_14 kf_X1_14 rfl h ?_
    clear h; intro t3 h
    refine r_iload_n hX dX1_guessAt_17 rfl 1 rfl ?_
    refine r_cVi (As := [.int l1]) (st := []) hX dX1_guessAt_18 kl_X6_has w_ml_X1_45 w_im_X6_has w_se_X6_has ⟨_, _, rfl⟩ (by decide) rfl (Nat.le_of_ble_eq_true rfl) rfl kdz0 h (fun r σ1 h => wX6_has h) ?_
    clear h; intro t4 σ h
    refine r_if_eq (tgt := 35) hX dX1_guessAt_21 (by decide) h ?_ ?_
    · clear h; intro h
      refine r_bipush hX dX1_guessAt_35 kk_b_m6 ?_
      refine r_sub [] rfl ?_
      exact wX1_guessAt_37 hX h
    · clear h; intro h
      refine r_aload_n hX dX1_guessAt_24 rfl 0 rfl ?_
      refine r_gR hX dX1_guessAt_25 kf_X1_14 rfl h ?_
      clear h; intro t5 h
      refine r_iload_n hX dX1_guessAt_28 rfl 1 rfl ?_
      refine r_cVi (As := [.int l1]) (st := []) hX dX1_guessAt_29 kl_X6_at w_ml_X1_41 w_im_X6_at w_se_X6_at ⟨_, _, rfl⟩ (by decide) rfl (Nat.le_of_ble_eq_true rfl) rfl kdz0 h (fun r σ1 h => wX6_at h) ?_
      clear h; intro t6 σ h
      refine r_goto (tgt := 37) hX dX1_guessAt_32 (by decide) ?_
      refine r_sub [] rfl ?_
      exact wX1_guessAt_37 hX h
def X0_pairs (G : kdS) (l0 : Nat) : kdM → Option (Int32 × kdM) :=
  gI G 0 2 l0 fun t1 =>
  rt t1
set_option maxRecDepth 100000 in
set_option maxHeartbeats 4000000 in
theorem wX0_pairs {E : kdE} {G : kdS} {l0 : Nat} {σ : kdM} {r : Int32} {σ1 : kdM} (h : X0_pairs G l0 σ = some (r, σ1)) : Con E G yX0_pairs cX0_pairs 1 (some .int) 0 [kr E l0] σ (some (.int r), σ1) := by
  refine kd_head (own := RX0) rfl (by decide +kernel) (Nat.le_of_ble_eq_true rfl) (fun A hX => ?_)
  show SW E G (.inl (some (.int r), σ1)) A 1 σ 0 [(0, kr E l0)] []
  unfold X0_pairs at h
  refine r_aload_n hX dX0_pairs_0 rfl 0 rfl ?_
  refine r_gI hX dX0_pairs_1 kf_X0_43 rfl h ?_
  clear h; intro t1 h
  exact r_iret hX dX0_pairs_4 h
def X0_padSize (G : kdS) (l0 : Nat) : kdM → Option (Int32 × kdM) :=
  gR G 0 3 l0 fun t1 =>
  kcv G 6 t1 (X6_size G t1) fun t2 =>
  rt t2
set_option maxRecDepth 100000 in
set_option maxHeartbeats 4000000 in
theorem wX0_padSize {E : kdE} {G : kdS} {l0 : Nat} {σ : kdM} {r : Int32} {σ1 : kdM} (h : X0_padSize G l0 σ = some (r, σ1)) : Con E G yX0_padSize cX0_padSize 1 (some .int) 1 [kr E l0] σ (some (.int r), σ1) := by
  refine kd_head (own := RX0) rfl (by decide +kernel) (Nat.le_of_ble_eq_true rfl) (fun A hX => ?_)
  show SW E G (.inl (some (.int r), σ1)) A 1 σ 0 [(0, kr E l0)] []
  unfold X0_padSize at h
  refine r_aload_n hX dX0_padSize_0 rfl 0 rfl ?_
  refine r_gR hX dX0_padSize_1 kf_X0_21 rfl h ?_
  clear h; intro t1 h
  refine r_cVi (As := []) (st := []) hX dX0_padSize_4 kl_X6_size w_ml_X0_47 w_im_X6_size w_se_X6_size ⟨_, _, rfl⟩ (by decide) rfl (Nat.le_of_ble_eq_true rfl) rfl kdz0 h (fun r σ1 h => wX6_size h) ?_
  clear h; intro t2 σ h
  exact r_iret hX dX0_padSize_7 h
def X2_learnings (G : kdS) (l0 : Nat) : kdM → Option (Int32 × kdM) :=
  gR G 2 0 l0 fun t1 =>
  kcv G 6 t1 (X6_size G t1) fun t2 =>
  rt t2
set_option maxRecDepth 100000 in
set_option maxHeartbeats 4000000 in
theorem wX2_learnings {E : kdE} {G : kdS} {l0 : Nat} {σ : kdM} {r : Int32} {σ1 : kdM} (h : X2_learnings G l0 σ = some (r, σ1)) : Con E G yX2_learnings cX2_learnings 1 (some .int) 1 [kr E l0] σ (some (.int r), σ1) := by
  refine kd_head (own := RX2) rfl (by decide +kernel) (Nat.le_of_ble_eq_true rfl) (fun A hX => ?_)
  show SW E G (.inl (some (.int r), σ1)) A 1 σ 0 [(0, kr E l0)] []
  unfold X2_learnings at h
  refine r_aload_n hX dX2_learnings_0 rfl 0 rfl ?_
  refine r_gR hX dX2_learnings_1 kf_X2_14 rfl h ?_
  clear h; intro t1 h
  refine r_cVi (As := []) (st := []) hX dX2_learnings_4 kl_X6_size w_ml_X2_37 w_im_X6_size w_se_X6_size ⟨_, _, rfl⟩ (by decide) rfl (Nat.le_of_ble_eq_true rfl) rfl kdz0 h (fun r σ1 h => wX6_size h) ?_
  clear h; intro t2 σ h
  exact r_iret hX dX2_learnings_7 h
def X2_isFull (G : kdS) (l0 : Nat) : kdM → Option (Int32 × kdM) :=
  gR G 2 0 l0 fun t1 =>
  kcv G 6 t1 (X6_isFull G t1) fun t2 =>
  rt (vp_nar .boolean t2)
set_option maxRecDepth 100000 in
set_option maxHeartbeats 4000000 in
theorem wX2_isFull {E : kdE} {G : kdS} {l0 : Nat} {σ : kdM} {r : Int32} {σ1 : kdM} (h : X2_isFull G l0 σ = some (r, σ1)) : Con E G yX2_isFull cX2_isFull 1 (some .boolean) 1 [kr E l0] σ (some (.int r), σ1) := by
  refine kd_head (own := RX2) rfl (by decide +kernel) (Nat.le_of_ble_eq_true rfl) (fun A hX => ?_)
  show SW E G (.inl (some (.int r), σ1)) A 1 σ 0 [(0, kr E l0)] []
  unfold X2_isFull at h
  refine r_aload_n hX dX2_isFull_0 rfl 0 rfl ?_
  refine r_gR hX dX2_isFull_1 kf_X2_14 rfl h ?_
  clear h; intro t1 h
  refine r_cVi (As := []) (st := []) hX dX2_isFull_4 kl_X6_isFull w_ml_X2_41 w_im_X6_isFull w_se_X6_isFull ⟨_, _, rfl⟩ (by decide) rfl (Nat.le_of_ble_eq_true rfl) rfl kdz0 h (fun r σ1 h => wX6_isFull h) ?_
  clear h; intro t2 σ h
  exact r_zret hX dX2_isFull_7 h
def X2_addLearning (G : kdS) (l0 : Nat) (l1 : Int32) (l2 : Int32) (l3 : Int32) : kdM → Option (Int32 × kdM) :=
  gR G 2 0 l0 fun t1 =>
  kcv G 6 t1 (X6_add G t1 l1) fun _ =>
  gR G 2 1 l0 fun t2 =>
  kcv G 6 t2 (X6_add G t2 l2) fun _ =>
  gR G 2 2 l0 fun t3 =>
  kcv G 6 t3 (X6_add G t3 l3) fun _ =>
  kcv G 2 l0 (X2_learnings G l0) fun t4 =>
  rt t4
set_option maxRecDepth 100000 in
set_option maxHeartbeats 4000000 in
theorem wX2_addLearning {E : kdE} {G : kdS} {l0 : Nat} {l1 : Int32} {l2 : Int32} {l3 : Int32} {σ : kdM} {r : Int32} {σ1 : kdM} (h : X2_addLearning G l0 l1 l2 l3 σ = some (r, σ1)) : Con E G yX2_addLearning cX2_addLearning 4 (some .int) 3 [kr E l0, .int l1, .int l2, .int l3] σ (some (.int r), σ1) := by
  refine kd_head (own := RX2) rfl (by decide +kernel) (Nat.le_of_ble_eq_true rfl) (fun A hX => ?_)
  show SW E G (.inl (some (.int r), σ1)) A 4 σ 0 [(0, kr E l0), (1, .int l1), (2, .int l2), (3, .int l3)] []
  unfold X2_addLearning at h
  refine r_aload_n hX dX2_addLearning_0 rfl 0 rfl ?_
  refine r_gR hX dX2_addLearning_1 kf_X2_14 rfl h ?_
  clear h; intro t1 h
  refine r_iload_n hX dX2_addLearning_4 rfl 1 rfl ?_
  refine r_cVv (As := [.int l1]) (st := []) hX dX2_addLearning_5 kl_X6_add w_ml_X2_45 w_im_X6_add w_se_X6_add ⟨_, _, rfl⟩ (by decide) rfl (Nat.le_of_ble_eq_true rfl) rfl kdz0 h (fun r σ1 h => wX6_add h) ?_
  clear h; intro u σ h
  refine r_aload_n hX dX2_addLearning_8 rfl 0 rfl ?_
  refine r_gR hX dX2_addLearning_9 kf_X2_20 rfl h ?_
  clear h; intro t2 h
  refine r_iload_n hX dX2_addLearning_12 rfl 2 rfl ?_
  refine r_cVv (As := [.int l2]) (st := []) hX dX2_addLearning_13 kl_X6_add w_ml_X2_45 w_im_X6_add w_se_X6_add ⟨_, _, rfl⟩ (by decide) rfl (Nat.le_of_ble_eq_true rfl) rfl kdz0 h (fun r σ1 h => wX6_add h) ?_
  clear h; intro u σ h
  refine r_aload_n hX dX2_addLearning_16 rfl 0 rfl ?_
  refine r_gR hX dX2_addLearning_17 kf_X2_23 rfl h ?_
  clear h; intro t3 h
  refine r_iload_n hX dX2_addLearning_20 rfl 3 rfl ?_
  refine r_cVv (As := [.int l3]) (st := []) hX dX2_addLearning_21 kl_X6_add w_ml_X2_45 w_im_X6_add w_se_X6_add ⟨_, _, rfl⟩ (by decide) rfl (Nat.le_of_ble_eq_true rfl) rfl kdz0 h (fun r σ1 h => wX6_add h) ?_
  clear h; intro u σ h
  refine r_aload_n hX dX2_addLearning_24 rfl 0 rfl ?_
  refine r_cVi (As := []) (st := []) hX dX2_addLearning_25 kl_X2_learnings w_ml_X2_48 w_im_X2_learnings w_se_X2_learnings ⟨_, _, rfl⟩ (by decide) rfl (Nat.le_of_ble_eq_true rfl) rfl kdz0 h (fun r σ1 h => wX2_learnings h) ?_
  clear h; intro t4 σ h
  exact r_iret hX dX2_addLearning_28 h
def X2_latestDay_37 (G : kdS) (k4 : Nat → Int32 → Int32 → Int32 → kdM → Option (Int32 × kdM)) (l0 : Nat) (l1 : Int32) (l2 : Int32) (l3 : Int32) : kdM → Option (Int32 × kdM) :=
  ltI (l3 + Int32.ofInt 1) fun t1 =>
  k4 l0 l1 l2 t1
set_option maxRecDepth 100000 in
set_option maxHeartbeats 4000000 in
theorem wX2_latestDay_37 {E : kdE} {G : kdS} {A : kdA} {r : Int32} {σ1 : kdM} (hX : kdX E A cX2_latestDay 4 RX2 (some .int) 2) (k4 : Nat → Int32 → Int32 → Int32 → kdM → Option (Int32 × kdM)) (hk4 : ∀ (l0 : Nat) (l1 : Int32) (l2 : Int32) (l3 : Int32) (σ : kdM), k4 l0 l1 l2 l3 σ = some (r, σ1) → SW E G (.inl (some (.int r), σ1)) A 4 σ 4 [(0, kr E l0), (1, .int l1), (2, .int l2), (3, .int l3)] []) {σ : kdM} {l0 : Nat} {l1 : Int32} {l2 : Int32} {l3 : Int32} (h : X2_latestDay_37 G k4 l0 l1 l2 l3 σ = some (r, σ1)) : SW E G (.inl (some (.int r), σ1)) A 4 σ 37 [(0, kr E l0), (1, .int l1), (2, .int l2), (3, .int l3)] [] := by
  unfold X2_latestDay_37 at h
  refine r_iincL (L2 := fun t1 => [(3, .int t1), (0, kr E l0), (1, .int l1), (2, .int l2)]) hX dX2_latestDay_37 h 3 rfl (by decide) (fun _ => rfl) ?_
  clear h; intro t1 h
  refine r_goto (tgt := 4) hX dX2_latestDay_40 (by decide) ?_
  refine r_sub [1, 2, 3, 0] rfl ?_
  exact hk4 _ _ _ _ _ h
def X2_latestDay_4B (G : kdS) (k4 : Nat → Int32 → Int32 → Int32 → kdM → Option (Int32 × kdM)) (l0 : Nat) (l1 : Int32) (l2 : Int32) (l3 : Int32) : kdM → Option (Int32 × kdM) :=
  kcv G 2 l0 (X2_learnings G l0) fun t1 =>
  cnd (t1 ≤ l3)
    (rt l2)
    (gR G 2 0 l0 fun t2 =>
    kcv G 6 t2 (X6_at G t2 l3) fun t3 =>
    cnd (t3 = l1)
      (gR G 2 2 l0 fun t4 =>
      kcv G 6 t4 (X6_at G t4 l3) fun t5 =>
      ltI ((kmax l2 t5)) fun t6 =>
      X2_latestDay_37 G k4 l0 l1 t6 l3)
      (X2_latestDay_37 G k4 l0 l1 l2 l3))
set_option maxRecDepth 100000 in
set_option maxHeartbeats 4000000 in
theorem wX2_latestDay_4B {E : kdE} {G : kdS} {A : kdA} {r : Int32} {σ1 : kdM} (hX : kdX E A cX2_latestDay 4 RX2 (some .int) 2) (k4 : Nat → Int32 → Int32 → Int32 → kdM → Option (Int32 × kdM)) (hk4 : ∀ (l0 : Nat) (l1 : Int32) (l2 : Int32) (l3 : Int32) (σ : kdM), k4 l0 l1 l2 l3 σ = some (r, σ1) → SW E G (.inl (some (.int r), σ1)) A 4 σ 4 [(0, kr E l0), (1, .int l1), (2, .int l2), (3, .int l3)] []) {σ : kdM} {l0 : Nat} {l1 : Int32} {l2 : Int32} {l3 : Int32} (h : X2_latestDay_4B G k4 l0 l1 l2 l3 σ = some (r, σ1)) : SW E G (.inl (some (.int r), σ1)) A 4 σ 4 [(0, kr E l0), (1, .int l1), (2, .int l2), (3, .int l3)] [] := by
  unfold X2_latestDay_4B at h
  refine r_iload_n hX dX2_latestDay_4 rfl 3 rfl ?_
  refine r_aload_n hX dX2_latestDay_5 rfl 0 rfl ?_
  refine r_cVi (As := []) (st := [.int l3]) hX dX2_latestDay_6 kl_X2_learnings w_ml_X2_48 w_im_X2_learnings w_se_X2_learnings ⟨_, _, rfl⟩ (by decide) rfl (Nat.le_of_ble_eq_true rfl) rfl kdz0 h (fun r σ1 h => wX2_learnings h) ?_
  clear h; intro t1 σ h
  refine r_icmp_ge (tgt := 43) hX dX2_latestDay_9 (by decide) h ?_ ?_
  · clear h; intro h
    refine r_iload_n hX dX2_latestDay_43 rfl 2 rfl ?_
    exact r_iret hX dX2_latestDay_44 h
  · clear h; intro h
    refine r_aload_n hX dX2_latestDay_12 rfl 0 rfl ?_
    refine r_gR hX dX2_latestDay_13 kf_X2_14 rfl h ?_
    clear h; intro t2 h
    refine r_iload_n hX dX2_latestDay_16 rfl 3 rfl ?_
    refine r_cVi (As := [.int l3]) (st := []) hX dX2_latestDay_17 kl_X6_at w_ml_X2_51 w_im_X6_at w_se_X6_at ⟨_, _, rfl⟩ (by decide) rfl (Nat.le_of_ble_eq_true rfl) rfl kdz0 h (fun r σ1 h => wX6_at h) ?_
    clear h; intro t3 σ h
    refine r_iload_n hX dX2_latestDay_20 rfl 1 rfl ?_
    refine r_icmp_ne (tgt := 37) hX dX2_latestDay_21 (by decide) h ?_ ?_
    · clear h; intro h
      refine r_iload_n hX dX2_latestDay_24 rfl 2 rfl ?_
      refine r_aload_n hX dX2_latestDay_25 rfl 0 rfl ?_
      refine r_gR hX dX2_latestDay_26 kf_X2_23 rfl h ?_
      clear h; intro t4 h
      refine r_iload_n hX dX2_latestDay_29 rfl 3 rfl ?_
      refine r_cVi (As := [.int l3]) (st := [.int l2]) hX dX2_latestDay_30 kl_X6_at w_ml_X2_51 w_im_X6_at w_se_X6_at ⟨_, _, rfl⟩ (by decide) rfl (Nat.le_of_ble_eq_true rfl) rfl kdz0 h (fun r σ1 h => wX6_at h) ?_
      clear h; intro t5 σ h
      refine r_mmax hX dX2_latestDay_33 w_ml_X2_55 w_st_Math_max w_in_Math w_cd_Math_max (by decide) (Nat.le_of_ble_eq_true rfl) kdz0 ?_
      refine r_letI h ?_
      clear h; intro t6 h
      refine r_istore_n (L2 := [(2, .int t6), (0, kr E l0), (1, .int l1), (3, .int l3)]) hX dX2_latestDay_36 rfl (by decide) rfl ?_
      refine r_sub [1, 2, 0, 3] rfl ?_
      exact wX2_latestDay_37 hX k4 hk4 h
    · clear h; intro h
      refine r_sub [0, 1, 2, 3] rfl ?_
      exact wX2_latestDay_37 hX k4 hk4 h
def X2_latestDay_4 (G : kdS) : Nat → Int32 → Int32 → Int32 → kdM → Option (Int32 × kdM) := lp (fun _ _ _ _ _ => none) (X2_latestDay_4B G) NN
theorem wX2_latestDay_4 {E : kdE} {G : kdS} {A : kdA} {r : Int32} {σ1 : kdM} (hX : kdX E A cX2_latestDay 4 RX2 (some .int) 2) : ∀ (l0 : Nat) (l1 : Int32) (l2 : Int32) (l3 : Int32) (σ : kdM), X2_latestDay_4 G l0 l1 l2 l3 σ = some (r, σ1) → SW E G (.inl (some (.int r), σ1)) A 4 σ 4 [(0, kr E l0), (1, .int l1), (2, .int l2), (3, .int l3)] [] :=
  lp_ind (Q := fun f => ∀ (l0 : Nat) (l1 : Int32) (l2 : Int32) (l3 : Int32) (σ : kdM), f l0 l1 l2 l3 σ = some (r, σ1) → SW E G (.inl (some (.int r), σ1)) A 4 σ 4 [(0, kr E l0), (1, .int l1), (2, .int l2), (3, .int l3)] []) (by intros; contradiction) (fun k hk l0 l1 l2 l3 σ h => wX2_latestDay_4B hX k hk h) NN
def X2_latestDay (G : kdS) (l0 : Nat) (l1 : Int32) : kdM → Option (Int32 × kdM) :=
  X2_latestDay_4 G l0 l1 (0 : Int32) (0 : Int32)
set_option maxRecDepth 100000 in
set_option maxHeartbeats 4000000 in
theorem wX2_latestDay {E : kdE} {G : kdS} {l0 : Nat} {l1 : Int32} {σ : kdM} {r : Int32} {σ1 : kdM} (h : X2_latestDay G l0 l1 σ = some (r, σ1)) : Con E G yX2_latestDay cX2_latestDay 4 (some .int) 2 [kr E l0, .int l1] σ (some (.int r), σ1) := by
  refine kd_head (own := RX2) rfl (by decide +kernel) (Nat.le_of_ble_eq_true rfl) (fun A hX => ?_)
  show SW E G (.inl (some (.int r), σ1)) A 4 σ 0 [(0, kr E l0), (1, .int l1)] []
  unfold X2_latestDay at h
  refine r_iconst hX dX2_latestDay_0 kk_i_0 ?_
  refine r_istore_n (L2 := [(2, .int (0 : Int32)), (0, kr E l0), (1, .int l1)]) hX dX2_latestDay_1 rfl (by decide) rfl ?_
  refine r_iconst hX dX2_latestDay_2 kk_i_0 ?_
  refine r_istore_n (L2 := [(3, .int (0 : Int32)), (2, .int (0 : Int32)), (0, kr E l0), (1, .int l1)]) hX dX2_latestDay_3 rfl (by decide) rfl ?_
  refine r_sub [2, 3, 1, 0] rfl ?_
  exact wX2_latestDay_4 hX _ _ _ _ _ h
def X2_faded_6B (G : kdS) (k6 : Nat → Int32 → Int32 → Int32 → kdM → Option (Int32 × kdM)) (l0 : Nat) (l1 : Int32) (l2 : Int32) (l3 : Int32) : kdM → Option (Int32 × kdM) :=
  cnd (l1 ≤ l3)
    (rt l2)
    (gI G 2 4 l0 fun t1 =>
    nz (1000 : Int32) <|
    ltI (((l2 * t1) / (1000 : Int32))) fun t2 =>
    cnd (t2 = l2)
      (rt l2)
      (ltI (l3 + Int32.ofInt 1) fun t3 =>
      k6 l0 l1 t2 t3))
set_option maxRecDepth 100000 in
set_option maxHeartbeats 4000000 in
theorem wX2_faded_6B {E : kdE} {G : kdS} {A : kdA} {r : Int32} {σ1 : kdM} (hX : kdX E A cX2_faded 5 RX2 (some .int) 0) (k6 : Nat → Int32 → Int32 → Int32 → kdM → Option (Int32 × kdM)) (hk6 : ∀ (l0 : Nat) (l1 : Int32) (l2 : Int32) (l3 : Int32) (σ : kdM), k6 l0 l1 l2 l3 σ = some (r, σ1) → SW E G (.inl (some (.int r), σ1)) A 5 σ 6 [(0, kr E l0), (1, .int l1), (2, .int l2), (3, .int l3)] []) {σ : kdM} {l0 : Nat} {l1 : Int32} {l2 : Int32} {l3 : Int32} (h : X2_faded_6B G k6 l0 l1 l2 l3 σ = some (r, σ1)) : SW E G (.inl (some (.int r), σ1)) A 5 σ 6 [(0, kr E l0), (1, .int l1), (2, .int l2), (3, .int l3)] [] := by
  unfold X2_faded_6B at h
  refine r_iload_n hX dX2_faded_6 rfl 3 rfl ?_
  refine r_iload_n hX dX2_faded_7 rfl 1 rfl ?_
  refine r_icmp_ge (tgt := 40) hX dX2_faded_8 (by decide) h ?_ ?_
  · clear h; intro h
    refine r_iload_n hX dX2_faded_40 rfl 2 rfl ?_
    exact r_iret hX dX2_faded_41 h
  · clear h; intro h
    refine r_iload_n hX dX2_faded_11 rfl 2 rfl ?_
    refine r_aload_n hX dX2_faded_12 rfl 0 rfl ?_
    refine r_gI hX dX2_faded_13 kf_X2_30 rfl h ?_
    clear h; intro t1 h
    refine r_imul hX dX2_faded_16 ?_
    refine r_sipush hX dX2_faded_17 kk_s_1000 ?_
    refine r_idiv hX dX2_faded_20 h ?_
    clear h; intro h
    refine r_letI h ?_
    clear h; intro t2 h
    refine r_istore (L2 := [(4, .int t2), (0, kr E l0), (1, .int l1), (2, .int l2), (3, .int l3)]) hX dX2_faded_21 (by decide) rfl ?_
    refine r_iload hX dX2_faded_23 0 rfl ?_
    refine r_iload_n hX dX2_faded_25 rfl 3 rfl ?_
    refine r_icmp_ne (tgt := 31) hX dX2_faded_26 (by decide) h ?_ ?_
    · clear h; intro h
      refine r_iload_n hX dX2_faded_29 rfl 3 rfl ?_
      exact r_iret hX dX2_faded_30 h
    · clear h; intro h
      refine r_iload hX dX2_faded_31 0 rfl ?_
      refine r_istore_n (L2 := [(2, .int t2), (4, .int t2), (0, kr E l0), (1, .int l1), (3, .int l3)]) hX dX2_faded_33 rfl (by decide) rfl ?_
      refine r_iincL (L2 := fun t3 => [(3, .int t3), (2, .int t2), (4, .int t2), (0, kr E l0), (1, .int l1)]) hX dX2_faded_34 h 4 rfl (by decide) (fun _ => rfl) ?_
      clear h; intro t3 h
      refine r_goto (tgt := 6) hX dX2_faded_37 (by decide) ?_
      refine r_sub [3, 4, 1, 0] rfl ?_
      exact hk6 _ _ _ _ _ h
def X2_faded_6 (G : kdS) : Nat → Int32 → Int32 → Int32 → kdM → Option (Int32 × kdM) := lp (fun _ _ _ _ _ => none) (X2_faded_6B G) NN
theorem wX2_faded_6 {E : kdE} {G : kdS} {A : kdA} {r : Int32} {σ1 : kdM} (hX : kdX E A cX2_faded 5 RX2 (some .int) 0) : ∀ (l0 : Nat) (l1 : Int32) (l2 : Int32) (l3 : Int32) (σ : kdM), X2_faded_6 G l0 l1 l2 l3 σ = some (r, σ1) → SW E G (.inl (some (.int r), σ1)) A 5 σ 6 [(0, kr E l0), (1, .int l1), (2, .int l2), (3, .int l3)] [] :=
  lp_ind (Q := fun f => ∀ (l0 : Nat) (l1 : Int32) (l2 : Int32) (l3 : Int32) (σ : kdM), f l0 l1 l2 l3 σ = some (r, σ1) → SW E G (.inl (some (.int r), σ1)) A 5 σ 6 [(0, kr E l0), (1, .int l1), (2, .int l2), (3, .int l3)] []) (by intros; contradiction) (fun k hk l0 l1 l2 l3 σ h => wX2_faded_6B hX k hk h) NN
def X2_faded (G : kdS) (l0 : Nat) (l1 : Int32) : kdM → Option (Int32 × kdM) :=
  X2_faded_6 G l0 l1 (1000 : Int32) (0 : Int32)
set_option maxRecDepth 100000 in
set_option maxHeartbeats 4000000 in
theorem wX2_faded {E : kdE} {G : kdS} {l0 : Nat} {l1 : Int32} {σ : kdM} {r : Int32} {σ1 : kdM} (h : X2_faded G l0 l1 σ = some (r, σ1)) : Con E G yX2_faded cX2_faded 5 (some .int) 0 [kr E l0, .int l1] σ (some (.int r), σ1) := by
  refine kd_head (own := RX2) rfl (by decide +kernel) (Nat.le_of_ble_eq_true rfl) (fun A hX => ?_)
  show SW E G (.inl (some (.int r), σ1)) A 5 σ 0 [(0, kr E l0), (1, .int l1)] []
  unfold X2_faded at h
  refine r_sipush hX dX2_faded_0 kk_s_1000 ?_
  refine r_istore_n (L2 := [(2, .int (1000 : Int32)), (0, kr E l0), (1, .int l1)]) hX dX2_faded_3 rfl (by decide) rfl ?_
  refine r_iconst hX dX2_faded_4 kk_i_0 ?_
  refine r_istore_n (L2 := [(3, .int (0 : Int32)), (2, .int (1000 : Int32)), (0, kr E l0), (1, .int l1)]) hX dX2_faded_5 rfl (by decide) rfl ?_
  refine r_sub [2, 3, 1, 0] rfl ?_
  exact wX2_faded_6 hX _ _ _ _ _ h
def X2_isOf_29 (G : kdS) (s0 : Int32) : kdM → Option (Int32 × kdM) :=
  rt (vp_nar .boolean s0)
set_option maxRecDepth 100000 in
set_option maxHeartbeats 4000000 in
theorem wX2_isOf_29 {E : kdE} {G : kdS} {A : kdA} {r : Int32} {σ1 : kdM} (hX : kdX E A cX2_isOf 4 RX2 (some .boolean) 1) {σ : kdM} {s0 : Int32} (h : X2_isOf_29 G s0 σ = some (r, σ1)) : SW E G (.inl (some (.int r), σ1)) A 4 σ 29 [] [.int s0] := by
  unfold X2_isOf_29 at h
  exact r_zret hX dX2_isOf_29 h
def X2_isOf_28 (G : kdS) : kdM → Option (Int32 × kdM) :=
  X2_isOf_29 G (0 : Int32)
set_option maxRecDepth 100000 in
set_option maxHeartbeats 4000000 in
theorem wX2_isOf_28 {E : kdE} {G : kdS} {A : kdA} {r : Int32} {σ1 : kdM} (hX : kdX E A cX2_isOf 4 RX2 (some .boolean) 1) {σ : kdM} (h : X2_isOf_28 G  σ = some (r, σ1)) : SW E G (.inl (some (.int r), σ1)) A 4 σ 28 [] [] := by
  unfold X2_isOf_28 at h
  refine r_iconst hX dX2_isOf_28 kk_i_0 ?_
  refine r_sub [] rfl ?_
  exact wX2_isOf_29 hX h
def X2_isOf (G : kdS) (l0 : Nat) (l1 : Int32) (l2 : Int32) (l3 : Int32) : kdM → Option (Int32 × kdM) :=
  gR G 2 0 l0 fun t1 =>
  kcv G 6 t1 (X6_at G t1 l1) fun t2 =>
  cnd (t2 = l2)
    (gR G 2 1 l0 fun t3 =>
    kcv G 6 t3 (X6_at G t3 l1) fun t4 =>
    cnd (t4 = l3)
      (X2_isOf_29 G (1 : Int32))
      (X2_isOf_28 G ))
    (X2_isOf_28 G )
set_option maxRecDepth 100000 in
set_option maxHeartbeats 4000000 in
theorem wX2_isOf {E : kdE} {G : kdS} {l0 : Nat} {l1 : Int32} {l2 : Int32} {l3 : Int32} {σ : kdM} {r : Int32} {σ1 : kdM} (h : X2_isOf G l0 l1 l2 l3 σ = some (r, σ1)) : Con E G yX2_isOf cX2_isOf 4 (some .boolean) 1 [kr E l0, .int l1, .int l2, .int l3] σ (some (.int r), σ1) := by
  refine kd_head (own := RX2) rfl (by decide +kernel) (Nat.le_of_ble_eq_true rfl) (fun A hX => ?_)
  show SW E G (.inl (some (.int r), σ1)) A 4 σ 0 [(0, kr E l0), (1, .int l1), (2, .int l2), (3, .int l3)] []
  unfold X2_isOf at h
  refine r_aload_n hX dX2_isOf_0 rfl 0 rfl ?_
  refine r_gR hX dX2_isOf_1 kf_X2_14 rfl h ?_
  clear h; intro t1 h
  refine r_iload_n hX dX2_isOf_4 rfl 1 rfl ?_
  refine r_cVi (As := [.int l1]) (st := []) hX dX2_isOf_5 kl_X6_at w_ml_X2_51 w_im_X6_at w_se_X6_at ⟨_, _, rfl⟩ (by decide) rfl (Nat.le_of_ble_eq_true rfl) rfl kdz0 h (fun r σ1 h => wX6_at h) ?_
  clear h; intro t2 σ h
  refine r_iload_n hX dX2_isOf_8 rfl 2 rfl ?_
  refine r_icmp_ne (tgt := 28) hX dX2_isOf_9 (by decide) h ?_ ?_
  · clear h; intro h
    refine r_aload_n hX dX2_isOf_12 rfl 0 rfl ?_
    refine r_gR hX dX2_isOf_13 kf_X2_20 rfl h ?_
    clear h; intro t3 h
    refine r_iload_n hX dX2_isOf_16 rfl 1 rfl ?_
    refine r_cVi (As := [.int l1]) (st := []) hX dX2_isOf_17 kl_X6_at w_ml_X2_51 w_im_X6_at w_se_X6_at ⟨_, _, rfl⟩ (by decide) rfl (Nat.le_of_ble_eq_true rfl) rfl kdz0 h (fun r σ1 h => wX6_at h) ?_
    clear h; intro t4 σ h
    refine r_iload_n hX dX2_isOf_20 rfl 3 rfl ?_
    refine r_icmp_ne (tgt := 28) hX dX2_isOf_21 (by decide) h ?_ ?_
    · clear h; intro h
      refine r_iconst hX dX2_isOf_24 kk_i_1 ?_
      refine r_goto (tgt := 29) hX dX2_isOf_25 (by decide) ?_
      refine r_sub [] rfl ?_
      exact wX2_isOf_29 hX h
    · clear h; intro h
      refine r_sub [] rfl ?_
      exact wX2_isOf_28 hX h
  · clear h; intro h
    refine r_sub [] rfl ?_
    exact wX2_isOf_28 hX h
def X2_worthOf_59 (G : kdS) (k6 : Nat → Int32 → Int32 → Int32 → Int32 → Int32 → kdM → Option (Int32 × kdM)) (l0 : Nat) (l1 : Int32) (l2 : Int32) (l3 : Int32) (l4 : Int32) (l5 : Int32) : kdM → Option (Int32 × kdM) :=
  ltI (l5 + Int32.ofInt 1) fun t1 =>
  k6 l0 l1 l2 l3 l4 t1
set_option maxRecDepth 100000 in
set_option maxHeartbeats 4000000 in
theorem wX2_worthOf_59 {E : kdE} {G : kdS} {A : kdA} {r : Int32} {σ1 : kdM} (hX : kdX E A cX2_worthOf 6 RX2 (some .int) 2) (k6 : Nat → Int32 → Int32 → Int32 → Int32 → Int32 → kdM → Option (Int32 × kdM)) (hk6 : ∀ (l0 : Nat) (l1 : Int32) (l2 : Int32) (l3 : Int32) (l4 : Int32) (l5 : Int32) (σ : kdM), k6 l0 l1 l2 l3 l4 l5 σ = some (r, σ1) → SW E G (.inl (some (.int r), σ1)) A 6 σ 6 [(0, kr E l0), (1, .int l1), (2, .int l2), (3, .int l3), (4, .int l4), (5, .int l5)] []) {σ : kdM} {l0 : Nat} {l1 : Int32} {l2 : Int32} {l3 : Int32} {l4 : Int32} {l5 : Int32} (h : X2_worthOf_59 G k6 l0 l1 l2 l3 l4 l5 σ = some (r, σ1)) : SW E G (.inl (some (.int r), σ1)) A 6 σ 59 [(0, kr E l0), (1, .int l1), (2, .int l2), (3, .int l3), (4, .int l4), (5, .int l5)] [] := by
  unfold X2_worthOf_59 at h
  refine r_iincL (L2 := fun t1 => [(5, .int t1), (0, kr E l0), (1, .int l1), (2, .int l2), (3, .int l3), (4, .int l4)]) hX dX2_worthOf_59 h 5 rfl (by decide) (fun _ => rfl) ?_
  clear h; intro t1 h
  refine r_goto (tgt := 6) hX dX2_worthOf_62 (by decide) ?_
  refine r_sub [1, 2, 3, 4, 5, 0] rfl ?_
  exact hk6 _ _ _ _ _ _ _ h
def X2_worthOf_6B (G : kdS) (k6 : Nat → Int32 → Int32 → Int32 → Int32 → Int32 → kdM → Option (Int32 × kdM)) (l0 : Nat) (l1 : Int32) (l2 : Int32) (l3 : Int32) (l4 : Int32) (l5 : Int32) : kdM → Option (Int32 × kdM) :=
  kcv G 2 l0 (X2_learnings G l0) fun t1 =>
  cnd (t1 ≤ l5)
    (rt l4)
    (kcv G 2 l0 (X2_isOf G l0 l5 l1 l2) fun t2 =>
    cnd (t2 = 0)
      (X2_worthOf_59 G k6 l0 l1 l2 l3 l4 l5)
      (gR G 2 2 l0 fun t3 =>
      kcv G 6 t3 (X6_at G t3 l5) fun t4 =>
      cnd (l3 < t4)
        (X2_worthOf_59 G k6 l0 l1 l2 l3 l4 l5)
        (gR G 2 2 l0 fun t5 =>
        kcv G 6 t5 (X6_at G t5 l5) fun t6 =>
        kcv G 2 l0 (X2_faded G l0 (l3 - t6)) fun t7 =>
        ltI ((l4 + t7)) fun t8 =>
        X2_worthOf_59 G k6 l0 l1 l2 l3 t8 l5)))
set_option maxRecDepth 100000 in
set_option maxHeartbeats 4000000 in
theorem wX2_worthOf_6B {E : kdE} {G : kdS} {A : kdA} {r : Int32} {σ1 : kdM} (hX : kdX E A cX2_worthOf 6 RX2 (some .int) 2) (k6 : Nat → Int32 → Int32 → Int32 → Int32 → Int32 → kdM → Option (Int32 × kdM)) (hk6 : ∀ (l0 : Nat) (l1 : Int32) (l2 : Int32) (l3 : Int32) (l4 : Int32) (l5 : Int32) (σ : kdM), k6 l0 l1 l2 l3 l4 l5 σ = some (r, σ1) → SW E G (.inl (some (.int r), σ1)) A 6 σ 6 [(0, kr E l0), (1, .int l1), (2, .int l2), (3, .int l3), (4, .int l4), (5, .int l5)] []) {σ : kdM} {l0 : Nat} {l1 : Int32} {l2 : Int32} {l3 : Int32} {l4 : Int32} {l5 : Int32} (h : X2_worthOf_6B G k6 l0 l1 l2 l3 l4 l5 σ = some (r, σ1)) : SW E G (.inl (some (.int r), σ1)) A 6 σ 6 [(0, kr E l0), (1, .int l1), (2, .int l2), (3, .int l3), (4, .int l4), (5, .int l5)] [] := by
  unfold X2_worthOf_6B at h
  refine r_iload hX dX2_worthOf_6 5 rfl ?_
  refine r_aload_n hX dX2_worthOf_8 rfl 0 rfl ?_
  refine r_cVi (As := []) (st := [.int l5]) hX dX2_worthOf_9 kl_X2_learnings w_ml_X2_48 w_im_X2_learnings w_se_X2_learnings ⟨_, _, rfl⟩ (by decide) rfl (Nat.le_of_ble_eq_true rfl) rfl kdz0 h (fun r σ1 h => wX2_learnings h) ?_
  clear h; intro t1 σ h
  refine r_icmp_ge (tgt := 65) hX dX2_worthOf_12 (by decide) h ?_ ?_
  · clear h; intro h
    refine r_iload hX dX2_worthOf_65 4 rfl ?_
    exact r_iret hX dX2_worthOf_67 h
  · clear h; intro h
    refine r_aload_n hX dX2_worthOf_15 rfl 0 rfl ?_
    refine r_iload hX dX2_worthOf_16 5 rfl ?_
    refine r_iload_n hX dX2_worthOf_18 rfl 1 rfl ?_
    refine r_iload_n hX dX2_worthOf_19 rfl 2 rfl ?_
    refine r_cVi (As := [.int l5, .int l1, .int l2]) (st := []) hX dX2_worthOf_20 kl_X2_isOf w_ml_X2_61 w_im_X2_isOf w_se_X2_isOf ⟨_, _, rfl⟩ (by decide) rfl (Nat.le_of_ble_eq_true rfl) rfl kdz0 h (fun r σ1 h => wX2_isOf h) ?_
    clear h; intro t2 σ h
    refine r_if_eq (tgt := 59) hX dX2_worthOf_23 (by decide) h ?_ ?_
    · clear h; intro h
      refine r_sub [0, 1, 2, 3, 4, 5] rfl ?_
      exact wX2_worthOf_59 hX k6 hk6 h
    · clear h; intro h
      refine r_aload_n hX dX2_worthOf_26 rfl 0 rfl ?_
      refine r_gR hX dX2_worthOf_27 kf_X2_23 rfl h ?_
      clear h; intro t3 h
      refine r_iload hX dX2_worthOf_30 5 rfl ?_
      refine r_cVi (As := [.int l5]) (st := []) hX dX2_worthOf_32 kl_X6_at w_ml_X2_51 w_im_X6_at w_se_X6_at ⟨_, _, rfl⟩ (by decide) rfl (Nat.le_of_ble_eq_true rfl) rfl kdz0 h (fun r σ1 h => wX6_at h) ?_
      clear h; intro t4 σ h
      refine r_iload_n hX dX2_worthOf_35 rfl 3 rfl ?_
      refine r_icmp_gt (tgt := 59) hX dX2_worthOf_36 (by decide) h ?_ ?_
      · clear h; intro h
        refine r_sub [0, 1, 2, 3, 4, 5] rfl ?_
        exact wX2_worthOf_59 hX k6 hk6 h
      · clear h; intro h
        refine r_iload hX dX2_worthOf_39 4 rfl ?_
        refine r_aload_n hX dX2_worthOf_41 rfl 0 rfl ?_
        refine r_iload_n hX dX2_worthOf_42 rfl 3 rfl ?_
        refine r_aload_n hX dX2_worthOf_43 rfl 0 rfl ?_
        refine r_gR hX dX2_worthOf_44 kf_X2_23 rfl h ?_
        clear h; intro t5 h
        refine r_iload hX dX2_worthOf_47 5 rfl ?_
        refine r_cVi (As := [.int l5]) (st := [.int l3, kr E l0, .int l4]) hX dX2_worthOf_49 kl_X6_at w_ml_X2_51 w_im_X6_at w_se_X6_at ⟨_, _, rfl⟩ (by decide) rfl (Nat.le_of_ble_eq_true rfl) rfl kdz0 h (fun r σ1 h => wX6_at h) ?_
        clear h; intro t6 σ h
        refine r_isub hX dX2_worthOf_52 ?_
        refine r_cVi (As := [.int (l3 - t6)]) (st := [.int l4]) hX dX2_worthOf_53 kl_X2_faded w_ml_X2_65 w_im_X2_faded w_se_X2_faded ⟨_, _, rfl⟩ (by decide) rfl (Nat.le_of_ble_eq_true rfl) rfl kdz0 h (fun r σ1 h => wX2_faded h) ?_
        clear h; intro t7 σ h
        refine r_iadd hX dX2_worthOf_56 ?_
        refine r_letI h ?_
        clear h; intro t8 h
        refine r_istore (L2 := [(4, .int t8), (0, kr E l0), (1, .int l1), (2, .int l2), (3, .int l3), (5, .int l5)]) hX dX2_worthOf_57 (by decide) rfl ?_
        refine r_sub [1, 2, 3, 4, 0, 5] rfl ?_
        exact wX2_worthOf_59 hX k6 hk6 h
def X2_worthOf_6 (G : kdS) : Nat → Int32 → Int32 → Int32 → Int32 → Int32 → kdM → Option (Int32 × kdM) := lp (fun _ _ _ _ _ _ _ => none) (X2_worthOf_6B G) NN
theorem wX2_worthOf_6 {E : kdE} {G : kdS} {A : kdA} {r : Int32} {σ1 : kdM} (hX : kdX E A cX2_worthOf 6 RX2 (some .int) 2) : ∀ (l0 : Nat) (l1 : Int32) (l2 : Int32) (l3 : Int32) (l4 : Int32) (l5 : Int32) (σ : kdM), X2_worthOf_6 G l0 l1 l2 l3 l4 l5 σ = some (r, σ1) → SW E G (.inl (some (.int r), σ1)) A 6 σ 6 [(0, kr E l0), (1, .int l1), (2, .int l2), (3, .int l3), (4, .int l4), (5, .int l5)] [] :=
  lp_ind (Q := fun f => ∀ (l0 : Nat) (l1 : Int32) (l2 : Int32) (l3 : Int32) (l4 : Int32) (l5 : Int32) (σ : kdM), f l0 l1 l2 l3 l4 l5 σ = some (r, σ1) → SW E G (.inl (some (.int r), σ1)) A 6 σ 6 [(0, kr E l0), (1, .int l1), (2, .int l2), (3, .int l3), (4, .int l4), (5, .int l5)] []) (by intros; contradiction) (fun k hk l0 l1 l2 l3 l4 l5 σ h => wX2_worthOf_6B hX k hk h) NN
def X2_worthOf (G : kdS) (l0 : Nat) (l1 : Int32) (l2 : Int32) (l3 : Int32) : kdM → Option (Int32 × kdM) :=
  X2_worthOf_6 G l0 l1 l2 l3 (0 : Int32) (0 : Int32)
set_option maxRecDepth 100000 in
set_option maxHeartbeats 4000000 in
theorem wX2_worthOf {E : kdE} {G : kdS} {l0 : Nat} {l1 : Int32} {l2 : Int32} {l3 : Int32} {σ : kdM} {r : Int32} {σ1 : kdM} (h : X2_worthOf G l0 l1 l2 l3 σ = some (r, σ1)) : Con E G yX2_worthOf cX2_worthOf 6 (some .int) 2 [kr E l0, .int l1, .int l2, .int l3] σ (some (.int r), σ1) := by
  refine kd_head (own := RX2) rfl (by decide +kernel) (Nat.le_of_ble_eq_true rfl) (fun A hX => ?_)
  show SW E G (.inl (some (.int r), σ1)) A 6 σ 0 [(0, kr E l0), (1, .int l1), (2, .int l2), (3, .int l3)] []
  unfold X2_worthOf at h
  refine r_iconst hX dX2_worthOf_0 kk_i_0 ?_
  refine r_istore (L2 := [(4, .int (0 : Int32)), (0, kr E l0), (1, .int l1), (2, .int l2), (3, .int l3)]) hX dX2_worthOf_1 (by decide) rfl ?_
  refine r_iconst hX dX2_worthOf_3 kk_i_0 ?_
  refine r_istore (L2 := [(5, .int (0 : Int32)), (4, .int (0 : Int32)), (0, kr E l0), (1, .int l1), (2, .int l2), (3, .int l3)]) hX dX2_worthOf_4 (by decide) rfl ?_
  refine r_sub [2, 3, 4, 5, 1, 0] rfl ?_
  exact wX2_worthOf_6 hX _ _ _ _ _ _ _ h
def X2_dropLearnings_73 (G : kdS) (k10 : Nat → Int32 → Int32 → Int32 → Int32 → kdM → Option (Int32 × kdM)) (l0 : Nat) (l1 : Int32) (l2 : Int32) (l3 : Int32) (l4 : Int32) : kdM → Option (Int32 × kdM) :=
  ltI (l4 + Int32.ofInt (-1)) fun t1 =>
  k10 l0 l1 l2 l3 t1
set_option maxRecDepth 100000 in
set_option maxHeartbeats 4000000 in
theorem wX2_dropLearnings_73 {E : kdE} {G : kdS} {A : kdA} {r : Int32} {σ1 : kdM} (hX : kdX E A cX2_dropLearnings 5 RX2 (some .int) 2) (k10 : Nat → Int32 → Int32 → Int32 → Int32 → kdM → Option (Int32 × kdM)) (hk10 : ∀ (l0 : Nat) (l1 : Int32) (l2 : Int32) (l3 : Int32) (l4 : Int32) (σ : kdM), k10 l0 l1 l2 l3 l4 σ = some (r, σ1) → SW E G (.inl (some (.int r), σ1)) A 5 σ 10 [(0, kr E l0), (1, .int l1), (2, .int l2), (3, .int l3), (4, .int l4)] []) {σ : kdM} {l0 : Nat} {l1 : Int32} {l2 : Int32} {l3 : Int32} {l4 : Int32} (h : X2_dropLearnings_73 G k10 l0 l1 l2 l3 l4 σ = some (r, σ1)) : SW E G (.inl (some (.int r), σ1)) A 5 σ 73 [(0, kr E l0), (1, .int l1), (2, .int l2), (3, .int l3), (4, .int l4)] [] := by
  unfold X2_dropLearnings_73 at h
  refine r_iincL (L2 := fun t1 => [(4, .int t1), (0, kr E l0), (1, .int l1), (2, .int l2), (3, .int l3)]) hX dX2_dropLearnings_73 h 4 rfl (by decide) (fun _ => rfl) ?_
  clear h; intro t1 h
  refine r_goto (tgt := 10) hX dX2_dropLearnings_76 (by decide) ?_
  refine r_sub [1, 2, 3, 4, 0] rfl ?_
  exact hk10 _ _ _ _ _ _ h
def X2_dropLearnings_37 (G : kdS) (k10 : Nat → Int32 → Int32 → Int32 → Int32 → kdM → Option (Int32 × kdM)) (l0 : Nat) (l1 : Int32) (l2 : Int32) (l3 : Int32) (l4 : Int32) (s0 : Nat) (s1 : Int32) (s2 : Int32) (s3 : Int32) : kdM → Option (Int32 × kdM) :=
  kcv G 2 s0 (X2_isOf G s0 s1 s2 s3) fun t1 =>
  cnd (t1 = 0)
    (X2_dropLearnings_73 G k10 l0 l1 l2 l3 l4)
    (gR G 2 0 l0 fun t2 =>
    kcv G 6 t2 (X6_remove G t2 l4) fun t3 =>
    gR G 2 1 l0 fun t4 =>
    kcv G 6 t4 (X6_remove G t4 l4) fun t5 =>
    gR G 2 2 l0 fun t6 =>
    kcv G 6 t6 (X6_remove G t6 l4) fun t7 =>
    X2_dropLearnings_73 G k10 l0 l1 l2 l3 l4)
set_option maxRecDepth 100000 in
set_option maxHeartbeats 4000000 in
theorem wX2_dropLearnings_37 {E : kdE} {G : kdS} {A : kdA} {r : Int32} {σ1 : kdM} (hX : kdX E A cX2_dropLearnings 5 RX2 (some .int) 2) (k10 : Nat → Int32 → Int32 → Int32 → Int32 → kdM → Option (Int32 × kdM)) (hk10 : ∀ (l0 : Nat) (l1 : Int32) (l2 : Int32) (l3 : Int32) (l4 : Int32) (σ : kdM), k10 l0 l1 l2 l3 l4 σ = some (r, σ1) → SW E G (.inl (some (.int r), σ1)) A 5 σ 10 [(0, kr E l0), (1, .int l1), (2, .int l2), (3, .int l3), (4, .int l4)] []) {σ : kdM} {l0 : Nat} {l1 : Int32} {l2 : Int32} {l3 : Int32} {l4 : Int32} {s0 : Nat} {s1 : Int32} {s2 : Int32} {s3 : Int32} (h : X2_dropLearnings_37 G k10 l0 l1 l2 l3 l4 s0 s1 s2 s3 σ = some (r, σ1)) : SW E G (.inl (some (.int r), σ1)) A 5 σ 37 [(0, kr E l0), (1, .int l1), (2, .int l2), (3, .int l3), (4, .int l4)] [.int s3, .int s2, .int s1, kr E s0] := by
  unfold X2_dropLearnings_37 at h
  refine r_cVi (As := [.int s1, .int s2, .int s3]) (st := []) hX dX2_dropLearnings_37 kl_X2_isOf w_ml_X2_61 w_im_X2_isOf w_se_X2_isOf ⟨_, _, rfl⟩ (by decide) rfl (Nat.le_of_ble_eq_true rfl) rfl kdz0 h (fun r σ1 h => wX2_isOf h) ?_
  clear h; intro t1 σ h
  refine r_if_eq (tgt := 73) hX dX2_dropLearnings_40 (by decide) h ?_ ?_
  · clear h; intro h
    refine r_sub [0, 1, 2, 3, 4] rfl ?_
    exact wX2_dropLearnings_73 hX k10 hk10 h
  · clear h; intro h
    refine r_aload_n hX dX2_dropLearnings_43 rfl 0 rfl ?_
    refine r_gR hX dX2_dropLearnings_44 kf_X2_14 rfl h ?_
    clear h; intro t2 h
    refine r_iload hX dX2_dropLearnings_47 4 rfl ?_
    refine r_cVi (As := [.int l4]) (st := []) hX dX2_dropLearnings_49 kl_X6_remove w_ml_X2_68 w_im_X6_remove w_se_X6_remove ⟨_, _, rfl⟩ (by decide) rfl (Nat.le_of_ble_eq_true rfl) rfl kdz0 h (fun r σ1 h => wX6_remove h) ?_
    clear h; intro t3 σ h
    refine r_pop hX dX2_dropLearnings_52 rfl ?_
    refine r_aload_n hX dX2_dropLearnings_53 rfl 0 rfl ?_
    refine r_gR hX dX2_dropLearnings_54 kf_X2_20 rfl h ?_
    clear h; intro t4 h
    refine r_iload hX dX2_dropLearnings_57 4 rfl ?_
    refine r_cVi (As := [.int l4]) (st := []) hX dX2_dropLearnings_59 kl_X6_remove w_ml_X2_68 w_im_X6_remove w_se_X6_remove ⟨_, _, rfl⟩ (by decide) rfl (Nat.le_of_ble_eq_true rfl) rfl kdz0 h (fun r σ1 h => wX6_remove h) ?_
    clear h; intro t5 σ h
    refine r_pop hX dX2_dropLearnings_62 rfl ?_
    refine r_aload_n hX dX2_dropLearnings_63 rfl 0 rfl ?_
    refine r_gR hX dX2_dropLearnings_64 kf_X2_23 rfl h ?_
    clear h; intro t6 h
    refine r_iload hX dX2_dropLearnings_67 4 rfl ?_
    refine r_cVi (As := [.int l4]) (st := []) hX dX2_dropLearnings_69 kl_X6_remove w_ml_X2_68 w_im_X6_remove w_se_X6_remove ⟨_, _, rfl⟩ (by decide) rfl (Nat.le_of_ble_eq_true rfl) rfl kdz0 h (fun r σ1 h => wX6_remove h) ?_
    clear h; intro t7 σ h
    refine r_pop hX dX2_dropLearnings_72 rfl ?_
    refine r_sub [0, 1, 2, 3, 4] rfl ?_
    exact wX2_dropLearnings_73 hX k10 hk10 h
def X2_dropLearnings_10B (G : kdS) (k10 : Nat → Int32 → Int32 → Int32 → Int32 → kdM → Option (Int32 × kdM)) (l0 : Nat) (l1 : Int32) (l2 : Int32) (l3 : Int32) (l4 : Int32) : kdM → Option (Int32 × kdM) :=
  cnd (l4 < 0)
    (kcv G 2 l0 (X2_learnings G l0) fun t1 =>
    rt (l3 - t1))
    (cnd (l2 = (-1 : Int32))
      (gR G 2 1 l0 fun t2 =>
      kcv G 6 t2 (X6_at G t2 l4) fun t3 =>
      X2_dropLearnings_37 G k10 l0 l1 l2 l3 l4 l0 l4 l1 t3)
      (X2_dropLearnings_37 G k10 l0 l1 l2 l3 l4 l0 l4 l1 l2))
set_option maxRecDepth 100000 in
set_option maxHeartbeats 4000000 in
theorem wX2_dropLearnings_10B {E : kdE} {G : kdS} {A : kdA} {r : Int32} {σ1 : kdM} (hX : kdX E A cX2_dropLearnings 5 RX2 (some .int) 2) (k10 : Nat → Int32 → Int32 → Int32 → Int32 → kdM → Option (Int32 × kdM)) (hk10 : ∀ (l0 : Nat) (l1 : Int32) (l2 : Int32) (l3 : Int32) (l4 : Int32) (σ : kdM), k10 l0 l1 l2 l3 l4 σ = some (r, σ1) → SW E G (.inl (some (.int r), σ1)) A 5 σ 10 [(0, kr E l0), (1, .int l1), (2, .int l2), (3, .int l3), (4, .int l4)] []) {σ : kdM} {l0 : Nat} {l1 : Int32} {l2 : Int32} {l3 : Int32} {l4 : Int32} (h : X2_dropLearnings_10B G k10 l0 l1 l2 l3 l4 σ = some (r, σ1)) : SW E G (.inl (some (.int r), σ1)) A 5 σ 10 [(0, kr E l0), (1, .int l1), (2, .int l2), (3, .int l3), (4, .int l4)] [] := by
  unfold X2_dropLearnings_10B at h
  refine r_iload hX dX2_dropLearnings_10 4 rfl ?_
  refine r_if_lt (tgt := 79) hX dX2_dropLearnings_12 (by decide) h ?_ ?_
  · clear h; intro h
    refine r_iload_n hX dX2_dropLearnings_79 rfl 3 rfl ?_
    refine r_aload_n hX dX2_dropLearnings_80 rfl 0 rfl ?_
    refine r_cVi (As := []) (st := [.int l3]) hX dX2_dropLearnings_81 kl_X2_learnings w_ml_X2_48 w_im_X2_learnings w_se_X2_learnings ⟨_, _, rfl⟩ (by decide) rfl (Nat.le_of_ble_eq_true rfl) rfl kdz0 h (fun r σ1 h => wX2_learnings h) ?_
    clear h; intro t1 σ h
    refine r_isub hX dX2_dropLearnings_84 ?_
    exact r_iret hX dX2_dropLearnings_85 h
  · clear h; intro h
    refine r_aload_n hX dX2_dropLearnings_15 rfl 0 rfl ?_
    refine r_iload hX dX2_dropLearnings_16 4 rfl ?_
    refine r_iload_n hX dX2_dropLearnings_18 rfl 1 rfl ?_
    refine r_iload_n hX dX2_dropLearnings_19 rfl 2 rfl ?_
    refine r_iconst hX dX2_dropLearnings_20 kk_i_m1 ?_
    refine r_icmp_ne (tgt := 36) hX dX2_dropLearnings_21 (by decide) h ?_ ?_
    · clear h; intro h
      refine r_aload_n hX dX2_dropLearnings_24 rfl 0 rfl ?_
      refine r_gR hX dX2_dropLearnings_25 kf_X2_20 rfl h ?_
      clear h; intro t2 h
      refine r_iload hX dX2_dropLearnings_28 4 rfl ?_
      refine r_cVi (As := [.int l4]) (st := [.int l1, .int l4, kr E l0]) hX dX2_dropLearnings_30 kl_X6_at w_ml_X2_51 w_im_X6_at w_se_X6_at ⟨_, _, rfl⟩ (by decide) rfl (Nat.le_of_ble_eq_true rfl) rfl kdz0 h (fun r σ1 h => wX6_at h) ?_
      clear h; intro t3 σ h
      refine r_goto (tgt := 37) hX dX2_dropLearnings_33 (by decide) ?_
      refine r_sub [0, 1, 2, 3, 4] rfl ?_
      exact wX2_dropLearnings_37 hX k10 hk10 h
    · clear h; intro h
      refine r_iload_n hX dX2_dropLearnings_36 rfl 2 rfl ?_
      refine r_sub [0, 1, 2, 3, 4] rfl ?_
      exact wX2_dropLearnings_37 hX k10 hk10 h
def X2_dropLearnings_10 (G : kdS) : Nat → Int32 → Int32 → Int32 → Int32 → kdM → Option (Int32 × kdM) := lp (fun _ _ _ _ _ _ => none) (X2_dropLearnings_10B G) NN
theorem wX2_dropLearnings_10 {E : kdE} {G : kdS} {A : kdA} {r : Int32} {σ1 : kdM} (hX : kdX E A cX2_dropLearnings 5 RX2 (some .int) 2) : ∀ (l0 : Nat) (l1 : Int32) (l2 : Int32) (l3 : Int32) (l4 : Int32) (σ : kdM), X2_dropLearnings_10 G l0 l1 l2 l3 l4 σ = some (r, σ1) → SW E G (.inl (some (.int r), σ1)) A 5 σ 10 [(0, kr E l0), (1, .int l1), (2, .int l2), (3, .int l3), (4, .int l4)] [] :=
  lp_ind (Q := fun f => ∀ (l0 : Nat) (l1 : Int32) (l2 : Int32) (l3 : Int32) (l4 : Int32) (σ : kdM), f l0 l1 l2 l3 l4 σ = some (r, σ1) → SW E G (.inl (some (.int r), σ1)) A 5 σ 10 [(0, kr E l0), (1, .int l1), (2, .int l2), (3, .int l3), (4, .int l4)] []) (by intros; contradiction) (fun k hk l0 l1 l2 l3 l4 σ h => wX2_dropLearnings_10B hX k hk h) NN
def X2_dropLearnings (G : kdS) (l0 : Nat) (l1 : Int32) (l2 : Int32) : kdM → Option (Int32 × kdM) :=
  kcv G 2 l0 (X2_learnings G l0) fun t1 =>
  ltI ((t1 - (1 : Int32))) fun t2 =>
  X2_dropLearnings_10 G l0 l1 l2 t1 t2
set_option maxRecDepth 100000 in
set_option maxHeartbeats 4000000 in
theorem wX2_dropLearnings {E : kdE} {G : kdS} {l0 : Nat} {l1 : Int32} {l2 : Int32} {σ : kdM} {r : Int32} {σ1 : kdM} (h : X2_dropLearnings G l0 l1 l2 σ = some (r, σ1)) : Con E G yX2_dropLearnings cX2_dropLearnings 5 (some .int) 2 [kr E l0, .int l1, .int l2] σ (some (.int r), σ1) := by
  refine kd_head (own := RX2) rfl (by decide +kernel) (Nat.le_of_ble_eq_true rfl) (fun A hX => ?_)
  show SW E G (.inl (some (.int r), σ1)) A 5 σ 0 [(0, kr E l0), (1, .int l1), (2, .int l2)] []
  unfold X2_dropLearnings at h
  refine r_aload_n hX dX2_dropLearnings_0 rfl 0 rfl ?_
  refine r_cVi (As := []) (st := []) hX dX2_dropLearnings_1 kl_X2_learnings w_ml_X2_48 w_im_X2_learnings w_se_X2_learnings ⟨_, _, rfl⟩ (by decide) rfl (Nat.le_of_ble_eq_true rfl) rfl kdz0 h (fun r σ1 h => wX2_learnings h) ?_
  clear h; intro t1 σ h
  refine r_istore_n (L2 := [(3, .int t1), (0, kr E l0), (1, .int l1), (2, .int l2)]) hX dX2_dropLearnings_4 rfl (by decide) rfl ?_
  refine r_iload_n hX dX2_dropLearnings_5 rfl 0 rfl ?_
  refine r_iconst hX dX2_dropLearnings_6 kk_i_1 ?_
  refine r_isub hX dX2_dropLearnings_7 ?_
  refine r_letI h ?_
  clear h; intro t2 h
  refine r_istore (L2 := [(4, .int t2), (3, .int t1), (0, kr E l0), (1, .int l1), (2, .int l2)]) hX dX2_dropLearnings_8 (by decide) rfl ?_
  refine r_sub [2, 3, 4, 1, 0] rfl ?_
  exact wX2_dropLearnings_10 hX _ _ _ _ _ _ h
def X2_setFade (G : kdS) (l0 : Nat) (l1 : Int32) : kdM → Option (Int32 × kdM) :=
  gI G 2 4 l0 fun t1 =>
  sI G 2 4 l0 (l1) <|
  rt t1
set_option maxRecDepth 100000 in
set_option maxHeartbeats 4000000 in
theorem wX2_setFade {E : kdE} {G : kdS} {l0 : Nat} {l1 : Int32} {σ : kdM} {r : Int32} {σ1 : kdM} (h : X2_setFade G l0 l1 σ = some (r, σ1)) : Con E G yX2_setFade cX2_setFade 3 (some .int) 0 [kr E l0, .int l1] σ (some (.int r), σ1) := by
  refine kd_head (own := RX2) rfl (by decide +kernel) (Nat.le_of_ble_eq_true rfl) (fun A hX => ?_)
  show SW E G (.inl (some (.int r), σ1)) A 3 σ 0 [(0, kr E l0), (1, .int l1)] []
  unfold X2_setFade at h
  refine r_aload_n hX dX2_setFade_0 rfl 0 rfl ?_
  refine r_gI hX dX2_setFade_1 kf_X2_30 rfl h ?_
  clear h; intro t1 h
  refine r_istore_n (L2 := [(2, .int t1), (0, kr E l0), (1, .int l1)]) hX dX2_setFade_4 rfl (by decide) rfl ?_
  refine r_aload_n hX dX2_setFade_5 rfl 1 rfl ?_
  refine r_iload_n hX dX2_setFade_6 rfl 2 rfl ?_
  refine r_sI hX dX2_setFade_7 kf_X2_30 rfl (by intro q hq; cases hq; rfl) h ?_
  clear h; intro σ h
  refine r_iload_n hX dX2_setFade_10 rfl 0 rfl ?_
  exact r_iret hX dX2_setFade_11 h
def X2_budgetOf (G : kdS) (l0 : Nat) (l1 : Int32) : kdM → Option (Int32 × kdM) :=
  gR G 2 3 l0 fun t1 =>
  aI G t1 (l1) fun t2 =>
  rt t2
set_option maxRecDepth 100000 in
set_option maxHeartbeats 4000000 in
theorem wX2_budgetOf {E : kdE} {G : kdS} {l0 : Nat} {l1 : Int32} {σ : kdM} {r : Int32} {σ1 : kdM} (h : X2_budgetOf G l0 l1 σ = some (r, σ1)) : Con E G yX2_budgetOf cX2_budgetOf 2 (some .int) 0 [kr E l0, .int l1] σ (some (.int r), σ1) := by
  refine kd_head (own := RX2) rfl (by decide +kernel) (Nat.le_of_ble_eq_true rfl) (fun A hX => ?_)
  show SW E G (.inl (some (.int r), σ1)) A 2 σ 0 [(0, kr E l0), (1, .int l1)] []
  unfold X2_budgetOf at h
  refine r_aload_n hX dX2_budgetOf_0 rfl 0 rfl ?_
  refine r_gR hX dX2_budgetOf_1 kf_X2_26 rfl h ?_
  clear h; intro t1 h
  refine r_iload_n hX dX2_budgetOf_4 rfl 1 rfl ?_
  refine r_aI hX dX2_budgetOf_5 h ?_
  clear h; intro t2 h
  exact r_iret hX dX2_budgetOf_6 h
def X2_setBudget (G : kdS) (l0 : Nat) (l1 : Int32) (l2 : Int32) : kdM → Option (Int32 × kdM) :=
  gR G 2 3 l0 fun t1 =>
  aI G t1 (l1) fun t2 =>
  gR G 2 3 l0 fun t3 =>
  tI G t3 (l1) (l2) <|
  rt t2
set_option maxRecDepth 100000 in
set_option maxHeartbeats 4000000 in
theorem wX2_setBudget {E : kdE} {G : kdS} {l0 : Nat} {l1 : Int32} {l2 : Int32} {σ : kdM} {r : Int32} {σ1 : kdM} (h : X2_setBudget G l0 l1 l2 σ = some (r, σ1)) : Con E G yX2_setBudget cX2_setBudget 4 (some .int) 0 [kr E l0, .int l1, .int l2] σ (some (.int r), σ1) := by
  refine kd_head (own := RX2) rfl (by decide +kernel) (Nat.le_of_ble_eq_true rfl) (fun A hX => ?_)
  show SW E G (.inl (some (.int r), σ1)) A 4 σ 0 [(0, kr E l0), (1, .int l1), (2, .int l2)] []
  unfold X2_setBudget at h
  refine r_aload_n hX dX2_setBudget_0 rfl 0 rfl ?_
  refine r_gR hX dX2_setBudget_1 kf_X2_26 rfl h ?_
  clear h; intro t1 h
  refine r_iload_n hX dX2_setBudget_4 rfl 1 rfl ?_
  refine r_aI hX dX2_setBudget_5 h ?_
  clear h; intro t2 h
  refine r_istore_n (L2 := [(3, .int t2), (0, kr E l0), (1, .int l1), (2, .int l2)]) hX dX2_setBudget_6 rfl (by decide) rfl ?_
  refine r_aload_n hX dX2_setBudget_7 rfl 1 rfl ?_
  refine r_gR hX dX2_setBudget_8 kf_X2_26 rfl h ?_
  clear h; intro t3 h
  refine r_iload_n hX dX2_setBudget_11 rfl 2 rfl ?_
  refine r_iload_n hX dX2_setBudget_12 rfl 3 rfl ?_
  refine r_tI hX dX2_setBudget_13 h ?_
  clear h; intro σ h
  refine r_iload_n hX dX2_setBudget_14 rfl 0 rfl ?_
  exact r_iret hX dX2_setBudget_15 h
def X2_setSeed (G : kdS) (l0 : Nat) (l1 : Int32) : kdM → Option (Int32 × kdM) :=
  gI G 2 5 l0 fun t1 =>
  sI G 2 5 l0 (l1) <|
  rt t1
set_option maxRecDepth 100000 in
set_option maxHeartbeats 4000000 in
theorem wX2_setSeed {E : kdE} {G : kdS} {l0 : Nat} {l1 : Int32} {σ : kdM} {r : Int32} {σ1 : kdM} (h : X2_setSeed G l0 l1 σ = some (r, σ1)) : Con E G yX2_setSeed cX2_setSeed 3 (some .int) 0 [kr E l0, .int l1] σ (some (.int r), σ1) := by
  refine kd_head (own := RX2) rfl (by decide +kernel) (Nat.le_of_ble_eq_true rfl) (fun A hX => ?_)
  show SW E G (.inl (some (.int r), σ1)) A 3 σ 0 [(0, kr E l0), (1, .int l1)] []
  unfold X2_setSeed at h
  refine r_aload_n hX dX2_setSeed_0 rfl 0 rfl ?_
  refine r_gI hX dX2_setSeed_1 kf_X2_34 rfl h ?_
  clear h; intro t1 h
  refine r_istore_n (L2 := [(2, .int t1), (0, kr E l0), (1, .int l1)]) hX dX2_setSeed_4 rfl (by decide) rfl ?_
  refine r_aload_n hX dX2_setSeed_5 rfl 1 rfl ?_
  refine r_iload_n hX dX2_setSeed_6 rfl 2 rfl ?_
  refine r_sI hX dX2_setSeed_7 kf_X2_34 rfl (by intro q hq; cases hq; rfl) h ?_
  clear h; intro σ h
  refine r_iload_n hX dX2_setSeed_10 rfl 0 rfl ?_
  exact r_iret hX dX2_setSeed_11 h
def X2_givers_25 (G : kdS) (k4 : Nat → Int32 → Int32 → Int32 → kdM → Option (Int32 × kdM)) (l0 : Nat) (l1 : Int32) (l3 : Int32) (s0 : Int32) (s1 : Int32) : kdM → Option (Int32 × kdM) :=
  ltI ((s0 + s1)) fun t1 =>
  ltI (l3 + Int32.ofInt 1) fun t2 =>
  k4 l0 l1 t1 t2
set_option maxRecDepth 100000 in
set_option maxHeartbeats 4000000 in
theorem wX2_givers_25 {E : kdE} {G : kdS} {A : kdA} {r : Int32} {σ1 : kdM} (hX : kdX E A cX2_givers 4 RX2 (some .int) 0) (k4 : Nat → Int32 → Int32 → Int32 → kdM → Option (Int32 × kdM)) (hk4 : ∀ (l0 : Nat) (l1 : Int32) (l2 : Int32) (l3 : Int32) (σ : kdM), k4 l0 l1 l2 l3 σ = some (r, σ1) → SW E G (.inl (some (.int r), σ1)) A 4 σ 4 [(0, kr E l0), (1, .int l1), (2, .int l2), (3, .int l3)] []) {σ : kdM} {l0 : Nat} {l1 : Int32} {l3 : Int32} {s0 : Int32} {s1 : Int32} (h : X2_givers_25 G k4 l0 l1 l3 s0 s1 σ = some (r, σ1)) : SW E G (.inl (some (.int r), σ1)) A 4 σ 25 [(0, kr E l0), (1, .int l1), (3, .int l3)] [.int s1, .int s0] := by
  unfold X2_givers_25 at h
  refine r_iadd hX dX2_givers_25 ?_
  refine r_letI h ?_
  clear h; intro t1 h
  refine r_istore_n (L2 := [(2, .int t1), (0, kr E l0), (1, .int l1), (3, .int l3)]) hX dX2_givers_26 rfl (by decide) rfl ?_
  refine r_iincL (L2 := fun t2 => [(3, .int t2), (2, .int t1), (0, kr E l0), (1, .int l1)]) hX dX2_givers_27 h 3 rfl (by decide) (fun _ => rfl) ?_
  clear h; intro t2 h
  refine r_goto (tgt := 4) hX dX2_givers_30 (by decide) ?_
  refine r_sub [2, 3, 1, 0] rfl ?_
  exact hk4 _ _ _ _ _ h
def X2_givers_4B (G : kdS) (k4 : Nat → Int32 → Int32 → Int32 → kdM → Option (Int32 × kdM)) (l0 : Nat) (l1 : Int32) (l2 : Int32) (l3 : Int32) : kdM → Option (Int32 × kdM) :=
  cnd ((4 : Int32) ≤ l3)
    (rt l2)
    (gR G 2 3 l0 fun t1 =>
    aI G t1 (l3) fun t2 =>
    cnd (t2 < l1)
      (X2_givers_25 G k4 l0 l1 l3 l2 (0 : Int32))
      (X2_givers_25 G k4 l0 l1 l3 l2 (1 : Int32)))
set_option maxRecDepth 100000 in
set_option maxHeartbeats 4000000 in
theorem wX2_givers_4B {E : kdE} {G : kdS} {A : kdA} {r : Int32} {σ1 : kdM} (hX : kdX E A cX2_givers 4 RX2 (some .int) 0) (k4 : Nat → Int32 → Int32 → Int32 → kdM → Option (Int32 × kdM)) (hk4 : ∀ (l0 : Nat) (l1 : Int32) (l2 : Int32) (l3 : Int32) (σ : kdM), k4 l0 l1 l2 l3 σ = some (r, σ1) → SW E G (.inl (some (.int r), σ1)) A 4 σ 4 [(0, kr E l0), (1, .int l1), (2, .int l2), (3, .int l3)] []) {σ : kdM} {l0 : Nat} {l1 : Int32} {l2 : Int32} {l3 : Int32} (h : X2_givers_4B G k4 l0 l1 l2 l3 σ = some (r, σ1)) : SW E G (.inl (some (.int r), σ1)) A 4 σ 4 [(0, kr E l0), (1, .int l1), (2, .int l2), (3, .int l3)] [] := by
  unfold X2_givers_4B at h
  refine r_iload_n hX dX2_givers_4 rfl 3 rfl ?_
  refine r_iconst hX dX2_givers_5 kk_i_4 ?_
  refine r_icmp_ge (tgt := 33) hX dX2_givers_6 (by decide) h ?_ ?_
  · clear h; intro h
    refine r_iload_n hX dX2_givers_33 rfl 2 rfl ?_
    exact r_iret hX dX2_givers_34 h
  · clear h; intro h
    refine r_iload_n hX dX2_givers_9 rfl 2 rfl ?_
    refine r_aload_n hX dX2_givers_10 rfl 0 rfl ?_
    refine r_gR hX dX2_givers_11 kf_X2_26 rfl h ?_
    clear h; intro t1 h
    refine r_iload_n hX dX2_givers_14 rfl 3 rfl ?_
    refine r_aI hX dX2_givers_15 h ?_
    clear h; intro t2 h
    refine r_iload_n hX dX2_givers_16 rfl 1 rfl ?_
    refine r_icmp_lt (tgt := 24) hX dX2_givers_17 (by decide) h ?_ ?_
    · clear h; intro h
      refine r_iconst hX dX2_givers_24 kk_i_0 ?_
      refine r_sub [0, 1, 3] rfl ?_
      exact wX2_givers_25 hX k4 hk4 h
    · clear h; intro h
      refine r_iconst hX dX2_givers_20 kk_i_1 ?_
      refine r_goto (tgt := 25) hX dX2_givers_21 (by decide) ?_
      refine r_sub [0, 1, 3] rfl ?_
      exact wX2_givers_25 hX k4 hk4 h
def X2_givers_4 (G : kdS) : Nat → Int32 → Int32 → Int32 → kdM → Option (Int32 × kdM) := lp (fun _ _ _ _ _ => none) (X2_givers_4B G) NN
theorem wX2_givers_4 {E : kdE} {G : kdS} {A : kdA} {r : Int32} {σ1 : kdM} (hX : kdX E A cX2_givers 4 RX2 (some .int) 0) : ∀ (l0 : Nat) (l1 : Int32) (l2 : Int32) (l3 : Int32) (σ : kdM), X2_givers_4 G l0 l1 l2 l3 σ = some (r, σ1) → SW E G (.inl (some (.int r), σ1)) A 4 σ 4 [(0, kr E l0), (1, .int l1), (2, .int l2), (3, .int l3)] [] :=
  lp_ind (Q := fun f => ∀ (l0 : Nat) (l1 : Int32) (l2 : Int32) (l3 : Int32) (σ : kdM), f l0 l1 l2 l3 σ = some (r, σ1) → SW E G (.inl (some (.int r), σ1)) A 4 σ 4 [(0, kr E l0), (1, .int l1), (2, .int l2), (3, .int l3)] []) (by intros; contradiction) (fun k hk l0 l1 l2 l3 σ h => wX2_givers_4B hX k hk h) NN
def X2_givers (G : kdS) (l0 : Nat) (l1 : Int32) : kdM → Option (Int32 × kdM) :=
  X2_givers_4 G l0 l1 (0 : Int32) (0 : Int32)
set_option maxRecDepth 100000 in
set_option maxHeartbeats 4000000 in
theorem wX2_givers {E : kdE} {G : kdS} {l0 : Nat} {l1 : Int32} {σ : kdM} {r : Int32} {σ1 : kdM} (h : X2_givers G l0 l1 σ = some (r, σ1)) : Con E G yX2_givers cX2_givers 4 (some .int) 0 [kr E l0, .int l1] σ (some (.int r), σ1) := by
  refine kd_head (own := RX2) rfl (by decide +kernel) (Nat.le_of_ble_eq_true rfl) (fun A hX => ?_)
  show SW E G (.inl (some (.int r), σ1)) A 4 σ 0 [(0, kr E l0), (1, .int l1)] []
  unfold X2_givers at h
  refine r_iconst hX dX2_givers_0 kk_i_0 ?_
  refine r_istore_n (L2 := [(2, .int (0 : Int32)), (0, kr E l0), (1, .int l1)]) hX dX2_givers_1 rfl (by decide) rfl ?_
  refine r_iconst hX dX2_givers_2 kk_i_0 ?_
  refine r_istore_n (L2 := [(3, .int (0 : Int32)), (2, .int (0 : Int32)), (0, kr E l0), (1, .int l1)]) hX dX2_givers_3 rfl (by decide) rfl ?_
  refine r_sub [2, 3, 1, 0] rfl ?_
  exact wX2_givers_4 hX _ _ _ _ _ h
def X2_drawLot (G : kdS) (l0 : Nat) (l1 : Int32) : kdM → Option (Int32 × kdM) :=
  gI G 2 5 l0 fun t1 =>
  nzL (2147483647 : Int64) <|
  sI G 2 5 l0 ((Int64.toInt32 (kremL ((Int32.toInt64 t1) * (16807 : Int64)) (2147483647 : Int64)))) <|
  gI G 2 5 l0 fun t2 =>
  nz (2001 : Int32) <|
  nz (kmax l1 (1 : Int32)) <|
  rt ((((krem t2 (2001 : Int32)) - (1000 : Int32)) * (100 : Int32)) / (kmax l1 (1 : Int32)))
set_option maxRecDepth 100000 in
set_option maxHeartbeats 4000000 in
theorem wX2_drawLot {E : kdE} {G : kdS} {l0 : Nat} {l1 : Int32} {σ : kdM} {r : Int32} {σ1 : kdM} (h : X2_drawLot G l0 l1 σ = some (r, σ1)) : Con E G yX2_drawLot cX2_drawLot 2 (some .int) 1 [kr E l0, .int l1] σ (some (.int r), σ1) := by
  refine kd_head (own := RX2) rfl (by decide +kernel) (Nat.le_of_ble_eq_true rfl) (fun A hX => ?_)
  show SW E G (.inl (some (.int r), σ1)) A 2 σ 0 [(0, kr E l0), (1, .int l1)] []
  unfold X2_drawLot at h
  refine r_aload_n hX dX2_drawLot_0 rfl 0 rfl ?_
  refine r_aload_n hX dX2_drawLot_1 rfl 0 rfl ?_
  refine r_gI hX dX2_drawLot_2 kf_X2_34 rfl h ?_
  clear h; intro t1 h
  refine r_i2l hX dX2_drawLot_5 ?_
  refine r_ldc2_w hX dX2_drawLot_6 w_cl_X2_81 ?_
  refine r_lmul hX dX2_drawLot_9 ?_
  refine r_ldc2_w hX dX2_drawLot_10 w_cl_X2_83 ?_
  refine r_lrem hX dX2_drawLot_13 h ?_
  clear h; intro h
  refine r_l2i hX dX2_drawLot_14 ?_
  refine r_sI hX dX2_drawLot_15 kf_X2_34 rfl (by intro q hq; cases hq; rfl) h ?_
  clear h; intro σ h
  refine r_aload_n hX dX2_drawLot_18 rfl 0 rfl ?_
  refine r_gI hX dX2_drawLot_19 kf_X2_34 rfl h ?_
  clear h; intro t2 h
  refine r_sipush hX dX2_drawLot_22 kk_s_2001 ?_
  refine r_irem hX dX2_drawLot_25 h ?_
  clear h; intro h
  refine r_sipush hX dX2_drawLot_26 kk_s_1000 ?_
  refine r_isub hX dX2_drawLot_29 ?_
  refine r_bipush hX dX2_drawLot_30 kk_b_100 ?_
  refine r_imul hX dX2_drawLot_32 ?_
  refine r_iload_n hX dX2_drawLot_33 rfl 1 rfl ?_
  refine r_iconst hX dX2_drawLot_34 kk_i_1 ?_
  refine r_mmax hX dX2_drawLot_35 w_ml_X2_55 w_st_Math_max w_in_Math w_cd_Math_max (by decide) (Nat.le_of_ble_eq_true rfl) kdz0 ?_
  refine r_idiv hX dX2_drawLot_38 h ?_
  clear h; intro h
  exact r_iret hX dX2_drawLot_39 h
def X2_sumWithLot_53 (G : kdS) (k6 : Nat → Int32 → Int32 → Int32 → Int32 → Int32 → kdM → Option (Int32 × kdM)) (l0 : Nat) (l1 : Int32) (l2 : Int32) (l3 : Int32) (l4 : Int32) (l5 : Int32) : kdM → Option (Int32 × kdM) :=
  ltI (l5 + Int32.ofInt 1) fun t1 =>
  k6 l0 l1 l2 l3 l4 t1
set_option maxRecDepth 100000 in
set_option maxHeartbeats 4000000 in
theorem wX2_sumWithLot_53 {E : kdE} {G : kdS} {A : kdA} {r : Int32} {σ1 : kdM} (hX : kdX E A cX2_sumWithLot 6 RX2 (some .int) 3) (k6 : Nat → Int32 → Int32 → Int32 → Int32 → Int32 → kdM → Option (Int32 × kdM)) (hk6 : ∀ (l0 : Nat) (l1 : Int32) (l2 : Int32) (l3 : Int32) (l4 : Int32) (l5 : Int32) (σ : kdM), k6 l0 l1 l2 l3 l4 l5 σ = some (r, σ1) → SW E G (.inl (some (.int r), σ1)) A 6 σ 6 [(0, kr E l0), (1, .int l1), (2, .int l2), (3, .int l3), (4, .int l4), (5, .int l5)] []) {σ : kdM} {l0 : Nat} {l1 : Int32} {l2 : Int32} {l3 : Int32} {l4 : Int32} {l5 : Int32} (h : X2_sumWithLot_53 G k6 l0 l1 l2 l3 l4 l5 σ = some (r, σ1)) : SW E G (.inl (some (.int r), σ1)) A 6 σ 53 [(0, kr E l0), (1, .int l1), (2, .int l2), (3, .int l3), (4, .int l4), (5, .int l5)] [] := by
  unfold X2_sumWithLot_53 at h
  refine r_iincL (L2 := fun t1 => [(5, .int t1), (0, kr E l0), (1, .int l1), (2, .int l2), (3, .int l3), (4, .int l4)]) hX dX2_sumWithLot_53 h 5 rfl (by decide) (fun _ => rfl) ?_
  clear h; intro t1 h
  refine r_goto (tgt := 6) hX dX2_sumWithLot_56 (by decide) ?_
  refine r_sub [1, 2, 3, 4, 5, 0] rfl ?_
  exact hk6 _ _ _ _ _ _ _ h
def X2_sumWithLot_6B (G : kdS) (k6 : Nat → Int32 → Int32 → Int32 → Int32 → Int32 → kdM → Option (Int32 × kdM)) (l0 : Nat) (l1 : Int32) (l2 : Int32) (l3 : Int32) (l4 : Int32) (l5 : Int32) : kdM → Option (Int32 × kdM) :=
  cnd ((4 : Int32) ≤ l5)
    (kcv G 2 l0 (X2_drawLot G l0 l2) fun t1 =>
    rt (l4 + t1))
    (gR G 2 3 l0 fun t2 =>
    aI G t2 (l5) fun t3 =>
    cnd (t3 < l2)
      (X2_sumWithLot_53 G k6 l0 l1 l2 l3 l4 l5)
      (kcv G 2 l0 (X2_worthOf G l0 l5 l1 l3) fun t4 =>
      ltI ((l4 + (kmin (5000 : Int32) t4))) fun t5 =>
      gR G 2 3 l0 fun t6 =>
      aI G t6 (l5) fun t7 =>
      tI G t6 (l5) ((t7 - l2)) <|
      X2_sumWithLot_53 G k6 l0 l1 l2 l3 t5 l5))
set_option maxRecDepth 100000 in
set_option maxHeartbeats 4000000 in
theorem wX2_sumWithLot_6B {E : kdE} {G : kdS} {A : kdA} {r : Int32} {σ1 : kdM} (hX : kdX E A cX2_sumWithLot 6 RX2 (some .int) 3) (k6 : Nat → Int32 → Int32 → Int32 → Int32 → Int32 → kdM → Option (Int32 × kdM)) (hk6 : ∀ (l0 : Nat) (l1 : Int32) (l2 : Int32) (l3 : Int32) (l4 : Int32) (l5 : Int32) (σ : kdM), k6 l0 l1 l2 l3 l4 l5 σ = some (r, σ1) → SW E G (.inl (some (.int r), σ1)) A 6 σ 6 [(0, kr E l0), (1, .int l1), (2, .int l2), (3, .int l3), (4, .int l4), (5, .int l5)] []) {σ : kdM} {l0 : Nat} {l1 : Int32} {l2 : Int32} {l3 : Int32} {l4 : Int32} {l5 : Int32} (h : X2_sumWithLot_6B G k6 l0 l1 l2 l3 l4 l5 σ = some (r, σ1)) : SW E G (.inl (some (.int r), σ1)) A 6 σ 6 [(0, kr E l0), (1, .int l1), (2, .int l2), (3, .int l3), (4, .int l4), (5, .int l5)] [] := by
  unfold X2_sumWithLot_6B at h
  refine r_iload hX dX2_sumWithLot_6 5 rfl ?_
  refine r_iconst hX dX2_sumWithLot_8 kk_i_4 ?_
  refine r_icmp_ge (tgt := 59) hX dX2_sumWithLot_9 (by decide) h ?_ ?_
  · clear h; intro h
    refine r_iload hX dX2_sumWithLot_59 4 rfl ?_
    refine r_aload_n hX dX2_sumWithLot_61 rfl 0 rfl ?_
    refine r_iload_n hX dX2_sumWithLot_62 rfl 2 rfl ?_
    refine r_cVi (As := [.int l2]) (st := [.int l4]) hX dX2_sumWithLot_63 kl_X2_drawLot w_ml_X2_78 w_im_X2_drawLot w_se_X2_drawLot ⟨_, _, rfl⟩ (by decide) rfl (Nat.le_of_ble_eq_true rfl) rfl kdz0 h (fun r σ1 h => wX2_drawLot h) ?_
    clear h; intro t1 σ h
    refine r_iadd hX dX2_sumWithLot_66 ?_
    exact r_iret hX dX2_sumWithLot_67 h
  · clear h; intro h
    refine r_aload_n hX dX2_sumWithLot_12 rfl 0 rfl ?_
    refine r_gR hX dX2_sumWithLot_13 kf_X2_26 rfl h ?_
    clear h; intro t2 h
    refine r_iload hX dX2_sumWithLot_16 5 rfl ?_
    refine r_aI hX dX2_sumWithLot_18 h ?_
    clear h; intro t3 h
    refine r_iload_n hX dX2_sumWithLot_19 rfl 2 rfl ?_
    refine r_icmp_lt (tgt := 53) hX dX2_sumWithLot_20 (by decide) h ?_ ?_
    · clear h; intro h
      refine r_sub [0, 1, 2, 3, 4, 5] rfl ?_
      exact wX2_sumWithLot_53 hX k6 hk6 h
    · clear h; intro h
      refine r_iload hX dX2_sumWithLot_23 4 rfl ?_
      refine r_sipush hX dX2_sumWithLot_25 kk_s_5000 ?_
      refine r_aload_n hX dX2_sumWithLot_28 rfl 0 rfl ?_
      refine r_iload hX dX2_sumWithLot_29 5 rfl ?_
      refine r_iload_n hX dX2_sumWithLot_31 rfl 1 rfl ?_
      refine r_iload_n hX dX2_sumWithLot_32 rfl 3 rfl ?_
      refine r_cVi (As := [.int l5, .int l1, .int l3]) (st := [.int (5000 : Int32), .int l4]) hX dX2_sumWithLot_33 kl_X2_worthOf w_ml_X2_71 w_im_X2_worthOf w_se_X2_worthOf ⟨_, _, rfl⟩ (by decide) rfl (Nat.le_of_ble_eq_true rfl) rfl kdz0 h (fun r σ1 h => wX2_worthOf h) ?_
      clear h; intro t4 σ h
      refine r_mmin hX dX2_sumWithLot_36 w_ml_X2_75 w_st_Math_min w_in_Math w_cd_Math_min (by decide) (Nat.le_of_ble_eq_true rfl) kdz0 ?_
      refine r_iadd hX dX2_sumWithLot_39 ?_
      refine r_letI h ?_
      clear h; intro t5 h
      refine r_istore (L2 := [(4, .int t5), (0, kr E l0), (1, .int l1), (2, .int l2), (3, .int l3), (5, .int l5)]) hX dX2_sumWithLot_40 (by decide) rfl ?_
      refine r_aload_n hX dX2_sumWithLot_42 rfl 1 rfl ?_
      refine r_gR hX dX2_sumWithLot_43 kf_X2_26 rfl h ?_
      clear h; intro t6 h
      refine r_iload hX dX2_sumWithLot_46 5 rfl ?_
      refine r_dup2 hX dX2_sumWithLot_48 rfl rfl ?_
      refine r_aI hX dX2_sumWithLot_49 h ?_
      clear h; intro t7 h
      refine r_iload_n hX dX2_sumWithLot_50 rfl 3 rfl ?_
      refine r_isub hX dX2_sumWithLot_51 ?_
      refine r_tI hX dX2_sumWithLot_52 h ?_
      clear h; intro σ h
      refine r_sub [1, 2, 3, 4, 0, 5] rfl ?_
      exact wX2_sumWithLot_53 hX k6 hk6 h
def X2_sumWithLot_6 (G : kdS) : Nat → Int32 → Int32 → Int32 → Int32 → Int32 → kdM → Option (Int32 × kdM) := lp (fun _ _ _ _ _ _ _ => none) (X2_sumWithLot_6B G) NN
theorem wX2_sumWithLot_6 {E : kdE} {G : kdS} {A : kdA} {r : Int32} {σ1 : kdM} (hX : kdX E A cX2_sumWithLot 6 RX2 (some .int) 3) : ∀ (l0 : Nat) (l1 : Int32) (l2 : Int32) (l3 : Int32) (l4 : Int32) (l5 : Int32) (σ : kdM), X2_sumWithLot_6 G l0 l1 l2 l3 l4 l5 σ = some (r, σ1) → SW E G (.inl (some (.int r), σ1)) A 6 σ 6 [(0, kr E l0), (1, .int l1), (2, .int l2), (3, .int l3), (4, .int l4), (5, .int l5)] [] :=
  lp_ind (Q := fun f => ∀ (l0 : Nat) (l1 : Int32) (l2 : Int32) (l3 : Int32) (l4 : Int32) (l5 : Int32) (σ : kdM), f l0 l1 l2 l3 l4 l5 σ = some (r, σ1) → SW E G (.inl (some (.int r), σ1)) A 6 σ 6 [(0, kr E l0), (1, .int l1), (2, .int l2), (3, .int l3), (4, .int l4), (5, .int l5)] []) (by intros; contradiction) (fun k hk l0 l1 l2 l3 l4 l5 σ h => wX2_sumWithLot_6B hX k hk h) NN
def X2_sumWithLot (G : kdS) (l0 : Nat) (l1 : Int32) (l2 : Int32) (l3 : Int32) : kdM → Option (Int32 × kdM) :=
  X2_sumWithLot_6 G l0 l1 l2 l3 (0 : Int32) (0 : Int32)
set_option maxRecDepth 100000 in
set_option maxHeartbeats 4000000 in
theorem wX2_sumWithLot {E : kdE} {G : kdS} {l0 : Nat} {l1 : Int32} {l2 : Int32} {l3 : Int32} {σ : kdM} {r : Int32} {σ1 : kdM} (h : X2_sumWithLot G l0 l1 l2 l3 σ = some (r, σ1)) : Con E G yX2_sumWithLot cX2_sumWithLot 6 (some .int) 3 [kr E l0, .int l1, .int l2, .int l3] σ (some (.int r), σ1) := by
  refine kd_head (own := RX2) rfl (by decide +kernel) (Nat.le_of_ble_eq_true rfl) (fun A hX => ?_)
  show SW E G (.inl (some (.int r), σ1)) A 6 σ 0 [(0, kr E l0), (1, .int l1), (2, .int l2), (3, .int l3)] []
  unfold X2_sumWithLot at h
  refine r_iconst hX dX2_sumWithLot_0 kk_i_0 ?_
  refine r_istore (L2 := [(4, .int (0 : Int32)), (0, kr E l0), (1, .int l1), (2, .int l2), (3, .int l3)]) hX dX2_sumWithLot_1 (by decide) rfl ?_
  refine r_iconst hX dX2_sumWithLot_3 kk_i_0 ?_
  refine r_istore (L2 := [(5, .int (0 : Int32)), (4, .int (0 : Int32)), (0, kr E l0), (1, .int l1), (2, .int l2), (3, .int l3)]) hX dX2_sumWithLot_4 (by decide) rfl ?_
  refine r_sub [2, 3, 4, 5, 1, 0] rfl ?_
  exact wX2_sumWithLot_6 hX _ _ _ _ _ _ _ h
def X3_size (G : kdS) (l0 : Nat) : kdM → Option (Int32 × kdM) :=
  gI G 3 0 l0 fun t1 =>
  rt t1
set_option maxRecDepth 100000 in
set_option maxHeartbeats 4000000 in
theorem wX3_size {E : kdE} {G : kdS} {l0 : Nat} {σ : kdM} {r : Int32} {σ1 : kdM} (h : X3_size G l0 σ = some (r, σ1)) : Con E G yX3_size cX3_size 1 (some .int) 0 [kr E l0] σ (some (.int r), σ1) := by
  refine kd_head (own := RX3) rfl (by decide +kernel) (Nat.le_of_ble_eq_true rfl) (fun A hX => ?_)
  show SW E G (.inl (some (.int r), σ1)) A 1 σ 0 [(0, kr E l0)] []
  unfold X3_size at h
  refine r_aload_n hX dX3_size_0 rfl 0 rfl ?_
  refine r_gI hX dX3_size_1 kf_X3_37 rfl h ?_
  clear h; intro t1 h
  exact r_iret hX dX3_size_4 h
def X3_startAnew_42B (G : kdS) (k12 : Nat → Int32 → Int32 → kdM → Option (Int32 × kdM)) (k42 : Nat → Int32 → Int32 → Int32 → kdM → Option (Int32 × kdM)) (l0 : Nat) (l2 : Int32) (l3 : Int32) (l4 : Int32) : kdM → Option (Int32 × kdM) :=
  cnd ((7 : Int32) ≤ l4)
    (ltI (l3 + Int32.ofInt 1) fun t1 =>
    k12 l0 l2 t1)
    (gR G 3 4 l0 fun t2 =>
    aR G 18 t2 (l3) fun t3 =>
    tI G t3 (l4) ((0 : Int32)) <|
    ltI (l4 + Int32.ofInt 1) fun t4 =>
    k42 l0 l2 l3 t4)
set_option maxRecDepth 100000 in
set_option maxHeartbeats 4000000 in
theorem wX3_startAnew_42B {E : kdE} {G : kdS} {A : kdA} {r : Int32} {σ1 : kdM} (hX : kdX E A cX3_startAnew 5 RX3 (some .int) 0) (k12 : Nat → Int32 → Int32 → kdM → Option (Int32 × kdM)) (k42 : Nat → Int32 → Int32 → Int32 → kdM → Option (Int32 × kdM)) (hk12 : ∀ (l0 : Nat) (l2 : Int32) (l3 : Int32) (σ : kdM), k12 l0 l2 l3 σ = some (r, σ1) → SW E G (.inl (some (.int r), σ1)) A 5 σ 12 [(0, kr E l0), (2, .int l2), (3, .int l3)] []) (hk42 : ∀ (l0 : Nat) (l2 : Int32) (l3 : Int32) (l4 : Int32) (σ : kdM), k42 l0 l2 l3 l4 σ = some (r, σ1) → SW E G (.inl (some (.int r), σ1)) A 5 σ 42 [(0, kr E l0), (2, .int l2), (3, .int l3), (4, .int l4)] []) {σ : kdM} {l0 : Nat} {l2 : Int32} {l3 : Int32} {l4 : Int32} (h : X3_startAnew_42B G k12 k42 l0 l2 l3 l4 σ = some (r, σ1)) : SW E G (.inl (some (.int r), σ1)) A 5 σ 42 [(0, kr E l0), (2, .int l2), (3, .int l3), (4, .int l4)] [] := by
  unfold X3_startAnew_42B at h
  refine r_iload hX dX3_startAnew_42 3 rfl ?_
  refine r_bipush hX dX3_startAnew_44 kk_b_7 ?_
  refine r_icmp_ge (tgt := 65) hX dX3_startAnew_46 (by decide) h ?_ ?_
  · clear h; intro h
    refine r_iincL (L2 := fun t1 => [(3, .int t1), (0, kr E l0), (2, .int l2), (4, .int l4)]) hX dX3_startAnew_65 h 2 rfl (by decide) (fun _ => rfl) ?_
    clear h; intro t1 h
    refine r_goto (tgt := 12) hX dX3_startAnew_68 (by decide) ?_
    refine r_sub [1, 2, 0] rfl ?_
    exact hk12 _ _ _ _ h
  · clear h; intro h
    refine r_aload_n hX dX3_startAnew_49 rfl 0 rfl ?_
    refine r_gR hX dX3_startAnew_50 kf_X3_23 rfl h ?_
    clear h; intro t2 h
    refine r_iload_n hX dX3_startAnew_53 rfl 2 rfl ?_
    refine r_aR18 hX dX3_startAnew_54 h ?_
    clear h; intro t3 h
    refine r_iload hX dX3_startAnew_55 3 rfl ?_
    refine r_iconst hX dX3_startAnew_57 kk_i_0 ?_
    refine r_tI hX dX3_startAnew_58 h ?_
    clear h; intro σ h
    refine r_iincL (L2 := fun t4 => [(4, .int t4), (0, kr E l0), (2, .int l2), (3, .int l3)]) hX dX3_startAnew_59 h 3 rfl (by decide) (fun _ => rfl) ?_
    clear h; intro t4 h
    refine r_goto (tgt := 42) hX dX3_startAnew_62 (by decide) ?_
    refine r_sub [1, 2, 3, 0] rfl ?_
    exact hk42 _ _ _ _ _ h
def X3_startAnew_42 (G : kdS) (k12 : Nat → Int32 → Int32 → kdM → Option (Int32 × kdM)) : Nat → Int32 → Int32 → Int32 → kdM → Option (Int32 × kdM) := lp (fun _ _ _ _ _ => none) (X3_startAnew_42B G k12) NN
theorem wX3_startAnew_42 {E : kdE} {G : kdS} {A : kdA} {r : Int32} {σ1 : kdM} (hX : kdX E A cX3_startAnew 5 RX3 (some .int) 0) (k12 : Nat → Int32 → Int32 → kdM → Option (Int32 × kdM)) (hk12 : ∀ (l0 : Nat) (l2 : Int32) (l3 : Int32) (σ : kdM), k12 l0 l2 l3 σ = some (r, σ1) → SW E G (.inl (some (.int r), σ1)) A 5 σ 12 [(0, kr E l0), (2, .int l2), (3, .int l3)] []) : ∀ (l0 : Nat) (l2 : Int32) (l3 : Int32) (l4 : Int32) (σ : kdM), X3_startAnew_42 G k12 l0 l2 l3 l4 σ = some (r, σ1) → SW E G (.inl (some (.int r), σ1)) A 5 σ 42 [(0, kr E l0), (2, .int l2), (3, .int l3), (4, .int l4)] [] :=
  lp_ind (Q := fun f => ∀ (l0 : Nat) (l2 : Int32) (l3 : Int32) (l4 : Int32) (σ : kdM), f l0 l2 l3 l4 σ = some (r, σ1) → SW E G (.inl (some (.int r), σ1)) A 5 σ 42 [(0, kr E l0), (2, .int l2), (3, .int l3), (4, .int l4)] []) (by intros; contradiction) (fun k hk l0 l2 l3 l4 σ h => wX3_startAnew_42B hX k12 k hk12 hk h) NN
def X3_startAnew_12B (G : kdS) (k12 : Nat → Int32 → Int32 → kdM → Option (Int32 × kdM)) (l0 : Nat) (l2 : Int32) (l3 : Int32) : kdM → Option (Int32 × kdM) :=
  cnd ((7 : Int32) ≤ l3)
    (rt l2)
    (gR G 3 1 l0 fun t1 =>
    tI G t1 (l3) ((1 : Int32)) <|
    gR G 3 2 l0 fun t2 =>
    tI G t2 (l3) ((0 : Int32)) <|
    gR G 3 3 l0 fun t3 =>
    tI G t3 (l3) ((0 : Int32)) <|
    X3_startAnew_42 G k12 l0 l2 l3 (0 : Int32))
set_option maxRecDepth 100000 in
set_option maxHeartbeats 4000000 in
theorem wX3_startAnew_12B {E : kdE} {G : kdS} {A : kdA} {r : Int32} {σ1 : kdM} (hX : kdX E A cX3_startAnew 5 RX3 (some .int) 0) (k12 : Nat → Int32 → Int32 → kdM → Option (Int32 × kdM)) (hk12 : ∀ (l0 : Nat) (l2 : Int32) (l3 : Int32) (σ : kdM), k12 l0 l2 l3 σ = some (r, σ1) → SW E G (.inl (some (.int r), σ1)) A 5 σ 12 [(0, kr E l0), (2, .int l2), (3, .int l3)] []) {σ : kdM} {l0 : Nat} {l2 : Int32} {l3 : Int32} (h : X3_startAnew_12B G k12 l0 l2 l3 σ = some (r, σ1)) : SW E G (.inl (some (.int r), σ1)) A 5 σ 12 [(0, kr E l0), (2, .int l2), (3, .int l3)] [] := by
  unfold X3_startAnew_12B at h
  refine r_iload_n hX dX3_startAnew_12 rfl 2 rfl ?_
  refine r_bipush hX dX3_startAnew_13 kk_b_7 ?_
  refine r_icmp_ge (tgt := 71) hX dX3_startAnew_15 (by decide) h ?_ ?_
  · clear h; intro h
    refine r_iload_n hX dX3_startAnew_71 rfl 1 rfl ?_
    exact r_iret hX dX3_startAnew_72 h
  · clear h; intro h
    refine r_aload_n hX dX3_startAnew_18 rfl 0 rfl ?_
    refine r_gR hX dX3_startAnew_19 kf_X3_9 rfl h ?_
    clear h; intro t1 h
    refine r_iload_n hX dX3_startAnew_22 rfl 2 rfl ?_
    refine r_iconst hX dX3_startAnew_23 kk_i_1 ?_
    refine r_tI hX dX3_startAnew_24 h ?_
    clear h; intro σ h
    refine r_aload_n hX dX3_startAnew_25 rfl 0 rfl ?_
    refine r_gR hX dX3_startAnew_26 kf_X3_15 rfl h ?_
    clear h; intro t2 h
    refine r_iload_n hX dX3_startAnew_29 rfl 2 rfl ?_
    refine r_iconst hX dX3_startAnew_30 kk_i_0 ?_
    refine r_tI hX dX3_startAnew_31 h ?_
    clear h; intro σ h
    refine r_aload_n hX dX3_startAnew_32 rfl 0 rfl ?_
    refine r_gR hX dX3_startAnew_33 kf_X3_18 rfl h ?_
    clear h; intro t3 h
    refine r_iload_n hX dX3_startAnew_36 rfl 2 rfl ?_
    refine r_iconst hX dX3_startAnew_37 kk_i_0 ?_
    refine r_tI hX dX3_startAnew_38 h ?_
    clear h; intro σ h
    refine r_iconst hX dX3_startAnew_39 kk_i_0 ?_
    refine r_istore (L2 := [(4, .int (0 : Int32)), (0, kr E l0), (2, .int l2), (3, .int l3)]) hX dX3_startAnew_40 (by decide) rfl ?_
    refine r_sub [1, 2, 3, 0] rfl ?_
    exact wX3_startAnew_42 hX k12 hk12 _ _ _ _ _ h
def X3_startAnew_12 (G : kdS) : Nat → Int32 → Int32 → kdM → Option (Int32 × kdM) := lp (fun _ _ _ _ => none) (X3_startAnew_12B G) NN
theorem wX3_startAnew_12 {E : kdE} {G : kdS} {A : kdA} {r : Int32} {σ1 : kdM} (hX : kdX E A cX3_startAnew 5 RX3 (some .int) 0) : ∀ (l0 : Nat) (l2 : Int32) (l3 : Int32) (σ : kdM), X3_startAnew_12 G l0 l2 l3 σ = some (r, σ1) → SW E G (.inl (some (.int r), σ1)) A 5 σ 12 [(0, kr E l0), (2, .int l2), (3, .int l3)] [] :=
  lp_ind (Q := fun f => ∀ (l0 : Nat) (l2 : Int32) (l3 : Int32) (σ : kdM), f l0 l2 l3 σ = some (r, σ1) → SW E G (.inl (some (.int r), σ1)) A 5 σ 12 [(0, kr E l0), (2, .int l2), (3, .int l3)] []) (by intros; contradiction) (fun k hk l0 l2 l3 σ h => wX3_startAnew_12B hX k hk h) NN
def X3_startAnew (G : kdS) (l0 : Nat) (l1 : Int32) : kdM → Option (Int32 × kdM) :=
  gI G 3 0 l0 fun t1 =>
  sI G 3 0 l0 (l1) <|
  X3_startAnew_12 G l0 t1 (0 : Int32)
set_option maxRecDepth 100000 in
set_option maxHeartbeats 4000000 in
theorem wX3_startAnew {E : kdE} {G : kdS} {l0 : Nat} {l1 : Int32} {σ : kdM} {r : Int32} {σ1 : kdM} (h : X3_startAnew G l0 l1 σ = some (r, σ1)) : Con E G yX3_startAnew cX3_startAnew 5 (some .int) 0 [kr E l0, .int l1] σ (some (.int r), σ1) := by
  refine kd_head (own := RX3) rfl (by decide +kernel) (Nat.le_of_ble_eq_true rfl) (fun A hX => ?_)
  show SW E G (.inl (some (.int r), σ1)) A 5 σ 0 [(0, kr E l0), (1, .int l1)] []
  unfold X3_startAnew at h
  refine r_aload_n hX dX3_startAnew_0 rfl 0 rfl ?_
  refine r_gI hX dX3_startAnew_1 kf_X3_37 rfl h ?_
  clear h; intro t1 h
  refine r_istore_n (L2 := [(2, .int t1), (0, kr E l0), (1, .int l1)]) hX dX3_startAnew_4 rfl (by decide) rfl ?_
  refine r_aload_n hX dX3_startAnew_5 rfl 1 rfl ?_
  refine r_iload_n hX dX3_startAnew_6 rfl 2 rfl ?_
  refine r_sI hX dX3_startAnew_7 kf_X3_37 rfl (by intro q hq; cases hq; rfl) h ?_
  clear h; intro σ h
  refine r_iconst hX dX3_startAnew_10 kk_i_0 ?_
  refine r_istore_n (L2 := [(3, .int (0 : Int32)), (2, .int t1), (0, kr E l0), (1, .int l1)]) hX dX3_startAnew_11 rfl (by decide) rfl ?_
  refine r_sub [2, 1, 0] rfl ?_
  exact wX3_startAnew_12 hX _ _ _ _ h
def X11_within_15 (G : kdS) (s0 : Int32) : kdM → Option (Int32 × kdM) :=
  rt (vp_nar .boolean s0)
set_option maxRecDepth 100000 in
set_option maxHeartbeats 4000000 in
theorem wX11_within_15 {E : kdE} {G : kdS} {A : kdA} {r : Int32} {σ1 : kdM} (hX : kdX E A cX11_within 3 RX11 (some .boolean) 0) {σ : kdM} {s0 : Int32} (h : X11_within_15 G s0 σ = some (r, σ1)) : SW E G (.inl (some (.int r), σ1)) A 3 σ 15 [] [.int s0] := by
  unfold X11_within_15 at h
  exact r_zret hX dX11_within_15 h
def X11_within_14 (G : kdS) : kdM → Option (Int32 × kdM) :=
  X11_within_15 G (0 : Int32)
set_option maxRecDepth 100000 in
set_option maxHeartbeats 4000000 in
theorem wX11_within_14 {E : kdE} {G : kdS} {A : kdA} {r : Int32} {σ1 : kdM} (hX : kdX E A cX11_within 3 RX11 (some .boolean) 0) {σ : kdM} (h : X11_within_14 G  σ = some (r, σ1)) : SW E G (.inl (some (.int r), σ1)) A 3 σ 14 [] [] := by
  unfold X11_within_14 at h
  refine r_iconst hX dX11_within_14 kk_i_0 ?_
  refine r_sub [] rfl ?_
  exact wX11_within_15 hX h
def X11_within (G : kdS) (l0 : Int32) (l1 : Int32) (l2 : Int32) : kdM → Option (Int32 × kdM) :=
  cnd (l0 < l1)
    (X11_within_14 G )
    (cnd (l2 < l0)
      (X11_within_14 G )
      (X11_within_15 G (1 : Int32)))
set_option maxRecDepth 100000 in
set_option maxHeartbeats 4000000 in
theorem wX11_within {E : kdE} {G : kdS} {l0 : Int32} {l1 : Int32} {l2 : Int32} {σ : kdM} {r : Int32} {σ1 : kdM} (h : X11_within G l0 l1 l2 σ = some (r, σ1)) : Con E G yX11_within cX11_within 3 (some .boolean) 0 [.int l0, .int l1, .int l2] σ (some (.int r), σ1) := by
  refine kd_head (own := RX11) rfl (by decide +kernel) (Nat.le_of_ble_eq_true rfl) (fun A hX => ?_)
  show SW E G (.inl (some (.int r), σ1)) A 3 σ 0 [(0, .int l0), (1, .int l1), (2, .int l2)] []
  unfold X11_within at h
  refine r_iload_n hX dX11_within_0 rfl 0 rfl ?_
  refine r_iload_n hX dX11_within_1 rfl 1 rfl ?_
  refine r_icmp_lt (tgt := 14) hX dX11_within_2 (by decide) h ?_ ?_
  · clear h; intro h
    refine r_sub [] rfl ?_
    exact wX11_within_14 hX h
  · clear h; intro h
    refine r_iload_n hX dX11_within_5 rfl 0 rfl ?_
    refine r_iload_n hX dX11_within_6 rfl 2 rfl ?_
    refine r_icmp_gt (tgt := 14) hX dX11_within_7 (by decide) h ?_ ?_
    · clear h; intro h
      refine r_sub [] rfl ?_
      exact wX11_within_14 hX h
    · clear h; intro h
      refine r_iconst hX dX11_within_10 kk_i_1 ?_
      refine r_goto (tgt := 15) hX dX11_within_11 (by decide) ?_
      refine r_sub [] rfl ?_
      exact wX11_within_15 hX h
def X11_isKey (G : kdS) (l0 : Int32) : kdM → Option (Int32 × kdM) :=
  kcl (X11_within G l0 (0 : Int32) (11 : Int32)) fun t1 =>
  rt (vp_nar .boolean t1)
set_option maxRecDepth 100000 in
set_option maxHeartbeats 4000000 in
theorem wX11_isKey {E : kdE} {G : kdS} {l0 : Int32} {σ : kdM} {r : Int32} {σ1 : kdM} (h : X11_isKey G l0 σ = some (r, σ1)) : Con E G yX11_isKey cX11_isKey 1 (some .boolean) 1 [.int l0] σ (some (.int r), σ1) := by
  refine kd_head (own := RX11) rfl (by decide +kernel) (Nat.le_of_ble_eq_true rfl) (fun A hX => ?_)
  show SW E G (.inl (some (.int r), σ1)) A 1 σ 0 [(0, .int l0)] []
  unfold X11_isKey at h
  refine r_iload_n hX dX11_isKey_0 rfl 0 rfl ?_
  refine r_iconst hX dX11_isKey_1 kk_i_0 ?_
  refine r_bipush hX dX11_isKey_2 kk_b_11 ?_
  refine r_cSi (As := [.int l0, .int (0 : Int32), .int (11 : Int32)]) (st := []) hX dX11_isKey_4 kl_X11_within w_ml_X11_165 w_st_X11_within (by decide) rfl (Nat.le_of_ble_eq_true rfl) rfl kdz0 h (fun r σ1 h => wX11_within h) ?_
  clear h; intro t1 σ h
  exact r_zret hX dX11_isKey_7 h
def X11_key (G : kdS) (l0 : Nat) (l1 : Int32) : kdM → Option (Int32 × kdM) :=
  kcl (X11_isKey G l1) fun t1 =>
  cnd (t1 = 0)
    (rt (-2 : Int32))
    (gR G 11 0 l0 fun t2 =>
    kcv G 6 t2 (X6_isFull G t2) fun t3 =>
    cnd (t3 = 0)
      (gR G 11 0 l0 fun t4 =>
      kcv G 6 t4 (X6_add G t4 l1) fun _ =>
      gR G 11 0 l0 fun t5 =>
      kcv G 6 t5 (X6_size G t5) fun t6 =>
      rt t6)
      (rt (-4 : Int32)))
set_option maxRecDepth 100000 in
set_option maxHeartbeats 4000000 in
theorem wX11_key {E : kdE} {G : kdS} {l0 : Nat} {l1 : Int32} {σ : kdM} {r : Int32} {σ1 : kdM} (h : X11_key G l0 l1 σ = some (r, σ1)) : Con E G yX11_key cX11_key 2 (some .int) 3 [kr E l0, .int l1] σ (some (.int r), σ1) := by
  refine kd_head (own := RX11) rfl (by decide +kernel) (Nat.le_of_ble_eq_true rfl) (fun A hX => ?_)
  show SW E G (.inl (some (.int r), σ1)) A 2 σ 0 [(0, kr E l0), (1, .int l1)] []
  unfold X11_key at h
  refine r_iload_n hX dX11_key_0 rfl 1 rfl ?_
  refine r_cSi (As := [.int l1]) (st := []) hX dX11_key_1 kl_X11_isKey w_ml_X11_97 w_st_X11_isKey (by decide) rfl (Nat.le_of_ble_eq_true rfl) rfl kdz0 h (fun r σ1 h => wX11_isKey h) ?_
  clear h; intro t1 σ h
  refine r_if_ne (tgt := 10) hX dX11_key_4 (by decide) h ?_ ?_
  · clear h; intro h
    refine r_bipush hX dX11_key_7 kk_b_m2 ?_
    exact r_iret hX dX11_key_9 h
  · clear h; intro h
    refine r_aload_n hX dX11_key_10 rfl 0 rfl ?_
    refine r_gR hX dX11_key_11 kf_X11_14 rfl h ?_
    clear h; intro t2 h
    refine r_cVi (As := []) (st := []) hX dX11_key_14 kl_X6_isFull w_ml_X11_101 w_im_X6_isFull w_se_X6_isFull ⟨_, _, rfl⟩ (by decide) rfl (Nat.le_of_ble_eq_true rfl) rfl kdz0 h (fun r σ1 h => wX6_isFull h) ?_
    clear h; intro t3 σ h
    refine r_if_eq (tgt := 23) hX dX11_key_17 (by decide) h ?_ ?_
    · clear h; intro h
      refine r_aload_n hX dX11_key_23 rfl 0 rfl ?_
      refine r_gR hX dX11_key_24 kf_X11_14 rfl h ?_
      clear h; intro t4 h
      refine r_iload_n hX dX11_key_27 rfl 1 rfl ?_
      refine r_cVv (As := [.int l1]) (st := []) hX dX11_key_28 kl_X6_add w_ml_X11_105 w_im_X6_add w_se_X6_add ⟨_, _, rfl⟩ (by decide) rfl (Nat.le_of_ble_eq_true rfl) rfl kdz0 h (fun r σ1 h => wX6_add h) ?_
      clear h; intro u σ h
      refine r_aload_n hX dX11_key_31 rfl 0 rfl ?_
      refine r_gR hX dX11_key_32 kf_X11_14 rfl h ?_
      clear h; intro t5 h
      refine r_cVi (As := []) (st := []) hX dX11_key_35 kl_X6_size w_ml_X11_108 w_im_X6_size w_se_X6_size ⟨_, _, rfl⟩ (by decide) rfl (Nat.le_of_ble_eq_true rfl) rfl kdz0 h (fun r σ1 h => wX6_size h) ?_
      clear h; intro t6 σ h
      exact r_iret hX dX11_key_38 h
    · clear h; intro h
      refine r_bipush hX dX11_key_20 kk_b_m4 ?_
      exact r_iret hX dX11_key_22 h
def X11_isTongue (G : kdS) (l0 : Int32) : kdM → Option (Int32 × kdM) :=
  kcl (X11_within G l0 (0 : Int32) (2 : Int32)) fun t1 =>
  rt (vp_nar .boolean t1)
set_option maxRecDepth 100000 in
set_option maxHeartbeats 4000000 in
theorem wX11_isTongue {E : kdE} {G : kdS} {l0 : Int32} {σ : kdM} {r : Int32} {σ1 : kdM} (h : X11_isTongue G l0 σ = some (r, σ1)) : Con E G yX11_isTongue cX11_isTongue 1 (some .boolean) 1 [.int l0] σ (some (.int r), σ1) := by
  refine kd_head (own := RX11) rfl (by decide +kernel) (Nat.le_of_ble_eq_true rfl) (fun A hX => ?_)
  show SW E G (.inl (some (.int r), σ1)) A 1 σ 0 [(0, .int l0)] []
  unfold X11_isTongue at h
  refine r_iload_n hX dX11_isTongue_0 rfl 0 rfl ?_
  refine r_iconst hX dX11_isTongue_1 kk_i_0 ?_
  refine r_iconst hX dX11_isTongue_2 kk_i_2 ?_
  refine r_cSi (As := [.int l0, .int (0 : Int32), .int (2 : Int32)]) (st := []) hX dX11_isTongue_3 kl_X11_within w_ml_X11_165 w_st_X11_within (by decide) rfl (Nat.le_of_ble_eq_true rfl) rfl kdz0 h (fun r σ1 h => wX11_within h) ?_
  clear h; intro t1 σ h
  exact r_zret hX dX11_isTongue_6 h
def X11_word_30 (G : kdS) : kdM → Option (Int32 × kdM) :=
  rt (-2 : Int32)
set_option maxRecDepth 100000 in
set_option maxHeartbeats 4000000 in
theorem wX11_word_30 {E : kdE} {G : kdS} {A : kdA} {r : Int32} {σ1 : kdM} (hX : kdX E A cX11_word 5 RX11 (some .int) 5) {σ : kdM} (h : X11_word_30 G  σ = some (r, σ1)) : SW E G (.inl (some (.int r), σ1)) A 5 σ 30 [] [] := by
  unfold X11_word_30 at h
  refine r_bipush hX dX11_word_30 kk_b_m2 ?_
  exact r_iret hX dX11_word_32 h
def X11_word_68 (G : kdS) : kdM → Option (Int32 × kdM) :=
  rt (-5 : Int32)
set_option maxRecDepth 100000 in
set_option maxHeartbeats 4000000 in
theorem wX11_word_68 {E : kdE} {G : kdS} {A : kdA} {r : Int32} {σ1 : kdM} (hX : kdX E A cX11_word 5 RX11 (some .int) 5) {σ : kdM} (h : X11_word_68 G  σ = some (r, σ1)) : SW E G (.inl (some (.int r), σ1)) A 5 σ 68 [] [] := by
  unfold X11_word_68 at h
  refine r_bipush hX dX11_word_68 kk_b_m5 ?_
  exact r_iret hX dX11_word_70 h
def X11_word (G : kdS) (l0 : Nat) (l1 : Int32) (l2 : Int32) (l3 : Int32) : kdM → Option (Int32 × kdM) :=
  kcl (X11_isTongue G l1) fun t1 =>
  cnd (t1 = 0)
    (rt (-1 : Int32))
    (kcl (X11_within G l2 (1 : Int32) (999 : Int32)) fun t2 =>
    cnd (t2 = 0)
      (X11_word_30 G )
      (kcl (X11_within G l3 (1 : Int32) (100 : Int32)) fun t3 =>
      cnd (t3 = 0)
        (X11_word_30 G )
        (gR G 11 4 l0 fun t4 =>
        kcv G 10 t4 (X10_isFull G t4) fun t5 =>
        cnd (t5 = 0)
          (gR G 11 0 l0 fun t6 =>
          kcv G 6 t6 (X6_isEmpty G t6) fun t7 =>
          cnd (t7 = 0)
            (gR G 11 0 l0 fun t8 =>
            kcv G 6 t8 (X6_size G t8) fun t9 =>
            cnd (t9 ≤ (8 : Int32))
              (gR G 11 4 l0 fun t10 =>
              gR G 11 0 l0 fun t11 =>
              kcv G 10 t10 (X10_addWord G t10 l1 l2 l3 t11) fun t12 =>
              gR G 11 0 l0 fun t13 =>
              kcv G 6 t13 (X6_clear G t13) fun t14 =>
              rt t12)
              (X11_word_68 G ))
            (X11_word_68 G ))
          (rt (-4 : Int32)))))
set_option maxRecDepth 100000 in
set_option maxHeartbeats 4000000 in
theorem wX11_word {E : kdE} {G : kdS} {l0 : Nat} {l1 : Int32} {l2 : Int32} {l3 : Int32} {σ : kdM} {r : Int32} {σ1 : kdM} (h : X11_word G l0 l1 l2 l3 σ = some (r, σ1)) : Con E G yX11_word cX11_word 5 (some .int) 5 [kr E l0, .int l1, .int l2, .int l3] σ (some (.int r), σ1) := by
  refine kd_head (own := RX11) rfl (by decide +kernel) (Nat.le_of_ble_eq_true rfl) (fun A hX => ?_)
  show SW E G (.inl (some (.int r), σ1)) A 5 σ 0 [(0, kr E l0), (1, .int l1), (2, .int l2), (3, .int l3)] []
  unfold X11_word at h
  refine r_iload_n hX dX11_word_0 rfl 1 rfl ?_
  refine r_cSi (As := [.int l1]) (st := []) hX dX11_word_1 kl_X11_isTongue w_ml_X11_121 w_st_X11_isTongue (by decide) rfl (Nat.le_of_ble_eq_true rfl) rfl kdz0 h (fun r σ1 h => wX11_isTongue h) ?_
  clear h; intro t1 σ h
  refine r_if_ne (tgt := 9) hX dX11_word_4 (by decide) h ?_ ?_
  · clear h; intro h
    refine r_iconst hX dX11_word_7 kk_i_m1 ?_
    exact r_iret hX dX11_word_8 h
  · clear h; intro h
    refine r_iload_n hX dX11_word_9 rfl 2 rfl ?_
    refine r_iconst hX dX11_word_10 kk_i_1 ?_
    refine r_sipush hX dX11_word_11 kk_s_999 ?_
    refine r_cSi (As := [.int l2, .int (1 : Int32), .int (999 : Int32)]) (st := []) hX dX11_word_14 kl_X11_within w_ml_X11_165 w_st_X11_within (by decide) rfl (Nat.le_of_ble_eq_true rfl) rfl kdz0 h (fun r σ1 h => wX11_within h) ?_
    clear h; intro t2 σ h
    refine r_if_eq (tgt := 30) hX dX11_word_17 (by decide) h ?_ ?_
    · clear h; intro h
      refine r_sub [] rfl ?_
      exact wX11_word_30 hX h
    · clear h; intro h
      refine r_iload_n hX dX11_word_20 rfl 3 rfl ?_
      refine r_iconst hX dX11_word_21 kk_i_1 ?_
      refine r_bipush hX dX11_word_22 kk_b_100 ?_
      refine r_cSi (As := [.int l3, .int (1 : Int32), .int (100 : Int32)]) (st := []) hX dX11_word_24 kl_X11_within w_ml_X11_165 w_st_X11_within (by decide) rfl (Nat.le_of_ble_eq_true rfl) rfl kdz0 h (fun r σ1 h => wX11_within h) ?_
      clear h; intro t3 σ h
      refine r_if_ne (tgt := 33) hX dX11_word_27 (by decide) h ?_ ?_
      · clear h; intro h
        refine r_sub [] rfl ?_
        exact wX11_word_30 hX h
      · clear h; intro h
        refine r_aload_n hX dX11_word_33 rfl 0 rfl ?_
        refine r_gR hX dX11_word_34 kf_X11_38 rfl h ?_
        clear h; intro t4 h
        refine r_cVi (As := []) (st := []) hX dX11_word_37 kl_X10_isFull w_ml_X11_207 w_im_X10_isFull w_se_X10_isFull ⟨_, _, rfl⟩ (by decide) rfl (Nat.le_of_ble_eq_true rfl) rfl kdz0 h (fun r σ1 h => wX10_isFull h) ?_
        clear h; intro t5 σ h
        refine r_if_eq (tgt := 46) hX dX11_word_40 (by decide) h ?_ ?_
        · clear h; intro h
          refine r_aload_n hX dX11_word_46 rfl 0 rfl ?_
          refine r_gR hX dX11_word_47 kf_X11_14 rfl h ?_
          clear h; intro t6 h
          refine r_cVi (As := []) (st := []) hX dX11_word_50 kl_X6_isEmpty w_ml_X11_127 w_im_X6_isEmpty w_se_X6_isEmpty ⟨_, _, rfl⟩ (by decide) rfl (Nat.le_of_ble_eq_true rfl) rfl kdz0 h (fun r σ1 h => wX6_isEmpty h) ?_
          clear h; intro t7 σ h
          refine r_if_ne (tgt := 68) hX dX11_word_53 (by decide) h ?_ ?_
          · clear h; intro h
            refine r_aload_n hX dX11_word_56 rfl 0 rfl ?_
            refine r_gR hX dX11_word_57 kf_X11_14 rfl h ?_
            clear h; intro t8 h
            refine r_cVi (As := []) (st := []) hX dX11_word_60 kl_X6_size w_ml_X11_108 w_im_X6_size w_se_X6_size ⟨_, _, rfl⟩ (by decide) rfl (Nat.le_of_ble_eq_true rfl) rfl kdz0 h (fun r σ1 h => wX6_size h) ?_
            clear h; intro t9 σ h
            refine r_bipush hX dX11_word_63 kk_b_8 ?_
            refine r_icmp_le (tgt := 71) hX dX11_word_65 (by decide) h ?_ ?_
            · clear h; intro h
              refine r_aload_n hX dX11_word_71 rfl 0 rfl ?_
              refine r_gR hX dX11_word_72 kf_X11_38 rfl h ?_
              clear h; intro t10 h
              refine r_iload_n hX dX11_word_75 rfl 1 rfl ?_
              refine r_iload_n hX dX11_word_76 rfl 2 rfl ?_
              refine r_iload_n hX dX11_word_77 rfl 3 rfl ?_
              refine r_aload_n hX dX11_word_78 rfl 0 rfl ?_
              refine r_gR hX dX11_word_79 kf_X11_14 rfl h ?_
              clear h; intro t11 h
              refine r_cVi (As := [.int l1, .int l2, .int l3, kr E t11]) (st := []) hX dX11_word_82 kl_X10_addWord w_ml_X11_208 w_im_X10_addWord w_se_X10_addWord ⟨_, _, rfl⟩ (by decide) rfl (Nat.le_of_ble_eq_true rfl) rfl kdz0 h (fun r σ1 h => wX10_addWord h) ?_
              clear h; intro t12 σ h
              refine r_istore (L2 := [(4, .int t12), (0, kr E l0), (1, .int l1), (2, .int l2), (3, .int l3)]) hX dX11_word_85 (by decide) rfl ?_
              refine r_aload_n hX dX11_word_87 rfl 1 rfl ?_
              refine r_gR hX dX11_word_88 kf_X11_14 rfl h ?_
              clear h; intro t13 h
              refine r_cVi (As := []) (st := []) hX dX11_word_91 kl_X6_clear w_ml_X11_115 w_im_X6_clear w_se_X6_clear ⟨_, _, rfl⟩ (by decide) rfl (Nat.le_of_ble_eq_true rfl) rfl kdz0 h (fun r σ1 h => wX6_clear h) ?_
              clear h; intro t14 σ h
              refine r_pop hX dX11_word_94 rfl ?_
              refine r_iload hX dX11_word_95 0 rfl ?_
              exact r_iret hX dX11_word_97 h
            · clear h; intro h
              refine r_sub [] rfl ?_
              exact wX11_word_68 hX h
          · clear h; intro h
            refine r_sub [] rfl ?_
            exact wX11_word_68 hX h
        · clear h; intro h
          refine r_bipush hX dX11_word_43 kk_b_m4 ?_
          exact r_iret hX dX11_word_45 h
end
section
def X11_ofWord_130 (G : kdS) (s0 : Int32) : kdM → Option (Int32 × kdM) :=
  rt s0
set_option maxRecDepth 100000 in
set_option maxHeartbeats 4000000 in
theorem wX11_ofWord_130 {E : kdE} {G : kdS} {A : kdA} {r : Int32} {σ1 : kdM} (hX : kdX E A cX11_ofWord 3 RX11 (some .int) 2) {σ : kdM} {s0 : Int32} (h : X11_ofWord_130 G s0 σ = some (r, σ1)) : SW E G (.inl (some (.int r), σ1)) A 3 σ 130 [] [.int s0] := by
  unfold X11_ofWord_130 at h
  exact r_iret hX dX11_ofWord_130 h
def X11_ofWord (G : kdS) (l0 : Nat) (l1 : Int32) (l2 : Int32) : kdM → Option (Int32 × kdM) :=
  gR G 11 4 l0 fun t1 =>
  kcv G 10 t1 (X10_has G t1 l1) fun t2 =>
  cnd (t2 = 0)
    (rt (-1 : Int32))
    (cnd (l2 = (0 : Int32))
      (gR G 11 4 l0 fun t3 =>
      kcv G 10 t3 (X10_tongueOf G t3 l1) fun t4 =>
      rt t4)
      (cnd (l2 = (1 : Int32))
        (gR G 11 4 l0 fun t5 =>
        kcv G 10 t5 (X10_signOf G t5 l1) fun t6 =>
        rt t6)
        (cnd (l2 = (2 : Int32))
          (gR G 11 4 l0 fun t7 =>
          kcv G 10 t7 (X10_countOf G t7 l1) fun t8 =>
          rt t8)
          (cnd (l2 = (3 : Int32))
            (gR G 11 4 l0 fun t9 =>
            kcv G 10 t9 (X10_keysOf G t9 l1) fun t10 =>
            kcv G 6 t10 (X6_size G t10) fun t11 =>
            rt t11)
            (cnd ((10 : Int32) ≤ l2)
              (gR G 11 4 l0 fun t12 =>
              kcv G 10 t12 (X10_keysOf G t12 l1) fun t13 =>
              kcv G 6 t13 (X6_has G t13 (l2 - (10 : Int32))) fun t14 =>
              cnd (t14 = 0)
                (X11_ofWord_130 G (-6 : Int32))
                (gR G 11 4 l0 fun t15 =>
                kcv G 10 t15 (X10_keysOf G t15 l1) fun t16 =>
                kcv G 6 t16 (X6_at G t16 (l2 - (10 : Int32))) fun t17 =>
                X11_ofWord_130 G t17))
              (rt (-2 : Int32)))))))
set_option maxRecDepth 100000 in
set_option maxHeartbeats 4000000 in
theorem wX11_ofWord {E : kdE} {G : kdS} {l0 : Nat} {l1 : Int32} {l2 : Int32} {σ : kdM} {r : Int32} {σ1 : kdM} (h : X11_ofWord G l0 l1 l2 σ = some (r, σ1)) : Con E G yX11_ofWord cX11_ofWord 3 (some .int) 2 [kr E l0, .int l1, .int l2] σ (some (.int r), σ1) := by
  refine kd_head (own := RX11) rfl (by decide +kernel) (Nat.le_of_ble_eq_true rfl) (fun A hX => ?_)
  show SW E G (.inl (some (.int r), σ1)) A 3 σ 0 [(0, kr E l0), (1, .int l1), (2, .int l2)] []
  unfold X11_ofWord at h
  refine r_aload_n hX dX11_ofWord_0 rfl 0 rfl ?_
  refine r_gR hX dX11_ofWord_1 kf_X11_38 rfl h ?_
  clear h; intro t1 h
  refine r_iload_n hX dX11_ofWord_4 rfl 1 rfl ?_
  refine r_cVi (As := [.int l1]) (st := []) hX dX11_ofWord_5 kl_X10_has w_ml_X11_212 w_im_X10_has w_se_X10_has ⟨_, _, rfl⟩ (by decide) rfl (Nat.le_of_ble_eq_true rfl) rfl kdz0 h (fun r σ1 h => wX10_has h) ?_
  clear h; intro t2 σ h
  refine r_if_ne (tgt := 13) hX dX11_ofWord_8 (by decide) h ?_ ?_
  · clear h; intro h
    refine r_iconst hX dX11_ofWord_11 kk_i_m1 ?_
    exact r_iret hX dX11_ofWord_12 h
  · clear h; intro h
    refine r_iload_n hX dX11_ofWord_13 rfl 2 rfl ?_
    refine r_case (q := l2 = (0 : Int32)) h ?_ ?_
    · clear h; intro hq h
      refine r_tsIn (tgt := 44) (off := 30) (v := (0 : Int32)) hX dX11_ofWord_14 hq (by decide) (by decide) (by decide +kernel) (by decide) ?_
      clear hq
      refine r_aload_n hX dX11_ofWord_44 rfl 0 rfl ?_
      refine r_gR hX dX11_ofWord_45 kf_X11_38 rfl h ?_
      clear h; intro t3 h
      refine r_iload_n hX dX11_ofWord_48 rfl 1 rfl ?_
      refine r_cVi (As := [.int l1]) (st := []) hX dX11_ofWord_49 kl_X10_tongueOf w_ml_X11_213 w_im_X10_tongueOf w_se_X10_tongueOf ⟨_, _, rfl⟩ (by decide) rfl (Nat.le_of_ble_eq_true rfl) rfl kdz0 h (fun r σ1 h => wX10_tongueOf h) ?_
      clear h; intro t4 σ h
      exact r_iret hX dX11_ofWord_52 h
    · clear h; intro hn0 h
      refine r_case (q := l2 = (1 : Int32)) h ?_ ?_
      · clear h; intro hq h
        refine r_tsIn (tgt := 53) (off := 39) (v := (1 : Int32)) hX dX11_ofWord_14 hq (by decide) (by decide) (by decide +kernel) (by decide) ?_
        clear hq
        refine r_aload_n hX dX11_ofWord_53 rfl 0 rfl ?_
        refine r_gR hX dX11_ofWord_54 kf_X11_38 rfl h ?_
        clear h; intro t5 h
        refine r_iload_n hX dX11_ofWord_57 rfl 1 rfl ?_
        refine r_cVi (As := [.int l1]) (st := []) hX dX11_ofWord_58 kl_X10_signOf w_ml_X11_216 w_im_X10_signOf w_se_X10_signOf ⟨_, _, rfl⟩ (by decide) rfl (Nat.le_of_ble_eq_true rfl) rfl kdz0 h (fun r σ1 h => wX10_signOf h) ?_
        clear h; intro t6 σ h
        exact r_iret hX dX11_ofWord_61 h
      · clear h; intro hn1 h
        refine r_case (q := l2 = (2 : Int32)) h ?_ ?_
        · clear h; intro hq h
          refine r_tsIn (tgt := 62) (off := 48) (v := (2 : Int32)) hX dX11_ofWord_14 hq (by decide) (by decide) (by decide +kernel) (by decide) ?_
          clear hq
          refine r_aload_n hX dX11_ofWord_62 rfl 0 rfl ?_
          refine r_gR hX dX11_ofWord_63 kf_X11_38 rfl h ?_
          clear h; intro t7 h
          refine r_iload_n hX dX11_ofWord_66 rfl 1 rfl ?_
          refine r_cVi (As := [.int l1]) (st := []) hX dX11_ofWord_67 kl_X10_countOf w_ml_X11_219 w_im_X10_countOf w_se_X10_countOf ⟨_, _, rfl⟩ (by decide) rfl (Nat.le_of_ble_eq_true rfl) rfl kdz0 h (fun r σ1 h => wX10_countOf h) ?_
          clear h; intro t8 σ h
          exact r_iret hX dX11_ofWord_70 h
        · clear h; intro hn2 h
          refine r_case (q := l2 = (3 : Int32)) h ?_ ?_
          · clear h; intro hq h
            refine r_tsIn (tgt := 71) (off := 57) (v := (3 : Int32)) hX dX11_ofWord_14 hq (by decide) (by decide) (by decide +kernel) (by decide) ?_
            clear hq
            refine r_aload_n hX dX11_ofWord_71 rfl 0 rfl ?_
            refine r_gR hX dX11_ofWord_72 kf_X11_38 rfl h ?_
            clear h; intro t9 h
            refine r_iload_n hX dX11_ofWord_75 rfl 1 rfl ?_
            refine r_cVa (As := [.int l1]) (st := []) hX dX11_ofWord_76 kl_X10_keysOf w_ml_X11_222 w_im_X10_keysOf w_se_X10_keysOf ⟨_, _, rfl⟩ (by decide) rfl (Nat.le_of_ble_eq_true rfl) rfl kdz0 h (fun r σ1 h => wX10_keysOf h) ?_
            clear h; intro t10 σ h
            refine r_cVi (As := []) (st := []) hX dX11_ofWord_79 kl_X6_size w_ml_X11_108 w_im_X6_size w_se_X6_size ⟨_, _, rfl⟩ (by decide) rfl (Nat.le_of_ble_eq_true rfl) rfl kdz0 h (fun r σ1 h => wX6_size h) ?_
            clear h; intro t11 σ h
            exact r_iret hX dX11_ofWord_82 h
          · clear h; intro hn3 h
            refine r_tsOut (tgt := 83) hX dX11_ofWord_14 (by have e0 := kd_ne (a := 0) hn0 (by decide); have e1 := kd_ne (a := 1) hn1 (by decide); have e2 := kd_ne (a := 2) hn2 (by decide); have e3 := kd_ne (a := 3) hn3 (by decide); omega) (by decide) ?_
            refine r_iload_n hX dX11_ofWord_83 rfl 2 rfl ?_
            refine r_bipush hX dX11_ofWord_84 kk_b_10 ?_
            refine r_icmp_ge (tgt := 92) hX dX11_ofWord_86 (by decide) h ?_ ?_
            · clear h; intro h
              refine r_aload_n hX dX11_ofWord_92 rfl 0 rfl ?_
              refine r_gR hX dX11_ofWord_93 kf_X11_38 rfl h ?_
              clear h; intro t12 h
              refine r_iload_n hX dX11_ofWord_96 rfl 1 rfl ?_
              refine r_cVa (As := [.int l1]) (st := []) hX dX11_ofWord_97 kl_X10_keysOf w_ml_X11_222 w_im_X10_keysOf w_se_X10_keysOf ⟨_, _, rfl⟩ (by decide) rfl (Nat.le_of_ble_eq_true rfl) rfl kdz0 h (fun r σ1 h => wX10_keysOf h) ?_
              clear h; intro t13 σ h
              refine r_iload_n hX dX11_ofWord_100 rfl 2 rfl ?_
              refine r_bipush hX dX11_ofWord_101 kk_b_10 ?_
              refine r_isub hX dX11_ofWord_103 ?_
              refine r_cVi (As := [.int (l2 - (10 : Int32))]) (st := []) hX dX11_ofWord_104 kl_X6_has w_ml_X11_173 w_im_X6_has w_se_X6_has ⟨_, _, rfl⟩ (by decide) rfl (Nat.le_of_ble_eq_true rfl) rfl kdz0 h (fun r σ1 h => wX6_has h) ?_
              clear h; intro t14 σ h
              refine r_if_eq (tgt := 128) hX dX11_ofWord_107 (by decide) h ?_ ?_
              · clear h; intro h
                refine r_bipush hX dX11_ofWord_128 kk_b_m6 ?_
                refine r_sub [] rfl ?_
                exact wX11_ofWord_130 hX h
              · clear h; intro h
                refine r_aload_n hX dX11_ofWord_110 rfl 0 rfl ?_
                refine r_gR hX dX11_ofWord_111 kf_X11_38 rfl h ?_
                clear h; intro t15 h
                refine r_iload_n hX dX11_ofWord_114 rfl 1 rfl ?_
                refine r_cVa (As := [.int l1]) (st := []) hX dX11_ofWord_115 kl_X10_keysOf w_ml_X11_222 w_im_X10_keysOf w_se_X10_keysOf ⟨_, _, rfl⟩ (by decide) rfl (Nat.le_of_ble_eq_true rfl) rfl kdz0 h (fun r σ1 h => wX10_keysOf h) ?_
                clear h; intro t16 σ h
                refine r_iload_n hX dX11_ofWord_118 rfl 2 rfl ?_
                refine r_bipush hX dX11_ofWord_119 kk_b_10 ?_
                refine r_isub hX dX11_ofWord_121 ?_
                refine r_cVi (As := [.int (l2 - (10 : Int32))]) (st := []) hX dX11_ofWord_122 kl_X6_at w_ml_X11_194 w_im_X6_at w_se_X6_at ⟨_, _, rfl⟩ (by decide) rfl (Nat.le_of_ble_eq_true rfl) rfl kdz0 h (fun r σ1 h => wX6_at h) ?_
                clear h; intro t17 σ h
                refine r_goto (tgt := 130) hX dX11_ofWord_125 (by decide) ?_
                refine r_sub [] rfl ?_
                exact wX11_ofWord_130 hX h
            · clear h; intro h
              refine r_bipush hX dX11_ofWord_89 kk_b_m2 ?_
              exact r_iret hX dX11_ofWord_91 h
def X11_slip_47 (G : kdS) (s0 : Int32) : kdM → Option (Int32 × kdM) :=
  rt s0
set_option maxRecDepth 100000 in
set_option maxHeartbeats 4000000 in
theorem wX11_slip_47 {E : kdE} {G : kdS} {A : kdA} {r : Int32} {σ1 : kdM} (hX : kdX E A cX11_slip 2 RX11 (some .int) 5) {σ : kdM} {s0 : Int32} (h : X11_slip_47 G s0 σ = some (r, σ1)) : SW E G (.inl (some (.int r), σ1)) A 2 σ 47 [] [.int s0] := by
  unfold X11_slip_47 at h
  exact r_iret hX dX11_slip_47 h
def X11_slip (G : kdS) (l0 : Nat) (l1 : Int32) : kdM → Option (Int32 × kdM) :=
  gR G 11 4 l0 fun t1 =>
  kcv G 10 t1 (X10_has G t1 l1) fun t2 =>
  cnd (t2 = 0)
    (rt (-1 : Int32))
    (gR G 11 0 l0 fun t3 =>
    kcv G 6 t3 (X6_isEmpty G t3) fun t4 =>
    cnd (t4 = 0)
      (gR G 11 5 l0 fun t5 =>
      gR G 11 0 l0 fun t6 =>
      gR G 11 4 l0 fun t7 =>
      kcv G 10 t7 (X10_keysOf G t7 l1) fun t8 =>
      kcv G 7 t5 (X7_priceOf G t5 t6 t8) fun t9 =>
      X11_slip_47 G t9)
      (X11_slip_47 G (-3 : Int32)))
set_option maxRecDepth 100000 in
set_option maxHeartbeats 4000000 in
theorem wX11_slip {E : kdE} {G : kdS} {l0 : Nat} {l1 : Int32} {σ : kdM} {r : Int32} {σ1 : kdM} (h : X11_slip G l0 l1 σ = some (r, σ1)) : Con E G yX11_slip cX11_slip 2 (some .int) 5 [kr E l0, .int l1] σ (some (.int r), σ1) := by
  refine kd_head (own := RX11) rfl (by decide +kernel) (Nat.le_of_ble_eq_true rfl) (fun A hX => ?_)
  show SW E G (.inl (some (.int r), σ1)) A 2 σ 0 [(0, kr E l0), (1, .int l1)] []
  unfold X11_slip at h
  refine r_aload_n hX dX11_slip_0 rfl 0 rfl ?_
  refine r_gR hX dX11_slip_1 kf_X11_38 rfl h ?_
  clear h; intro t1 h
  refine r_iload_n hX dX11_slip_4 rfl 1 rfl ?_
  refine r_cVi (As := [.int l1]) (st := []) hX dX11_slip_5 kl_X10_has w_ml_X11_212 w_im_X10_has w_se_X10_has ⟨_, _, rfl⟩ (by decide) rfl (Nat.le_of_ble_eq_true rfl) rfl kdz0 h (fun r σ1 h => wX10_has h) ?_
  clear h; intro t2 σ h
  refine r_if_ne (tgt := 13) hX dX11_slip_8 (by decide) h ?_ ?_
  · clear h; intro h
    refine r_iconst hX dX11_slip_11 kk_i_m1 ?_
    exact r_iret hX dX11_slip_12 h
  · clear h; intro h
    refine r_aload_n hX dX11_slip_13 rfl 0 rfl ?_
    refine r_gR hX dX11_slip_14 kf_X11_14 rfl h ?_
    clear h; intro t3 h
    refine r_cVi (As := []) (st := []) hX dX11_slip_17 kl_X6_isEmpty w_ml_X11_127 w_im_X6_isEmpty w_se_X6_isEmpty ⟨_, _, rfl⟩ (by decide) rfl (Nat.le_of_ble_eq_true rfl) rfl kdz0 h (fun r σ1 h => wX6_isEmpty h) ?_
    clear h; intro t4 σ h
    refine r_if_eq (tgt := 28) hX dX11_slip_20 (by decide) h ?_ ?_
    · clear h; intro h
      refine r_aload_n hX dX11_slip_28 rfl 0 rfl ?_
      refine r_gR hX dX11_slip_29 kf_X11_45 rfl h ?_
      clear h; intro t5 h
      refine r_aload_n hX dX11_slip_32 rfl 0 rfl ?_
      refine r_gR hX dX11_slip_33 kf_X11_14 rfl h ?_
      clear h; intro t6 h
      refine r_aload_n hX dX11_slip_36 rfl 0 rfl ?_
      refine r_gR hX dX11_slip_37 kf_X11_38 rfl h ?_
      clear h; intro t7 h
      refine r_iload_n hX dX11_slip_40 rfl 1 rfl ?_
      refine r_cVa (As := [.int l1]) (st := [kr E t6, kr E t5]) hX dX11_slip_41 kl_X10_keysOf w_ml_X11_222 w_im_X10_keysOf w_se_X10_keysOf ⟨_, _, rfl⟩ (by decide) rfl (Nat.le_of_ble_eq_true rfl) rfl kdz0 h (fun r σ1 h => wX10_keysOf h) ?_
      clear h; intro t8 σ h
      refine r_cVi (As := [kr E t6, kr E t8]) (st := []) hX dX11_slip_44 kl_X7_priceOf w_ml_X11_232 w_im_X7_priceOf w_se_X7_priceOf ⟨_, _, rfl⟩ (by decide) rfl (Nat.le_of_ble_eq_true rfl) rfl kdz0 h (fun r σ1 h => wX7_priceOf h) ?_
      clear h; intro t9 σ h
      refine r_sub [] rfl ?_
      exact wX11_slip_47 hX h
    · clear h; intro h
      refine r_bipush hX dX11_slip_23 kk_b_m3 ?_
      refine r_goto (tgt := 47) hX dX11_slip_25 (by decide) ?_
      refine r_sub [] rfl ?_
      exact wX11_slip_47 hX h
def X11_hasBit_14 (G : kdS) (s0 : Int32) : kdM → Option (Int32 × kdM) :=
  rt (vp_nar .boolean s0)
set_option maxRecDepth 100000 in
set_option maxHeartbeats 4000000 in
theorem wX11_hasBit_14 {E : kdE} {G : kdS} {A : kdA} {r : Int32} {σ1 : kdM} (hX : kdX E A cX11_hasBit 2 RX11 (some .boolean) 0) {σ : kdM} {s0 : Int32} (h : X11_hasBit_14 G s0 σ = some (r, σ1)) : SW E G (.inl (some (.int r), σ1)) A 2 σ 14 [] [.int s0] := by
  unfold X11_hasBit_14 at h
  exact r_zret hX dX11_hasBit_14 h
def X11_hasBit (G : kdS) (l0 : Int32) (l1 : Int32) : kdM → Option (Int32 × kdM) :=
  cnd (((l0 >>> (l1 &&& 31)) &&& (1 : Int32)) = (1 : Int32))
    (X11_hasBit_14 G (1 : Int32))
    (X11_hasBit_14 G (0 : Int32))
set_option maxRecDepth 100000 in
set_option maxHeartbeats 4000000 in
theorem wX11_hasBit {E : kdE} {G : kdS} {l0 : Int32} {l1 : Int32} {σ : kdM} {r : Int32} {σ1 : kdM} (h : X11_hasBit G l0 l1 σ = some (r, σ1)) : Con E G yX11_hasBit cX11_hasBit 2 (some .boolean) 0 [.int l0, .int l1] σ (some (.int r), σ1) := by
  refine kd_head (own := RX11) rfl (by decide +kernel) (Nat.le_of_ble_eq_true rfl) (fun A hX => ?_)
  show SW E G (.inl (some (.int r), σ1)) A 2 σ 0 [(0, .int l0), (1, .int l1)] []
  unfold X11_hasBit at h
  refine r_iload_n hX dX11_hasBit_0 rfl 0 rfl ?_
  refine r_iload_n hX dX11_hasBit_1 rfl 1 rfl ?_
  refine r_ishr hX dX11_hasBit_2 ?_
  refine r_iconst hX dX11_hasBit_3 kk_i_1 ?_
  refine r_iand hX dX11_hasBit_4 ?_
  refine r_iconst hX dX11_hasBit_5 kk_i_1 ?_
  refine r_icmp_ne (tgt := 13) hX dX11_hasBit_6 (by decide) h ?_ ?_
  · clear h; intro h
    refine r_iconst hX dX11_hasBit_9 kk_i_1 ?_
    refine r_goto (tgt := 14) hX dX11_hasBit_10 (by decide) ?_
    refine r_sub [] rfl ?_
    exact wX11_hasBit_14 hX h
  · clear h; intro h
    refine r_iconst hX dX11_hasBit_13 kk_i_0 ?_
    refine r_sub [] rfl ?_
    exact wX11_hasBit_14 hX h
def X11_gather_103 (G : kdS) (k10 : Nat → Int32 → Int32 → Int32 → Int32 → Int32 → kdM → Option (Unit × kdM)) (l0 : Nat) (l1 : Int32) (l2 : Int32) (l3 : Int32) (l4 : Int32) (l5 : Int32) : kdM → Option (Unit × kdM) :=
  ltI (l5 + Int32.ofInt 1) fun t1 =>
  k10 l0 l1 l2 l3 l4 t1
set_option maxRecDepth 100000 in
set_option maxHeartbeats 4000000 in
theorem wX11_gather_103 {E : kdE} {G : kdS} {A : kdA} {r : Unit} {σ1 : kdM} (hX : kdX E A cX11_gather 7 RX11 none 5) (k10 : Nat → Int32 → Int32 → Int32 → Int32 → Int32 → kdM → Option (Unit × kdM)) (hk10 : ∀ (l0 : Nat) (l1 : Int32) (l2 : Int32) (l3 : Int32) (l4 : Int32) (l5 : Int32) (σ : kdM), k10 l0 l1 l2 l3 l4 l5 σ = some (r, σ1) → SW E G (.inl (none, σ1)) A 7 σ 10 [(0, kr E l0), (1, .int l1), (2, .int l2), (3, .int l3), (4, .int l4), (5, .int l5)] []) {σ : kdM} {l0 : Nat} {l1 : Int32} {l2 : Int32} {l3 : Int32} {l4 : Int32} {l5 : Int32} (h : X11_gather_103 G k10 l0 l1 l2 l3 l4 l5 σ = some (r, σ1)) : SW E G (.inl (none, σ1)) A 7 σ 103 [(0, kr E l0), (1, .int l1), (2, .int l2), (3, .int l3), (4, .int l4), (5, .int l5)] [] := by
  unfold X11_gather_103 at h
  refine r_iincL (L2 := fun t1 => [(5, .int t1), (0, kr E l0), (1, .int l1), (2, .int l2), (3, .int l3), (4, .int l4)]) hX dX11_gather_103 h 5 rfl (by decide) (fun _ => rfl) ?_
  clear h; intro t1 h
  refine r_goto (tgt := 10) hX dX11_gather_106 (by decide) ?_
  refine r_sub [1, 2, 3, 4, 5, 0] rfl ?_
  exact hk10 _ _ _ _ _ _ _ h
def X11_gather_10B (G : kdS) (k10 : Nat → Int32 → Int32 → Int32 → Int32 → Int32 → kdM → Option (Unit × kdM)) (l0 : Nat) (l1 : Int32) (l2 : Int32) (l3 : Int32) (l4 : Int32) (l5 : Int32) : kdM → Option (Unit × kdM) :=
  gR G 11 4 l0 fun t1 =>
  kcv G 10 t1 (X10_size G t1) fun t2 =>
  cnd (t2 ≤ l5)
    (rt ())
    (gR G 11 4 l0 fun t3 =>
    kcv G 10 t3 (X10_tongueOf G t3 l5) fun t4 =>
    kcl (X11_hasBit G l1 t4) fun t5 =>
    cnd (t5 = 0)
      (X11_gather_103 G k10 l0 l1 l2 l3 l4 l5)
      (gR G 11 5 l0 fun t6 =>
      gR G 11 0 l0 fun t7 =>
      gR G 11 4 l0 fun t8 =>
      kcv G 10 t8 (X10_keysOf G t8 l5) fun t9 =>
      kcv G 7 t6 (X7_priceOf G t6 t7 t9) fun t10 =>
      cnd (l2 < t10)
        (X11_gather_103 G k10 l0 l1 l2 l3 l4 l5)
        (gR G 11 6 l0 fun t11 =>
        gR G 11 4 l0 fun t12 =>
        kcv G 10 t12 (X10_countOf G t12 l5) fun t13 =>
        gR G 11 9 l0 fun t14 =>
        kcv G 2 t14 (X2_worthOf G t14 l3 l5 l4) fun t15 =>
        kcv G 1 t11 (X1_insert G t11 l5 t10 (((1000 : Int32) * t13) + t15)) fun _ =>
        X11_gather_103 G k10 l0 l1 l2 l3 l4 l5)))
set_option maxRecDepth 100000 in
set_option maxHeartbeats 4000000 in
theorem wX11_gather_10B {E : kdE} {G : kdS} {A : kdA} {r : Unit} {σ1 : kdM} (hX : kdX E A cX11_gather 7 RX11 none 5) (k10 : Nat → Int32 → Int32 → Int32 → Int32 → Int32 → kdM → Option (Unit × kdM)) (hk10 : ∀ (l0 : Nat) (l1 : Int32) (l2 : Int32) (l3 : Int32) (l4 : Int32) (l5 : Int32) (σ : kdM), k10 l0 l1 l2 l3 l4 l5 σ = some (r, σ1) → SW E G (.inl (none, σ1)) A 7 σ 10 [(0, kr E l0), (1, .int l1), (2, .int l2), (3, .int l3), (4, .int l4), (5, .int l5)] []) {σ : kdM} {l0 : Nat} {l1 : Int32} {l2 : Int32} {l3 : Int32} {l4 : Int32} {l5 : Int32} (h : X11_gather_10B G k10 l0 l1 l2 l3 l4 l5 σ = some (r, σ1)) : SW E G (.inl (none, σ1)) A 7 σ 10 [(0, kr E l0), (1, .int l1), (2, .int l2), (3, .int l3), (4, .int l4), (5, .int l5)] [] := by
  unfold X11_gather_10B at h
  refine r_iload hX dX11_gather_10 5 rfl ?_
  refine r_aload_n hX dX11_gather_12 rfl 0 rfl ?_
  refine r_gR hX dX11_gather_13 kf_X11_38 rfl h ?_
  clear h; intro t1 h
  refine r_cVi (As := []) (st := [.int l5]) hX dX11_gather_16 kl_X10_size w_ml_X11_367 w_im_X10_size w_se_X10_size ⟨_, _, rfl⟩ (by decide) rfl (Nat.le_of_ble_eq_true rfl) rfl kdz0 h (fun r σ1 h => wX10_size h) ?_
  clear h; intro t2 σ h
  refine r_icmp_ge (tgt := 109) hX dX11_gather_19 (by decide) h ?_ ?_
  · clear h; intro h
    exact r_vret hX dX11_gather_109 h
  · clear h; intro h
    refine r_iload_n hX dX11_gather_22 rfl 1 rfl ?_
    refine r_aload_n hX dX11_gather_23 rfl 0 rfl ?_
    refine r_gR hX dX11_gather_24 kf_X11_38 rfl h ?_
    clear h; intro t3 h
    refine r_iload hX dX11_gather_27 5 rfl ?_
    refine r_cVi (As := [.int l5]) (st := [.int l1]) hX dX11_gather_29 kl_X10_tongueOf w_ml_X11_213 w_im_X10_tongueOf w_se_X10_tongueOf ⟨_, _, rfl⟩ (by decide) rfl (Nat.le_of_ble_eq_true rfl) rfl kdz0 h (fun r σ1 h => wX10_tongueOf h) ?_
    clear h; intro t4 σ h
    refine r_cSi (As := [.int l1, .int t4]) (st := []) hX dX11_gather_32 kl_X11_hasBit w_ml_X11_385 w_st_X11_hasBit (by decide) rfl (Nat.le_of_ble_eq_true rfl) rfl kdz0 h (fun r σ1 h => wX11_hasBit h) ?_
    clear h; intro t5 σ h
    refine r_if_eq (tgt := 103) hX dX11_gather_35 (by decide) h ?_ ?_
    · clear h; intro h
      refine r_sub [0, 1, 2, 3, 4, 5] rfl ?_
      exact wX11_gather_103 hX k10 hk10 h
    · clear h; intro h
      refine r_aload_n hX dX11_gather_38 rfl 0 rfl ?_
      refine r_gR hX dX11_gather_39 kf_X11_45 rfl h ?_
      clear h; intro t6 h
      refine r_aload_n hX dX11_gather_42 rfl 0 rfl ?_
      refine r_gR hX dX11_gather_43 kf_X11_14 rfl h ?_
      clear h; intro t7 h
      refine r_aload_n hX dX11_gather_46 rfl 0 rfl ?_
      refine r_gR hX dX11_gather_47 kf_X11_38 rfl h ?_
      clear h; intro t8 h
      refine r_iload hX dX11_gather_50 5 rfl ?_
      refine r_cVa (As := [.int l5]) (st := [kr E t7, kr E t6]) hX dX11_gather_52 kl_X10_keysOf w_ml_X11_222 w_im_X10_keysOf w_se_X10_keysOf ⟨_, _, rfl⟩ (by decide) rfl (Nat.le_of_ble_eq_true rfl) rfl kdz0 h (fun r σ1 h => wX10_keysOf h) ?_
      clear h; intro t9 σ h
      refine r_cVi (As := [kr E t7, kr E t9]) (st := []) hX dX11_gather_55 kl_X7_priceOf w_ml_X11_232 w_im_X7_priceOf w_se_X7_priceOf ⟨_, _, rfl⟩ (by decide) rfl (Nat.le_of_ble_eq_true rfl) rfl kdz0 h (fun r σ1 h => wX7_priceOf h) ?_
      clear h; intro t10 σ h
      refine r_istore (L2 := [(6, .int t10), (0, kr E l0), (1, .int l1), (2, .int l2), (3, .int l3), (4, .int l4), (5, .int l5)]) hX dX11_gather_58 (by decide) rfl ?_
      refine r_iload hX dX11_gather_60 0 rfl ?_
      refine r_iload_n hX dX11_gather_62 rfl 3 rfl ?_
      refine r_icmp_gt (tgt := 103) hX dX11_gather_63 (by decide) h ?_ ?_
      · clear h; intro h
        refine r_sub [1, 2, 3, 4, 5, 6] rfl ?_
        exact wX11_gather_103 hX k10 hk10 h
      · clear h; intro h
        refine r_aload_n hX dX11_gather_66 rfl 1 rfl ?_
        refine r_gR hX dX11_gather_67 kf_X11_52 rfl h ?_
        clear h; intro t11 h
        refine r_iload hX dX11_gather_70 6 rfl ?_
        refine r_iload hX dX11_gather_72 0 rfl ?_
        refine r_sipush hX dX11_gather_74 kk_s_1000 ?_
        refine r_aload_n hX dX11_gather_77 rfl 1 rfl ?_
        refine r_gR hX dX11_gather_78 kf_X11_38 rfl h ?_
        clear h; intro t12 h
        refine r_iload hX dX11_gather_81 6 rfl ?_
        refine r_cVi (As := [.int l5]) (st := [.int (1000 : Int32), .int t10, .int l5, kr E t11]) hX dX11_gather_83 kl_X10_countOf w_ml_X11_219 w_im_X10_countOf w_se_X10_countOf ⟨_, _, rfl⟩ (by decide) rfl (Nat.le_of_ble_eq_true rfl) rfl kdz0 h (fun r σ1 h => wX10_countOf h) ?_
        clear h; intro t13 σ h
        refine r_imul hX dX11_gather_86 ?_
        refine r_aload_n hX dX11_gather_87 rfl 1 rfl ?_
        refine r_gR hX dX11_gather_88 kf_X11_77 rfl h ?_
        clear h; intro t14 h
        refine r_iload_n hX dX11_gather_91 rfl 4 rfl ?_
        refine r_iload hX dX11_gather_92 6 rfl ?_
        refine r_iload hX dX11_gather_94 5 rfl ?_
        refine r_cVi (As := [.int l3, .int l5, .int l4]) (st := [.int ((1000 : Int32) * t13), .int t10, .int l5, kr E t11]) hX dX11_gather_96 kl_X2_worthOf w_ml_X11_289 w_im_X2_worthOf w_se_X2_worthOf ⟨_, _, rfl⟩ (by decide) rfl (Nat.le_of_ble_eq_true rfl) rfl kdz0 h (fun r σ1 h => wX2_worthOf h) ?_
        clear h; intro t15 σ h
        refine r_iadd hX dX11_gather_99 ?_
        refine r_cVv (As := [.int l5, .int t10, .int (((1000 : Int32) * t13) + t15)]) (st := []) hX dX11_gather_100 kl_X1_insert w_ml_X11_389 w_im_X1_insert w_se_X1_insert ⟨_, _, rfl⟩ (by decide) rfl (Nat.le_of_ble_eq_true rfl) rfl kdz0 h (fun r σ1 h => wX1_insert h) ?_
        clear h; intro u σ h
        refine r_sub [1, 2, 3, 4, 5, 6] rfl ?_
        exact wX11_gather_103 hX k10 hk10 h
def X11_gather_10 (G : kdS) : Nat → Int32 → Int32 → Int32 → Int32 → Int32 → kdM → Option (Unit × kdM) := lp (fun _ _ _ _ _ _ _ => none) (X11_gather_10B G) NN
theorem wX11_gather_10 {E : kdE} {G : kdS} {A : kdA} {r : Unit} {σ1 : kdM} (hX : kdX E A cX11_gather 7 RX11 none 5) : ∀ (l0 : Nat) (l1 : Int32) (l2 : Int32) (l3 : Int32) (l4 : Int32) (l5 : Int32) (σ : kdM), X11_gather_10 G l0 l1 l2 l3 l4 l5 σ = some (r, σ1) → SW E G (.inl (none, σ1)) A 7 σ 10 [(0, kr E l0), (1, .int l1), (2, .int l2), (3, .int l3), (4, .int l4), (5, .int l5)] [] :=
  lp_ind (Q := fun f => ∀ (l0 : Nat) (l1 : Int32) (l2 : Int32) (l3 : Int32) (l4 : Int32) (l5 : Int32) (σ : kdM), f l0 l1 l2 l3 l4 l5 σ = some (r, σ1) → SW E G (.inl (none, σ1)) A 7 σ 10 [(0, kr E l0), (1, .int l1), (2, .int l2), (3, .int l3), (4, .int l4), (5, .int l5)] []) (by intros; contradiction) (fun k hk l0 l1 l2 l3 l4 l5 σ h => wX11_gather_10B hX k hk h) NN
def X11_gather (G : kdS) (l0 : Nat) (l1 : Int32) (l2 : Int32) (l3 : Int32) (l4 : Int32) : kdM → Option (Unit × kdM) :=
  gR G 11 6 l0 fun t1 =>
  kcv G 1 t1 (X1_clear G t1) fun _ =>
  X11_gather_10 G l0 l1 l2 l3 l4 (0 : Int32)
set_option maxRecDepth 100000 in
set_option maxHeartbeats 4000000 in
theorem wX11_gather {E : kdE} {G : kdS} {l0 : Nat} {l1 : Int32} {l2 : Int32} {l3 : Int32} {l4 : Int32} {σ : kdM} {r : Unit} {σ1 : kdM} (h : X11_gather G l0 l1 l2 l3 l4 σ = some (r, σ1)) : Con E G yX11_gather cX11_gather 7 none 5 [kr E l0, .int l1, .int l2, .int l3, .int l4] σ (none, σ1) := by
  refine kd_head (own := RX11) rfl (by decide +kernel) (Nat.le_of_ble_eq_true rfl) (fun A hX => ?_)
  show SW E G (.inl (none, σ1)) A 7 σ 0 [(0, kr E l0), (1, .int l1), (2, .int l2), (3, .int l3), (4, .int l4)] []
  unfold X11_gather at h
  refine r_aload_n hX dX11_gather_0 rfl 0 rfl ?_
  refine r_gR hX dX11_gather_1 kf_X11_52 rfl h ?_
  clear h; intro t1 h
  refine r_cVv (As := []) (st := []) hX dX11_gather_4 kl_X1_clear w_ml_X11_383 w_im_X1_clear w_se_X1_clear ⟨_, _, rfl⟩ (by decide) rfl (Nat.le_of_ble_eq_true rfl) rfl kdz0 h (fun r σ1 h => wX1_clear h) ?_
  clear h; intro u σ h
  refine r_iconst hX dX11_gather_7 kk_i_0 ?_
  refine r_istore (L2 := [(5, .int (0 : Int32)), (0, kr E l0), (1, .int l1), (2, .int l2), (3, .int l3), (4, .int l4)]) hX dX11_gather_8 (by decide) rfl ?_
  refine r_sub [1, 2, 3, 4, 5, 0] rfl ?_
  exact wX11_gather_10 hX _ _ _ _ _ _ _ h
def X11_guess_20 (G : kdS) : kdM → Option (Int32 × kdM) :=
  rt (-2 : Int32)
set_option maxRecDepth 100000 in
set_option maxHeartbeats 4000000 in
theorem wX11_guess_20 {E : kdE} {G : kdS} {A : kdA} {r : Int32} {σ1 : kdM} (hX : kdX E A cX11_guess 4 RX11 (some .int) 6) {σ : kdM} (h : X11_guess_20 G  σ = some (r, σ1)) : SW E G (.inl (some (.int r), σ1)) A 4 σ 20 [] [] := by
  unfold X11_guess_20 at h
  refine r_bipush hX dX11_guess_20 kk_b_m2 ?_
  exact r_iret hX dX11_guess_22 h
def X11_guess (G : kdS) (l0 : Nat) (l1 : Int32) (l2 : Int32) (l3 : Int32) : kdM → Option (Int32 × kdM) :=
  kcl (X11_within G l1 (1 : Int32) (7 : Int32)) fun t1 =>
  cnd (t1 = 0)
    (X11_guess_20 G )
    (kcl (X11_within G l2 (0 : Int32) (60 : Int32)) fun t2 =>
    cnd (t2 = 0)
      (X11_guess_20 G )
      (gR G 11 0 l0 fun t3 =>
      kcv G 6 t3 (X6_isEmpty G t3) fun t4 =>
      cnd (t4 = 0)
        (kcv G 11 l0 (X11_gather G l0 l1 l2 (-1 : Int32) (0 : Int32)) fun _ =>
        gR G 11 6 l0 fun t5 =>
        kcv G 1 t5 (X1_guessAt G t5 l3) fun t6 =>
        rt t6)
        (rt (-3 : Int32))))
set_option maxRecDepth 100000 in
set_option maxHeartbeats 4000000 in
theorem wX11_guess {E : kdE} {G : kdS} {l0 : Nat} {l1 : Int32} {l2 : Int32} {l3 : Int32} {σ : kdM} {r : Int32} {σ1 : kdM} (h : X11_guess G l0 l1 l2 l3 σ = some (r, σ1)) : Con E G yX11_guess cX11_guess 4 (some .int) 6 [kr E l0, .int l1, .int l2, .int l3] σ (some (.int r), σ1) := by
  refine kd_head (own := RX11) rfl (by decide +kernel) (Nat.le_of_ble_eq_true rfl) (fun A hX => ?_)
  show SW E G (.inl (some (.int r), σ1)) A 4 σ 0 [(0, kr E l0), (1, .int l1), (2, .int l2), (3, .int l3)] []
  unfold X11_guess at h
  refine r_iload_n hX dX11_guess_0 rfl 1 rfl ?_
  refine r_iconst hX dX11_guess_1 kk_i_1 ?_
  refine r_bipush hX dX11_guess_2 kk_b_7 ?_
  refine r_cSi (As := [.int l1, .int (1 : Int32), .int (7 : Int32)]) (st := []) hX dX11_guess_4 kl_X11_within w_ml_X11_165 w_st_X11_within (by decide) rfl (Nat.le_of_ble_eq_true rfl) rfl kdz0 h (fun r σ1 h => wX11_within h) ?_
  clear h; intro t1 σ h
  refine r_if_eq (tgt := 20) hX dX11_guess_7 (by decide) h ?_ ?_
  · clear h; intro h
    refine r_sub [] rfl ?_
    exact wX11_guess_20 hX h
  · clear h; intro h
    refine r_iload_n hX dX11_guess_10 rfl 2 rfl ?_
    refine r_iconst hX dX11_guess_11 kk_i_0 ?_
    refine r_bipush hX dX11_guess_12 kk_b_60 ?_
    refine r_cSi (As := [.int l2, .int (0 : Int32), .int (60 : Int32)]) (st := []) hX dX11_guess_14 kl_X11_within w_ml_X11_165 w_st_X11_within (by decide) rfl (Nat.le_of_ble_eq_true rfl) rfl kdz0 h (fun r σ1 h => wX11_within h) ?_
    clear h; intro t2 σ h
    refine r_if_ne (tgt := 23) hX dX11_guess_17 (by decide) h ?_ ?_
    · clear h; intro h
      refine r_sub [] rfl ?_
      exact wX11_guess_20 hX h
    · clear h; intro h
      refine r_aload_n hX dX11_guess_23 rfl 0 rfl ?_
      refine r_gR hX dX11_guess_24 kf_X11_14 rfl h ?_
      clear h; intro t3 h
      refine r_cVi (As := []) (st := []) hX dX11_guess_27 kl_X6_isEmpty w_ml_X11_127 w_im_X6_isEmpty w_se_X6_isEmpty ⟨_, _, rfl⟩ (by decide) rfl (Nat.le_of_ble_eq_true rfl) rfl kdz0 h (fun r σ1 h => wX6_isEmpty h) ?_
      clear h; intro t4 σ h
      refine r_if_eq (tgt := 36) hX dX11_guess_30 (by decide) h ?_ ?_
      · clear h; intro h
        refine r_aload_n hX dX11_guess_36 rfl 0 rfl ?_
        refine r_iload_n hX dX11_guess_37 rfl 1 rfl ?_
        refine r_iload_n hX dX11_guess_38 rfl 2 rfl ?_
        refine r_iconst hX dX11_guess_39 kk_i_m1 ?_
        refine r_iconst hX dX11_guess_40 kk_i_0 ?_
        refine r_cVv (As := [.int l1, .int l2, .int (-1 : Int32), .int (0 : Int32)]) (st := []) hX dX11_guess_41 kl_X11_gather w_ml_X11_235 w_im_X11_gather w_se_X11_gather ⟨_, _, rfl⟩ (by decide) rfl (Nat.le_of_ble_eq_true rfl) rfl kdz0 h (fun r σ1 h => wX11_gather h) ?_
        clear h; intro u σ h
        refine r_aload_n hX dX11_guess_44 rfl 0 rfl ?_
        refine r_gR hX dX11_guess_45 kf_X11_52 rfl h ?_
        clear h; intro t5 h
        refine r_iload_n hX dX11_guess_48 rfl 3 rfl ?_
        refine r_cVi (As := [.int l3]) (st := []) hX dX11_guess_49 kl_X1_guessAt w_ml_X11_239 w_im_X1_guessAt w_se_X1_guessAt ⟨_, _, rfl⟩ (by decide) rfl (Nat.le_of_ble_eq_true rfl) rfl kdz0 h (fun r σ1 h => wX1_guessAt h) ?_
        clear h; intro t6 σ h
        exact r_iret hX dX11_guess_52 h
      · clear h; intro h
        refine r_bipush hX dX11_guess_33 kk_b_m3 ?_
        exact r_iret hX dX11_guess_35 h
def X11_isDay (G : kdS) (l0 : Int32) : kdM → Option (Int32 × kdM) :=
  kcl (X11_within G l0 (0 : Int32) (3000 : Int32)) fun t1 =>
  rt (vp_nar .boolean t1)
set_option maxRecDepth 100000 in
set_option maxHeartbeats 4000000 in
theorem wX11_isDay {E : kdE} {G : kdS} {l0 : Int32} {σ : kdM} {r : Int32} {σ1 : kdM} (h : X11_isDay G l0 σ = some (r, σ1)) : Con E G yX11_isDay cX11_isDay 1 (some .boolean) 1 [.int l0] σ (some (.int r), σ1) := by
  refine kd_head (own := RX11) rfl (by decide +kernel) (Nat.le_of_ble_eq_true rfl) (fun A hX => ?_)
  show SW E G (.inl (some (.int r), σ1)) A 1 σ 0 [(0, .int l0)] []
  unfold X11_isDay at h
  refine r_iload_n hX dX11_isDay_0 rfl 0 rfl ?_
  refine r_iconst hX dX11_isDay_1 kk_i_0 ?_
  refine r_sipush hX dX11_isDay_2 kk_s_3000 ?_
  refine r_cSi (As := [.int l0, .int (0 : Int32), .int (3000 : Int32)]) (st := []) hX dX11_isDay_5 kl_X11_within w_ml_X11_165 w_st_X11_within (by decide) rfl (Nat.le_of_ble_eq_true rfl) rfl kdz0 h (fun r σ1 h => wX11_within h) ?_
  clear h; intro t1 σ h
  exact r_zret hX dX11_isDay_8 h
def X11_isHand (G : kdS) (l0 : Int32) : kdM → Option (Int32 × kdM) :=
  kcl (X11_within G l0 (0 : Int32) (3 : Int32)) fun t1 =>
  rt (vp_nar .boolean t1)
set_option maxRecDepth 100000 in
set_option maxHeartbeats 4000000 in
theorem wX11_isHand {E : kdE} {G : kdS} {l0 : Int32} {σ : kdM} {r : Int32} {σ1 : kdM} (h : X11_isHand G l0 σ = some (r, σ1)) : Con E G yX11_isHand cX11_isHand 1 (some .boolean) 1 [.int l0] σ (some (.int r), σ1) := by
  refine kd_head (own := RX11) rfl (by decide +kernel) (Nat.le_of_ble_eq_true rfl) (fun A hX => ?_)
  show SW E G (.inl (some (.int r), σ1)) A 1 σ 0 [(0, .int l0)] []
  unfold X11_isHand at h
  refine r_iload_n hX dX11_isHand_0 rfl 0 rfl ?_
  refine r_iconst hX dX11_isHand_1 kk_i_0 ?_
  refine r_iconst hX dX11_isHand_2 kk_i_3 ?_
  refine r_cSi (As := [.int l0, .int (0 : Int32), .int (3 : Int32)]) (st := []) hX dX11_isHand_3 kl_X11_within w_ml_X11_165 w_st_X11_within (by decide) rfl (Nat.le_of_ble_eq_true rfl) rfl kdz0 h (fun r σ1 h => wX11_within h) ?_
  clear h; intro t1 σ h
  exact r_zret hX dX11_isHand_6 h
def X11_learn_18 (G : kdS) : kdM → Option (Int32 × kdM) :=
  rt (-1 : Int32)
set_option maxRecDepth 100000 in
set_option maxHeartbeats 4000000 in
theorem wX11_learn_18 {E : kdE} {G : kdS} {A : kdA} {r : Int32} {σ1 : kdM} (hX : kdX E A cX11_learn 4 RX11 (some .int) 4) {σ : kdM} (h : X11_learn_18 G  σ = some (r, σ1)) : SW E G (.inl (some (.int r), σ1)) A 4 σ 18 [] [] := by
  unfold X11_learn_18 at h
  refine r_iconst hX dX11_learn_18 kk_i_m1 ?_
  exact r_iret hX dX11_learn_19 h
def X11_learn_70 (G : kdS) (s0 : Int32) : kdM → Option (Int32 × kdM) :=
  rt s0
set_option maxRecDepth 100000 in
set_option maxHeartbeats 4000000 in
theorem wX11_learn_70 {E : kdE} {G : kdS} {A : kdA} {r : Int32} {σ1 : kdM} (hX : kdX E A cX11_learn 4 RX11 (some .int) 4) {σ : kdM} {s0 : Int32} (h : X11_learn_70 G s0 σ = some (r, σ1)) : SW E G (.inl (some (.int r), σ1)) A 4 σ 70 [] [.int s0] := by
  unfold X11_learn_70 at h
  exact r_iret hX dX11_learn_70 h
def X11_learn (G : kdS) (l0 : Nat) (l1 : Int32) (l2 : Int32) (l3 : Int32) : kdM → Option (Int32 × kdM) :=
  kcl (X11_isHand G l1) fun t1 =>
  cnd (t1 = 0)
    (X11_learn_18 G )
    (gR G 11 4 l0 fun t2 =>
    kcv G 10 t2 (X10_has G t2 l2) fun t3 =>
    cnd (t3 = 0)
      (X11_learn_18 G )
      (kcl (X11_isDay G l3) fun t4 =>
      cnd (t4 = 0)
        (rt (-2 : Int32))
        (gR G 11 9 l0 fun t5 =>
        kcv G 2 t5 (X2_isFull G t5) fun t6 =>
        cnd (t6 = 0)
          (gR G 11 9 l0 fun t7 =>
          kcv G 2 t7 (X2_latestDay G t7 l1) fun t8 =>
          cnd (t8 ≤ l3)
            (gR G 11 9 l0 fun t9 =>
            kcv G 2 t9 (X2_addLearning G t9 l1 l2 l3) fun t10 =>
            X11_learn_70 G t10)
            (X11_learn_70 G (-5 : Int32)))
          (rt (-4 : Int32)))))
set_option maxRecDepth 100000 in
set_option maxHeartbeats 4000000 in
theorem wX11_learn {E : kdE} {G : kdS} {l0 : Nat} {l1 : Int32} {l2 : Int32} {l3 : Int32} {σ : kdM} {r : Int32} {σ1 : kdM} (h : X11_learn G l0 l1 l2 l3 σ = some (r, σ1)) : Con E G yX11_learn cX11_learn 4 (some .int) 4 [kr E l0, .int l1, .int l2, .int l3] σ (some (.int r), σ1) := by
  refine kd_head (own := RX11) rfl (by decide +kernel) (Nat.le_of_ble_eq_true rfl) (fun A hX => ?_)
  show SW E G (.inl (some (.int r), σ1)) A 4 σ 0 [(0, kr E l0), (1, .int l1), (2, .int l2), (3, .int l3)] []
  unfold X11_learn at h
  refine r_iload_n hX dX11_learn_0 rfl 1 rfl ?_
  refine r_cSi (As := [.int l1]) (st := []) hX dX11_learn_1 kl_X11_isHand w_ml_X11_276 w_st_X11_isHand (by decide) rfl (Nat.le_of_ble_eq_true rfl) rfl kdz0 h (fun r σ1 h => wX11_isHand h) ?_
  clear h; intro t1 σ h
  refine r_if_eq (tgt := 18) hX dX11_learn_4 (by decide) h ?_ ?_
  · clear h; intro h
    refine r_sub [] rfl ?_
    exact wX11_learn_18 hX h
  · clear h; intro h
    refine r_aload_n hX dX11_learn_7 rfl 0 rfl ?_
    refine r_gR hX dX11_learn_8 kf_X11_38 rfl h ?_
    clear h; intro t2 h
    refine r_iload_n hX dX11_learn_11 rfl 2 rfl ?_
    refine r_cVi (As := [.int l2]) (st := []) hX dX11_learn_12 kl_X10_has w_ml_X11_212 w_im_X10_has w_se_X10_has ⟨_, _, rfl⟩ (by decide) rfl (Nat.le_of_ble_eq_true rfl) rfl kdz0 h (fun r σ1 h => wX10_has h) ?_
    clear h; intro t3 σ h
    refine r_if_ne (tgt := 20) hX dX11_learn_15 (by decide) h ?_ ?_
    · clear h; intro h
      refine r_sub [] rfl ?_
      exact wX11_learn_18 hX h
    · clear h; intro h
      refine r_iload_n hX dX11_learn_20 rfl 3 rfl ?_
      refine r_cSi (As := [.int l3]) (st := []) hX dX11_learn_21 kl_X11_isDay w_ml_X11_279 w_st_X11_isDay (by decide) rfl (Nat.le_of_ble_eq_true rfl) rfl kdz0 h (fun r σ1 h => wX11_isDay h) ?_
      clear h; intro t4 σ h
      refine r_if_ne (tgt := 30) hX dX11_learn_24 (by decide) h ?_ ?_
      · clear h; intro h
        refine r_bipush hX dX11_learn_27 kk_b_m2 ?_
        exact r_iret hX dX11_learn_29 h
      · clear h; intro h
        refine r_aload_n hX dX11_learn_30 rfl 0 rfl ?_
        refine r_gR hX dX11_learn_31 kf_X11_77 rfl h ?_
        clear h; intro t5 h
        refine r_cVi (As := []) (st := []) hX dX11_learn_34 kl_X2_isFull w_ml_X11_282 w_im_X2_isFull w_se_X2_isFull ⟨_, _, rfl⟩ (by decide) rfl (Nat.le_of_ble_eq_true rfl) rfl kdz0 h (fun r σ1 h => wX2_isFull h) ?_
        clear h; intro t6 σ h
        refine r_if_eq (tgt := 43) hX dX11_learn_37 (by decide) h ?_ ?_
        · clear h; intro h
          refine r_iload_n hX dX11_learn_43 rfl 3 rfl ?_
          refine r_aload_n hX dX11_learn_44 rfl 0 rfl ?_
          refine r_gR hX dX11_learn_45 kf_X11_77 rfl h ?_
          clear h; intro t7 h
          refine r_iload_n hX dX11_learn_48 rfl 1 rfl ?_
          refine r_cVi (As := [.int l1]) (st := [.int l3]) hX dX11_learn_49 kl_X2_latestDay w_ml_X11_283 w_im_X2_latestDay w_se_X2_latestDay ⟨_, _, rfl⟩ (by decide) rfl (Nat.le_of_ble_eq_true rfl) rfl kdz0 h (fun r σ1 h => wX2_latestDay h) ?_
          clear h; intro t8 σ h
          refine r_icmp_ge (tgt := 60) hX dX11_learn_52 (by decide) h ?_ ?_
          · clear h; intro h
            refine r_aload_n hX dX11_learn_60 rfl 0 rfl ?_
            refine r_gR hX dX11_learn_61 kf_X11_77 rfl h ?_
            clear h; intro t9 h
            refine r_iload_n hX dX11_learn_64 rfl 1 rfl ?_
            refine r_iload_n hX dX11_learn_65 rfl 2 rfl ?_
            refine r_iload_n hX dX11_learn_66 rfl 3 rfl ?_
            refine r_cVi (As := [.int l1, .int l2, .int l3]) (st := []) hX dX11_learn_67 kl_X2_addLearning w_ml_X11_286 w_im_X2_addLearning w_se_X2_addLearning ⟨_, _, rfl⟩ (by decide) rfl (Nat.le_of_ble_eq_true rfl) rfl kdz0 h (fun r σ1 h => wX2_addLearning h) ?_
            clear h; intro t10 σ h
            refine r_sub [] rfl ?_
            exact wX11_learn_70 hX h
          · clear h; intro h
            refine r_bipush hX dX11_learn_55 kk_b_m5 ?_
            refine r_goto (tgt := 70) hX dX11_learn_57 (by decide) ?_
            refine r_sub [] rfl ?_
            exact wX11_learn_70 hX h
        · clear h; intro h
          refine r_bipush hX dX11_learn_40 kk_b_m4 ?_
          exact r_iret hX dX11_learn_42 h
def X11_worth_18 (G : kdS) : kdM → Option (Int32 × kdM) :=
  rt (-1 : Int32)
set_option maxRecDepth 100000 in
set_option maxHeartbeats 4000000 in
theorem wX11_worth_18 {E : kdE} {G : kdS} {A : kdA} {r : Int32} {σ1 : kdM} (hX : kdX E A cX11_worth 4 RX11 (some .int) 3) {σ : kdM} (h : X11_worth_18 G  σ = some (r, σ1)) : SW E G (.inl (some (.int r), σ1)) A 4 σ 18 [] [] := by
  unfold X11_worth_18 at h
  refine r_iconst hX dX11_worth_18 kk_i_m1 ?_
  exact r_iret hX dX11_worth_19 h
def X11_worth_42 (G : kdS) (s0 : Int32) : kdM → Option (Int32 × kdM) :=
  rt s0
set_option maxRecDepth 100000 in
set_option maxHeartbeats 4000000 in
theorem wX11_worth_42 {E : kdE} {G : kdS} {A : kdA} {r : Int32} {σ1 : kdM} (hX : kdX E A cX11_worth 4 RX11 (some .int) 3) {σ : kdM} {s0 : Int32} (h : X11_worth_42 G s0 σ = some (r, σ1)) : SW E G (.inl (some (.int r), σ1)) A 4 σ 42 [] [.int s0] := by
  unfold X11_worth_42 at h
  exact r_iret hX dX11_worth_42 h
def X11_worth (G : kdS) (l0 : Nat) (l1 : Int32) (l2 : Int32) (l3 : Int32) : kdM → Option (Int32 × kdM) :=
  kcl (X11_isHand G l1) fun t1 =>
  cnd (t1 = 0)
    (X11_worth_18 G )
    (gR G 11 4 l0 fun t2 =>
    kcv G 10 t2 (X10_has G t2 l2) fun t3 =>
    cnd (t3 = 0)
      (X11_worth_18 G )
      (kcl (X11_isDay G l3) fun t4 =>
      cnd (t4 = 0)
        (X11_worth_42 G (-2 : Int32))
        (gR G 11 9 l0 fun t5 =>
        kcv G 2 t5 (X2_worthOf G t5 l1 l2 l3) fun t6 =>
        X11_worth_42 G t6)))
set_option maxRecDepth 100000 in
set_option maxHeartbeats 4000000 in
theorem wX11_worth {E : kdE} {G : kdS} {l0 : Nat} {l1 : Int32} {l2 : Int32} {l3 : Int32} {σ : kdM} {r : Int32} {σ1 : kdM} (h : X11_worth G l0 l1 l2 l3 σ = some (r, σ1)) : Con E G yX11_worth cX11_worth 4 (some .int) 3 [kr E l0, .int l1, .int l2, .int l3] σ (some (.int r), σ1) := by
  refine kd_head (own := RX11) rfl (by decide +kernel) (Nat.le_of_ble_eq_true rfl) (fun A hX => ?_)
  show SW E G (.inl (some (.int r), σ1)) A 4 σ 0 [(0, kr E l0), (1, .int l1), (2, .int l2), (3, .int l3)] []
  unfold X11_worth at h
  refine r_iload_n hX dX11_worth_0 rfl 1 rfl ?_
  refine r_cSi (As := [.int l1]) (st := []) hX dX11_worth_1 kl_X11_isHand w_ml_X11_276 w_st_X11_isHand (by decide) rfl (Nat.le_of_ble_eq_true rfl) rfl kdz0 h (fun r σ1 h => wX11_isHand h) ?_
  clear h; intro t1 σ h
  refine r_if_eq (tgt := 18) hX dX11_worth_4 (by decide) h ?_ ?_
  · clear h; intro h
    refine r_sub [] rfl ?_
    exact wX11_worth_18 hX h
  · clear h; intro h
    refine r_aload_n hX dX11_worth_7 rfl 0 rfl ?_
    refine r_gR hX dX11_worth_8 kf_X11_38 rfl h ?_
    clear h; intro t2 h
    refine r_iload_n hX dX11_worth_11 rfl 2 rfl ?_
    refine r_cVi (As := [.int l2]) (st := []) hX dX11_worth_12 kl_X10_has w_ml_X11_212 w_im_X10_has w_se_X10_has ⟨_, _, rfl⟩ (by decide) rfl (Nat.le_of_ble_eq_true rfl) rfl kdz0 h (fun r σ1 h => wX10_has h) ?_
    clear h; intro t3 σ h
    refine r_if_ne (tgt := 20) hX dX11_worth_15 (by decide) h ?_ ?_
    · clear h; intro h
      refine r_sub [] rfl ?_
      exact wX11_worth_18 hX h
    · clear h; intro h
      refine r_iload_n hX dX11_worth_20 rfl 3 rfl ?_
      refine r_cSi (As := [.int l3]) (st := []) hX dX11_worth_21 kl_X11_isDay w_ml_X11_279 w_st_X11_isDay (by decide) rfl (Nat.le_of_ble_eq_true rfl) rfl kdz0 h (fun r σ1 h => wX11_isDay h) ?_
      clear h; intro t4 σ h
      refine r_if_eq (tgt := 40) hX dX11_worth_24 (by decide) h ?_ ?_
      · clear h; intro h
        refine r_bipush hX dX11_worth_40 kk_b_m2 ?_
        refine r_sub [] rfl ?_
        exact wX11_worth_42 hX h
      · clear h; intro h
        refine r_aload_n hX dX11_worth_27 rfl 0 rfl ?_
        refine r_gR hX dX11_worth_28 kf_X11_77 rfl h ?_
        clear h; intro t5 h
        refine r_iload_n hX dX11_worth_31 rfl 1 rfl ?_
        refine r_iload_n hX dX11_worth_32 rfl 2 rfl ?_
        refine r_iload_n hX dX11_worth_33 rfl 3 rfl ?_
        refine r_cVi (As := [.int l1, .int l2, .int l3]) (st := []) hX dX11_worth_34 kl_X2_worthOf w_ml_X11_289 w_im_X2_worthOf w_se_X2_worthOf ⟨_, _, rfl⟩ (by decide) rfl (Nat.le_of_ble_eq_true rfl) rfl kdz0 h (fun r σ1 h => wX2_worthOf h) ?_
        clear h; intro t6 σ h
        refine r_goto (tgt := 42) hX dX11_worth_37 (by decide) ?_
        refine r_sub [] rfl ?_
        exact wX11_worth_42 hX h
def X11_forget_23 (G : kdS) : kdM → Option (Int32 × kdM) :=
  rt (-1 : Int32)
set_option maxRecDepth 100000 in
set_option maxHeartbeats 4000000 in
theorem wX11_forget_23 {E : kdE} {G : kdS} {A : kdA} {r : Int32} {σ1 : kdM} (hX : kdX E A cX11_forget 3 RX11 (some .int) 3) {σ : kdM} (h : X11_forget_23 G  σ = some (r, σ1)) : SW E G (.inl (some (.int r), σ1)) A 3 σ 23 [] [] := by
  unfold X11_forget_23 at h
  refine r_iconst hX dX11_forget_23 kk_i_m1 ?_
  exact r_iret hX dX11_forget_24 h
def X11_forget_25 (G : kdS) (l0 : Nat) (l1 : Int32) (l2 : Int32) : kdM → Option (Int32 × kdM) :=
  gR G 11 9 l0 fun t1 =>
  kcv G 2 t1 (X2_dropLearnings G t1 l1 l2) fun t2 =>
  rt t2
set_option maxRecDepth 100000 in
set_option maxHeartbeats 4000000 in
theorem wX11_forget_25 {E : kdE} {G : kdS} {A : kdA} {r : Int32} {σ1 : kdM} (hX : kdX E A cX11_forget 3 RX11 (some .int) 3) {σ : kdM} {l0 : Nat} {l1 : Int32} {l2 : Int32} (h : X11_forget_25 G l0 l1 l2 σ = some (r, σ1)) : SW E G (.inl (some (.int r), σ1)) A 3 σ 25 [(0, kr E l0), (1, .int l1), (2, .int l2)] [] := by
  unfold X11_forget_25 at h
  refine r_aload_n hX dX11_forget_25 rfl 0 rfl ?_
  refine r_gR hX dX11_forget_26 kf_X11_77 rfl h ?_
  clear h; intro t1 h
  refine r_iload_n hX dX11_forget_29 rfl 1 rfl ?_
  refine r_iload_n hX dX11_forget_30 rfl 2 rfl ?_
  refine r_cVi (As := [.int l1, .int l2]) (st := []) hX dX11_forget_31 kl_X2_dropLearnings w_ml_X11_292 w_im_X2_dropLearnings w_se_X2_dropLearnings ⟨_, _, rfl⟩ (by decide) rfl (Nat.le_of_ble_eq_true rfl) rfl kdz0 h (fun r σ1 h => wX2_dropLearnings h) ?_
  clear h; intro t2 σ h
  exact r_iret hX dX11_forget_34 h
def X11_forget (G : kdS) (l0 : Nat) (l1 : Int32) (l2 : Int32) : kdM → Option (Int32 × kdM) :=
  kcl (X11_isHand G l1) fun t1 =>
  cnd (t1 = 0)
    (X11_forget_23 G )
    (cnd (l2 = (-1 : Int32))
      (X11_forget_25 G l0 l1 l2)
      (gR G 11 4 l0 fun t2 =>
      kcv G 10 t2 (X10_has G t2 l2) fun t3 =>
      cnd (t3 = 0)
        (X11_forget_23 G )
        (X11_forget_25 G l0 l1 l2)))
set_option maxRecDepth 100000 in
set_option maxHeartbeats 4000000 in
theorem wX11_forget {E : kdE} {G : kdS} {l0 : Nat} {l1 : Int32} {l2 : Int32} {σ : kdM} {r : Int32} {σ1 : kdM} (h : X11_forget G l0 l1 l2 σ = some (r, σ1)) : Con E G yX11_forget cX11_forget 3 (some .int) 3 [kr E l0, .int l1, .int l2] σ (some (.int r), σ1) := by
  refine kd_head (own := RX11) rfl (by decide +kernel) (Nat.le_of_ble_eq_true rfl) (fun A hX => ?_)
  show SW E G (.inl (some (.int r), σ1)) A 3 σ 0 [(0, kr E l0), (1, .int l1), (2, .int l2)] []
  unfold X11_forget at h
  refine r_iload_n hX dX11_forget_0 rfl 1 rfl ?_
  refine r_cSi (As := [.int l1]) (st := []) hX dX11_forget_1 kl_X11_isHand w_ml_X11_276 w_st_X11_isHand (by decide) rfl (Nat.le_of_ble_eq_true rfl) rfl kdz0 h (fun r σ1 h => wX11_isHand h) ?_
  clear h; intro t1 σ h
  refine r_if_eq (tgt := 23) hX dX11_forget_4 (by decide) h ?_ ?_
  · clear h; intro h
    refine r_sub [] rfl ?_
    exact wX11_forget_23 hX h
  · clear h; intro h
    refine r_iload_n hX dX11_forget_7 rfl 2 rfl ?_
    refine r_iconst hX dX11_forget_8 kk_i_m1 ?_
    refine r_icmp_eq (tgt := 25) hX dX11_forget_9 (by decide) h ?_ ?_
    · clear h; intro h
      refine r_sub [0, 1, 2] rfl ?_
      exact wX11_forget_25 hX h
    · clear h; intro h
      refine r_aload_n hX dX11_forget_12 rfl 0 rfl ?_
      refine r_gR hX dX11_forget_13 kf_X11_38 rfl h ?_
      clear h; intro t2 h
      refine r_iload_n hX dX11_forget_16 rfl 2 rfl ?_
      refine r_cVi (As := [.int l2]) (st := []) hX dX11_forget_17 kl_X10_has w_ml_X11_212 w_im_X10_has w_se_X10_has ⟨_, _, rfl⟩ (by decide) rfl (Nat.le_of_ble_eq_true rfl) rfl kdz0 h (fun r σ1 h => wX10_has h) ?_
      clear h; intro t3 σ h
      refine r_if_ne (tgt := 25) hX dX11_forget_20 (by decide) h ?_ ?_
      · clear h; intro h
        refine r_sub [] rfl ?_
        exact wX11_forget_23 hX h
      · clear h; intro h
        refine r_sub [0, 1, 2] rfl ?_
        exact wX11_forget_25 hX h
def X11_fade_24 (G : kdS) (s0 : Int32) : kdM → Option (Int32 × kdM) :=
  rt s0
set_option maxRecDepth 100000 in
set_option maxHeartbeats 4000000 in
theorem wX11_fade_24 {E : kdE} {G : kdS} {A : kdA} {r : Int32} {σ1 : kdM} (hX : kdX E A cX11_fade 2 RX11 (some .int) 1) {σ : kdM} {s0 : Int32} (h : X11_fade_24 G s0 σ = some (r, σ1)) : SW E G (.inl (some (.int r), σ1)) A 2 σ 24 [] [.int s0] := by
  unfold X11_fade_24 at h
  exact r_iret hX dX11_fade_24 h
def X11_fade (G : kdS) (l0 : Nat) (l1 : Int32) : kdM → Option (Int32 × kdM) :=
  kcl (X11_within G l1 (0 : Int32) (1000 : Int32)) fun t1 =>
  cnd (t1 = 0)
    (X11_fade_24 G (-2 : Int32))
    (gR G 11 9 l0 fun t2 =>
    kcv G 2 t2 (X2_setFade G t2 l1) fun t3 =>
    X11_fade_24 G t3)
set_option maxRecDepth 100000 in
set_option maxHeartbeats 4000000 in
theorem wX11_fade {E : kdE} {G : kdS} {l0 : Nat} {l1 : Int32} {σ : kdM} {r : Int32} {σ1 : kdM} (h : X11_fade G l0 l1 σ = some (r, σ1)) : Con E G yX11_fade cX11_fade 2 (some .int) 1 [kr E l0, .int l1] σ (some (.int r), σ1) := by
  refine kd_head (own := RX11) rfl (by decide +kernel) (Nat.le_of_ble_eq_true rfl) (fun A hX => ?_)
  show SW E G (.inl (some (.int r), σ1)) A 2 σ 0 [(0, kr E l0), (1, .int l1)] []
  unfold X11_fade at h
  refine r_iload_n hX dX11_fade_0 rfl 1 rfl ?_
  refine r_iconst hX dX11_fade_1 kk_i_0 ?_
  refine r_sipush hX dX11_fade_2 kk_s_1000 ?_
  refine r_cSi (As := [.int l1, .int (0 : Int32), .int (1000 : Int32)]) (st := []) hX dX11_fade_5 kl_X11_within w_ml_X11_165 w_st_X11_within (by decide) rfl (Nat.le_of_ble_eq_true rfl) rfl kdz0 h (fun r σ1 h => wX11_within h) ?_
  clear h; intro t1 σ h
  refine r_if_eq (tgt := 22) hX dX11_fade_8 (by decide) h ?_ ?_
  · clear h; intro h
    refine r_bipush hX dX11_fade_22 kk_b_m2 ?_
    refine r_sub [] rfl ?_
    exact wX11_fade_24 hX h
  · clear h; intro h
    refine r_aload_n hX dX11_fade_11 rfl 0 rfl ?_
    refine r_gR hX dX11_fade_12 kf_X11_77 rfl h ?_
    clear h; intro t2 h
    refine r_iload_n hX dX11_fade_15 rfl 1 rfl ?_
    refine r_cVi (As := [.int l1]) (st := []) hX dX11_fade_16 kl_X2_setFade w_ml_X11_295 w_im_X2_setFade w_se_X2_setFade ⟨_, _, rfl⟩ (by decide) rfl (Nat.le_of_ble_eq_true rfl) rfl kdz0 h (fun r σ1 h => wX2_setFade h) ?_
    clear h; intro t3 σ h
    refine r_goto (tgt := 24) hX dX11_fade_19 (by decide) ?_
    refine r_sub [] rfl ?_
    exact wX11_fade_24 hX h
def X11_mine_37 (G : kdS) : kdM → Option (Int32 × kdM) :=
  rt (-2 : Int32)
set_option maxRecDepth 100000 in
set_option maxHeartbeats 4000000 in
theorem wX11_mine_37 {E : kdE} {G : kdS} {A : kdA} {r : Int32} {σ1 : kdM} (hX : kdX E A cX11_mine 6 RX11 (some .int) 6) {σ : kdM} (h : X11_mine_37 G  σ = some (r, σ1)) : SW E G (.inl (some (.int r), σ1)) A 6 σ 37 [] [] := by
  unfold X11_mine_37 at h
  refine r_bipush hX dX11_mine_37 kk_b_m2 ?_
  exact r_iret hX dX11_mine_39 h
def X11_mine (G : kdS) (l0 : Nat) (l1 : Int32) (l2 : Int32) (l3 : Int32) (l4 : Int32) (l5 : Int32) : kdM → Option (Int32 × kdM) :=
  kcl (X11_isHand G l1) fun t1 =>
  cnd (t1 = 0)
    (rt (-1 : Int32))
    (kcl (X11_isDay G l2) fun t2 =>
    cnd (t2 = 0)
      (X11_mine_37 G )
      (kcl (X11_within G l3 (1 : Int32) (7 : Int32)) fun t3 =>
      cnd (t3 = 0)
        (X11_mine_37 G )
        (kcl (X11_within G l4 (0 : Int32) (60 : Int32)) fun t4 =>
        cnd (t4 = 0)
          (X11_mine_37 G )
          (gR G 11 0 l0 fun t5 =>
          kcv G 6 t5 (X6_isEmpty G t5) fun t6 =>
          cnd (t6 = 0)
            (kcv G 11 l0 (X11_gather G l0 l3 l4 l1 l2) fun _ =>
            gR G 11 6 l0 fun t7 =>
            kcv G 1 t7 (X1_guessAt G t7 l5) fun t8 =>
            rt t8)
            (rt (-3 : Int32))))))
set_option maxRecDepth 100000 in
set_option maxHeartbeats 4000000 in
theorem wX11_mine {E : kdE} {G : kdS} {l0 : Nat} {l1 : Int32} {l2 : Int32} {l3 : Int32} {l4 : Int32} {l5 : Int32} {σ : kdM} {r : Int32} {σ1 : kdM} (h : X11_mine G l0 l1 l2 l3 l4 l5 σ = some (r, σ1)) : Con E G yX11_mine cX11_mine 6 (some .int) 6 [kr E l0, .int l1, .int l2, .int l3, .int l4, .int l5] σ (some (.int r), σ1) := by
  refine kd_head (own := RX11) rfl (by decide +kernel) (Nat.le_of_ble_eq_true rfl) (fun A hX => ?_)
  show SW E G (.inl (some (.int r), σ1)) A 6 σ 0 [(0, kr E l0), (1, .int l1), (2, .int l2), (3, .int l3), (4, .int l4), (5, .int l5)] []
  unfold X11_mine at h
  refine r_iload_n hX dX11_mine_0 rfl 1 rfl ?_
  refine r_cSi (As := [.int l1]) (st := []) hX dX11_mine_1 kl_X11_isHand w_ml_X11_276 w_st_X11_isHand (by decide) rfl (Nat.le_of_ble_eq_true rfl) rfl kdz0 h (fun r σ1 h => wX11_isHand h) ?_
  clear h; intro t1 σ h
  refine r_if_ne (tgt := 9) hX dX11_mine_4 (by decide) h ?_ ?_
  · clear h; intro h
    refine r_iconst hX dX11_mine_7 kk_i_m1 ?_
    exact r_iret hX dX11_mine_8 h
  · clear h; intro h
    refine r_iload_n hX dX11_mine_9 rfl 2 rfl ?_
    refine r_cSi (As := [.int l2]) (st := []) hX dX11_mine_10 kl_X11_isDay w_ml_X11_279 w_st_X11_isDay (by decide) rfl (Nat.le_of_ble_eq_true rfl) rfl kdz0 h (fun r σ1 h => wX11_isDay h) ?_
    clear h; intro t2 σ h
    refine r_if_eq (tgt := 37) hX dX11_mine_13 (by decide) h ?_ ?_
    · clear h; intro h
      refine r_sub [] rfl ?_
      exact wX11_mine_37 hX h
    · clear h; intro h
      refine r_iload_n hX dX11_mine_16 rfl 3 rfl ?_
      refine r_iconst hX dX11_mine_17 kk_i_1 ?_
      refine r_bipush hX dX11_mine_18 kk_b_7 ?_
      refine r_cSi (As := [.int l3, .int (1 : Int32), .int (7 : Int32)]) (st := []) hX dX11_mine_20 kl_X11_within w_ml_X11_165 w_st_X11_within (by decide) rfl (Nat.le_of_ble_eq_true rfl) rfl kdz0 h (fun r σ1 h => wX11_within h) ?_
      clear h; intro t3 σ h
      refine r_if_eq (tgt := 37) hX dX11_mine_23 (by decide) h ?_ ?_
      · clear h; intro h
        refine r_sub [] rfl ?_
        exact wX11_mine_37 hX h
      · clear h; intro h
        refine r_iload hX dX11_mine_26 4 rfl ?_
        refine r_iconst hX dX11_mine_28 kk_i_0 ?_
        refine r_bipush hX dX11_mine_29 kk_b_60 ?_
        refine r_cSi (As := [.int l4, .int (0 : Int32), .int (60 : Int32)]) (st := []) hX dX11_mine_31 kl_X11_within w_ml_X11_165 w_st_X11_within (by decide) rfl (Nat.le_of_ble_eq_true rfl) rfl kdz0 h (fun r σ1 h => wX11_within h) ?_
        clear h; intro t4 σ h
        refine r_if_ne (tgt := 40) hX dX11_mine_34 (by decide) h ?_ ?_
        · clear h; intro h
          refine r_sub [] rfl ?_
          exact wX11_mine_37 hX h
        · clear h; intro h
          refine r_aload_n hX dX11_mine_40 rfl 0 rfl ?_
          refine r_gR hX dX11_mine_41 kf_X11_14 rfl h ?_
          clear h; intro t5 h
          refine r_cVi (As := []) (st := []) hX dX11_mine_44 kl_X6_isEmpty w_ml_X11_127 w_im_X6_isEmpty w_se_X6_isEmpty ⟨_, _, rfl⟩ (by decide) rfl (Nat.le_of_ble_eq_true rfl) rfl kdz0 h (fun r σ1 h => wX6_isEmpty h) ?_
          clear h; intro t6 σ h
          refine r_if_eq (tgt := 53) hX dX11_mine_47 (by decide) h ?_ ?_
          · clear h; intro h
            refine r_aload_n hX dX11_mine_53 rfl 0 rfl ?_
            refine r_iload_n hX dX11_mine_54 rfl 3 rfl ?_
            refine r_iload hX dX11_mine_55 4 rfl ?_
            refine r_iload_n hX dX11_mine_57 rfl 1 rfl ?_
            refine r_iload_n hX dX11_mine_58 rfl 2 rfl ?_
            refine r_cVv (As := [.int l3, .int l4, .int l1, .int l2]) (st := []) hX dX11_mine_59 kl_X11_gather w_ml_X11_235 w_im_X11_gather w_se_X11_gather ⟨_, _, rfl⟩ (by decide) rfl (Nat.le_of_ble_eq_true rfl) rfl kdz0 h (fun r σ1 h => wX11_gather h) ?_
            clear h; intro u σ h
            refine r_aload_n hX dX11_mine_62 rfl 0 rfl ?_
            refine r_gR hX dX11_mine_63 kf_X11_52 rfl h ?_
            clear h; intro t7 h
            refine r_iload hX dX11_mine_66 5 rfl ?_
            refine r_cVi (As := [.int l5]) (st := []) hX dX11_mine_68 kl_X1_guessAt w_ml_X11_239 w_im_X1_guessAt w_se_X1_guessAt ⟨_, _, rfl⟩ (by decide) rfl (Nat.le_of_ble_eq_true rfl) rfl kdz0 h (fun r σ1 h => wX1_guessAt h) ?_
            clear h; intro t8 σ h
            exact r_iret hX dX11_mine_71 h
          · clear h; intro h
            refine r_bipush hX dX11_mine_50 kk_b_m3 ?_
            exact r_iret hX dX11_mine_52 h
def X11_budget_34 (G : kdS) (s0 : Int32) : kdM → Option (Int32 × kdM) :=
  rt s0
set_option maxRecDepth 100000 in
set_option maxHeartbeats 4000000 in
theorem wX11_budget_34 {E : kdE} {G : kdS} {A : kdA} {r : Int32} {σ1 : kdM} (hX : kdX E A cX11_budget 3 RX11 (some .int) 2) {σ : kdM} {s0 : Int32} (h : X11_budget_34 G s0 σ = some (r, σ1)) : SW E G (.inl (some (.int r), σ1)) A 3 σ 34 [] [.int s0] := by
  unfold X11_budget_34 at h
  exact r_iret hX dX11_budget_34 h
def X11_budget (G : kdS) (l0 : Nat) (l1 : Int32) (l2 : Int32) : kdM → Option (Int32 × kdM) :=
  kcl (X11_isHand G l1) fun t1 =>
  cnd (t1 = 0)
    (rt (-1 : Int32))
    (kcl (X11_within G l2 (0 : Int32) (1000 : Int32)) fun t2 =>
    cnd (t2 = 0)
      (X11_budget_34 G (-2 : Int32))
      (gR G 11 9 l0 fun t3 =>
      kcv G 2 t3 (X2_setBudget G t3 l1 l2) fun t4 =>
      X11_budget_34 G t4))
set_option maxRecDepth 100000 in
set_option maxHeartbeats 4000000 in
theorem wX11_budget {E : kdE} {G : kdS} {l0 : Nat} {l1 : Int32} {l2 : Int32} {σ : kdM} {r : Int32} {σ1 : kdM} (h : X11_budget G l0 l1 l2 σ = some (r, σ1)) : Con E G yX11_budget cX11_budget 3 (some .int) 2 [kr E l0, .int l1, .int l2] σ (some (.int r), σ1) := by
  refine kd_head (own := RX11) rfl (by decide +kernel) (Nat.le_of_ble_eq_true rfl) (fun A hX => ?_)
  show SW E G (.inl (some (.int r), σ1)) A 3 σ 0 [(0, kr E l0), (1, .int l1), (2, .int l2)] []
  unfold X11_budget at h
  refine r_iload_n hX dX11_budget_0 rfl 1 rfl ?_
  refine r_cSi (As := [.int l1]) (st := []) hX dX11_budget_1 kl_X11_isHand w_ml_X11_276 w_st_X11_isHand (by decide) rfl (Nat.le_of_ble_eq_true rfl) rfl kdz0 h (fun r σ1 h => wX11_isHand h) ?_
  clear h; intro t1 σ h
  refine r_if_ne (tgt := 9) hX dX11_budget_4 (by decide) h ?_ ?_
  · clear h; intro h
    refine r_iconst hX dX11_budget_7 kk_i_m1 ?_
    exact r_iret hX dX11_budget_8 h
  · clear h; intro h
    refine r_iload_n hX dX11_budget_9 rfl 2 rfl ?_
    refine r_iconst hX dX11_budget_10 kk_i_0 ?_
    refine r_sipush hX dX11_budget_11 kk_s_1000 ?_
    refine r_cSi (As := [.int l2, .int (0 : Int32), .int (1000 : Int32)]) (st := []) hX dX11_budget_14 kl_X11_within w_ml_X11_165 w_st_X11_within (by decide) rfl (Nat.le_of_ble_eq_true rfl) rfl kdz0 h (fun r σ1 h => wX11_within h) ?_
    clear h; intro t2 σ h
    refine r_if_eq (tgt := 32) hX dX11_budget_17 (by decide) h ?_ ?_
    · clear h; intro h
      refine r_bipush hX dX11_budget_32 kk_b_m2 ?_
      refine r_sub [] rfl ?_
      exact wX11_budget_34 hX h
    · clear h; intro h
      refine r_aload_n hX dX11_budget_20 rfl 0 rfl ?_
      refine r_gR hX dX11_budget_21 kf_X11_77 rfl h ?_
      clear h; intro t3 h
      refine r_iload_n hX dX11_budget_24 rfl 1 rfl ?_
      refine r_iload_n hX dX11_budget_25 rfl 2 rfl ?_
      refine r_cVi (As := [.int l1, .int l2]) (st := []) hX dX11_budget_26 kl_X2_setBudget w_ml_X11_298 w_im_X2_setBudget w_se_X2_setBudget ⟨_, _, rfl⟩ (by decide) rfl (Nat.le_of_ble_eq_true rfl) rfl kdz0 h (fun r σ1 h => wX2_setBudget h) ?_
      clear h; intro t4 σ h
      refine r_goto (tgt := 34) hX dX11_budget_29 (by decide) ?_
      refine r_sub [] rfl ?_
      exact wX11_budget_34 hX h
def X11_seed_24 (G : kdS) (s0 : Int32) : kdM → Option (Int32 × kdM) :=
  rt s0
set_option maxRecDepth 100000 in
set_option maxHeartbeats 4000000 in
theorem wX11_seed_24 {E : kdE} {G : kdS} {A : kdA} {r : Int32} {σ1 : kdM} (hX : kdX E A cX11_seed 2 RX11 (some .int) 1) {σ : kdM} {s0 : Int32} (h : X11_seed_24 G s0 σ = some (r, σ1)) : SW E G (.inl (some (.int r), σ1)) A 2 σ 24 [] [.int s0] := by
  unfold X11_seed_24 at h
  exact r_iret hX dX11_seed_24 h
def X11_seed (G : kdS) (l0 : Nat) (l1 : Int32) : kdM → Option (Int32 × kdM) :=
  kcl (X11_within G l1 (1 : Int32) (1000000 : Int32)) fun t1 =>
  cnd (t1 = 0)
    (X11_seed_24 G (-2 : Int32))
    (gR G 11 9 l0 fun t2 =>
    kcv G 2 t2 (X2_setSeed G t2 l1) fun t3 =>
    X11_seed_24 G t3)
set_option maxRecDepth 100000 in
set_option maxHeartbeats 4000000 in
theorem wX11_seed {E : kdE} {G : kdS} {l0 : Nat} {l1 : Int32} {σ : kdM} {r : Int32} {σ1 : kdM} (h : X11_seed G l0 l1 σ = some (r, σ1)) : Con E G yX11_seed cX11_seed 2 (some .int) 1 [kr E l0, .int l1] σ (some (.int r), σ1) := by
  refine kd_head (own := RX11) rfl (by decide +kernel) (Nat.le_of_ble_eq_true rfl) (fun A hX => ?_)
  show SW E G (.inl (some (.int r), σ1)) A 2 σ 0 [(0, kr E l0), (1, .int l1)] []
  unfold X11_seed at h
  refine r_iload_n hX dX11_seed_0 rfl 1 rfl ?_
  refine r_iconst hX dX11_seed_1 kk_i_1 ?_
  refine r_ldc_w hX dX11_seed_2 w_ct_X11_301 ?_
  refine r_cSi (As := [.int l1, .int (1 : Int32), .int (1000000 : Int32)]) (st := []) hX dX11_seed_5 kl_X11_within w_ml_X11_165 w_st_X11_within (by decide) rfl (Nat.le_of_ble_eq_true rfl) rfl kdz0 h (fun r σ1 h => wX11_within h) ?_
  clear h; intro t1 σ h
  refine r_if_eq (tgt := 22) hX dX11_seed_8 (by decide) h ?_ ?_
  · clear h; intro h
    refine r_bipush hX dX11_seed_22 kk_b_m2 ?_
    refine r_sub [] rfl ?_
    exact wX11_seed_24 hX h
  · clear h; intro h
    refine r_aload_n hX dX11_seed_11 rfl 0 rfl ?_
    refine r_gR hX dX11_seed_12 kf_X11_77 rfl h ?_
    clear h; intro t2 h
    refine r_iload_n hX dX11_seed_15 rfl 1 rfl ?_
    refine r_cVi (As := [.int l1]) (st := []) hX dX11_seed_16 kl_X2_setSeed w_ml_X11_302 w_im_X2_setSeed w_se_X2_setSeed ⟨_, _, rfl⟩ (by decide) rfl (Nat.le_of_ble_eq_true rfl) rfl kdz0 h (fun r σ1 h => wX2_setSeed h) ?_
    clear h; intro t3 σ h
    refine r_goto (tgt := 24) hX dX11_seed_19 (by decide) ?_
    refine r_sub [] rfl ?_
    exact wX11_seed_24 hX h
def X11_share_32 (G : kdS) : kdM → Option (Int32 × kdM) :=
  rt (-1000002 : Int32)
set_option maxRecDepth 100000 in
set_option maxHeartbeats 4000000 in
theorem wX11_share_32 {E : kdE} {G : kdS} {A : kdA} {r : Int32} {σ1 : kdM} (hX : kdX E A cX11_share 4 RX11 (some .int) 4) {σ : kdM} (h : X11_share_32 G  σ = some (r, σ1)) : SW E G (.inl (some (.int r), σ1)) A 4 σ 32 [] [] := by
  unfold X11_share_32 at h
  refine r_ldc_w hX dX11_share_32 w_ct_X11_306 ?_
  exact r_iret hX dX11_share_35 h
def X11_share_64 (G : kdS) (s0 : Int32) : kdM → Option (Int32 × kdM) :=
  rt s0
set_option maxRecDepth 100000 in
set_option maxHeartbeats 4000000 in
theorem wX11_share_64 {E : kdE} {G : kdS} {A : kdA} {r : Int32} {σ1 : kdM} (hX : kdX E A cX11_share 4 RX11 (some .int) 4) {σ : kdM} {s0 : Int32} (h : X11_share_64 G s0 σ = some (r, σ1)) : SW E G (.inl (some (.int r), σ1)) A 4 σ 64 [] [.int s0] := by
  unfold X11_share_64 at h
  exact r_iret hX dX11_share_64 h
def X11_share (G : kdS) (l0 : Nat) (l1 : Int32) (l2 : Int32) (l3 : Int32) : kdM → Option (Int32 × kdM) :=
  gR G 11 4 l0 fun t1 =>
  kcv G 10 t1 (X10_has G t1 l1) fun t2 =>
  cnd (t2 = 0)
    (rt (-1000001 : Int32))
    (kcl (X11_within G l2 (1 : Int32) (100 : Int32)) fun t3 =>
    cnd (t3 = 0)
      (X11_share_32 G )
      (kcl (X11_isDay G l3) fun t4 =>
      cnd (t4 = 0)
        (X11_share_32 G )
        (gR G 11 9 l0 fun t5 =>
        kcv G 2 t5 (X2_givers G t5 l2) fun t6 =>
        cnd ((2 : Int32) ≤ t6)
          (gR G 11 9 l0 fun t7 =>
          kcv G 2 t7 (X2_sumWithLot G t7 l1 l2 l3) fun t8 =>
          X11_share_64 G t8)
          (X11_share_64 G (-1000005 : Int32)))))
set_option maxRecDepth 100000 in
set_option maxHeartbeats 4000000 in
theorem wX11_share {E : kdE} {G : kdS} {l0 : Nat} {l1 : Int32} {l2 : Int32} {l3 : Int32} {σ : kdM} {r : Int32} {σ1 : kdM} (h : X11_share G l0 l1 l2 l3 σ = some (r, σ1)) : Con E G yX11_share cX11_share 4 (some .int) 4 [kr E l0, .int l1, .int l2, .int l3] σ (some (.int r), σ1) := by
  refine kd_head (own := RX11) rfl (by decide +kernel) (Nat.le_of_ble_eq_true rfl) (fun A hX => ?_)
  show SW E G (.inl (some (.int r), σ1)) A 4 σ 0 [(0, kr E l0), (1, .int l1), (2, .int l2), (3, .int l3)] []
  unfold X11_share at h
  refine r_aload_n hX dX11_share_0 rfl 0 rfl ?_
  refine r_gR hX dX11_share_1 kf_X11_38 rfl h ?_
  clear h; intro t1 h
  refine r_iload_n hX dX11_share_4 rfl 1 rfl ?_
  refine r_cVi (As := [.int l1]) (st := []) hX dX11_share_5 kl_X10_has w_ml_X11_212 w_im_X10_has w_se_X10_has ⟨_, _, rfl⟩ (by decide) rfl (Nat.le_of_ble_eq_true rfl) rfl kdz0 h (fun r σ1 h => wX10_has h) ?_
  clear h; intro t2 σ h
  refine r_if_ne (tgt := 15) hX dX11_share_8 (by decide) h ?_ ?_
  · clear h; intro h
    refine r_ldc_w hX dX11_share_11 w_ct_X11_305 ?_
    exact r_iret hX dX11_share_14 h
  · clear h; intro h
    refine r_iload_n hX dX11_share_15 rfl 2 rfl ?_
    refine r_iconst hX dX11_share_16 kk_i_1 ?_
    refine r_bipush hX dX11_share_17 kk_b_100 ?_
    refine r_cSi (As := [.int l2, .int (1 : Int32), .int (100 : Int32)]) (st := []) hX dX11_share_19 kl_X11_within w_ml_X11_165 w_st_X11_within (by decide) rfl (Nat.le_of_ble_eq_true rfl) rfl kdz0 h (fun r σ1 h => wX11_within h) ?_
    clear h; intro t3 σ h
    refine r_if_eq (tgt := 32) hX dX11_share_22 (by decide) h ?_ ?_
    · clear h; intro h
      refine r_sub [] rfl ?_
      exact wX11_share_32 hX h
    · clear h; intro h
      refine r_iload_n hX dX11_share_25 rfl 3 rfl ?_
      refine r_cSi (As := [.int l3]) (st := []) hX dX11_share_26 kl_X11_isDay w_ml_X11_279 w_st_X11_isDay (by decide) rfl (Nat.le_of_ble_eq_true rfl) rfl kdz0 h (fun r σ1 h => wX11_isDay h) ?_
      clear h; intro t4 σ h
      refine r_if_ne (tgt := 36) hX dX11_share_29 (by decide) h ?_ ?_
      · clear h; intro h
        refine r_sub [] rfl ?_
        exact wX11_share_32 hX h
      · clear h; intro h
        refine r_aload_n hX dX11_share_36 rfl 0 rfl ?_
        refine r_gR hX dX11_share_37 kf_X11_77 rfl h ?_
        clear h; intro t5 h
        refine r_iload_n hX dX11_share_40 rfl 2 rfl ?_
        refine r_cVi (As := [.int l2]) (st := []) hX dX11_share_41 kl_X2_givers w_ml_X11_307 w_im_X2_givers w_se_X2_givers ⟨_, _, rfl⟩ (by decide) rfl (Nat.le_of_ble_eq_true rfl) rfl kdz0 h (fun r σ1 h => wX2_givers h) ?_
        clear h; intro t6 σ h
        refine r_iconst hX dX11_share_44 kk_i_2 ?_
        refine r_icmp_ge (tgt := 54) hX dX11_share_45 (by decide) h ?_ ?_
        · clear h; intro h
          refine r_aload_n hX dX11_share_54 rfl 0 rfl ?_
          refine r_gR hX dX11_share_55 kf_X11_77 rfl h ?_
          clear h; intro t7 h
          refine r_iload_n hX dX11_share_58 rfl 1 rfl ?_
          refine r_iload_n hX dX11_share_59 rfl 2 rfl ?_
          refine r_iload_n hX dX11_share_60 rfl 3 rfl ?_
          refine r_cVi (As := [.int l1, .int l2, .int l3]) (st := []) hX dX11_share_61 kl_X2_sumWithLot w_ml_X11_311 w_im_X2_sumWithLot w_se_X2_sumWithLot ⟨_, _, rfl⟩ (by decide) rfl (Nat.le_of_ble_eq_true rfl) rfl kdz0 h (fun r σ1 h => wX2_sumWithLot h) ?_
          clear h; intro t8 σ h
          refine r_sub [] rfl ?_
          exact wX11_share_64 hX h
        · clear h; intro h
          refine r_ldc_w hX dX11_share_48 w_ct_X11_310 ?_
          refine r_goto (tgt := 64) hX dX11_share_51 (by decide) ?_
          refine r_sub [] rfl ?_
          exact wX11_share_64 hX h
def X11_toldOfOne_72 (G : kdS) (s0 : Int32) : kdM → Option (Int32 × kdM) :=
  rt s0
set_option maxRecDepth 100000 in
set_option maxHeartbeats 4000000 in
theorem wX11_toldOfOne_72 {E : kdE} {G : kdS} {A : kdA} {r : Int32} {σ1 : kdM} (hX : kdX E A cX11_toldOfOne 2 RX11 (some .int) 2) {σ : kdM} {s0 : Int32} (h : X11_toldOfOne_72 G s0 σ = some (r, σ1)) : SW E G (.inl (some (.int r), σ1)) A 2 σ 72 [] [.int s0] := by
  unfold X11_toldOfOne_72 at h
  exact r_iret hX dX11_toldOfOne_72 h
def X11_toldOfOne (G : kdS) (l0 : Nat) (l1 : Int32) : kdM → Option (Int32 × kdM) :=
  kcl (X11_isTongue G (l1 - (10 : Int32))) fun t1 =>
  cnd (t1 = 0)
    (kcl (X11_isTongue G (l1 - (20 : Int32))) fun t2 =>
    cnd (t2 = 0)
      (kcl (X11_isHand G (l1 - (30 : Int32))) fun t3 =>
      cnd (t3 = 0)
        (X11_toldOfOne_72 G (-2 : Int32))
        (gR G 11 9 l0 fun t4 =>
        kcv G 2 t4 (X2_budgetOf G t4 (l1 - (30 : Int32))) fun t5 =>
        X11_toldOfOne_72 G t5))
      (gR G 11 2 l0 fun t6 =>
      aR G 17 t6 ((l1 - (20 : Int32))) fun t7 =>
      kcv G 8 t7 (X8_joins G t7) fun t8 =>
      rt t8))
    (gR G 11 2 l0 fun t9 =>
    aR G 17 t9 ((l1 - (10 : Int32))) fun t10 =>
    kcv G 8 t10 (X8_rules G t10) fun t11 =>
    rt t11)
set_option maxRecDepth 100000 in
set_option maxHeartbeats 4000000 in
theorem wX11_toldOfOne {E : kdE} {G : kdS} {l0 : Nat} {l1 : Int32} {σ : kdM} {r : Int32} {σ1 : kdM} (h : X11_toldOfOne G l0 l1 σ = some (r, σ1)) : Con E G yX11_toldOfOne cX11_toldOfOne 2 (some .int) 2 [kr E l0, .int l1] σ (some (.int r), σ1) := by
  refine kd_head (own := RX11) rfl (by decide +kernel) (Nat.le_of_ble_eq_true rfl) (fun A hX => ?_)
  show SW E G (.inl (some (.int r), σ1)) A 2 σ 0 [(0, kr E l0), (1, .int l1)] []
  unfold X11_toldOfOne at h
  refine r_iload_n hX dX11_toldOfOne_0 rfl 1 rfl ?_
  refine r_bipush hX dX11_toldOfOne_1 kk_b_10 ?_
  refine r_isub hX dX11_toldOfOne_3 ?_
  refine r_cSi (As := [.int (l1 - (10 : Int32))]) (st := []) hX dX11_toldOfOne_4 kl_X11_isTongue w_ml_X11_121 w_st_X11_isTongue (by decide) rfl (Nat.le_of_ble_eq_true rfl) rfl kdz0 h (fun r σ1 h => wX11_isTongue h) ?_
  clear h; intro t1 σ h
  refine r_if_eq (tgt := 23) hX dX11_toldOfOne_7 (by decide) h ?_ ?_
  · clear h; intro h
    refine r_iload_n hX dX11_toldOfOne_23 rfl 1 rfl ?_
    refine r_bipush hX dX11_toldOfOne_24 kk_b_20 ?_
    refine r_isub hX dX11_toldOfOne_26 ?_
    refine r_cSi (As := [.int (l1 - (20 : Int32))]) (st := []) hX dX11_toldOfOne_27 kl_X11_isTongue w_ml_X11_121 w_st_X11_isTongue (by decide) rfl (Nat.le_of_ble_eq_true rfl) rfl kdz0 h (fun r σ1 h => wX11_isTongue h) ?_
    clear h; intro t2 σ h
    refine r_if_eq (tgt := 46) hX dX11_toldOfOne_30 (by decide) h ?_ ?_
    · clear h; intro h
      refine r_iload_n hX dX11_toldOfOne_46 rfl 1 rfl ?_
      refine r_bipush hX dX11_toldOfOne_47 kk_b_30 ?_
      refine r_isub hX dX11_toldOfOne_49 ?_
      refine r_cSi (As := [.int (l1 - (30 : Int32))]) (st := []) hX dX11_toldOfOne_50 kl_X11_isHand w_ml_X11_276 w_st_X11_isHand (by decide) rfl (Nat.le_of_ble_eq_true rfl) rfl kdz0 h (fun r σ1 h => wX11_isHand h) ?_
      clear h; intro t3 σ h
      refine r_if_eq (tgt := 70) hX dX11_toldOfOne_53 (by decide) h ?_ ?_
      · clear h; intro h
        refine r_bipush hX dX11_toldOfOne_70 kk_b_m2 ?_
        refine r_sub [] rfl ?_
        exact wX11_toldOfOne_72 hX h
      · clear h; intro h
        refine r_aload_n hX dX11_toldOfOne_56 rfl 0 rfl ?_
        refine r_gR hX dX11_toldOfOne_57 kf_X11_77 rfl h ?_
        clear h; intro t4 h
        refine r_iload_n hX dX11_toldOfOne_60 rfl 1 rfl ?_
        refine r_bipush hX dX11_toldOfOne_61 kk_b_30 ?_
        refine r_isub hX dX11_toldOfOne_63 ?_
        refine r_cVi (As := [.int (l1 - (30 : Int32))]) (st := []) hX dX11_toldOfOne_64 kl_X2_budgetOf w_ml_X11_380 w_im_X2_budgetOf w_se_X2_budgetOf ⟨_, _, rfl⟩ (by decide) rfl (Nat.le_of_ble_eq_true rfl) rfl kdz0 h (fun r σ1 h => wX2_budgetOf h) ?_
        clear h; intro t5 σ h
        refine r_goto (tgt := 72) hX dX11_toldOfOne_67 (by decide) ?_
        refine r_sub [] rfl ?_
        exact wX11_toldOfOne_72 hX h
    · clear h; intro h
      refine r_aload_n hX dX11_toldOfOne_33 rfl 0 rfl ?_
      refine r_gR hX dX11_toldOfOne_34 kf_X11_23 rfl h ?_
      clear h; intro t6 h
      refine r_iload_n hX dX11_toldOfOne_37 rfl 1 rfl ?_
      refine r_bipush hX dX11_toldOfOne_38 kk_b_20 ?_
      refine r_isub hX dX11_toldOfOne_40 ?_
      refine r_aR17 hX dX11_toldOfOne_41 h ?_
      clear h; intro t7 h
      refine r_cVi (As := []) (st := []) hX dX11_toldOfOne_42 kl_X8_joins w_ml_X11_377 w_im_X8_joins w_se_X8_joins ⟨_, _, rfl⟩ (by decide) rfl (Nat.le_of_ble_eq_true rfl) rfl kdz0 h (fun r σ1 h => wX8_joins h) ?_
      clear h; intro t8 σ h
      exact r_iret hX dX11_toldOfOne_45 h
  · clear h; intro h
    refine r_aload_n hX dX11_toldOfOne_10 rfl 0 rfl ?_
    refine r_gR hX dX11_toldOfOne_11 kf_X11_23 rfl h ?_
    clear h; intro t9 h
    refine r_iload_n hX dX11_toldOfOne_14 rfl 1 rfl ?_
    refine r_bipush hX dX11_toldOfOne_15 kk_b_10 ?_
    refine r_isub hX dX11_toldOfOne_17 ?_
    refine r_aR17 hX dX11_toldOfOne_18 h ?_
    clear h; intro t10 h
    refine r_cVi (As := []) (st := []) hX dX11_toldOfOne_19 kl_X8_rules w_ml_X11_374 w_im_X8_rules w_se_X8_rules ⟨_, _, rfl⟩ (by decide) rfl (Nat.le_of_ble_eq_true rfl) rfl kdz0 h (fun r σ1 h => wX8_rules h) ?_
    clear h; intro t11 σ h
    exact r_iret hX dX11_toldOfOne_22 h
def X11_told (G : kdS) (l0 : Nat) (l1 : Int32) : kdM → Option (Int32 × kdM) :=
  cnd (l1 = (0 : Int32))
    (gR G 11 0 l0 fun t1 =>
    kcv G 6 t1 (X6_size G t1) fun t2 =>
    rt t2)
    (cnd (l1 = (1 : Int32))
      (gR G 11 1 l0 fun t3 =>
      kcv G 6 t3 (X6_size G t3) fun t4 =>
      rt t4)
      (cnd (l1 = (2 : Int32))
        (gR G 11 8 l0 fun t5 =>
        kcv G 0 t5 (X0_padSize G t5) fun t6 =>
        rt t6)
        (cnd (l1 = (3 : Int32))
          (gR G 11 3 l0 fun t7 =>
          kcv G 4 t7 (X4_tongue G t7) fun t8 =>
          rt t8)
          (cnd (l1 = (4 : Int32))
            (gR G 11 3 l0 fun t9 =>
            kcv G 4 t9 (X4_strokes G t9) fun t10 =>
            kcv G 6 t10 (X6_size G t10) fun t11 =>
            rt t11)
            (cnd (l1 = (5 : Int32))
              (gR G 11 4 l0 fun t12 =>
              kcv G 10 t12 (X10_size G t12) fun t13 =>
              rt t13)
              (cnd (l1 = (6 : Int32))
                (gR G 11 8 l0 fun t14 =>
                kcv G 0 t14 (X0_pairs G t14) fun t15 =>
                rt t15)
                (cnd (l1 = (7 : Int32))
                  (gR G 11 9 l0 fun t16 =>
                  kcv G 2 t16 (X2_learnings G t16) fun t17 =>
                  rt t17)
                  (cnd (l1 = (8 : Int32))
                    (gR G 11 10 l0 fun t18 =>
                    kcv G 3 t18 (X3_size G t18) fun t19 =>
                    rt t19)
                    (kcv G 11 l0 (X11_toldOfOne G l0 l1) fun t20 =>
                    rt t20)))))))))
set_option maxRecDepth 100000 in
set_option maxHeartbeats 4000000 in
theorem wX11_told {E : kdE} {G : kdS} {l0 : Nat} {l1 : Int32} {σ : kdM} {r : Int32} {σ1 : kdM} (h : X11_told G l0 l1 σ = some (r, σ1)) : Con E G yX11_told cX11_told 2 (some .int) 3 [kr E l0, .int l1] σ (some (.int r), σ1) := by
  refine kd_head (own := RX11) rfl (by decide +kernel) (Nat.le_of_ble_eq_true rfl) (fun A hX => ?_)
  show SW E G (.inl (some (.int r), σ1)) A 2 σ 0 [(0, kr E l0), (1, .int l1)] []
  unfold X11_told at h
  refine r_iload_n hX dX11_told_0 rfl 1 rfl ?_
  refine r_case (q := l1 = (0 : Int32)) h ?_ ?_
  · clear h; intro hq h
    refine r_tsIn (tgt := 52) (off := 51) (v := (0 : Int32)) hX dX11_told_1 hq (by decide) (by decide) (by decide +kernel) (by decide) ?_
    clear hq
    refine r_aload_n hX dX11_told_52 rfl 0 rfl ?_
    refine r_gR hX dX11_told_53 kf_X11_14 rfl h ?_
    clear h; intro t1 h
    refine r_cVi (As := []) (st := []) hX dX11_told_56 kl_X6_size w_ml_X11_108 w_im_X6_size w_se_X6_size ⟨_, _, rfl⟩ (by decide) rfl (Nat.le_of_ble_eq_true rfl) rfl kdz0 h (fun r σ1 h => wX6_size h) ?_
    clear h; intro t2 σ h
    exact r_iret hX dX11_told_59 h
  · clear h; intro hn0 h
    refine r_case (q := l1 = (1 : Int32)) h ?_ ?_
    · clear h; intro hq h
      refine r_tsIn (tgt := 60) (off := 59) (v := (1 : Int32)) hX dX11_told_1 hq (by decide) (by decide) (by decide +kernel) (by decide) ?_
      clear hq
      refine r_aload_n hX dX11_told_60 rfl 0 rfl ?_
      refine r_gR hX dX11_told_61 kf_X11_18 rfl h ?_
      clear h; intro t3 h
      refine r_cVi (As := []) (st := []) hX dX11_told_64 kl_X6_size w_ml_X11_108 w_im_X6_size w_se_X6_size ⟨_, _, rfl⟩ (by decide) rfl (Nat.le_of_ble_eq_true rfl) rfl kdz0 h (fun r σ1 h => wX6_size h) ?_
      clear h; intro t4 σ h
      exact r_iret hX dX11_told_67 h
    · clear h; intro hn1 h
      refine r_case (q := l1 = (2 : Int32)) h ?_ ?_
      · clear h; intro hq h
        refine r_tsIn (tgt := 68) (off := 67) (v := (2 : Int32)) hX dX11_told_1 hq (by decide) (by decide) (by decide +kernel) (by decide) ?_
        clear hq
        refine r_aload_n hX dX11_told_68 rfl 0 rfl ?_
        refine r_gR hX dX11_told_69 kf_X11_70 rfl h ?_
        clear h; intro t5 h
        refine r_cVi (As := []) (st := []) hX dX11_told_72 kl_X0_padSize w_ml_X11_361 w_im_X0_padSize w_se_X0_padSize ⟨_, _, rfl⟩ (by decide) rfl (Nat.le_of_ble_eq_true rfl) rfl kdz0 h (fun r σ1 h => wX0_padSize h) ?_
        clear h; intro t6 σ h
        exact r_iret hX dX11_told_75 h
      · clear h; intro hn2 h
        refine r_case (q := l1 = (3 : Int32)) h ?_ ?_
        · clear h; intro hq h
          refine r_tsIn (tgt := 76) (off := 75) (v := (3 : Int32)) hX dX11_told_1 hq (by decide) (by decide) (by decide +kernel) (by decide) ?_
          clear hq
          refine r_aload_n hX dX11_told_76 rfl 0 rfl ?_
          refine r_gR hX dX11_told_77 kf_X11_31 rfl h ?_
          clear h; intro t7 h
          refine r_cVi (As := []) (st := []) hX dX11_told_80 kl_X4_tongue w_ml_X11_364 w_im_X4_tongue w_se_X4_tongue ⟨_, _, rfl⟩ (by decide) rfl (Nat.le_of_ble_eq_true rfl) rfl kdz0 h (fun r σ1 h => wX4_tongue h) ?_
          clear h; intro t8 σ h
          exact r_iret hX dX11_told_83 h
        · clear h; intro hn3 h
          refine r_case (q := l1 = (4 : Int32)) h ?_ ?_
          · clear h; intro hq h
            refine r_tsIn (tgt := 84) (off := 83) (v := (4 : Int32)) hX dX11_told_1 hq (by decide) (by decide) (by decide +kernel) (by decide) ?_
            clear hq
            refine r_aload_n hX dX11_told_84 rfl 0 rfl ?_
            refine r_gR hX dX11_told_85 kf_X11_31 rfl h ?_
            clear h; intro t9 h
            refine r_cVa (As := []) (st := []) hX dX11_told_88 kl_X4_strokes w_ml_X11_161 w_im_X4_strokes w_se_X4_strokes ⟨_, _, rfl⟩ (by decide) rfl (Nat.le_of_ble_eq_true rfl) rfl kdz0 h (fun r σ1 h => wX4_strokes h) ?_
            clear h; intro t10 σ h
            refine r_cVi (As := []) (st := []) hX dX11_told_91 kl_X6_size w_ml_X11_108 w_im_X6_size w_se_X6_size ⟨_, _, rfl⟩ (by decide) rfl (Nat.le_of_ble_eq_true rfl) rfl kdz0 h (fun r σ1 h => wX6_size h) ?_
            clear h; intro t11 σ h
            exact r_iret hX dX11_told_94 h
          · clear h; intro hn4 h
            refine r_case (q := l1 = (5 : Int32)) h ?_ ?_
            · clear h; intro hq h
              refine r_tsIn (tgt := 95) (off := 94) (v := (5 : Int32)) hX dX11_told_1 hq (by decide) (by decide) (by decide +kernel) (by decide) ?_
              clear hq
              refine r_aload_n hX dX11_told_95 rfl 0 rfl ?_
              refine r_gR hX dX11_told_96 kf_X11_38 rfl h ?_
              clear h; intro t12 h
              refine r_cVi (As := []) (st := []) hX dX11_told_99 kl_X10_size w_ml_X11_367 w_im_X10_size w_se_X10_size ⟨_, _, rfl⟩ (by decide) rfl (Nat.le_of_ble_eq_true rfl) rfl kdz0 h (fun r σ1 h => wX10_size h) ?_
              clear h; intro t13 σ h
              exact r_iret hX dX11_told_102 h
            · clear h; intro hn5 h
              refine r_case (q := l1 = (6 : Int32)) h ?_ ?_
              · clear h; intro hq h
                refine r_tsIn (tgt := 103) (off := 102) (v := (6 : Int32)) hX dX11_told_1 hq (by decide) (by decide) (by decide +kernel) (by decide) ?_
                clear hq
                refine r_aload_n hX dX11_told_103 rfl 0 rfl ?_
                refine r_gR hX dX11_told_104 kf_X11_70 rfl h ?_
                clear h; intro t14 h
                refine r_cVi (As := []) (st := []) hX dX11_told_107 kl_X0_pairs w_ml_X11_256 w_im_X0_pairs w_se_X0_pairs ⟨_, _, rfl⟩ (by decide) rfl (Nat.le_of_ble_eq_true rfl) rfl kdz0 h (fun r σ1 h => wX0_pairs h) ?_
                clear h; intro t15 σ h
                exact r_iret hX dX11_told_110 h
              · clear h; intro hn6 h
                refine r_case (q := l1 = (7 : Int32)) h ?_ ?_
                · clear h; intro hq h
                  refine r_tsIn (tgt := 111) (off := 110) (v := (7 : Int32)) hX dX11_told_1 hq (by decide) (by decide) (by decide +kernel) (by decide) ?_
                  clear hq
                  refine r_aload_n hX dX11_told_111 rfl 0 rfl ?_
                  refine r_gR hX dX11_told_112 kf_X11_77 rfl h ?_
                  clear h; intro t16 h
                  refine r_cVi (As := []) (st := []) hX dX11_told_115 kl_X2_learnings w_ml_X11_368 w_im_X2_learnings w_se_X2_learnings ⟨_, _, rfl⟩ (by decide) rfl (Nat.le_of_ble_eq_true rfl) rfl kdz0 h (fun r σ1 h => wX2_learnings h) ?_
                  clear h; intro t17 σ h
                  exact r_iret hX dX11_told_118 h
                · clear h; intro hn7 h
                  refine r_case (q := l1 = (8 : Int32)) h ?_ ?_
                  · clear h; intro hq h
                    refine r_tsIn (tgt := 119) (off := 118) (v := (8 : Int32)) hX dX11_told_1 hq (by decide) (by decide) (by decide +kernel) (by decide) ?_
                    clear hq
                    refine r_aload_n hX dX11_told_119 rfl 0 rfl ?_
                    refine r_gR hX dX11_told_120 kf_X11_84 rfl h ?_
                    clear h; intro t18 h
                    refine r_cVi (As := []) (st := []) hX dX11_told_123 kl_X3_size w_ml_X11_351 w_im_X3_size w_se_X3_size ⟨_, _, rfl⟩ (by decide) rfl (Nat.le_of_ble_eq_true rfl) rfl kdz0 h (fun r σ1 h => wX3_size h) ?_
                    clear h; intro t19 σ h
                    exact r_iret hX dX11_told_126 h
                  · clear h; intro hn8 h
                    refine r_tsOut (tgt := 127) hX dX11_told_1 (by have e0 := kd_ne (a := 0) hn0 (by decide); have e1 := kd_ne (a := 1) hn1 (by decide); have e2 := kd_ne (a := 2) hn2 (by decide); have e3 := kd_ne (a := 3) hn3 (by decide); have e4 := kd_ne (a := 4) hn4 (by decide); have e5 := kd_ne (a := 5) hn5 (by decide); have e6 := kd_ne (a := 6) hn6 (by decide); have e7 := kd_ne (a := 7) hn7 (by decide); have e8 := kd_ne (a := 8) hn8 (by decide); omega) (by decide) ?_
                    refine r_aload_n hX dX11_told_127 rfl 0 rfl ?_
                    refine r_iload_n hX dX11_told_128 rfl 1 rfl ?_
                    refine r_cVi (As := [.int l1]) (st := []) hX dX11_told_129 kl_X11_toldOfOne w_ml_X11_371 w_im_X11_toldOfOne w_se_X11_toldOfOne ⟨_, _, rfl⟩ (by decide) rfl (Nat.le_of_ble_eq_true rfl) rfl kdz0 h (fun r σ1 h => wX11_toldOfOne h) ?_
                    clear h; intro t20 σ h
                    exact r_iret hX dX11_told_132 h
end
section
/-! constructors: by program (wip/p49/gen/mk30.py) -/
theorem kd1_ro {A : kdA} {c0 cc s0 cs : Nat} (hc : c0 + cc = (kdAR A).cells) (hs : s0 + cs = (kdAR A).slots) : kdRO A c0 s0 := by
  obtain ⟨p, e, R, s, m, args, below, meth, c⟩ := A
  have hc : c0 + cc = R.cells := hc
  have hs : s0 + cs = R.slots := hs
  exact ⟨by omega, by omega⟩
theorem r1_icmp_ge {E : kdE} {A : kdA} {G : kdS} {σ : kdM} {nL h c0 s0 cc cs pc : Nat} {Q : State → Prop} {L : List (Nat × Value)} {st : List Value} {bc : ByteArray} {own : String} {ret : Option FieldType} {x y : Int32} {off : Int} {tgt : Nat} {β : Type} {f1 f2 : kd1 → Option β} {w : β} (hX : kdX E A bc nL own ret h) (hd : decode bc pc = .ok (.if_icmp .ge off, 3)) (ht : (pc : Int) + off = (tgt : Int)) (hh : cnd1 (y ≤ x) f1 f2 (G, σ, cc, cs) = some w) (k1 : f1 (G, σ, cc, cs) = some w → SWg E A nL Q (kdR E G σ) c0 s0 tgt L st) (k2 : f2 (G, σ, cc, cs) = some w → SWg E A nL Q (kdR E G σ) c0 s0 (pc + 3) L st) : SWg E A nL Q (kdR E G σ) c0 s0 pc L (.int y :: .int x :: st) := by
  obtain ⟨p, e, R, s, m, args, below, meth, c⟩ := A
  intro H locs ls hl hR hS
  refine lv_icmp_ge hX.1 hX.2.1 hd ht (fun q => ?_) (fun q => ?_)
  · exact k1 (by simpa only [cnd1, if_pos q] using hh) H locs ls hl hR hS
  · exact k2 (by simpa only [cnd1, if_neg q] using hh) H locs ls hl hR hS
theorem r1_iincL {E : kdE} {A : kdA} {G : kdS} {σ : kdM} {nL h c0 s0 cc cs pc : Nat} {Q : State → Prop} {L : List (Nat × Value)} {st : List Value} {bc : ByteArray} {own : String} {ret : Option FieldType} {i : Nat} {n : Int} {x : Int32} {β : Type} {f : Int32 → kd1 → Option β} {w : β} {L2 : Int32 → List (Nat × Value)} (hX : kdX E A bc nL own ret h) (hd : decode bc pc = .ok (.iinc i n, 3)) (hh : lt1 (x + Int32.ofInt n) f (G, σ, cc, cs) = some w) (j : Nat) (hk : L[j]? = some (i, .int x)) (hn : i < nL) (hl2 : ∀ v : Int32, (i, Value.int v) :: L.filter (fun q => !(q.1 == i) && !(q.1 + 1 == i && q.2.category == 2)) = L2 v) (k : ∀ v : Int32, f v (G, σ, cc, cs) = some w → SWg E A nL Q (kdR E G σ) c0 s0 (pc + 3) (L2 v) st) : SWg E A nL Q (kdR E G σ) c0 s0 pc L st :=
  r_iinc hX hd j hk rfl hn (hl2 _) (k _ hh)
theorem w_ml_X6_3 : Cond.methodLink RX6 3 Lib.objectInit ∈ kdtb := kdtb_mem 35 (by decide +kernel) rfl
theorem w_im_OI : Cond.instanceMethod Lib.objectInit ∈ kdtb := kdtb_mem 28 (by decide +kernel) rfl
theorem w_cd_OI : Cond.code Lib.objectInit ⟨#[0xb1]⟩ 1 none ∈ kdtb := kdtb_mem 29 (by decide +kernel) rfl
theorem w_ac_int : Cond.arrayClass .int ∈ kdtb := kdtb_mem 46 (by decide +kernel) rfl
theorem w_ml_X0_3 : Cond.methodLink RX0 3 Lib.objectInit ∈ kdtb := kdtb_mem 201 (by decide +kernel) rfl
theorem w_cL_X0_9 : Cond.classLink RX0 9 "[[I" ∈ kdtb := kdtb_mem 202 (by decide +kernel) rfl
theorem w_cL_X0_16 : Cond.classLink RX0 16 "KeyDesk$Row" ∈ kdtb := kdtb_mem 203 (by decide +kernel) rfl
theorem w_is_X6 : Cond.instantiable "KeyDesk$Row" 2 ∈ kdtb := kdtb_mem 31 (by decide +kernel) rfl
theorem w_cL_X0_31 : Cond.classLink RX0 31 "[[J" ∈ kdtb := kdtb_mem 205 (by decide +kernel) rfl
theorem w_ac_long : Cond.arrayClass .long ∈ kdtb := kdtb_mem 232 (by decide +kernel) rfl
theorem w_ml_X1_3 : Cond.methodLink RX1 3 Lib.objectInit ∈ kdtb := kdtb_mem 148 (by decide +kernel) rfl
theorem w_cL_X1_9 : Cond.classLink RX1 9 "KeyDesk$Row" ∈ kdtb := kdtb_mem 149 (by decide +kernel) rfl
theorem w_ml_X2_3 : Cond.methodLink RX2 3 Lib.objectInit ∈ kdtb := kdtb_mem 238 (by decide +kernel) rfl
theorem w_cL_X2_9 : Cond.classLink RX2 9 "KeyDesk$Row" ∈ kdtb := kdtb_mem 239 (by decide +kernel) rfl
theorem w_ml_X3_3 : Cond.methodLink RX3 3 Lib.objectInit ∈ kdtb := kdtb_mem 265 (by decide +kernel) rfl
theorem w_cL_X3_21 : Cond.classLink RX3 21 "[[I" ∈ kdtb := kdtb_mem 266 (by decide +kernel) rfl
theorem w_ml_X4_3 : Cond.methodLink RX4 3 Lib.objectInit ∈ kdtb := kdtb_mem 88 (by decide +kernel) rfl
theorem w_cL_X4_9 : Cond.classLink RX4 9 "KeyDesk$Row" ∈ kdtb := kdtb_mem 89 (by decide +kernel) rfl
theorem w_ml_X5_3 : Cond.methodLink RX5 3 Lib.objectInit ∈ kdtb := kdtb_mem 166 (by decide +kernel) rfl
theorem w_cL_X5_24 : Cond.classLink RX5 24 "KeyDesk$Row" ∈ kdtb := kdtb_mem 167 (by decide +kernel) rfl
theorem w_ml_X7_3 : Cond.methodLink RX7 3 Lib.objectInit ∈ kdtb := kdtb_mem 133 (by decide +kernel) rfl
theorem w_cL_X7_15 : Cond.classLink RX7 15 "[[I" ∈ kdtb := kdtb_mem 134 (by decide +kernel) rfl
theorem w_cL_X8_9 : Cond.classLink RX8 9 "KeyDesk$Row" ∈ kdtb := kdtb_mem 54 (by decide +kernel) rfl
theorem w_ml_X8_3 : Cond.methodLink RX8 3 Lib.objectInit ∈ kdtb := kdtb_mem 53 (by decide +kernel) rfl
theorem w_ac_boolean : Cond.arrayClass .boolean ∈ kdtb := kdtb_mem 82 (by decide +kernel) rfl
theorem w_ml_X9_3 : Cond.methodLink RX9 3 Lib.objectInit ∈ kdtb := kdtb_mem 302 (by decide +kernel) rfl
theorem w_cL_X9_31 : Cond.classLink RX9 31 "KeyDesk$Row" ∈ kdtb := kdtb_mem 303 (by decide +kernel) rfl
theorem w_cL_X10_9 : Cond.classLink RX10 9 "KeyDesk$Row" ∈ kdtb := kdtb_mem 113 (by decide +kernel) rfl
theorem w_ml_X10_3 : Cond.methodLink RX10 3 Lib.objectInit ∈ kdtb := kdtb_mem 112 (by decide +kernel) rfl
theorem w_cL_X11_28 : Cond.classLink RX11 28 "KeyDesk$Line" ∈ kdtb := kdtb_mem 83 (by decide +kernel) rfl
theorem w_is_X4 : Cond.instantiable "KeyDesk$Line" 5 ∈ kdtb := kdtb_mem 84 (by decide +kernel) rfl
theorem w_cL_X11_35 : Cond.classLink RX11 35 "KeyDesk$Words" ∈ kdtb := kdtb_mem 107 (by decide +kernel) rfl
theorem w_is_X10 : Cond.instantiable "KeyDesk$Words" 4 ∈ kdtb := kdtb_mem 108 (by decide +kernel) rfl
theorem w_cL_X11_42 : Cond.classLink RX11 42 "KeyDesk$Slips" ∈ kdtb := kdtb_mem 128 (by decide +kernel) rfl
theorem w_is_X7 : Cond.instantiable "KeyDesk$Slips" 2 ∈ kdtb := kdtb_mem 129 (by decide +kernel) rfl
theorem w_cL_X11_49 : Cond.classLink RX11 49 "KeyDesk$Guesses" ∈ kdtb := kdtb_mem 143 (by decide +kernel) rfl
theorem w_is_X1 : Cond.instantiable "KeyDesk$Guesses" 3 ∈ kdtb := kdtb_mem 144 (by decide +kernel) rfl
theorem w_cL_X11_56 : Cond.classLink RX11 56 "KeyDesk$Parting" ∈ kdtb := kdtb_mem 161 (by decide +kernel) rfl
theorem w_is_X5 : Cond.instantiable "KeyDesk$Parting" 9 ∈ kdtb := kdtb_mem 162 (by decide +kernel) rfl
theorem w_cL_X11_65 : Cond.classLink RX11 65 "KeyDesk$Choice" ∈ kdtb := kdtb_mem 196 (by decide +kernel) rfl
theorem w_is_X0 : Cond.instantiable "KeyDesk$Choice" 8 ∈ kdtb := kdtb_mem 197 (by decide +kernel) rfl
theorem w_cL_X11_74 : Cond.classLink RX11 74 "KeyDesk$Hands" ∈ kdtb := kdtb_mem 233 (by decide +kernel) rfl
theorem w_is_X2 : Cond.instantiable "KeyDesk$Hands" 6 ∈ kdtb := kdtb_mem 234 (by decide +kernel) rfl
theorem w_cL_X11_81 : Cond.classLink RX11 81 "KeyDesk$Layouts" ∈ kdtb := kdtb_mem 260 (by decide +kernel) rfl
theorem w_is_X3 : Cond.instantiable "KeyDesk$Layouts" 9 ∈ kdtb := kdtb_mem 261 (by decide +kernel) rfl
theorem w_cL_X11_88 : Cond.classLink RX11 88 "KeyDesk$Ways" ∈ kdtb := kdtb_mem 297 (by decide +kernel) rfl
theorem w_is_X9 : Cond.instantiable "KeyDesk$Ways" 12 ∈ kdtb := kdtb_mem 298 (by decide +kernel) rfl
theorem w_cL_X11_21 : Cond.classLink RX11 21 "KeyDesk$Tongue" ∈ kdtb := kdtb_mem 47 (by decide +kernel) rfl
theorem w_is_X8 : Cond.instantiable "KeyDesk$Tongue" 8 ∈ kdtb := kdtb_mem 49 (by decide +kernel) rfl
theorem w_ml_X11_1 : Cond.methodLink RX11 1 Lib.objectInit ∈ kdtb := kdtb_mem 27 (by decide +kernel) rfl
theorem w_cL_X11_7 : Cond.classLink RX11 7 "KeyDesk$Row" ∈ kdtb := kdtb_mem 30 (by decide +kernel) rfl
theorem w_ml_X6_9 : Cond.methodLink RX6 9 Lib.Math.max.name ∈ kdtb := kdtb_mem 36 (by decide +kernel) rfl
theorem w_fl_X0_11 : Cond.fieldLink RX0 11 "KeyDesk$Choice" "together" "[[I" ∈ kdtb := kdtb_mem 208 (by decide +kernel) rfl
theorem w_ml_X0_18 : Cond.methodLink RX0 18 yX6_init ∈ kdtb := kdtb_mem 204 (by decide +kernel) rfl
theorem w_cd_X6_init : Cond.code yX6_init cX6_init 2 none ∈ kdtb := kdtb_mem 34 (by decide +kernel) rfl
theorem w_im_X6_init : Cond.instanceMethod yX6_init ∈ kdtb := kdtb_mem 33 (by decide +kernel) rfl
theorem w_fl_X0_25 : Cond.fieldLink RX0 25 "KeyDesk$Choice" "fixed" "LKeyDesk$Row;" ∈ kdtb := kdtb_mem 211 (by decide +kernel) rfl
theorem w_fl_X0_28 : Cond.fieldLink RX0 28 "KeyDesk$Choice" "chosenWords" "LKeyDesk$Row;" ∈ kdtb := kdtb_mem 212 (by decide +kernel) rfl
theorem w_fl_X0_33 : Cond.fieldLink RX0 33 "KeyDesk$Choice" "greatest" "[[J" ∈ kdtb := kdtb_mem 213 (by decide +kernel) rfl
theorem w_fl_X0_36 : Cond.fieldLink RX0 36 "KeyDesk$Choice" "nextWords" "[[I" ∈ kdtb := kdtb_mem 214 (by decide +kernel) rfl
theorem w_fl_X0_39 : Cond.fieldLink RX0 39 "KeyDesk$Choice" "words" "LKeyDesk$Words;" ∈ kdtb := kdtb_mem 207 (by decide +kernel) rfl
theorem w_ml_X1_11 : Cond.methodLink RX1 11 yX6_init ∈ kdtb := kdtb_mem 150 (by decide +kernel) rfl
theorem w_ml_X2_11 : Cond.methodLink RX2 11 yX6_init ∈ kdtb := kdtb_mem 240 (by decide +kernel) rfl
theorem w_fl_X3_26 : Cond.fieldLink RX3 26 "KeyDesk$Layouts" "sameFinger" "I" ∈ kdtb := kdtb_mem 276 (by decide +kernel) rfl
theorem w_fl_X3_30 : Cond.fieldLink RX3 30 "KeyDesk$Layouts" "places" "[I" ∈ kdtb := kdtb_mem 277 (by decide +kernel) rfl
theorem w_cd_X3_startAnew : Cond.code yX3_startAnew cX3_startAnew 5 (some .int) ∈ kdtb := kdtb_mem 270 (by decide +kernel) rfl
theorem w_ml_X3_33 : Cond.methodLink RX3 33 yX3_startAnew ∈ kdtb := kdtb_mem 267 (by decide +kernel) rfl
theorem w_im_X3_startAnew : Cond.instanceMethod yX3_startAnew ∈ kdtb := kdtb_mem 268 (by decide +kernel) rfl
theorem w_se_X3_startAnew : Cond.selects yX3_startAnew.cls yX3_startAnew yX3_startAnew ∈ kdtb := kdtb_mem 269 (by decide +kernel) rfl
theorem w_ml_X4_11 : Cond.methodLink RX4 11 yX6_init ∈ kdtb := kdtb_mem 90 (by decide +kernel) rfl
theorem w_fl_X4_20 : Cond.fieldLink RX4 20 "KeyDesk$Line" "rulesOfPieces" "LKeyDesk$Row;" ∈ kdtb := kdtb_mem 92 (by decide +kernel) rfl
theorem w_fl_X4_23 : Cond.fieldLink RX4 23 "KeyDesk$Line" "starts" "LKeyDesk$Row;" ∈ kdtb := kdtb_mem 93 (by decide +kernel) rfl
theorem w_fl_X4_26 : Cond.fieldLink RX4 26 "KeyDesk$Line" "signs" "LKeyDesk$Row;" ∈ kdtb := kdtb_mem 94 (by decide +kernel) rfl
theorem w_fl_X5_11 : Cond.fieldLink RX5 11 "KeyDesk$Parting" "sums" "[I" ∈ kdtb := kdtb_mem 171 (by decide +kernel) rfl
theorem w_fl_X5_15 : Cond.fieldLink RX5 15 "KeyDesk$Parting" "products" "[I" ∈ kdtb := kdtb_mem 172 (by decide +kernel) rfl
theorem w_fl_X5_18 : Cond.fieldLink RX5 18 "KeyDesk$Parting" "firstWords" "[I" ∈ kdtb := kdtb_mem 173 (by decide +kernel) rfl
theorem w_fl_X5_21 : Cond.fieldLink RX5 21 "KeyDesk$Parting" "firstLengths" "[I" ∈ kdtb := kdtb_mem 174 (by decide +kernel) rfl
theorem w_ml_X5_26 : Cond.methodLink RX5 26 yX6_init ∈ kdtb := kdtb_mem 168 (by decide +kernel) rfl
theorem w_fl_X5_29 : Cond.fieldLink RX5 29 "KeyDesk$Parting" "foundWords" "LKeyDesk$Row;" ∈ kdtb := kdtb_mem 175 (by decide +kernel) rfl
theorem w_fl_X5_33 : Cond.fieldLink RX5 33 "KeyDesk$Parting" "foundLengths" "LKeyDesk$Row;" ∈ kdtb := kdtb_mem 176 (by decide +kernel) rfl
theorem w_fl_X5_36 : Cond.fieldLink RX5 36 "KeyDesk$Parting" "words" "LKeyDesk$Words;" ∈ kdtb := kdtb_mem 169 (by decide +kernel) rfl
theorem w_fl_X5_40 : Cond.fieldLink RX5 40 "KeyDesk$Parting" "slips" "LKeyDesk$Slips;" ∈ kdtb := kdtb_mem 170 (by decide +kernel) rfl
theorem w_fl_X8_11 : Cond.fieldLink RX8 11 "KeyDesk$Tongue" "keysOfRules" "[LKeyDesk$Row;" ∈ kdtb := kdtb_mem 57 (by decide +kernel) rfl
theorem w_ml_X8_20 : Cond.methodLink RX8 20 yX6_init ∈ kdtb := kdtb_mem 56 (by decide +kernel) rfl
theorem w_fl_X8_17 : Cond.fieldLink RX8 17 "KeyDesk$Tongue" "lettersOfRules" "[LKeyDesk$Row;" ∈ kdtb := kdtb_mem 58 (by decide +kernel) rfl
theorem w_fl_X8_23 : Cond.fieldLink RX8 23 "KeyDesk$Tongue" "firsts" "LKeyDesk$Row;" ∈ kdtb := kdtb_mem 60 (by decide +kernel) rfl
theorem w_fl_X8_27 : Cond.fieldLink RX8 27 "KeyDesk$Tongue" "seconds" "LKeyDesk$Row;" ∈ kdtb := kdtb_mem 61 (by decide +kernel) rfl
theorem w_fl_X8_33 : Cond.fieldLink RX8 33 "KeyDesk$Tongue" "letters" "[Z" ∈ kdtb := kdtb_mem 63 (by decide +kernel) rfl
theorem w_fl_X8_37 : Cond.fieldLink RX8 37 "KeyDesk$Tongue" "made" "[Z" ∈ kdtb := kdtb_mem 64 (by decide +kernel) rfl
theorem w_fl_X9_9 : Cond.fieldLink RX9 9 "KeyDesk$Ways" "digits" "[I" ∈ kdtb := kdtb_mem 306 (by decide +kernel) rfl
theorem w_fl_X9_15 : Cond.fieldLink RX9 15 "KeyDesk$Ways" "costs" "[I" ∈ kdtb := kdtb_mem 307 (by decide +kernel) rfl
theorem w_fl_X9_18 : Cond.fieldLink RX9 18 "KeyDesk$Ways" "neighbours" "[I" ∈ kdtb := kdtb_mem 308 (by decide +kernel) rfl
theorem w_fl_X9_21 : Cond.fieldLink RX9 21 "KeyDesk$Ways" "peaks" "[I" ∈ kdtb := kdtb_mem 309 (by decide +kernel) rfl
theorem w_fl_X9_24 : Cond.fieldLink RX9 24 "KeyDesk$Ways" "settled" "[Z" ∈ kdtb := kdtb_mem 310 (by decide +kernel) rfl
theorem w_fl_X9_28 : Cond.fieldLink RX9 28 "KeyDesk$Ways" "steps" "[I" ∈ kdtb := kdtb_mem 311 (by decide +kernel) rfl
theorem w_ml_X9_33 : Cond.methodLink RX9 33 yX6_init ∈ kdtb := kdtb_mem 304 (by decide +kernel) rfl
theorem w_fl_X9_36 : Cond.fieldLink RX9 36 "KeyDesk$Ways" "queue" "LKeyDesk$Row;" ∈ kdtb := kdtb_mem 312 (by decide +kernel) rfl
theorem w_fl_X9_40 : Cond.fieldLink RX9 40 "KeyDesk$Ways" "path" "LKeyDesk$Row;" ∈ kdtb := kdtb_mem 313 (by decide +kernel) rfl
theorem w_fl_X9_43 : Cond.fieldLink RX9 43 "KeyDesk$Ways" "layouts" "LKeyDesk$Layouts;" ∈ kdtb := kdtb_mem 305 (by decide +kernel) rfl
theorem w_ml_X10_11 : Cond.methodLink RX10 11 yX6_init ∈ kdtb := kdtb_mem 114 (by decide +kernel) rfl
theorem w_cd_X4_init : Cond.code yX4_init cX4_init 1 none ∈ kdtb := kdtb_mem 87 (by decide +kernel) rfl
theorem w_im_X4_init : Cond.instanceMethod yX4_init ∈ kdtb := kdtb_mem 86 (by decide +kernel) rfl
theorem w_ml_X11_37 : Cond.methodLink RX11 37 yX10_init ∈ kdtb := kdtb_mem 109 (by decide +kernel) rfl
theorem w_cd_X10_init : Cond.code yX10_init cX10_init 2 none ∈ kdtb := kdtb_mem 111 (by decide +kernel) rfl
theorem w_im_X10_init : Cond.instanceMethod yX10_init ∈ kdtb := kdtb_mem 110 (by decide +kernel) rfl
theorem w_cd_X7_init : Cond.code yX7_init cX7_init 1 none ∈ kdtb := kdtb_mem 132 (by decide +kernel) rfl
theorem w_im_X7_init : Cond.instanceMethod yX7_init ∈ kdtb := kdtb_mem 131 (by decide +kernel) rfl
theorem w_cd_X1_init : Cond.code yX1_init cX1_init 1 none ∈ kdtb := kdtb_mem 147 (by decide +kernel) rfl
theorem w_im_X1_init : Cond.instanceMethod yX1_init ∈ kdtb := kdtb_mem 146 (by decide +kernel) rfl
theorem w_in_X5 : Cond.initialized RX5 ∈ kdtb := kdtb_mem 17 (by decide +kernel) rfl
theorem w_ml_X11_58 : Cond.methodLink RX11 58 yX5_init ∈ kdtb := kdtb_mem 163 (by decide +kernel) rfl
theorem w_cd_X5_init : Cond.code yX5_init cX5_init 3 none ∈ kdtb := kdtb_mem 165 (by decide +kernel) rfl
theorem w_im_X5_init : Cond.instanceMethod yX5_init ∈ kdtb := kdtb_mem 164 (by decide +kernel) rfl
theorem w_fl_X11_61 : Cond.fieldLink RX11 61 "KeyDesk" "parting" "LKeyDesk$Parting;" ∈ kdtb := kdtb_mem 346 (by decide +kernel) rfl
theorem w_ml_X11_67 : Cond.methodLink RX11 67 yX0_init ∈ kdtb := kdtb_mem 198 (by decide +kernel) rfl
theorem w_cd_X0_init : Cond.code yX0_init cX0_init 2 none ∈ kdtb := kdtb_mem 200 (by decide +kernel) rfl
theorem w_im_X0_init : Cond.instanceMethod yX0_init ∈ kdtb := kdtb_mem 199 (by decide +kernel) rfl
theorem w_cd_X2_init : Cond.code yX2_init cX2_init 1 none ∈ kdtb := kdtb_mem 237 (by decide +kernel) rfl
theorem w_im_X2_init : Cond.instanceMethod yX2_init ∈ kdtb := kdtb_mem 236 (by decide +kernel) rfl
theorem w_ml_X11_83 : Cond.methodLink RX11 83 yX3_init ∈ kdtb := kdtb_mem 262 (by decide +kernel) rfl
theorem w_cd_X3_init : Cond.code yX3_init cX3_init 1 none ∈ kdtb := kdtb_mem 264 (by decide +kernel) rfl
theorem w_im_X3_init : Cond.instanceMethod yX3_init ∈ kdtb := kdtb_mem 263 (by decide +kernel) rfl
theorem w_in_X9 : Cond.initialized RX9 ∈ kdtb := kdtb_mem 21 (by decide +kernel) rfl
theorem w_ml_X11_90 : Cond.methodLink RX11 90 yX9_init ∈ kdtb := kdtb_mem 299 (by decide +kernel) rfl
theorem w_cd_X9_init : Cond.code yX9_init cX9_init 2 none ∈ kdtb := kdtb_mem 301 (by decide +kernel) rfl
theorem w_im_X9_init : Cond.instanceMethod yX9_init ∈ kdtb := kdtb_mem 300 (by decide +kernel) rfl
theorem w_fl_X11_93 : Cond.fieldLink RX11 93 "KeyDesk" "ways" "LKeyDesk$Ways;" ∈ kdtb := kdtb_mem 350 (by decide +kernel) rfl
theorem w_ml_X11_27 : Cond.methodLink RX11 27 yX8_init ∈ kdtb := kdtb_mem 50 (by decide +kernel) rfl
theorem w_cd_X8_init : Cond.code yX8_init cX8_init 2 none ∈ kdtb := kdtb_mem 52 (by decide +kernel) rfl
theorem w_im_X8_init : Cond.instanceMethod yX8_init ∈ kdtb := kdtb_mem 51 (by decide +kernel) rfl
theorem w_ml_X11_11 : Cond.methodLink RX11 11 yX6_init ∈ kdtb := kdtb_mem 32 (by decide +kernel) rfl
theorem kd_dd_X6 : kdD 6 := ⟨RX6, TX6, 2, tyX6, rfl, kd_in_X6, tyX6_ok, by decide +kernel⟩
theorem kd_dd_X4 : kdD 4 := ⟨RX4, TX4, 5, tyX4, rfl, kd_in_X4, tyX4_ok, by decide +kernel⟩
theorem kd_dd_X10 : kdD 10 := ⟨RX10, TX10, 4, tyX10, rfl, kd_in_X10, tyX10_ok, by decide +kernel⟩
theorem kd_dd_X7 : kdD 7 := ⟨RX7, TX7, 2, tyX7, rfl, kd_in_X7, tyX7_ok, by decide +kernel⟩
theorem kd_dd_X1 : kdD 1 := ⟨RX1, TX1, 3, tyX1, rfl, kd_in_X1, tyX1_ok, by decide +kernel⟩
theorem kd_dd_X5 : kdD 5 := ⟨RX5, TX5, 9, tyX5, rfl, kd_in_X5, tyX5_ok, by decide +kernel⟩
theorem kd_dd_X0 : kdD 0 := ⟨RX0, TX0, 8, tyX0, rfl, kd_in_X0, tyX0_ok, by decide +kernel⟩
theorem kd_dd_X2 : kdD 2 := ⟨RX2, TX2, 6, tyX2, rfl, kd_in_X2, tyX2_ok, by decide +kernel⟩
theorem kd_dd_X3 : kdD 3 := ⟨RX3, TX3, 9, tyX3, rfl, kd_in_X3, tyX3_ok, by decide +kernel⟩
theorem kd_dd_X9 : kdD 9 := ⟨RX9, TX9, 12, tyX9, rfl, kd_in_X9, tyX9_ok, by decide +kernel⟩
theorem kd_dd_X8 : kdD 8 := ⟨RX8, TX8, 8, tyX8, rfl, kd_in_X8, tyX8_ok, by decide +kernel⟩
theorem kk_i_5 : Int32.ofInt 5 = (5 : Int32) := by decide
theorem kk_s_900 : (Int16.ofInt 900).toInt32 = (900 : Int32) := by decide
theorem kk_b_40 : (Int8.ofInt 40).toInt32 = (40 : Int32) := by decide
theorem kk_b_120 : (Int8.ofInt 120).toInt32 = (120 : Int32) := by decide
theorem kk_s_340 : (Int16.ofInt 340).toInt32 = (340 : Int32) := by decide
theorem kk_b_6 : (Int8.ofInt 6).toInt32 = (6 : Int32) := by decide
theorem kk_b_17 : (Int8.ofInt 17).toInt32 = (17 : Int32) := by decide
theorem kk_b_9 : (Int8.ofInt 9).toInt32 = (9 : Int32) := by decide
theorem kk_b_24 : (Int8.ofInt 24).toInt32 = (24 : Int32) := by decide
theorem kk_b_12 : (Int8.ofInt 12).toInt32 = (12 : Int32) := by decide
theorem kk_b_61 : (Int8.ofInt 61).toInt32 = (61 : Int32) := by decide
theorem kk_s_1200 : (Int16.ofInt 1200).toInt32 = (1200 : Int32) := by decide
theorem kk_b_16 : (Int8.ofInt 16).toInt32 = (16 : Int32) := by decide
theorem kf_X0_11 : kdF RX0 11 0 1 := ⟨RX0, TX0, 8, rfl, by decide, w_fl_X0_11, rfl, kd_in_X0, nmX0, tyX0, tyX0_ok, fun h => absurd h (by decide +kernel)⟩
theorem kf_X0_25 : kdF RX0 25 0 4 := ⟨RX0, TX0, 8, rfl, by decide, w_fl_X0_25, rfl, kd_in_X0, nmX0, tyX0, tyX0_ok, fun h => absurd h (by decide +kernel)⟩
theorem kf_X0_28 : kdF RX0 28 0 5 := ⟨RX0, TX0, 8, rfl, by decide, w_fl_X0_28, rfl, kd_in_X0, nmX0, tyX0, tyX0_ok, fun h => absurd h (by decide +kernel)⟩
theorem kf_X0_33 : kdF RX0 33 0 6 := ⟨RX0, TX0, 8, rfl, by decide, w_fl_X0_33, rfl, kd_in_X0, nmX0, tyX0, tyX0_ok, fun h => absurd h (by decide +kernel)⟩
theorem kf_X0_36 : kdF RX0 36 0 7 := ⟨RX0, TX0, 8, rfl, by decide, w_fl_X0_36, rfl, kd_in_X0, nmX0, tyX0, tyX0_ok, fun h => absurd h (by decide +kernel)⟩
theorem kf_X0_39 : kdF RX0 39 0 0 := ⟨RX0, TX0, 8, rfl, by decide, w_fl_X0_39, rfl, kd_in_X0, nmX0, tyX0, tyX0_ok, fun h => absurd h (by decide +kernel)⟩
theorem kf_X3_26 : kdF RX3 26 3 5 := ⟨RX3, TX3, 9, rfl, by decide, w_fl_X3_26, rfl, kd_in_X3, nmX3, tyX3, tyX3_ok, fun _ _ => rfl⟩
theorem kf_X3_30 : kdF RX3 30 3 6 := ⟨RX3, TX3, 9, rfl, by decide, w_fl_X3_30, rfl, kd_in_X3, nmX3, tyX3, tyX3_ok, fun h => absurd h (by decide +kernel)⟩
theorem kf_X4_20 : kdF RX4 20 4 1 := ⟨RX4, TX4, 5, rfl, by decide, w_fl_X4_20, rfl, kd_in_X4, nmX4, tyX4, tyX4_ok, fun h => absurd h (by decide +kernel)⟩
theorem kf_X4_23 : kdF RX4 23 4 2 := ⟨RX4, TX4, 5, rfl, by decide, w_fl_X4_23, rfl, kd_in_X4, nmX4, tyX4, tyX4_ok, fun h => absurd h (by decide +kernel)⟩
theorem kf_X4_26 : kdF RX4 26 4 3 := ⟨RX4, TX4, 5, rfl, by decide, w_fl_X4_26, rfl, kd_in_X4, nmX4, tyX4, tyX4_ok, fun h => absurd h (by decide +kernel)⟩
theorem kf_X5_11 : kdF RX5 11 5 2 := ⟨RX5, TX5, 9, rfl, by decide, w_fl_X5_11, rfl, kd_in_X5, nmX5, tyX5, tyX5_ok, fun h => absurd h (by decide +kernel)⟩
theorem kf_X5_15 : kdF RX5 15 5 3 := ⟨RX5, TX5, 9, rfl, by decide, w_fl_X5_15, rfl, kd_in_X5, nmX5, tyX5, tyX5_ok, fun h => absurd h (by decide +kernel)⟩
theorem kf_X5_18 : kdF RX5 18 5 4 := ⟨RX5, TX5, 9, rfl, by decide, w_fl_X5_18, rfl, kd_in_X5, nmX5, tyX5, tyX5_ok, fun h => absurd h (by decide +kernel)⟩
theorem kf_X5_21 : kdF RX5 21 5 5 := ⟨RX5, TX5, 9, rfl, by decide, w_fl_X5_21, rfl, kd_in_X5, nmX5, tyX5, tyX5_ok, fun h => absurd h (by decide +kernel)⟩
theorem kf_X5_29 : kdF RX5 29 5 6 := ⟨RX5, TX5, 9, rfl, by decide, w_fl_X5_29, rfl, kd_in_X5, nmX5, tyX5, tyX5_ok, fun h => absurd h (by decide +kernel)⟩
theorem kf_X5_33 : kdF RX5 33 5 7 := ⟨RX5, TX5, 9, rfl, by decide, w_fl_X5_33, rfl, kd_in_X5, nmX5, tyX5, tyX5_ok, fun h => absurd h (by decide +kernel)⟩
theorem kf_X5_36 : kdF RX5 36 5 0 := ⟨RX5, TX5, 9, rfl, by decide, w_fl_X5_36, rfl, kd_in_X5, nmX5, tyX5, tyX5_ok, fun h => absurd h (by decide +kernel)⟩
theorem kf_X5_40 : kdF RX5 40 5 1 := ⟨RX5, TX5, 9, rfl, by decide, w_fl_X5_40, rfl, kd_in_X5, nmX5, tyX5, tyX5_ok, fun h => absurd h (by decide +kernel)⟩
theorem kf_X8_11 : kdF RX8 11 8 0 := ⟨RX8, TX8, 8, rfl, by decide, w_fl_X8_11, rfl, kd_in_X8, nmX8, tyX8, tyX8_ok, fun h => absurd h (by decide +kernel)⟩
theorem kf_X8_17 : kdF RX8 17 8 1 := ⟨RX8, TX8, 8, rfl, by decide, w_fl_X8_17, rfl, kd_in_X8, nmX8, tyX8, tyX8_ok, fun h => absurd h (by decide +kernel)⟩
theorem kf_X8_23 : kdF RX8 23 8 3 := ⟨RX8, TX8, 8, rfl, by decide, w_fl_X8_23, rfl, kd_in_X8, nmX8, tyX8, tyX8_ok, fun h => absurd h (by decide +kernel)⟩
theorem kf_X8_27 : kdF RX8 27 8 4 := ⟨RX8, TX8, 8, rfl, by decide, w_fl_X8_27, rfl, kd_in_X8, nmX8, tyX8, tyX8_ok, fun h => absurd h (by decide +kernel)⟩
theorem kf_X8_33 : kdF RX8 33 8 6 := ⟨RX8, TX8, 8, rfl, by decide, w_fl_X8_33, rfl, kd_in_X8, nmX8, tyX8, tyX8_ok, fun h => absurd h (by decide +kernel)⟩
theorem kf_X8_37 : kdF RX8 37 8 7 := ⟨RX8, TX8, 8, rfl, by decide, w_fl_X8_37, rfl, kd_in_X8, nmX8, tyX8, tyX8_ok, fun h => absurd h (by decide +kernel)⟩
theorem kf_X9_9 : kdF RX9 9 9 1 := ⟨RX9, TX9, 12, rfl, by decide, w_fl_X9_9, rfl, kd_in_X9, nmX9, tyX9, tyX9_ok, fun h => absurd h (by decide +kernel)⟩
theorem kf_X9_15 : kdF RX9 15 9 2 := ⟨RX9, TX9, 12, rfl, by decide, w_fl_X9_15, rfl, kd_in_X9, nmX9, tyX9, tyX9_ok, fun h => absurd h (by decide +kernel)⟩
theorem kf_X9_18 : kdF RX9 18 9 3 := ⟨RX9, TX9, 12, rfl, by decide, w_fl_X9_18, rfl, kd_in_X9, nmX9, tyX9, tyX9_ok, fun h => absurd h (by decide +kernel)⟩
theorem kf_X9_21 : kdF RX9 21 9 4 := ⟨RX9, TX9, 12, rfl, by decide, w_fl_X9_21, rfl, kd_in_X9, nmX9, tyX9, tyX9_ok, fun h => absurd h (by decide +kernel)⟩
theorem kf_X9_24 : kdF RX9 24 9 5 := ⟨RX9, TX9, 12, rfl, by decide, w_fl_X9_24, rfl, kd_in_X9, nmX9, tyX9, tyX9_ok, fun h => absurd h (by decide +kernel)⟩
theorem kf_X9_28 : kdF RX9 28 9 6 := ⟨RX9, TX9, 12, rfl, by decide, w_fl_X9_28, rfl, kd_in_X9, nmX9, tyX9, tyX9_ok, fun h => absurd h (by decide +kernel)⟩
theorem kf_X9_36 : kdF RX9 36 9 7 := ⟨RX9, TX9, 12, rfl, by decide, w_fl_X9_36, rfl, kd_in_X9, nmX9, tyX9, tyX9_ok, fun h => absurd h (by decide +kernel)⟩
theorem kf_X9_40 : kdF RX9 40 9 8 := ⟨RX9, TX9, 12, rfl, by decide, w_fl_X9_40, rfl, kd_in_X9, nmX9, tyX9, tyX9_ok, fun h => absurd h (by decide +kernel)⟩
theorem kf_X9_43 : kdF RX9 43 9 0 := ⟨RX9, TX9, 12, rfl, by decide, w_fl_X9_43, rfl, kd_in_X9, nmX9, tyX9, tyX9_ok, fun h => absurd h (by decide +kernel)⟩
theorem kf_X11_61 : kdF RX11 61 11 7 := ⟨RX11, TX11, 12, rfl, by decide, w_fl_X11_61, rfl, kd_in_X11, nmX11, tyX11, tyX11_ok, fun h => absurd h (by decide +kernel)⟩
theorem kf_X11_93 : kdF RX11 93 11 11 := ⟨RX11, TX11, 12, rfl, by decide, w_fl_X11_93, rfl, kd_in_X11, nmX11, tyX11, tyX11_ok, fun h => absurd h (by decide +kernel)⟩
theorem kl_X6_init : kdL yX6_init cX6_init 2 none 1 := ⟨w_cd_X6_init, w_in_X6, by decide +kernel, by decide +kernel, by decide⟩
theorem kl_X3_startAnew : kdL yX3_startAnew cX3_startAnew 5 (some .int) 1 := ⟨w_cd_X3_startAnew, w_in_X3, by decide +kernel, by decide +kernel, by decide⟩
theorem kl_X4_init : kdL yX4_init cX4_init 1 none 0 := ⟨w_cd_X4_init, w_in_X4, by decide +kernel, by decide +kernel, by decide⟩
theorem kl_X10_init : kdL yX10_init cX10_init 2 none 0 := ⟨w_cd_X10_init, w_in_X10, by decide +kernel, by decide +kernel, by decide⟩
theorem kl_X7_init : kdL yX7_init cX7_init 1 none 0 := ⟨w_cd_X7_init, w_in_X7, by decide +kernel, by decide +kernel, by decide⟩
theorem kl_X1_init : kdL yX1_init cX1_init 1 none 0 := ⟨w_cd_X1_init, w_in_X1, by decide +kernel, by decide +kernel, by decide⟩
theorem kl_X5_init : kdL yX5_init cX5_init 3 none 2 := ⟨w_cd_X5_init, w_in_X5, by decide +kernel, by decide +kernel, by decide⟩
theorem kl_X0_init : kdL yX0_init cX0_init 2 none 1 := ⟨w_cd_X0_init, w_in_X0, by decide +kernel, by decide +kernel, by decide⟩
theorem kl_X2_init : kdL yX2_init cX2_init 1 none 0 := ⟨w_cd_X2_init, w_in_X2, by decide +kernel, by decide +kernel, by decide⟩
theorem kl_X3_init : kdL yX3_init cX3_init 1 none 0 := ⟨w_cd_X3_init, w_in_X3, by decide +kernel, by decide +kernel, by decide⟩
theorem kl_X9_init : kdL yX9_init cX9_init 2 none 1 := ⟨w_cd_X9_init, w_in_X9, by decide +kernel, by decide +kernel, by decide⟩
theorem kl_X8_init : kdL yX8_init cX8_init 2 none 0 := ⟨w_cd_X8_init, w_in_X8, by decide +kernel, by decide +kernel, by decide⟩
def X6_init (l0 : Nat) (l1 : Int32) : kd1 → Option (Unit × kd1) :=
  n1A 13 ((kmax l1 (0 : Int32))) fun t1 =>
  s1R 6 0 l0 t1 <|
  rt1 ()
set_option maxRecDepth 100000 in
set_option maxHeartbeats 4000000 in
theorem wX6_init {E : kdE} {l0 : Nat} {l1 : Int32} {G : kdS} {σ : kdM} {mc ms : Nat} {G1 : kdS} {σ1 : kdM} {c1 s1 : Nat} (h : X6_init l0 l1 (G, σ, mc, ms) = some ((), (G1, σ1, c1, s1))) : Con1 E yX6_init cX6_init 2 none 1 mc ms [kr E l0, .int l1] G σ (none, G1, σ1) := by
  refine kd1_head (own := RX6) rfl rfl (by decide +kernel) (Nat.le_of_ble_eq_true rfl) (fun A hX hY hc hs => ?_)
  replace hc : 0 + mc = (kdAR A).cells := by rw [hc, Nat.zero_add]
  replace hs : 0 + ms = (kdAR A).slots := by rw [hs, Nat.zero_add]
  show SWg E A 2 (kd1E E (none, G1, σ1) A) (kdR E G σ) 0 0 0 [(0, kr E l0), (1, .int l1)] []
  unfold X6_init at h
  refine r_aload_n hX dX6_init_0 rfl 0 rfl ?_
  refine r1_obj hX hY dX6_init_1 w_ml_X6_3 w_im_OI w_cd_OI (by decide) (Nat.le_of_ble_eq_true rfl) ?_
  refine r_aload_n hX dX6_init_4 rfl 0 rfl ?_
  refine r_iload_n hX dX6_init_5 rfl 1 rfl ?_
  refine r_iconst hX dX6_init_6 kk_i_0 ?_
  refine r_mmax hX dX6_init_7 w_ml_X6_9 w_st_Math_max w_in_Math w_cd_Math_max (by decide) (Nat.le_of_ble_eq_true rfl) (kd1_ro hc hs) ?_
  refine r1_newa13 hX hY dX6_init_10 w_ac_int hc hs h ?_
  clear h hc hs; intro t1 G σ cc cs c0 s0 hc hs h
  refine r1_sR hX hY dX6_init_12 kf_X6_15 ⟨_, _, rfl⟩ rfl (by intro q hq; cases hq; exact ⟨_, tyX6_ok 0 (by decide), Or.inr ⟨_, rfl⟩⟩) hc hs h ?_
  clear h hc hs; intro G σ cc cs c0 s0 hc hs h
  exact r1_vret hX hc hs dX6_init_15 h
def X0_init (l0 : Nat) (l1 : Nat) : kd1 → Option (Unit × kd1) :=
  n1M 18 13 ((60 : Int32)) ((60 : Int32)) fun t1 =>
  s1R 0 1 l0 t1 <|
  n1 6 2 fun t2 =>
  sub1 1 5 (X6_init t2 (5 : Int32)) <|
  s1R 0 3 l0 t2 <|
  n1 6 2 fun t3 =>
  sub1 1 5 (X6_init t3 (5 : Int32)) <|
  s1R 0 4 l0 t3 <|
  n1 6 2 fun t4 =>
  sub1 1 5 (X6_init t4 (5 : Int32)) <|
  s1R 0 5 l0 t4 <|
  n1M 19 14 ((5 : Int32)) ((60 : Int32)) fun t5 =>
  s1R 0 6 l0 t5 <|
  n1M 18 13 ((5 : Int32)) ((60 : Int32)) fun t6 =>
  s1R 0 7 l0 t6 <|
  s1R 0 0 l0 l1 <|
  rt1 ()
set_option maxRecDepth 100000 in
set_option maxHeartbeats 4000000 in
theorem wX0_init {E : kdE} {l0 : Nat} {l1 : Nat} {G : kdS} {σ : kdM} {mc ms : Nat} {G1 : kdS} {σ1 : kdM} {c1 s1 : Nat} (h : X0_init l0 l1 (G, σ, mc, ms) = some ((), (G1, σ1, c1, s1))) : Con1 E yX0_init cX0_init 2 none 2 mc ms [kr E l0, kr E l1] G σ (none, G1, σ1) := by
  refine kd1_head (own := RX0) rfl rfl (by decide +kernel) (Nat.le_of_ble_eq_true rfl) (fun A hX hY hc hs => ?_)
  replace hc : 0 + mc = (kdAR A).cells := by rw [hc, Nat.zero_add]
  replace hs : 0 + ms = (kdAR A).slots := by rw [hs, Nat.zero_add]
  show SWg E A 2 (kd1E E (none, G1, σ1) A) (kdR E G σ) 0 0 0 [(0, kr E l0), (1, kr E l1)] []
  unfold X0_init at h
  refine r_aload_n hX dX0_init_0 rfl 0 rfl ?_
  refine r1_obj hX hY dX0_init_1 w_ml_X0_3 w_im_OI w_cd_OI (by decide) (Nat.le_of_ble_eq_true rfl) ?_
  refine r_aload_n hX dX0_init_4 rfl 0 rfl ?_
  refine r_bipush hX dX0_init_5 kk_b_60 ?_
  refine r_bipush hX dX0_init_7 kk_b_60 ?_
  refine r1_m18 hX hY dX0_init_9 w_cL_X0_9 w_ac_int hc hs h ?_
  clear h hc hs; intro t1 G σ cc cs c0 s0 hc hs h
  refine r1_sR hX hY dX0_init_13 kf_X0_11 ⟨_, _, rfl⟩ rfl (by intro q hq; cases hq; exact ⟨_, tyX0_ok 1 (by decide), Or.inr ⟨_, rfl⟩⟩) hc hs h ?_
  clear h hc hs; intro G σ cc cs c0 s0 hc hs h
  refine r_aload_n hX dX0_init_16 rfl 0 rfl ?_
  refine r1_new (n := 2) hX hY dX0_init_17 kd_dd_X6 ⟨_, rfl⟩ w_cL_X0_16 w_is_X6 w_in_X6 hc hs h ?_
  clear h hc hs; intro t2 G σ cc cs c0 s0 hc hs h
  refine r_dup hX dX0_init_20 rfl ?_
  refine r_iconst hX dX0_init_21 kk_i_5 ?_
  refine r1_cI (As := [.int (5 : Int32)]) (st := [kr E t2, kr E l0]) hX hY dX0_init_22 kl_X6_init w_ml_X0_18 w_im_X6_init rfl (by decide) rfl (Nat.le_of_ble_eq_true rfl) rfl hc hs h (fun G1 σ1 c1 s1 h => wX6_init h) ?_
  clear h hc hs; intro G σ cc cs c0 s0 hc hs h
  refine r1_sR hX hY dX0_init_25 kf_X0_21 ⟨_, _, rfl⟩ rfl (by intro q hq; cases hq; exact ⟨_, tyX0_ok 3 (by decide), Or.inl ⟨_, rfl⟩⟩) hc hs h ?_
  clear h hc hs; intro G σ cc cs c0 s0 hc hs h
  refine r_aload_n hX dX0_init_28 rfl 0 rfl ?_
  refine r1_new (n := 2) hX hY dX0_init_29 kd_dd_X6 ⟨_, rfl⟩ w_cL_X0_16 w_is_X6 w_in_X6 hc hs h ?_
  clear h hc hs; intro t3 G σ cc cs c0 s0 hc hs h
  refine r_dup hX dX0_init_32 rfl ?_
  refine r_iconst hX dX0_init_33 kk_i_5 ?_
  refine r1_cI (As := [.int (5 : Int32)]) (st := [kr E t3, kr E l0]) hX hY dX0_init_34 kl_X6_init w_ml_X0_18 w_im_X6_init rfl (by decide) rfl (Nat.le_of_ble_eq_true rfl) rfl hc hs h (fun G1 σ1 c1 s1 h => wX6_init h) ?_
  clear h hc hs; intro G σ cc cs c0 s0 hc hs h
  refine r1_sR hX hY dX0_init_37 kf_X0_25 ⟨_, _, rfl⟩ rfl (by intro q hq; cases hq; exact ⟨_, tyX0_ok 4 (by decide), Or.inl ⟨_, rfl⟩⟩) hc hs h ?_
  clear h hc hs; intro G σ cc cs c0 s0 hc hs h
  refine r_aload_n hX dX0_init_40 rfl 0 rfl ?_
  refine r1_new (n := 2) hX hY dX0_init_41 kd_dd_X6 ⟨_, rfl⟩ w_cL_X0_16 w_is_X6 w_in_X6 hc hs h ?_
  clear h hc hs; intro t4 G σ cc cs c0 s0 hc hs h
  refine r_dup hX dX0_init_44 rfl ?_
  refine r_iconst hX dX0_init_45 kk_i_5 ?_
  refine r1_cI (As := [.int (5 : Int32)]) (st := [kr E t4, kr E l0]) hX hY dX0_init_46 kl_X6_init w_ml_X0_18 w_im_X6_init rfl (by decide) rfl (Nat.le_of_ble_eq_true rfl) rfl hc hs h (fun G1 σ1 c1 s1 h => wX6_init h) ?_
  clear h hc hs; intro G σ cc cs c0 s0 hc hs h
  refine r1_sR hX hY dX0_init_49 kf_X0_28 ⟨_, _, rfl⟩ rfl (by intro q hq; cases hq; exact ⟨_, tyX0_ok 5 (by decide), Or.inl ⟨_, rfl⟩⟩) hc hs h ?_
  clear h hc hs; intro G σ cc cs c0 s0 hc hs h
  refine r_aload_n hX dX0_init_52 rfl 0 rfl ?_
  refine r_iconst hX dX0_init_53 kk_i_5 ?_
  refine r_bipush hX dX0_init_54 kk_b_60 ?_
  refine r1_m19 hX hY dX0_init_56 w_cL_X0_31 w_ac_long hc hs h ?_
  clear h hc hs; intro t5 G σ cc cs c0 s0 hc hs h
  refine r1_sR hX hY dX0_init_60 kf_X0_33 ⟨_, _, rfl⟩ rfl (by intro q hq; cases hq; exact ⟨_, tyX0_ok 6 (by decide), Or.inr ⟨_, rfl⟩⟩) hc hs h ?_
  clear h hc hs; intro G σ cc cs c0 s0 hc hs h
  refine r_aload_n hX dX0_init_63 rfl 0 rfl ?_
  refine r_iconst hX dX0_init_64 kk_i_5 ?_
  refine r_bipush hX dX0_init_65 kk_b_60 ?_
  refine r1_m18 hX hY dX0_init_67 w_cL_X0_9 w_ac_int hc hs h ?_
  clear h hc hs; intro t6 G σ cc cs c0 s0 hc hs h
  refine r1_sR hX hY dX0_init_71 kf_X0_36 ⟨_, _, rfl⟩ rfl (by intro q hq; cases hq; exact ⟨_, tyX0_ok 7 (by decide), Or.inr ⟨_, rfl⟩⟩) hc hs h ?_
  clear h hc hs; intro G σ cc cs c0 s0 hc hs h
  refine r_aload_n hX dX0_init_74 rfl 0 rfl ?_
  refine r_aload_n hX dX0_init_75 rfl 1 rfl ?_
  refine r1_sR hX hY dX0_init_76 kf_X0_39 ⟨_, _, rfl⟩ rfl (by intro q hq; cases hq; exact ⟨_, tyX0_ok 0 (by decide), Or.inl ⟨_, rfl⟩⟩) hc hs h ?_
  clear h hc hs; intro G σ cc cs c0 s0 hc hs h
  exact r1_vret hX hc hs dX0_init_79 h
def X1_init (l0 : Nat) : kd1 → Option (Unit × kd1) :=
  n1 6 2 fun t1 =>
  sub1 1 60 (X6_init t1 (60 : Int32)) <|
  s1R 1 0 l0 t1 <|
  n1 6 2 fun t2 =>
  sub1 1 60 (X6_init t2 (60 : Int32)) <|
  s1R 1 1 l0 t2 <|
  n1 6 2 fun t3 =>
  sub1 1 60 (X6_init t3 (60 : Int32)) <|
  s1R 1 2 l0 t3 <|
  rt1 ()
set_option maxRecDepth 100000 in
set_option maxHeartbeats 4000000 in
theorem wX1_init {E : kdE} {l0 : Nat} {G : kdS} {σ : kdM} {mc ms : Nat} {G1 : kdS} {σ1 : kdM} {c1 s1 : Nat} (h : X1_init l0 (G, σ, mc, ms) = some ((), (G1, σ1, c1, s1))) : Con1 E yX1_init cX1_init 1 none 2 mc ms [kr E l0] G σ (none, G1, σ1) := by
  refine kd1_head (own := RX1) rfl rfl (by decide +kernel) (Nat.le_of_ble_eq_true rfl) (fun A hX hY hc hs => ?_)
  replace hc : 0 + mc = (kdAR A).cells := by rw [hc, Nat.zero_add]
  replace hs : 0 + ms = (kdAR A).slots := by rw [hs, Nat.zero_add]
  show SWg E A 1 (kd1E E (none, G1, σ1) A) (kdR E G σ) 0 0 0 [(0, kr E l0)] []
  unfold X1_init at h
  refine r_aload_n hX dX1_init_0 rfl 0 rfl ?_
  refine r1_obj hX hY dX1_init_1 w_ml_X1_3 w_im_OI w_cd_OI (by decide) (Nat.le_of_ble_eq_true rfl) ?_
  refine r_aload_n hX dX1_init_4 rfl 0 rfl ?_
  refine r1_new (n := 2) hX hY dX1_init_5 kd_dd_X6 ⟨_, rfl⟩ w_cL_X1_9 w_is_X6 w_in_X6 hc hs h ?_
  clear h hc hs; intro t1 G σ cc cs c0 s0 hc hs h
  refine r_dup hX dX1_init_8 rfl ?_
  refine r_bipush hX dX1_init_9 kk_b_60 ?_
  refine r1_cI (As := [.int (60 : Int32)]) (st := [kr E t1, kr E l0]) hX hY dX1_init_11 kl_X6_init w_ml_X1_11 w_im_X6_init rfl (by decide) rfl (Nat.le_of_ble_eq_true rfl) rfl hc hs h (fun G1 σ1 c1 s1 h => wX6_init h) ?_
  clear h hc hs; intro G σ cc cs c0 s0 hc hs h
  refine r1_sR hX hY dX1_init_14 kf_X1_14 ⟨_, _, rfl⟩ rfl (by intro q hq; cases hq; exact ⟨_, tyX1_ok 0 (by decide), Or.inl ⟨_, rfl⟩⟩) hc hs h ?_
  clear h hc hs; intro G σ cc cs c0 s0 hc hs h
  refine r_aload_n hX dX1_init_17 rfl 0 rfl ?_
  refine r1_new (n := 2) hX hY dX1_init_18 kd_dd_X6 ⟨_, rfl⟩ w_cL_X1_9 w_is_X6 w_in_X6 hc hs h ?_
  clear h hc hs; intro t2 G σ cc cs c0 s0 hc hs h
  refine r_dup hX dX1_init_21 rfl ?_
  refine r_bipush hX dX1_init_22 kk_b_60 ?_
  refine r1_cI (As := [.int (60 : Int32)]) (st := [kr E t2, kr E l0]) hX hY dX1_init_24 kl_X6_init w_ml_X1_11 w_im_X6_init rfl (by decide) rfl (Nat.le_of_ble_eq_true rfl) rfl hc hs h (fun G1 σ1 c1 s1 h => wX6_init h) ?_
  clear h hc hs; intro G σ cc cs c0 s0 hc hs h
  refine r1_sR hX hY dX1_init_27 kf_X1_20 ⟨_, _, rfl⟩ rfl (by intro q hq; cases hq; exact ⟨_, tyX1_ok 1 (by decide), Or.inl ⟨_, rfl⟩⟩) hc hs h ?_
  clear h hc hs; intro G σ cc cs c0 s0 hc hs h
  refine r_aload_n hX dX1_init_30 rfl 0 rfl ?_
  refine r1_new (n := 2) hX hY dX1_init_31 kd_dd_X6 ⟨_, rfl⟩ w_cL_X1_9 w_is_X6 w_in_X6 hc hs h ?_
  clear h hc hs; intro t3 G σ cc cs c0 s0 hc hs h
  refine r_dup hX dX1_init_34 rfl ?_
  refine r_bipush hX dX1_init_35 kk_b_60 ?_
  refine r1_cI (As := [.int (60 : Int32)]) (st := [kr E t3, kr E l0]) hX hY dX1_init_37 kl_X6_init w_ml_X1_11 w_im_X6_init rfl (by decide) rfl (Nat.le_of_ble_eq_true rfl) rfl hc hs h (fun G1 σ1 c1 s1 h => wX6_init h) ?_
  clear h hc hs; intro G σ cc cs c0 s0 hc hs h
  refine r1_sR hX hY dX1_init_40 kf_X1_23 ⟨_, _, rfl⟩ rfl (by intro q hq; cases hq; exact ⟨_, tyX1_ok 2 (by decide), Or.inl ⟨_, rfl⟩⟩) hc hs h ?_
  clear h hc hs; intro G σ cc cs c0 s0 hc hs h
  exact r1_vret hX hc hs dX1_init_43 h
def X2_init (l0 : Nat) : kd1 → Option (Unit × kd1) :=
  n1 6 2 fun t1 =>
  sub1 1 60 (X6_init t1 (60 : Int32)) <|
  s1R 2 0 l0 t1 <|
  n1 6 2 fun t2 =>
  sub1 1 60 (X6_init t2 (60 : Int32)) <|
  s1R 2 1 l0 t2 <|
  n1 6 2 fun t3 =>
  sub1 1 60 (X6_init t3 (60 : Int32)) <|
  s1R 2 2 l0 t3 <|
  n1A 13 ((4 : Int32)) fun t4 =>
  t1I t4 ((0 : Int32)) ((100 : Int32)) <|
  t1I t4 ((1 : Int32)) ((100 : Int32)) <|
  t1I t4 ((2 : Int32)) ((100 : Int32)) <|
  t1I t4 ((3 : Int32)) ((100 : Int32)) <|
  s1R 2 3 l0 t4 <|
  s1I 2 4 l0 ((900 : Int32)) <|
  s1I 2 5 l0 ((1 : Int32)) <|
  rt1 ()
set_option maxRecDepth 100000 in
set_option maxHeartbeats 4000000 in
theorem wX2_init {E : kdE} {l0 : Nat} {G : kdS} {σ : kdM} {mc ms : Nat} {G1 : kdS} {σ1 : kdM} {c1 s1 : Nat} (h : X2_init l0 (G, σ, mc, ms) = some ((), (G1, σ1, c1, s1))) : Con1 E yX2_init cX2_init 1 none 2 mc ms [kr E l0] G σ (none, G1, σ1) := by
  refine kd1_head (own := RX2) rfl rfl (by decide +kernel) (Nat.le_of_ble_eq_true rfl) (fun A hX hY hc hs => ?_)
  replace hc : 0 + mc = (kdAR A).cells := by rw [hc, Nat.zero_add]
  replace hs : 0 + ms = (kdAR A).slots := by rw [hs, Nat.zero_add]
  show SWg E A 1 (kd1E E (none, G1, σ1) A) (kdR E G σ) 0 0 0 [(0, kr E l0)] []
  unfold X2_init at h
  refine r_aload_n hX dX2_init_0 rfl 0 rfl ?_
  refine r1_obj hX hY dX2_init_1 w_ml_X2_3 w_im_OI w_cd_OI (by decide) (Nat.le_of_ble_eq_true rfl) ?_
  refine r_aload_n hX dX2_init_4 rfl 0 rfl ?_
  refine r1_new (n := 2) hX hY dX2_init_5 kd_dd_X6 ⟨_, rfl⟩ w_cL_X2_9 w_is_X6 w_in_X6 hc hs h ?_
  clear h hc hs; intro t1 G σ cc cs c0 s0 hc hs h
  refine r_dup hX dX2_init_8 rfl ?_
  refine r_bipush hX dX2_init_9 kk_b_60 ?_
  refine r1_cI (As := [.int (60 : Int32)]) (st := [kr E t1, kr E l0]) hX hY dX2_init_11 kl_X6_init w_ml_X2_11 w_im_X6_init rfl (by decide) rfl (Nat.le_of_ble_eq_true rfl) rfl hc hs h (fun G1 σ1 c1 s1 h => wX6_init h) ?_
  clear h hc hs; intro G σ cc cs c0 s0 hc hs h
  refine r1_sR hX hY dX2_init_14 kf_X2_14 ⟨_, _, rfl⟩ rfl (by intro q hq; cases hq; exact ⟨_, tyX2_ok 0 (by decide), Or.inl ⟨_, rfl⟩⟩) hc hs h ?_
  clear h hc hs; intro G σ cc cs c0 s0 hc hs h
  refine r_aload_n hX dX2_init_17 rfl 0 rfl ?_
  refine r1_new (n := 2) hX hY dX2_init_18 kd_dd_X6 ⟨_, rfl⟩ w_cL_X2_9 w_is_X6 w_in_X6 hc hs h ?_
  clear h hc hs; intro t2 G σ cc cs c0 s0 hc hs h
  refine r_dup hX dX2_init_21 rfl ?_
  refine r_bipush hX dX2_init_22 kk_b_60 ?_
  refine r1_cI (As := [.int (60 : Int32)]) (st := [kr E t2, kr E l0]) hX hY dX2_init_24 kl_X6_init w_ml_X2_11 w_im_X6_init rfl (by decide) rfl (Nat.le_of_ble_eq_true rfl) rfl hc hs h (fun G1 σ1 c1 s1 h => wX6_init h) ?_
  clear h hc hs; intro G σ cc cs c0 s0 hc hs h
  refine r1_sR hX hY dX2_init_27 kf_X2_20 ⟨_, _, rfl⟩ rfl (by intro q hq; cases hq; exact ⟨_, tyX2_ok 1 (by decide), Or.inl ⟨_, rfl⟩⟩) hc hs h ?_
  clear h hc hs; intro G σ cc cs c0 s0 hc hs h
  refine r_aload_n hX dX2_init_30 rfl 0 rfl ?_
  refine r1_new (n := 2) hX hY dX2_init_31 kd_dd_X6 ⟨_, rfl⟩ w_cL_X2_9 w_is_X6 w_in_X6 hc hs h ?_
  clear h hc hs; intro t3 G σ cc cs c0 s0 hc hs h
  refine r_dup hX dX2_init_34 rfl ?_
  refine r_bipush hX dX2_init_35 kk_b_60 ?_
  refine r1_cI (As := [.int (60 : Int32)]) (st := [kr E t3, kr E l0]) hX hY dX2_init_37 kl_X6_init w_ml_X2_11 w_im_X6_init rfl (by decide) rfl (Nat.le_of_ble_eq_true rfl) rfl hc hs h (fun G1 σ1 c1 s1 h => wX6_init h) ?_
  clear h hc hs; intro G σ cc cs c0 s0 hc hs h
  refine r1_sR hX hY dX2_init_40 kf_X2_23 ⟨_, _, rfl⟩ rfl (by intro q hq; cases hq; exact ⟨_, tyX2_ok 2 (by decide), Or.inl ⟨_, rfl⟩⟩) hc hs h ?_
  clear h hc hs; intro G σ cc cs c0 s0 hc hs h
  refine r_aload_n hX dX2_init_43 rfl 0 rfl ?_
  refine r_iconst hX dX2_init_44 kk_i_4 ?_
  refine r1_newa13 hX hY dX2_init_45 w_ac_int hc hs h ?_
  clear h hc hs; intro t4 G σ cc cs c0 s0 hc hs h
  refine r_dup hX dX2_init_47 rfl ?_
  refine r_iconst hX dX2_init_48 kk_i_0 ?_
  refine r_bipush hX dX2_init_49 kk_b_100 ?_
  refine r1_tI hX hY dX2_init_51 hc hs h ?_
  clear h hc hs; intro G σ cc cs c0 s0 hc hs h
  refine r_dup hX dX2_init_52 rfl ?_
  refine r_iconst hX dX2_init_53 kk_i_1 ?_
  refine r_bipush hX dX2_init_54 kk_b_100 ?_
  refine r1_tI hX hY dX2_init_56 hc hs h ?_
  clear h hc hs; intro G σ cc cs c0 s0 hc hs h
  refine r_dup hX dX2_init_57 rfl ?_
  refine r_iconst hX dX2_init_58 kk_i_2 ?_
  refine r_bipush hX dX2_init_59 kk_b_100 ?_
  refine r1_tI hX hY dX2_init_61 hc hs h ?_
  clear h hc hs; intro G σ cc cs c0 s0 hc hs h
  refine r_dup hX dX2_init_62 rfl ?_
  refine r_iconst hX dX2_init_63 kk_i_3 ?_
  refine r_bipush hX dX2_init_64 kk_b_100 ?_
  refine r1_tI hX hY dX2_init_66 hc hs h ?_
  clear h hc hs; intro G σ cc cs c0 s0 hc hs h
  refine r1_sR hX hY dX2_init_67 kf_X2_26 ⟨_, _, rfl⟩ rfl (by intro q hq; cases hq; exact ⟨_, tyX2_ok 3 (by decide), Or.inr ⟨_, rfl⟩⟩) hc hs h ?_
  clear h hc hs; intro G σ cc cs c0 s0 hc hs h
  refine r_aload_n hX dX2_init_70 rfl 0 rfl ?_
  refine r_sipush hX dX2_init_71 kk_s_900 ?_
  refine r1_sI hX hY dX2_init_74 kf_X2_30 ⟨_, _, rfl⟩ rfl (by intro q hq; cases hq; rfl) hc hs h ?_
  clear h hc hs; intro G σ cc cs c0 s0 hc hs h
  refine r_aload_n hX dX2_init_77 rfl 0 rfl ?_
  refine r_iconst hX dX2_init_78 kk_i_1 ?_
  refine r1_sI hX hY dX2_init_79 kf_X2_34 ⟨_, _, rfl⟩ rfl (by intro q hq; cases hq; rfl) hc hs h ?_
  clear h hc hs; intro G σ cc cs c0 s0 hc hs h
  exact r1_vret hX hc hs dX2_init_82 h
def X3_init (l0 : Nat) : kd1 → Option (Unit × kd1) :=
  n1A 13 ((7 : Int32)) fun t1 =>
  s1R 3 1 l0 t1 <|
  n1A 13 ((7 : Int32)) fun t2 =>
  s1R 3 2 l0 t2 <|
  n1A 13 ((7 : Int32)) fun t3 =>
  s1R 3 3 l0 t3 <|
  n1M 18 13 ((7 : Int32)) ((7 : Int32)) fun t4 =>
  s1R 3 4 l0 t4 <|
  s1I 3 5 l0 ((5 : Int32)) <|
  n1A 13 ((7 : Int32)) fun t5 =>
  s1R 3 6 l0 t5 <|
  kcv1 3 l0 (fun G => X3_startAnew G l0 (4 : Int32)) fun t6 =>
  rt1 ()
set_option maxRecDepth 100000 in
set_option maxHeartbeats 4000000 in
theorem wX3_init {E : kdE} {l0 : Nat} {G : kdS} {σ : kdM} {mc ms : Nat} {G1 : kdS} {σ1 : kdM} {c1 s1 : Nat} (h : X3_init l0 (G, σ, mc, ms) = some ((), (G1, σ1, c1, s1))) : Con1 E yX3_init cX3_init 1 none 1 mc ms [kr E l0] G σ (none, G1, σ1) := by
  refine kd1_head (own := RX3) rfl rfl (by decide +kernel) (Nat.le_of_ble_eq_true rfl) (fun A hX hY hc hs => ?_)
  replace hc : 0 + mc = (kdAR A).cells := by rw [hc, Nat.zero_add]
  replace hs : 0 + ms = (kdAR A).slots := by rw [hs, Nat.zero_add]
  show SWg E A 1 (kd1E E (none, G1, σ1) A) (kdR E G σ) 0 0 0 [(0, kr E l0)] []
  unfold X3_init at h
  refine r_aload_n hX dX3_init_0 rfl 0 rfl ?_
  refine r1_obj hX hY dX3_init_1 w_ml_X3_3 w_im_OI w_cd_OI (by decide) (Nat.le_of_ble_eq_true rfl) ?_
  refine r_aload_n hX dX3_init_4 rfl 0 rfl ?_
  refine r_bipush hX dX3_init_5 kk_b_7 ?_
  refine r1_newa13 hX hY dX3_init_7 w_ac_int hc hs h ?_
  clear h hc hs; intro t1 G σ cc cs c0 s0 hc hs h
  refine r1_sR hX hY dX3_init_9 kf_X3_9 ⟨_, _, rfl⟩ rfl (by intro q hq; cases hq; exact ⟨_, tyX3_ok 1 (by decide), Or.inr ⟨_, rfl⟩⟩) hc hs h ?_
  clear h hc hs; intro G σ cc cs c0 s0 hc hs h
  refine r_aload_n hX dX3_init_12 rfl 0 rfl ?_
  refine r_bipush hX dX3_init_13 kk_b_7 ?_
  refine r1_newa13 hX hY dX3_init_15 w_ac_int hc hs h ?_
  clear h hc hs; intro t2 G σ cc cs c0 s0 hc hs h
  refine r1_sR hX hY dX3_init_17 kf_X3_15 ⟨_, _, rfl⟩ rfl (by intro q hq; cases hq; exact ⟨_, tyX3_ok 2 (by decide), Or.inr ⟨_, rfl⟩⟩) hc hs h ?_
  clear h hc hs; intro G σ cc cs c0 s0 hc hs h
  refine r_aload_n hX dX3_init_20 rfl 0 rfl ?_
  refine r_bipush hX dX3_init_21 kk_b_7 ?_
  refine r1_newa13 hX hY dX3_init_23 w_ac_int hc hs h ?_
  clear h hc hs; intro t3 G σ cc cs c0 s0 hc hs h
  refine r1_sR hX hY dX3_init_25 kf_X3_18 ⟨_, _, rfl⟩ rfl (by intro q hq; cases hq; exact ⟨_, tyX3_ok 3 (by decide), Or.inr ⟨_, rfl⟩⟩) hc hs h ?_
  clear h hc hs; intro G σ cc cs c0 s0 hc hs h
  refine r_aload_n hX dX3_init_28 rfl 0 rfl ?_
  refine r_bipush hX dX3_init_29 kk_b_7 ?_
  refine r_bipush hX dX3_init_31 kk_b_7 ?_
  refine r1_m18 hX hY dX3_init_33 w_cL_X3_21 w_ac_int hc hs h ?_
  clear h hc hs; intro t4 G σ cc cs c0 s0 hc hs h
  refine r1_sR hX hY dX3_init_37 kf_X3_23 ⟨_, _, rfl⟩ rfl (by intro q hq; cases hq; exact ⟨_, tyX3_ok 4 (by decide), Or.inr ⟨_, rfl⟩⟩) hc hs h ?_
  clear h hc hs; intro G σ cc cs c0 s0 hc hs h
  refine r_aload_n hX dX3_init_40 rfl 0 rfl ?_
  refine r_iconst hX dX3_init_41 kk_i_5 ?_
  refine r1_sI hX hY dX3_init_42 kf_X3_26 ⟨_, _, rfl⟩ rfl (by intro q hq; cases hq; rfl) hc hs h ?_
  clear h hc hs; intro G σ cc cs c0 s0 hc hs h
  refine r_aload_n hX dX3_init_45 rfl 0 rfl ?_
  refine r_bipush hX dX3_init_46 kk_b_7 ?_
  refine r1_newa13 hX hY dX3_init_48 w_ac_int hc hs h ?_
  clear h hc hs; intro t5 G σ cc cs c0 s0 hc hs h
  refine r1_sR hX hY dX3_init_50 kf_X3_30 ⟨_, _, rfl⟩ rfl (by intro q hq; cases hq; exact ⟨_, tyX3_ok 6 (by decide), Or.inr ⟨_, rfl⟩⟩) hc hs h ?_
  clear h hc hs; intro G σ cc cs c0 s0 hc hs h
  refine r_aload_n hX dX3_init_53 rfl 0 rfl ?_
  refine r_iconst hX dX3_init_54 kk_i_4 ?_
  refine r1_cV (As := [.int (4 : Int32)]) (st := []) (enc := fun r => some (.int r)) hX hY dX3_init_55 kl_X3_startAnew w_ml_X3_33 w_im_X3_startAnew w_se_X3_startAnew ⟨_, _, rfl⟩ (by decide) rfl (Nat.le_of_ble_eq_true rfl) rfl hc hs h (fun r σ1 h => wX3_startAnew h) ?_
  clear h hc hs; intro t6 σ cc cs c0 s0 hc hs h
  show SWg E A 1 (kd1E E (none, G1, σ1) A) (kdR E G σ) c0 s0 58 [(0, kr E l0)] [.int t6]
  refine r_pop hX dX3_init_58 rfl ?_
  exact r1_vret hX hc hs dX3_init_59 h
def X4_init (l0 : Nat) : kd1 → Option (Unit × kd1) :=
  n1 6 2 fun t1 =>
  sub1 1 40 (X6_init t1 (40 : Int32)) <|
  s1R 4 0 l0 t1 <|
  n1 6 2 fun t2 =>
  sub1 1 40 (X6_init t2 (40 : Int32)) <|
  s1R 4 1 l0 t2 <|
  n1 6 2 fun t3 =>
  sub1 1 40 (X6_init t3 (40 : Int32)) <|
  s1R 4 2 l0 t3 <|
  n1 6 2 fun t4 =>
  sub1 1 120 (X6_init t4 (120 : Int32)) <|
  s1R 4 3 l0 t4 <|
  rt1 ()
set_option maxRecDepth 100000 in
set_option maxHeartbeats 4000000 in
theorem wX4_init {E : kdE} {l0 : Nat} {G : kdS} {σ : kdM} {mc ms : Nat} {G1 : kdS} {σ1 : kdM} {c1 s1 : Nat} (h : X4_init l0 (G, σ, mc, ms) = some ((), (G1, σ1, c1, s1))) : Con1 E yX4_init cX4_init 1 none 2 mc ms [kr E l0] G σ (none, G1, σ1) := by
  refine kd1_head (own := RX4) rfl rfl (by decide +kernel) (Nat.le_of_ble_eq_true rfl) (fun A hX hY hc hs => ?_)
  replace hc : 0 + mc = (kdAR A).cells := by rw [hc, Nat.zero_add]
  replace hs : 0 + ms = (kdAR A).slots := by rw [hs, Nat.zero_add]
  show SWg E A 1 (kd1E E (none, G1, σ1) A) (kdR E G σ) 0 0 0 [(0, kr E l0)] []
  unfold X4_init at h
  refine r_aload_n hX dX4_init_0 rfl 0 rfl ?_
  refine r1_obj hX hY dX4_init_1 w_ml_X4_3 w_im_OI w_cd_OI (by decide) (Nat.le_of_ble_eq_true rfl) ?_
  refine r_aload_n hX dX4_init_4 rfl 0 rfl ?_
  refine r1_new (n := 2) hX hY dX4_init_5 kd_dd_X6 ⟨_, rfl⟩ w_cL_X4_9 w_is_X6 w_in_X6 hc hs h ?_
  clear h hc hs; intro t1 G σ cc cs c0 s0 hc hs h
  refine r_dup hX dX4_init_8 rfl ?_
  refine r_bipush hX dX4_init_9 kk_b_40 ?_
  refine r1_cI (As := [.int (40 : Int32)]) (st := [kr E t1, kr E l0]) hX hY dX4_init_11 kl_X6_init w_ml_X4_11 w_im_X6_init rfl (by decide) rfl (Nat.le_of_ble_eq_true rfl) rfl hc hs h (fun G1 σ1 c1 s1 h => wX6_init h) ?_
  clear h hc hs; intro G σ cc cs c0 s0 hc hs h
  refine r1_sR hX hY dX4_init_14 kf_X4_14 ⟨_, _, rfl⟩ rfl (by intro q hq; cases hq; exact ⟨_, tyX4_ok 0 (by decide), Or.inl ⟨_, rfl⟩⟩) hc hs h ?_
  clear h hc hs; intro G σ cc cs c0 s0 hc hs h
  refine r_aload_n hX dX4_init_17 rfl 0 rfl ?_
  refine r1_new (n := 2) hX hY dX4_init_18 kd_dd_X6 ⟨_, rfl⟩ w_cL_X4_9 w_is_X6 w_in_X6 hc hs h ?_
  clear h hc hs; intro t2 G σ cc cs c0 s0 hc hs h
  refine r_dup hX dX4_init_21 rfl ?_
  refine r_bipush hX dX4_init_22 kk_b_40 ?_
  refine r1_cI (As := [.int (40 : Int32)]) (st := [kr E t2, kr E l0]) hX hY dX4_init_24 kl_X6_init w_ml_X4_11 w_im_X6_init rfl (by decide) rfl (Nat.le_of_ble_eq_true rfl) rfl hc hs h (fun G1 σ1 c1 s1 h => wX6_init h) ?_
  clear h hc hs; intro G σ cc cs c0 s0 hc hs h
  refine r1_sR hX hY dX4_init_27 kf_X4_20 ⟨_, _, rfl⟩ rfl (by intro q hq; cases hq; exact ⟨_, tyX4_ok 1 (by decide), Or.inl ⟨_, rfl⟩⟩) hc hs h ?_
  clear h hc hs; intro G σ cc cs c0 s0 hc hs h
  refine r_aload_n hX dX4_init_30 rfl 0 rfl ?_
  refine r1_new (n := 2) hX hY dX4_init_31 kd_dd_X6 ⟨_, rfl⟩ w_cL_X4_9 w_is_X6 w_in_X6 hc hs h ?_
  clear h hc hs; intro t3 G σ cc cs c0 s0 hc hs h
  refine r_dup hX dX4_init_34 rfl ?_
  refine r_bipush hX dX4_init_35 kk_b_40 ?_
  refine r1_cI (As := [.int (40 : Int32)]) (st := [kr E t3, kr E l0]) hX hY dX4_init_37 kl_X6_init w_ml_X4_11 w_im_X6_init rfl (by decide) rfl (Nat.le_of_ble_eq_true rfl) rfl hc hs h (fun G1 σ1 c1 s1 h => wX6_init h) ?_
  clear h hc hs; intro G σ cc cs c0 s0 hc hs h
  refine r1_sR hX hY dX4_init_40 kf_X4_23 ⟨_, _, rfl⟩ rfl (by intro q hq; cases hq; exact ⟨_, tyX4_ok 2 (by decide), Or.inl ⟨_, rfl⟩⟩) hc hs h ?_
  clear h hc hs; intro G σ cc cs c0 s0 hc hs h
  refine r_aload_n hX dX4_init_43 rfl 0 rfl ?_
  refine r1_new (n := 2) hX hY dX4_init_44 kd_dd_X6 ⟨_, rfl⟩ w_cL_X4_9 w_is_X6 w_in_X6 hc hs h ?_
  clear h hc hs; intro t4 G σ cc cs c0 s0 hc hs h
  refine r_dup hX dX4_init_47 rfl ?_
  refine r_bipush hX dX4_init_48 kk_b_120 ?_
  refine r1_cI (As := [.int (120 : Int32)]) (st := [kr E t4, kr E l0]) hX hY dX4_init_50 kl_X6_init w_ml_X4_11 w_im_X6_init rfl (by decide) rfl (Nat.le_of_ble_eq_true rfl) rfl hc hs h (fun G1 σ1 c1 s1 h => wX6_init h) ?_
  clear h hc hs; intro G σ cc cs c0 s0 hc hs h
  refine r1_sR hX hY dX4_init_53 kf_X4_26 ⟨_, _, rfl⟩ rfl (by intro q hq; cases hq; exact ⟨_, tyX4_ok 3 (by decide), Or.inl ⟨_, rfl⟩⟩) hc hs h ?_
  clear h hc hs; intro G σ cc cs c0 s0 hc hs h
  exact r1_vret hX hc hs dX4_init_56 h
def X5_init (l0 : Nat) (l1 : Nat) (l2 : Nat) : kd1 → Option (Unit × kd1) :=
  n1A 13 ((340 : Int32)) fun t1 =>
  s1R 5 2 l0 t1 <|
  n1A 13 ((340 : Int32)) fun t2 =>
  s1R 5 3 l0 t2 <|
  n1A 13 ((340 : Int32)) fun t3 =>
  s1R 5 4 l0 t3 <|
  n1A 13 ((340 : Int32)) fun t4 =>
  s1R 5 5 l0 t4 <|
  n1 6 2 fun t5 =>
  sub1 1 4 (X6_init t5 (4 : Int32)) <|
  s1R 5 6 l0 t5 <|
  n1 6 2 fun t6 =>
  sub1 1 4 (X6_init t6 (4 : Int32)) <|
  s1R 5 7 l0 t6 <|
  s1R 5 0 l0 l1 <|
  s1R 5 1 l0 l2 <|
  rt1 ()
set_option maxRecDepth 100000 in
set_option maxHeartbeats 4000000 in
theorem wX5_init {E : kdE} {l0 : Nat} {l1 : Nat} {l2 : Nat} {G : kdS} {σ : kdM} {mc ms : Nat} {G1 : kdS} {σ1 : kdM} {c1 s1 : Nat} (h : X5_init l0 l1 l2 (G, σ, mc, ms) = some ((), (G1, σ1, c1, s1))) : Con1 E yX5_init cX5_init 3 none 2 mc ms [kr E l0, kr E l1, kr E l2] G σ (none, G1, σ1) := by
  refine kd1_head (own := RX5) rfl rfl (by decide +kernel) (Nat.le_of_ble_eq_true rfl) (fun A hX hY hc hs => ?_)
  replace hc : 0 + mc = (kdAR A).cells := by rw [hc, Nat.zero_add]
  replace hs : 0 + ms = (kdAR A).slots := by rw [hs, Nat.zero_add]
  show SWg E A 3 (kd1E E (none, G1, σ1) A) (kdR E G σ) 0 0 0 [(0, kr E l0), (1, kr E l1), (2, kr E l2)] []
  unfold X5_init at h
  refine r_aload_n hX dX5_init_0 rfl 0 rfl ?_
  refine r1_obj hX hY dX5_init_1 w_ml_X5_3 w_im_OI w_cd_OI (by decide) (Nat.le_of_ble_eq_true rfl) ?_
  refine r_aload_n hX dX5_init_4 rfl 0 rfl ?_
  refine r_sipush hX dX5_init_5 kk_s_340 ?_
  refine r1_newa13 hX hY dX5_init_8 w_ac_int hc hs h ?_
  clear h hc hs; intro t1 G σ cc cs c0 s0 hc hs h
  refine r1_sR hX hY dX5_init_10 kf_X5_11 ⟨_, _, rfl⟩ rfl (by intro q hq; cases hq; exact ⟨_, tyX5_ok 2 (by decide), Or.inr ⟨_, rfl⟩⟩) hc hs h ?_
  clear h hc hs; intro G σ cc cs c0 s0 hc hs h
  refine r_aload_n hX dX5_init_13 rfl 0 rfl ?_
  refine r_sipush hX dX5_init_14 kk_s_340 ?_
  refine r1_newa13 hX hY dX5_init_17 w_ac_int hc hs h ?_
  clear h hc hs; intro t2 G σ cc cs c0 s0 hc hs h
  refine r1_sR hX hY dX5_init_19 kf_X5_15 ⟨_, _, rfl⟩ rfl (by intro q hq; cases hq; exact ⟨_, tyX5_ok 3 (by decide), Or.inr ⟨_, rfl⟩⟩) hc hs h ?_
  clear h hc hs; intro G σ cc cs c0 s0 hc hs h
  refine r_aload_n hX dX5_init_22 rfl 0 rfl ?_
  refine r_sipush hX dX5_init_23 kk_s_340 ?_
  refine r1_newa13 hX hY dX5_init_26 w_ac_int hc hs h ?_
  clear h hc hs; intro t3 G σ cc cs c0 s0 hc hs h
  refine r1_sR hX hY dX5_init_28 kf_X5_18 ⟨_, _, rfl⟩ rfl (by intro q hq; cases hq; exact ⟨_, tyX5_ok 4 (by decide), Or.inr ⟨_, rfl⟩⟩) hc hs h ?_
  clear h hc hs; intro G σ cc cs c0 s0 hc hs h
  refine r_aload_n hX dX5_init_31 rfl 0 rfl ?_
  refine r_sipush hX dX5_init_32 kk_s_340 ?_
  refine r1_newa13 hX hY dX5_init_35 w_ac_int hc hs h ?_
  clear h hc hs; intro t4 G σ cc cs c0 s0 hc hs h
  refine r1_sR hX hY dX5_init_37 kf_X5_21 ⟨_, _, rfl⟩ rfl (by intro q hq; cases hq; exact ⟨_, tyX5_ok 5 (by decide), Or.inr ⟨_, rfl⟩⟩) hc hs h ?_
  clear h hc hs; intro G σ cc cs c0 s0 hc hs h
  refine r_aload_n hX dX5_init_40 rfl 0 rfl ?_
  refine r1_new (n := 2) hX hY dX5_init_41 kd_dd_X6 ⟨_, rfl⟩ w_cL_X5_24 w_is_X6 w_in_X6 hc hs h ?_
  clear h hc hs; intro t5 G σ cc cs c0 s0 hc hs h
  refine r_dup hX dX5_init_44 rfl ?_
  refine r_iconst hX dX5_init_45 kk_i_4 ?_
  refine r1_cI (As := [.int (4 : Int32)]) (st := [kr E t5, kr E l0]) hX hY dX5_init_46 kl_X6_init w_ml_X5_26 w_im_X6_init rfl (by decide) rfl (Nat.le_of_ble_eq_true rfl) rfl hc hs h (fun G1 σ1 c1 s1 h => wX6_init h) ?_
  clear h hc hs; intro G σ cc cs c0 s0 hc hs h
  refine r1_sR hX hY dX5_init_49 kf_X5_29 ⟨_, _, rfl⟩ rfl (by intro q hq; cases hq; exact ⟨_, tyX5_ok 6 (by decide), Or.inl ⟨_, rfl⟩⟩) hc hs h ?_
  clear h hc hs; intro G σ cc cs c0 s0 hc hs h
  refine r_aload_n hX dX5_init_52 rfl 0 rfl ?_
  refine r1_new (n := 2) hX hY dX5_init_53 kd_dd_X6 ⟨_, rfl⟩ w_cL_X5_24 w_is_X6 w_in_X6 hc hs h ?_
  clear h hc hs; intro t6 G σ cc cs c0 s0 hc hs h
  refine r_dup hX dX5_init_56 rfl ?_
  refine r_iconst hX dX5_init_57 kk_i_4 ?_
  refine r1_cI (As := [.int (4 : Int32)]) (st := [kr E t6, kr E l0]) hX hY dX5_init_58 kl_X6_init w_ml_X5_26 w_im_X6_init rfl (by decide) rfl (Nat.le_of_ble_eq_true rfl) rfl hc hs h (fun G1 σ1 c1 s1 h => wX6_init h) ?_
  clear h hc hs; intro G σ cc cs c0 s0 hc hs h
  refine r1_sR hX hY dX5_init_61 kf_X5_33 ⟨_, _, rfl⟩ rfl (by intro q hq; cases hq; exact ⟨_, tyX5_ok 7 (by decide), Or.inl ⟨_, rfl⟩⟩) hc hs h ?_
  clear h hc hs; intro G σ cc cs c0 s0 hc hs h
  refine r_aload_n hX dX5_init_64 rfl 0 rfl ?_
  refine r_aload_n hX dX5_init_65 rfl 1 rfl ?_
  refine r1_sR hX hY dX5_init_66 kf_X5_36 ⟨_, _, rfl⟩ rfl (by intro q hq; cases hq; exact ⟨_, tyX5_ok 0 (by decide), Or.inl ⟨_, rfl⟩⟩) hc hs h ?_
  clear h hc hs; intro G σ cc cs c0 s0 hc hs h
  refine r_aload_n hX dX5_init_69 rfl 0 rfl ?_
  refine r_aload_n hX dX5_init_70 rfl 2 rfl ?_
  refine r1_sR hX hY dX5_init_71 kf_X5_40 ⟨_, _, rfl⟩ rfl (by intro q hq; cases hq; exact ⟨_, tyX5_ok 1 (by decide), Or.inl ⟨_, rfl⟩⟩) hc hs h ?_
  clear h hc hs; intro G σ cc cs c0 s0 hc hs h
  exact r1_vret hX hc hs dX5_init_74 h
def X7_init (l0 : Nat) : kd1 → Option (Unit × kd1) :=
  n1A 13 ((6 : Int32)) fun t1 =>
  t1I t1 ((0 : Int32)) ((3 : Int32)) <|
  t1I t1 ((1 : Int32)) ((3 : Int32)) <|
  t1I t1 ((2 : Int32)) ((4 : Int32)) <|
  t1I t1 ((3 : Int32)) ((3 : Int32)) <|
  t1I t1 ((4 : Int32)) ((6 : Int32)) <|
  t1I t1 ((5 : Int32)) ((5 : Int32)) <|
  s1R 7 0 l0 t1 <|
  n1M 18 13 ((17 : Int32)) ((9 : Int32)) fun t2 =>
  s1R 7 1 l0 t2 <|
  rt1 ()
set_option maxRecDepth 100000 in
set_option maxHeartbeats 4000000 in
theorem wX7_init {E : kdE} {l0 : Nat} {G : kdS} {σ : kdM} {mc ms : Nat} {G1 : kdS} {σ1 : kdM} {c1 s1 : Nat} (h : X7_init l0 (G, σ, mc, ms) = some ((), (G1, σ1, c1, s1))) : Con1 E yX7_init cX7_init 1 none 1 mc ms [kr E l0] G σ (none, G1, σ1) := by
  refine kd1_head (own := RX7) rfl rfl (by decide +kernel) (Nat.le_of_ble_eq_true rfl) (fun A hX hY hc hs => ?_)
  replace hc : 0 + mc = (kdAR A).cells := by rw [hc, Nat.zero_add]
  replace hs : 0 + ms = (kdAR A).slots := by rw [hs, Nat.zero_add]
  show SWg E A 1 (kd1E E (none, G1, σ1) A) (kdR E G σ) 0 0 0 [(0, kr E l0)] []
  unfold X7_init at h
  refine r_aload_n hX dX7_init_0 rfl 0 rfl ?_
  refine r1_obj hX hY dX7_init_1 w_ml_X7_3 w_im_OI w_cd_OI (by decide) (Nat.le_of_ble_eq_true rfl) ?_
  refine r_aload_n hX dX7_init_4 rfl 0 rfl ?_
  refine r_bipush hX dX7_init_5 kk_b_6 ?_
  refine r1_newa13 hX hY dX7_init_7 w_ac_int hc hs h ?_
  clear h hc hs; intro t1 G σ cc cs c0 s0 hc hs h
  refine r_dup hX dX7_init_9 rfl ?_
  refine r_iconst hX dX7_init_10 kk_i_0 ?_
  refine r_iconst hX dX7_init_11 kk_i_3 ?_
  refine r1_tI hX hY dX7_init_12 hc hs h ?_
  clear h hc hs; intro G σ cc cs c0 s0 hc hs h
  refine r_dup hX dX7_init_13 rfl ?_
  refine r_iconst hX dX7_init_14 kk_i_1 ?_
  refine r_iconst hX dX7_init_15 kk_i_3 ?_
  refine r1_tI hX hY dX7_init_16 hc hs h ?_
  clear h hc hs; intro G σ cc cs c0 s0 hc hs h
  refine r_dup hX dX7_init_17 rfl ?_
  refine r_iconst hX dX7_init_18 kk_i_2 ?_
  refine r_iconst hX dX7_init_19 kk_i_4 ?_
  refine r1_tI hX hY dX7_init_20 hc hs h ?_
  clear h hc hs; intro G σ cc cs c0 s0 hc hs h
  refine r_dup hX dX7_init_21 rfl ?_
  refine r_iconst hX dX7_init_22 kk_i_3 ?_
  refine r_iconst hX dX7_init_23 kk_i_3 ?_
  refine r1_tI hX hY dX7_init_24 hc hs h ?_
  clear h hc hs; intro G σ cc cs c0 s0 hc hs h
  refine r_dup hX dX7_init_25 rfl ?_
  refine r_iconst hX dX7_init_26 kk_i_4 ?_
  refine r_bipush hX dX7_init_27 kk_b_6 ?_
  refine r1_tI hX hY dX7_init_29 hc hs h ?_
  clear h hc hs; intro G σ cc cs c0 s0 hc hs h
  refine r_dup hX dX7_init_30 rfl ?_
  refine r_iconst hX dX7_init_31 kk_i_5 ?_
  refine r_iconst hX dX7_init_32 kk_i_5 ?_
  refine r1_tI hX hY dX7_init_33 hc hs h ?_
  clear h hc hs; intro G σ cc cs c0 s0 hc hs h
  refine r1_sR hX hY dX7_init_34 kf_X7_9 ⟨_, _, rfl⟩ rfl (by intro q hq; cases hq; exact ⟨_, tyX7_ok 0 (by decide), Or.inr ⟨_, rfl⟩⟩) hc hs h ?_
  clear h hc hs; intro G σ cc cs c0 s0 hc hs h
  refine r_aload_n hX dX7_init_37 rfl 0 rfl ?_
  refine r_bipush hX dX7_init_38 kk_b_17 ?_
  refine r_bipush hX dX7_init_40 kk_b_9 ?_
  refine r1_m18 hX hY dX7_init_42 w_cL_X7_15 w_ac_int hc hs h ?_
  clear h hc hs; intro t2 G σ cc cs c0 s0 hc hs h
  refine r1_sR hX hY dX7_init_46 kf_X7_17 ⟨_, _, rfl⟩ rfl (by intro q hq; cases hq; exact ⟨_, tyX7_ok 1 (by decide), Or.inr ⟨_, rfl⟩⟩) hc hs h ?_
  clear h hc hs; intro G σ cc cs c0 s0 hc hs h
  exact r1_vret hX hc hs dX7_init_49 h
def X8_init_79B (k79 : Nat → Int32 → kd1 → Option (Unit × kd1)) (l0 : Nat) (l1 : Int32) : kd1 → Option (Unit × kd1) :=
  cnd1 ((24 : Int32) ≤ l1)
    (rt1 ())
    (g1R 8 0 l0 fun t1 =>
    n1 6 2 fun t2 =>
    sub1 1 4 (X6_init t2 (4 : Int32)) <|
    t1R 16 6 t1 (l1) t2 <|
    g1R 8 1 l0 fun t3 =>
    n1 6 2 fun t4 =>
    sub1 1 3 (X6_init t4 (3 : Int32)) <|
    t1R 16 6 t3 (l1) t4 <|
    lt1 (l1 + Int32.ofInt 1) fun t5 =>
    k79 l0 t5)
set_option maxRecDepth 100000 in
set_option maxHeartbeats 4000000 in
theorem wX8_init_79B {E : kdE} {A : kdA} {G1 : kdS} {σ1 : kdM} {c1 s1 : Nat} (hX : kdX E A cX8_init 2 RX8 none 2) (hY : kdY A) (k79 : Nat → Int32 → kd1 → Option (Unit × kd1)) (hk79 : ∀ (l0 : Nat) (l1 : Int32) (G : kdS) (σ : kdM) (cc cs c0 s0 : Nat), c0 + cc = (kdAR A).cells → s0 + cs = (kdAR A).slots → k79 l0 l1 (G, σ, cc, cs) = some ((), (G1, σ1, c1, s1)) → SWg E A 2 (kd1E E (none, G1, σ1) A) (kdR E G σ) c0 s0 79 [(0, kr E l0), (1, .int l1)] []) {l0 : Nat} {l1 : Int32} {G : kdS} {σ : kdM} {cc cs c0 s0 : Nat} (hc : c0 + cc = (kdAR A).cells) (hs : s0 + cs = (kdAR A).slots) (h : X8_init_79B k79 l0 l1 (G, σ, cc, cs) = some ((), (G1, σ1, c1, s1))) : SWg E A 2 (kd1E E (none, G1, σ1) A) (kdR E G σ) c0 s0 79 [(0, kr E l0), (1, .int l1)] [] := by
  unfold X8_init_79B at h
  refine r_iload_n hX dX8_init_79 rfl 1 rfl ?_
  refine r_bipush hX dX8_init_80 kk_b_24 ?_
  refine r1_icmp_ge (tgt := 119) hX dX8_init_82 (by decide) h ?_ ?_
  · clear h; intro h
    exact r1_vret hX hc hs dX8_init_119 h
  · clear h; intro h
    refine r_aload_n hX dX8_init_85 rfl 0 rfl ?_
    refine r1_gR hX hY dX8_init_86 kf_X8_11 rfl hc hs h ?_
    clear h hc hs; intro t1 G σ cc cs c0 s0 hc hs h
    refine r_iload_n hX dX8_init_89 rfl 1 rfl ?_
    refine r1_new (n := 2) hX hY dX8_init_90 kd_dd_X6 ⟨_, rfl⟩ w_cL_X8_9 w_is_X6 w_in_X6 hc hs h ?_
    clear h hc hs; intro t2 G σ cc cs c0 s0 hc hs h
    refine r_dup hX dX8_init_93 rfl ?_
    refine r_iconst hX dX8_init_94 kk_i_4 ?_
    refine r1_cI (As := [.int (4 : Int32)]) (st := [kr E t2, .int l1, kr E t1]) hX hY dX8_init_95 kl_X6_init w_ml_X8_20 w_im_X6_init rfl (by decide) rfl (Nat.le_of_ble_eq_true rfl) rfl hc hs h (fun G1 σ1 c1 s1 h => wX6_init h) ?_
    clear h hc hs; intro G σ cc cs c0 s0 hc hs h
    refine r1_tR16 hX hY dX8_init_98 hc hs h ?_
    clear h hc hs; intro G σ cc cs c0 s0 hc hs h
    refine r_aload_n hX dX8_init_99 rfl 0 rfl ?_
    refine r1_gR hX hY dX8_init_100 kf_X8_17 rfl hc hs h ?_
    clear h hc hs; intro t3 G σ cc cs c0 s0 hc hs h
    refine r_iload_n hX dX8_init_103 rfl 1 rfl ?_
    refine r1_new (n := 2) hX hY dX8_init_104 kd_dd_X6 ⟨_, rfl⟩ w_cL_X8_9 w_is_X6 w_in_X6 hc hs h ?_
    clear h hc hs; intro t4 G σ cc cs c0 s0 hc hs h
    refine r_dup hX dX8_init_107 rfl ?_
    refine r_iconst hX dX8_init_108 kk_i_3 ?_
    refine r1_cI (As := [.int (3 : Int32)]) (st := [kr E t4, .int l1, kr E t3]) hX hY dX8_init_109 kl_X6_init w_ml_X8_20 w_im_X6_init rfl (by decide) rfl (Nat.le_of_ble_eq_true rfl) rfl hc hs h (fun G1 σ1 c1 s1 h => wX6_init h) ?_
    clear h hc hs; intro G σ cc cs c0 s0 hc hs h
    refine r1_tR16 hX hY dX8_init_112 hc hs h ?_
    clear h hc hs; intro G σ cc cs c0 s0 hc hs h
    refine r1_iincL (L2 := fun t5 => [(1, .int t5), (0, kr E l0)]) hX dX8_init_113 h 1 rfl (by decide) (fun _ => rfl) ?_
    clear h; intro t5 h
    refine r_goto (tgt := 79) hX dX8_init_116 (by decide) ?_
    refine r_sub [1, 0] rfl ?_
    exact hk79 _ _ _ _ _ _ _ _ hc hs h
def X8_init_79 : Nat → Int32 → kd1 → Option (Unit × kd1) := lp (fun _ _ _ => none) (X8_init_79B) NN
theorem wX8_init_79 {E : kdE} {A : kdA} {G1 : kdS} {σ1 : kdM} {c1 s1 : Nat} (hX : kdX E A cX8_init 2 RX8 none 2) (hY : kdY A) : ∀ (l0 : Nat) (l1 : Int32) (G : kdS) (σ : kdM) (cc cs c0 s0 : Nat), c0 + cc = (kdAR A).cells → s0 + cs = (kdAR A).slots → X8_init_79 l0 l1 (G, σ, cc, cs) = some ((), (G1, σ1, c1, s1)) → SWg E A 2 (kd1E E (none, G1, σ1) A) (kdR E G σ) c0 s0 79 [(0, kr E l0), (1, .int l1)] [] :=
  lp_ind (Q := fun f => ∀ (l0 : Nat) (l1 : Int32) (G : kdS) (σ : kdM) (cc cs c0 s0 : Nat), c0 + cc = (kdAR A).cells → s0 + cs = (kdAR A).slots → f l0 l1 (G, σ, cc, cs) = some ((), (G1, σ1, c1, s1)) → SWg E A 2 (kd1E E (none, G1, σ1) A) (kdR E G σ) c0 s0 79 [(0, kr E l0), (1, .int l1)] []) (by intros; contradiction) (fun k hk l0 l1 G σ cc cs c0 s0 hc hs h => wX8_init_79B hX hY k hk hc hs h) NN
def X8_init (l0 : Nat) : kd1 → Option (Unit × kd1) :=
  n1A 16 ((24 : Int32)) fun t1 =>
  s1R 8 0 l0 t1 <|
  n1A 16 ((24 : Int32)) fun t2 =>
  s1R 8 1 l0 t2 <|
  n1 6 2 fun t3 =>
  sub1 1 12 (X6_init t3 (12 : Int32)) <|
  s1R 8 3 l0 t3 <|
  n1 6 2 fun t4 =>
  sub1 1 12 (X6_init t4 (12 : Int32)) <|
  s1R 8 4 l0 t4 <|
  n1 6 2 fun t5 =>
  sub1 1 12 (X6_init t5 (12 : Int32)) <|
  s1R 8 5 l0 t5 <|
  n1A 15 ((61 : Int32)) fun t6 =>
  s1R 8 6 l0 t6 <|
  n1A 15 ((61 : Int32)) fun t7 =>
  s1R 8 7 l0 t7 <|
  X8_init_79 l0 (0 : Int32)
set_option maxRecDepth 100000 in
set_option maxHeartbeats 4000000 in
theorem wX8_init {E : kdE} {l0 : Nat} {G : kdS} {σ : kdM} {mc ms : Nat} {G1 : kdS} {σ1 : kdM} {c1 s1 : Nat} (h : X8_init l0 (G, σ, mc, ms) = some ((), (G1, σ1, c1, s1))) : Con1 E yX8_init cX8_init 2 none 2 mc ms [kr E l0] G σ (none, G1, σ1) := by
  refine kd1_head (own := RX8) rfl rfl (by decide +kernel) (Nat.le_of_ble_eq_true rfl) (fun A hX hY hc hs => ?_)
  replace hc : 0 + mc = (kdAR A).cells := by rw [hc, Nat.zero_add]
  replace hs : 0 + ms = (kdAR A).slots := by rw [hs, Nat.zero_add]
  show SWg E A 2 (kd1E E (none, G1, σ1) A) (kdR E G σ) 0 0 0 [(0, kr E l0)] []
  unfold X8_init at h
  refine r_aload_n hX dX8_init_0 rfl 0 rfl ?_
  refine r1_obj hX hY dX8_init_1 w_ml_X8_3 w_im_OI w_cd_OI (by decide) (Nat.le_of_ble_eq_true rfl) ?_
  refine r_aload_n hX dX8_init_4 rfl 0 rfl ?_
  refine r_bipush hX dX8_init_5 kk_b_24 ?_
  refine r1_newq16 hX hY dX8_init_7 w_cL_X8_9 hc hs h ?_
  clear h hc hs; intro t1 G σ cc cs c0 s0 hc hs h
  refine r1_sR hX hY dX8_init_10 kf_X8_11 ⟨_, _, rfl⟩ rfl (by intro q hq; cases hq; exact ⟨_, tyX8_ok 0 (by decide), Or.inr ⟨_, rfl⟩⟩) hc hs h ?_
  clear h hc hs; intro G σ cc cs c0 s0 hc hs h
  refine r_aload_n hX dX8_init_13 rfl 0 rfl ?_
  refine r_bipush hX dX8_init_14 kk_b_24 ?_
  refine r1_newq16 hX hY dX8_init_16 w_cL_X8_9 hc hs h ?_
  clear h hc hs; intro t2 G σ cc cs c0 s0 hc hs h
  refine r1_sR hX hY dX8_init_19 kf_X8_17 ⟨_, _, rfl⟩ rfl (by intro q hq; cases hq; exact ⟨_, tyX8_ok 1 (by decide), Or.inr ⟨_, rfl⟩⟩) hc hs h ?_
  clear h hc hs; intro G σ cc cs c0 s0 hc hs h
  refine r_aload_n hX dX8_init_22 rfl 0 rfl ?_
  refine r1_new (n := 2) hX hY dX8_init_23 kd_dd_X6 ⟨_, rfl⟩ w_cL_X8_9 w_is_X6 w_in_X6 hc hs h ?_
  clear h hc hs; intro t3 G σ cc cs c0 s0 hc hs h
  refine r_dup hX dX8_init_26 rfl ?_
  refine r_bipush hX dX8_init_27 kk_b_12 ?_
  refine r1_cI (As := [.int (12 : Int32)]) (st := [kr E t3, kr E l0]) hX hY dX8_init_29 kl_X6_init w_ml_X8_20 w_im_X6_init rfl (by decide) rfl (Nat.le_of_ble_eq_true rfl) rfl hc hs h (fun G1 σ1 c1 s1 h => wX6_init h) ?_
  clear h hc hs; intro G σ cc cs c0 s0 hc hs h
  refine r1_sR hX hY dX8_init_32 kf_X8_23 ⟨_, _, rfl⟩ rfl (by intro q hq; cases hq; exact ⟨_, tyX8_ok 3 (by decide), Or.inl ⟨_, rfl⟩⟩) hc hs h ?_
  clear h hc hs; intro G σ cc cs c0 s0 hc hs h
  refine r_aload_n hX dX8_init_35 rfl 0 rfl ?_
  refine r1_new (n := 2) hX hY dX8_init_36 kd_dd_X6 ⟨_, rfl⟩ w_cL_X8_9 w_is_X6 w_in_X6 hc hs h ?_
  clear h hc hs; intro t4 G σ cc cs c0 s0 hc hs h
  refine r_dup hX dX8_init_39 rfl ?_
  refine r_bipush hX dX8_init_40 kk_b_12 ?_
  refine r1_cI (As := [.int (12 : Int32)]) (st := [kr E t4, kr E l0]) hX hY dX8_init_42 kl_X6_init w_ml_X8_20 w_im_X6_init rfl (by decide) rfl (Nat.le_of_ble_eq_true rfl) rfl hc hs h (fun G1 σ1 c1 s1 h => wX6_init h) ?_
  clear h hc hs; intro G σ cc cs c0 s0 hc hs h
  refine r1_sR hX hY dX8_init_45 kf_X8_27 ⟨_, _, rfl⟩ rfl (by intro q hq; cases hq; exact ⟨_, tyX8_ok 4 (by decide), Or.inl ⟨_, rfl⟩⟩) hc hs h ?_
  clear h hc hs; intro G σ cc cs c0 s0 hc hs h
  refine r_aload_n hX dX8_init_48 rfl 0 rfl ?_
  refine r1_new (n := 2) hX hY dX8_init_49 kd_dd_X6 ⟨_, rfl⟩ w_cL_X8_9 w_is_X6 w_in_X6 hc hs h ?_
  clear h hc hs; intro t5 G σ cc cs c0 s0 hc hs h
  refine r_dup hX dX8_init_52 rfl ?_
  refine r_bipush hX dX8_init_53 kk_b_12 ?_
  refine r1_cI (As := [.int (12 : Int32)]) (st := [kr E t5, kr E l0]) hX hY dX8_init_55 kl_X6_init w_ml_X8_20 w_im_X6_init rfl (by decide) rfl (Nat.le_of_ble_eq_true rfl) rfl hc hs h (fun G1 σ1 c1 s1 h => wX6_init h) ?_
  clear h hc hs; intro G σ cc cs c0 s0 hc hs h
  refine r1_sR hX hY dX8_init_58 kf_X8_30 ⟨_, _, rfl⟩ rfl (by intro q hq; cases hq; exact ⟨_, tyX8_ok 5 (by decide), Or.inl ⟨_, rfl⟩⟩) hc hs h ?_
  clear h hc hs; intro G σ cc cs c0 s0 hc hs h
  refine r_aload_n hX dX8_init_61 rfl 0 rfl ?_
  refine r_bipush hX dX8_init_62 kk_b_61 ?_
  refine r1_newa15 hX hY dX8_init_64 w_ac_boolean hc hs h ?_
  clear h hc hs; intro t6 G σ cc cs c0 s0 hc hs h
  refine r1_sR hX hY dX8_init_66 kf_X8_33 ⟨_, _, rfl⟩ rfl (by intro q hq; cases hq; exact ⟨_, tyX8_ok 6 (by decide), Or.inr ⟨_, rfl⟩⟩) hc hs h ?_
  clear h hc hs; intro G σ cc cs c0 s0 hc hs h
  refine r_aload_n hX dX8_init_69 rfl 0 rfl ?_
  refine r_bipush hX dX8_init_70 kk_b_61 ?_
  refine r1_newa15 hX hY dX8_init_72 w_ac_boolean hc hs h ?_
  clear h hc hs; intro t7 G σ cc cs c0 s0 hc hs h
  refine r1_sR hX hY dX8_init_74 kf_X8_37 ⟨_, _, rfl⟩ rfl (by intro q hq; cases hq; exact ⟨_, tyX8_ok 7 (by decide), Or.inr ⟨_, rfl⟩⟩) hc hs h ?_
  clear h hc hs; intro G σ cc cs c0 s0 hc hs h
  refine r_iconst hX dX8_init_77 kk_i_0 ?_
  refine r_istore_n (L2 := [(1, .int (0 : Int32)), (0, kr E l0)]) hX dX8_init_78 rfl (by decide) rfl ?_
  refine r_sub [1, 0] rfl ?_
  exact wX8_init_79 hX hY _ _ _ _ _ _ _ _ hc hs h
def X9_init (l0 : Nat) (l1 : Nat) : kd1 → Option (Unit × kd1) :=
  n1A 13 ((120 : Int32)) fun t1 =>
  s1R 9 1 l0 t1 <|
  n1A 13 ((120 : Int32)) fun t2 =>
  s1R 9 2 l0 t2 <|
  n1A 13 ((1200 : Int32)) fun t3 =>
  s1R 9 3 l0 t3 <|
  n1A 13 ((120 : Int32)) fun t4 =>
  s1R 9 4 l0 t4 <|
  n1A 15 ((120 : Int32)) fun t5 =>
  s1R 9 5 l0 t5 <|
  n1A 13 ((120 : Int32)) fun t6 =>
  s1R 9 6 l0 t6 <|
  n1 6 2 fun t7 =>
  sub1 1 120 (X6_init t7 (120 : Int32)) <|
  s1R 9 7 l0 t7 <|
  n1 6 2 fun t8 =>
  sub1 1 120 (X6_init t8 (120 : Int32)) <|
  s1R 9 8 l0 t8 <|
  s1R 9 0 l0 l1 <|
  rt1 ()
set_option maxRecDepth 100000 in
set_option maxHeartbeats 4000000 in
theorem wX9_init {E : kdE} {l0 : Nat} {l1 : Nat} {G : kdS} {σ : kdM} {mc ms : Nat} {G1 : kdS} {σ1 : kdM} {c1 s1 : Nat} (h : X9_init l0 l1 (G, σ, mc, ms) = some ((), (G1, σ1, c1, s1))) : Con1 E yX9_init cX9_init 2 none 2 mc ms [kr E l0, kr E l1] G σ (none, G1, σ1) := by
  refine kd1_head (own := RX9) rfl rfl (by decide +kernel) (Nat.le_of_ble_eq_true rfl) (fun A hX hY hc hs => ?_)
  replace hc : 0 + mc = (kdAR A).cells := by rw [hc, Nat.zero_add]
  replace hs : 0 + ms = (kdAR A).slots := by rw [hs, Nat.zero_add]
  show SWg E A 2 (kd1E E (none, G1, σ1) A) (kdR E G σ) 0 0 0 [(0, kr E l0), (1, kr E l1)] []
  unfold X9_init at h
  refine r_aload_n hX dX9_init_0 rfl 0 rfl ?_
  refine r1_obj hX hY dX9_init_1 w_ml_X9_3 w_im_OI w_cd_OI (by decide) (Nat.le_of_ble_eq_true rfl) ?_
  refine r_aload_n hX dX9_init_4 rfl 0 rfl ?_
  refine r_bipush hX dX9_init_5 kk_b_120 ?_
  refine r1_newa13 hX hY dX9_init_7 w_ac_int hc hs h ?_
  clear h hc hs; intro t1 G σ cc cs c0 s0 hc hs h
  refine r1_sR hX hY dX9_init_9 kf_X9_9 ⟨_, _, rfl⟩ rfl (by intro q hq; cases hq; exact ⟨_, tyX9_ok 1 (by decide), Or.inr ⟨_, rfl⟩⟩) hc hs h ?_
  clear h hc hs; intro G σ cc cs c0 s0 hc hs h
  refine r_aload_n hX dX9_init_12 rfl 0 rfl ?_
  refine r_bipush hX dX9_init_13 kk_b_120 ?_
  refine r1_newa13 hX hY dX9_init_15 w_ac_int hc hs h ?_
  clear h hc hs; intro t2 G σ cc cs c0 s0 hc hs h
  refine r1_sR hX hY dX9_init_17 kf_X9_15 ⟨_, _, rfl⟩ rfl (by intro q hq; cases hq; exact ⟨_, tyX9_ok 2 (by decide), Or.inr ⟨_, rfl⟩⟩) hc hs h ?_
  clear h hc hs; intro G σ cc cs c0 s0 hc hs h
  refine r_aload_n hX dX9_init_20 rfl 0 rfl ?_
  refine r_sipush hX dX9_init_21 kk_s_1200 ?_
  refine r1_newa13 hX hY dX9_init_24 w_ac_int hc hs h ?_
  clear h hc hs; intro t3 G σ cc cs c0 s0 hc hs h
  refine r1_sR hX hY dX9_init_26 kf_X9_18 ⟨_, _, rfl⟩ rfl (by intro q hq; cases hq; exact ⟨_, tyX9_ok 3 (by decide), Or.inr ⟨_, rfl⟩⟩) hc hs h ?_
  clear h hc hs; intro G σ cc cs c0 s0 hc hs h
  refine r_aload_n hX dX9_init_29 rfl 0 rfl ?_
  refine r_bipush hX dX9_init_30 kk_b_120 ?_
  refine r1_newa13 hX hY dX9_init_32 w_ac_int hc hs h ?_
  clear h hc hs; intro t4 G σ cc cs c0 s0 hc hs h
  refine r1_sR hX hY dX9_init_34 kf_X9_21 ⟨_, _, rfl⟩ rfl (by intro q hq; cases hq; exact ⟨_, tyX9_ok 4 (by decide), Or.inr ⟨_, rfl⟩⟩) hc hs h ?_
  clear h hc hs; intro G σ cc cs c0 s0 hc hs h
  refine r_aload_n hX dX9_init_37 rfl 0 rfl ?_
  refine r_bipush hX dX9_init_38 kk_b_120 ?_
  refine r1_newa15 hX hY dX9_init_40 w_ac_boolean hc hs h ?_
  clear h hc hs; intro t5 G σ cc cs c0 s0 hc hs h
  refine r1_sR hX hY dX9_init_42 kf_X9_24 ⟨_, _, rfl⟩ rfl (by intro q hq; cases hq; exact ⟨_, tyX9_ok 5 (by decide), Or.inr ⟨_, rfl⟩⟩) hc hs h ?_
  clear h hc hs; intro G σ cc cs c0 s0 hc hs h
  refine r_aload_n hX dX9_init_45 rfl 0 rfl ?_
  refine r_bipush hX dX9_init_46 kk_b_120 ?_
  refine r1_newa13 hX hY dX9_init_48 w_ac_int hc hs h ?_
  clear h hc hs; intro t6 G σ cc cs c0 s0 hc hs h
  refine r1_sR hX hY dX9_init_50 kf_X9_28 ⟨_, _, rfl⟩ rfl (by intro q hq; cases hq; exact ⟨_, tyX9_ok 6 (by decide), Or.inr ⟨_, rfl⟩⟩) hc hs h ?_
  clear h hc hs; intro G σ cc cs c0 s0 hc hs h
  refine r_aload_n hX dX9_init_53 rfl 0 rfl ?_
  refine r1_new (n := 2) hX hY dX9_init_54 kd_dd_X6 ⟨_, rfl⟩ w_cL_X9_31 w_is_X6 w_in_X6 hc hs h ?_
  clear h hc hs; intro t7 G σ cc cs c0 s0 hc hs h
  refine r_dup hX dX9_init_57 rfl ?_
  refine r_bipush hX dX9_init_58 kk_b_120 ?_
  refine r1_cI (As := [.int (120 : Int32)]) (st := [kr E t7, kr E l0]) hX hY dX9_init_60 kl_X6_init w_ml_X9_33 w_im_X6_init rfl (by decide) rfl (Nat.le_of_ble_eq_true rfl) rfl hc hs h (fun G1 σ1 c1 s1 h => wX6_init h) ?_
  clear h hc hs; intro G σ cc cs c0 s0 hc hs h
  refine r1_sR hX hY dX9_init_63 kf_X9_36 ⟨_, _, rfl⟩ rfl (by intro q hq; cases hq; exact ⟨_, tyX9_ok 7 (by decide), Or.inl ⟨_, rfl⟩⟩) hc hs h ?_
  clear h hc hs; intro G σ cc cs c0 s0 hc hs h
  refine r_aload_n hX dX9_init_66 rfl 0 rfl ?_
  refine r1_new (n := 2) hX hY dX9_init_67 kd_dd_X6 ⟨_, rfl⟩ w_cL_X9_31 w_is_X6 w_in_X6 hc hs h ?_
  clear h hc hs; intro t8 G σ cc cs c0 s0 hc hs h
  refine r_dup hX dX9_init_70 rfl ?_
  refine r_bipush hX dX9_init_71 kk_b_120 ?_
  refine r1_cI (As := [.int (120 : Int32)]) (st := [kr E t8, kr E l0]) hX hY dX9_init_73 kl_X6_init w_ml_X9_33 w_im_X6_init rfl (by decide) rfl (Nat.le_of_ble_eq_true rfl) rfl hc hs h (fun G1 σ1 c1 s1 h => wX6_init h) ?_
  clear h hc hs; intro G σ cc cs c0 s0 hc hs h
  refine r1_sR hX hY dX9_init_76 kf_X9_40 ⟨_, _, rfl⟩ rfl (by intro q hq; cases hq; exact ⟨_, tyX9_ok 8 (by decide), Or.inl ⟨_, rfl⟩⟩) hc hs h ?_
  clear h hc hs; intro G σ cc cs c0 s0 hc hs h
  refine r_aload_n hX dX9_init_79 rfl 0 rfl ?_
  refine r_aload_n hX dX9_init_80 rfl 1 rfl ?_
  refine r1_sR hX hY dX9_init_81 kf_X9_43 ⟨_, _, rfl⟩ rfl (by intro q hq; cases hq; exact ⟨_, tyX9_ok 0 (by decide), Or.inl ⟨_, rfl⟩⟩) hc hs h ?_
  clear h hc hs; intro G σ cc cs c0 s0 hc hs h
  exact r1_vret hX hc hs dX9_init_84 h
def X10_init_54B (k54 : Nat → Int32 → kd1 → Option (Unit × kd1)) (l0 : Nat) (l1 : Int32) : kd1 → Option (Unit × kd1) :=
  cnd1 ((60 : Int32) ≤ l1)
    (rt1 ())
    (g1R 10 3 l0 fun t1 =>
    n1 6 2 fun t2 =>
    sub1 1 8 (X6_init t2 (8 : Int32)) <|
    t1R 16 6 t1 (l1) t2 <|
    lt1 (l1 + Int32.ofInt 1) fun t3 =>
    k54 l0 t3)
set_option maxRecDepth 100000 in
set_option maxHeartbeats 4000000 in
theorem wX10_init_54B {E : kdE} {A : kdA} {G1 : kdS} {σ1 : kdM} {c1 s1 : Nat} (hX : kdX E A cX10_init 2 RX10 none 2) (hY : kdY A) (k54 : Nat → Int32 → kd1 → Option (Unit × kd1)) (hk54 : ∀ (l0 : Nat) (l1 : Int32) (G : kdS) (σ : kdM) (cc cs c0 s0 : Nat), c0 + cc = (kdAR A).cells → s0 + cs = (kdAR A).slots → k54 l0 l1 (G, σ, cc, cs) = some ((), (G1, σ1, c1, s1)) → SWg E A 2 (kd1E E (none, G1, σ1) A) (kdR E G σ) c0 s0 54 [(0, kr E l0), (1, .int l1)] []) {l0 : Nat} {l1 : Int32} {G : kdS} {σ : kdM} {cc cs c0 s0 : Nat} (hc : c0 + cc = (kdAR A).cells) (hs : s0 + cs = (kdAR A).slots) (h : X10_init_54B k54 l0 l1 (G, σ, cc, cs) = some ((), (G1, σ1, c1, s1))) : SWg E A 2 (kd1E E (none, G1, σ1) A) (kdR E G σ) c0 s0 54 [(0, kr E l0), (1, .int l1)] [] := by
  unfold X10_init_54B at h
  refine r_iload_n hX dX10_init_54 rfl 1 rfl ?_
  refine r_bipush hX dX10_init_55 kk_b_60 ?_
  refine r1_icmp_ge (tgt := 81) hX dX10_init_57 (by decide) h ?_ ?_
  · clear h; intro h
    exact r1_vret hX hc hs dX10_init_81 h
  · clear h; intro h
    refine r_aload_n hX dX10_init_60 rfl 0 rfl ?_
    refine r1_gR hX hY dX10_init_61 kf_X10_26 rfl hc hs h ?_
    clear h hc hs; intro t1 G σ cc cs c0 s0 hc hs h
    refine r_iload_n hX dX10_init_64 rfl 1 rfl ?_
    refine r1_new (n := 2) hX hY dX10_init_65 kd_dd_X6 ⟨_, rfl⟩ w_cL_X10_9 w_is_X6 w_in_X6 hc hs h ?_
    clear h hc hs; intro t2 G σ cc cs c0 s0 hc hs h
    refine r_dup hX dX10_init_68 rfl ?_
    refine r_bipush hX dX10_init_69 kk_b_8 ?_
    refine r1_cI (As := [.int (8 : Int32)]) (st := [kr E t2, .int l1, kr E t1]) hX hY dX10_init_71 kl_X6_init w_ml_X10_11 w_im_X6_init rfl (by decide) rfl (Nat.le_of_ble_eq_true rfl) rfl hc hs h (fun G1 σ1 c1 s1 h => wX6_init h) ?_
    clear h hc hs; intro G σ cc cs c0 s0 hc hs h
    refine r1_tR16 hX hY dX10_init_74 hc hs h ?_
    clear h hc hs; intro G σ cc cs c0 s0 hc hs h
    refine r1_iincL (L2 := fun t3 => [(1, .int t3), (0, kr E l0)]) hX dX10_init_75 h 1 rfl (by decide) (fun _ => rfl) ?_
    clear h; intro t3 h
    refine r_goto (tgt := 54) hX dX10_init_78 (by decide) ?_
    refine r_sub [1, 0] rfl ?_
    exact hk54 _ _ _ _ _ _ _ _ hc hs h
def X10_init_54 : Nat → Int32 → kd1 → Option (Unit × kd1) := lp (fun _ _ _ => none) (X10_init_54B) NN
theorem wX10_init_54 {E : kdE} {A : kdA} {G1 : kdS} {σ1 : kdM} {c1 s1 : Nat} (hX : kdX E A cX10_init 2 RX10 none 2) (hY : kdY A) : ∀ (l0 : Nat) (l1 : Int32) (G : kdS) (σ : kdM) (cc cs c0 s0 : Nat), c0 + cc = (kdAR A).cells → s0 + cs = (kdAR A).slots → X10_init_54 l0 l1 (G, σ, cc, cs) = some ((), (G1, σ1, c1, s1)) → SWg E A 2 (kd1E E (none, G1, σ1) A) (kdR E G σ) c0 s0 54 [(0, kr E l0), (1, .int l1)] [] :=
  lp_ind (Q := fun f => ∀ (l0 : Nat) (l1 : Int32) (G : kdS) (σ : kdM) (cc cs c0 s0 : Nat), c0 + cc = (kdAR A).cells → s0 + cs = (kdAR A).slots → f l0 l1 (G, σ, cc, cs) = some ((), (G1, σ1, c1, s1)) → SWg E A 2 (kd1E E (none, G1, σ1) A) (kdR E G σ) c0 s0 54 [(0, kr E l0), (1, .int l1)] []) (by intros; contradiction) (fun k hk l0 l1 G σ cc cs c0 s0 hc hs h => wX10_init_54B hX hY k hk hc hs h) NN
def X10_init (l0 : Nat) : kd1 → Option (Unit × kd1) :=
  n1 6 2 fun t1 =>
  sub1 1 60 (X6_init t1 (60 : Int32)) <|
  s1R 10 0 l0 t1 <|
  n1 6 2 fun t2 =>
  sub1 1 60 (X6_init t2 (60 : Int32)) <|
  s1R 10 1 l0 t2 <|
  n1 6 2 fun t3 =>
  sub1 1 60 (X6_init t3 (60 : Int32)) <|
  s1R 10 2 l0 t3 <|
  n1A 16 ((60 : Int32)) fun t4 =>
  s1R 10 3 l0 t4 <|
  X10_init_54 l0 (0 : Int32)
set_option maxRecDepth 100000 in
set_option maxHeartbeats 4000000 in
theorem wX10_init {E : kdE} {l0 : Nat} {G : kdS} {σ : kdM} {mc ms : Nat} {G1 : kdS} {σ1 : kdM} {c1 s1 : Nat} (h : X10_init l0 (G, σ, mc, ms) = some ((), (G1, σ1, c1, s1))) : Con1 E yX10_init cX10_init 2 none 2 mc ms [kr E l0] G σ (none, G1, σ1) := by
  refine kd1_head (own := RX10) rfl rfl (by decide +kernel) (Nat.le_of_ble_eq_true rfl) (fun A hX hY hc hs => ?_)
  replace hc : 0 + mc = (kdAR A).cells := by rw [hc, Nat.zero_add]
  replace hs : 0 + ms = (kdAR A).slots := by rw [hs, Nat.zero_add]
  show SWg E A 2 (kd1E E (none, G1, σ1) A) (kdR E G σ) 0 0 0 [(0, kr E l0)] []
  unfold X10_init at h
  refine r_aload_n hX dX10_init_0 rfl 0 rfl ?_
  refine r1_obj hX hY dX10_init_1 w_ml_X10_3 w_im_OI w_cd_OI (by decide) (Nat.le_of_ble_eq_true rfl) ?_
  refine r_aload_n hX dX10_init_4 rfl 0 rfl ?_
  refine r1_new (n := 2) hX hY dX10_init_5 kd_dd_X6 ⟨_, rfl⟩ w_cL_X10_9 w_is_X6 w_in_X6 hc hs h ?_
  clear h hc hs; intro t1 G σ cc cs c0 s0 hc hs h
  refine r_dup hX dX10_init_8 rfl ?_
  refine r_bipush hX dX10_init_9 kk_b_60 ?_
  refine r1_cI (As := [.int (60 : Int32)]) (st := [kr E t1, kr E l0]) hX hY dX10_init_11 kl_X6_init w_ml_X10_11 w_im_X6_init rfl (by decide) rfl (Nat.le_of_ble_eq_true rfl) rfl hc hs h (fun G1 σ1 c1 s1 h => wX6_init h) ?_
  clear h hc hs; intro G σ cc cs c0 s0 hc hs h
  refine r1_sR hX hY dX10_init_14 kf_X10_14 ⟨_, _, rfl⟩ rfl (by intro q hq; cases hq; exact ⟨_, tyX10_ok 0 (by decide), Or.inl ⟨_, rfl⟩⟩) hc hs h ?_
  clear h hc hs; intro G σ cc cs c0 s0 hc hs h
  refine r_aload_n hX dX10_init_17 rfl 0 rfl ?_
  refine r1_new (n := 2) hX hY dX10_init_18 kd_dd_X6 ⟨_, rfl⟩ w_cL_X10_9 w_is_X6 w_in_X6 hc hs h ?_
  clear h hc hs; intro t2 G σ cc cs c0 s0 hc hs h
  refine r_dup hX dX10_init_21 rfl ?_
  refine r_bipush hX dX10_init_22 kk_b_60 ?_
  refine r1_cI (As := [.int (60 : Int32)]) (st := [kr E t2, kr E l0]) hX hY dX10_init_24 kl_X6_init w_ml_X10_11 w_im_X6_init rfl (by decide) rfl (Nat.le_of_ble_eq_true rfl) rfl hc hs h (fun G1 σ1 c1 s1 h => wX6_init h) ?_
  clear h hc hs; intro G σ cc cs c0 s0 hc hs h
  refine r1_sR hX hY dX10_init_27 kf_X10_20 ⟨_, _, rfl⟩ rfl (by intro q hq; cases hq; exact ⟨_, tyX10_ok 1 (by decide), Or.inl ⟨_, rfl⟩⟩) hc hs h ?_
  clear h hc hs; intro G σ cc cs c0 s0 hc hs h
  refine r_aload_n hX dX10_init_30 rfl 0 rfl ?_
  refine r1_new (n := 2) hX hY dX10_init_31 kd_dd_X6 ⟨_, rfl⟩ w_cL_X10_9 w_is_X6 w_in_X6 hc hs h ?_
  clear h hc hs; intro t3 G σ cc cs c0 s0 hc hs h
  refine r_dup hX dX10_init_34 rfl ?_
  refine r_bipush hX dX10_init_35 kk_b_60 ?_
  refine r1_cI (As := [.int (60 : Int32)]) (st := [kr E t3, kr E l0]) hX hY dX10_init_37 kl_X6_init w_ml_X10_11 w_im_X6_init rfl (by decide) rfl (Nat.le_of_ble_eq_true rfl) rfl hc hs h (fun G1 σ1 c1 s1 h => wX6_init h) ?_
  clear h hc hs; intro G σ cc cs c0 s0 hc hs h
  refine r1_sR hX hY dX10_init_40 kf_X10_23 ⟨_, _, rfl⟩ rfl (by intro q hq; cases hq; exact ⟨_, tyX10_ok 2 (by decide), Or.inl ⟨_, rfl⟩⟩) hc hs h ?_
  clear h hc hs; intro G σ cc cs c0 s0 hc hs h
  refine r_aload_n hX dX10_init_43 rfl 0 rfl ?_
  refine r_bipush hX dX10_init_44 kk_b_60 ?_
  refine r1_newq16 hX hY dX10_init_46 w_cL_X10_9 hc hs h ?_
  clear h hc hs; intro t4 G σ cc cs c0 s0 hc hs h
  refine r1_sR hX hY dX10_init_49 kf_X10_26 ⟨_, _, rfl⟩ rfl (by intro q hq; cases hq; exact ⟨_, tyX10_ok 3 (by decide), Or.inr ⟨_, rfl⟩⟩) hc hs h ?_
  clear h hc hs; intro G σ cc cs c0 s0 hc hs h
  refine r_iconst hX dX10_init_52 kk_i_0 ?_
  refine r_istore_n (L2 := [(1, .int (0 : Int32)), (0, kr E l0)]) hX dX10_init_53 rfl (by decide) rfl ?_
  refine r_sub [1, 0] rfl ?_
  exact wX10_init_54 hX hY _ _ _ _ _ _ _ _ hc hs h
def X11_init_39B (k39 : Nat → Int32 → kd1 → Option (Unit × kd1)) (l0 : Nat) (l1 : Int32) : kd1 → Option (Unit × kd1) :=
  cnd1 ((3 : Int32) ≤ l1)
    (n1 4 5 fun t1 =>
    sub1 8 248 (X4_init t1) <|
    s1R 11 3 l0 t1 <|
    n1 10 4 fun t2 =>
    sub1 127 846 (X10_init t2) <|
    s1R 11 4 l0 t2 <|
    n1 7 2 fun t3 =>
    sub1 19 176 (X7_init t3) <|
    s1R 11 5 l0 t3 <|
    n1 1 3 fun t4 =>
    sub1 6 186 (X1_init t4) <|
    s1R 11 6 l0 t4 <|
    n1 5 9 fun t5 =>
    g1R 11 4 l0 fun t6 =>
    g1R 11 5 l0 fun t7 =>
    sub1 8 1372 (X5_init t5 t6 t7) <|
    s1R 11 7 l0 t5 <|
    n1 0 8 fun t8 =>
    g1R 11 4 l0 fun t9 =>
    sub1 79 4291 (X0_init t8 t9) <|
    s1R 11 8 l0 t8 <|
    n1 2 6 fun t10 =>
    sub1 7 190 (X2_init t10) <|
    s1R 11 9 l0 t10 <|
    n1 3 9 fun t11 =>
    sub1 12 84 (X3_init t11) <|
    s1R 11 10 l0 t11 <|
    n1 9 12 fun t12 =>
    g1R 11 10 l0 fun t13 =>
    sub1 10 2044 (X9_init t12 t13) <|
    s1R 11 11 l0 t12 <|
    rt1 ())
    (g1R 11 2 l0 fun t14 =>
    n1 8 8 fun t15 =>
    sub1 106 476 (X8_init t15) <|
    t1R 17 8 t14 (l1) t15 <|
    lt1 (l1 + Int32.ofInt 1) fun t16 =>
    k39 l0 t16)
set_option maxRecDepth 100000 in
set_option maxHeartbeats 4000000 in
theorem wX11_init_39B {E : kdE} {A : kdA} {G1 : kdS} {σ1 : kdM} {c1 s1 : Nat} (hX : kdX E A cX11_init 2 RX11 none 3) (hY : kdY A) (k39 : Nat → Int32 → kd1 → Option (Unit × kd1)) (hk39 : ∀ (l0 : Nat) (l1 : Int32) (G : kdS) (σ : kdM) (cc cs c0 s0 : Nat), c0 + cc = (kdAR A).cells → s0 + cs = (kdAR A).slots → k39 l0 l1 (G, σ, cc, cs) = some ((), (G1, σ1, c1, s1)) → SWg E A 2 (kd1E E (none, G1, σ1) A) (kdR E G σ) c0 s0 39 [(0, kr E l0), (1, .int l1)] []) {l0 : Nat} {l1 : Int32} {G : kdS} {σ : kdM} {cc cs c0 s0 : Nat} (hc : c0 + cc = (kdAR A).cells) (hs : s0 + cs = (kdAR A).slots) (h : X11_init_39B k39 l0 l1 (G, σ, cc, cs) = some ((), (G1, σ1, c1, s1))) : SWg E A 2 (kd1E E (none, G1, σ1) A) (kdR E G σ) c0 s0 39 [(0, kr E l0), (1, .int l1)] [] := by
  unfold X11_init_39B at h
  refine r_iload_n hX dX11_init_39 rfl 1 rfl ?_
  refine r_iconst hX dX11_init_40 kk_i_3 ?_
  refine r1_icmp_ge (tgt := 63) hX dX11_init_41 (by decide) h ?_ ?_
  · clear h; intro h
    refine r_aload_n hX dX11_init_63 rfl 0 rfl ?_
    refine r1_new (n := 5) hX hY dX11_init_64 kd_dd_X4 ⟨_, rfl⟩ w_cL_X11_28 w_is_X4 w_in_X4 hc hs h ?_
    clear h hc hs; intro t1 G σ cc cs c0 s0 hc hs h
    refine r_dup hX dX11_init_67 rfl ?_
    refine r1_cIN (As := []) (st := [kr E t1, kr E l0]) (host := "KeyDesk") hX hY dX11_init_68 kl_X4_init (by decide +kernel) w_im_X4_init rfl (by decide) rfl (Nat.le_of_ble_eq_true rfl) rfl hc hs h (fun G1 σ1 c1 s1 h => wX4_init h) ?_
    clear h hc hs; intro G σ cc cs c0 s0 hc hs h
    refine r1_sR hX hY dX11_init_71 kf_X11_31 ⟨_, _, rfl⟩ rfl (by intro q hq; cases hq; exact ⟨_, tyX11_ok 3 (by decide), Or.inl ⟨_, rfl⟩⟩) hc hs h ?_
    clear h hc hs; intro G σ cc cs c0 s0 hc hs h
    refine r_aload_n hX dX11_init_74 rfl 0 rfl ?_
    refine r1_new (n := 4) hX hY dX11_init_75 kd_dd_X10 ⟨_, rfl⟩ w_cL_X11_35 w_is_X10 w_in_X10 hc hs h ?_
    clear h hc hs; intro t2 G σ cc cs c0 s0 hc hs h
    refine r_dup hX dX11_init_78 rfl ?_
    refine r1_cI (As := []) (st := [kr E t2, kr E l0]) hX hY dX11_init_79 kl_X10_init w_ml_X11_37 w_im_X10_init rfl (by decide) rfl (Nat.le_of_ble_eq_true rfl) rfl hc hs h (fun G1 σ1 c1 s1 h => wX10_init h) ?_
    clear h hc hs; intro G σ cc cs c0 s0 hc hs h
    refine r1_sR hX hY dX11_init_82 kf_X11_38 ⟨_, _, rfl⟩ rfl (by intro q hq; cases hq; exact ⟨_, tyX11_ok 4 (by decide), Or.inl ⟨_, rfl⟩⟩) hc hs h ?_
    clear h hc hs; intro G σ cc cs c0 s0 hc hs h
    refine r_aload_n hX dX11_init_85 rfl 0 rfl ?_
    refine r1_new (n := 2) hX hY dX11_init_86 kd_dd_X7 ⟨_, rfl⟩ w_cL_X11_42 w_is_X7 w_in_X7 hc hs h ?_
    clear h hc hs; intro t3 G σ cc cs c0 s0 hc hs h
    refine r_dup hX dX11_init_89 rfl ?_
    refine r1_cIN (As := []) (st := [kr E t3, kr E l0]) (host := "KeyDesk") hX hY dX11_init_90 kl_X7_init (by decide +kernel) w_im_X7_init rfl (by decide) rfl (Nat.le_of_ble_eq_true rfl) rfl hc hs h (fun G1 σ1 c1 s1 h => wX7_init h) ?_
    clear h hc hs; intro G σ cc cs c0 s0 hc hs h
    refine r1_sR hX hY dX11_init_93 kf_X11_45 ⟨_, _, rfl⟩ rfl (by intro q hq; cases hq; exact ⟨_, tyX11_ok 5 (by decide), Or.inl ⟨_, rfl⟩⟩) hc hs h ?_
    clear h hc hs; intro G σ cc cs c0 s0 hc hs h
    refine r_aload_n hX dX11_init_96 rfl 0 rfl ?_
    refine r1_new (n := 3) hX hY dX11_init_97 kd_dd_X1 ⟨_, rfl⟩ w_cL_X11_49 w_is_X1 w_in_X1 hc hs h ?_
    clear h hc hs; intro t4 G σ cc cs c0 s0 hc hs h
    refine r_dup hX dX11_init_100 rfl ?_
    refine r1_cIN (As := []) (st := [kr E t4, kr E l0]) (host := "KeyDesk") hX hY dX11_init_101 kl_X1_init (by decide +kernel) w_im_X1_init rfl (by decide) rfl (Nat.le_of_ble_eq_true rfl) rfl hc hs h (fun G1 σ1 c1 s1 h => wX1_init h) ?_
    clear h hc hs; intro G σ cc cs c0 s0 hc hs h
    refine r1_sR hX hY dX11_init_104 kf_X11_52 ⟨_, _, rfl⟩ rfl (by intro q hq; cases hq; exact ⟨_, tyX11_ok 6 (by decide), Or.inl ⟨_, rfl⟩⟩) hc hs h ?_
    clear h hc hs; intro G σ cc cs c0 s0 hc hs h
    refine r_aload_n hX dX11_init_107 rfl 0 rfl ?_
    refine r1_new (n := 9) hX hY dX11_init_108 kd_dd_X5 ⟨_, rfl⟩ w_cL_X11_56 w_is_X5 w_in_X5 hc hs h ?_
    clear h hc hs; intro t5 G σ cc cs c0 s0 hc hs h
    refine r_dup hX dX11_init_111 rfl ?_
    refine r_aload_n hX dX11_init_112 rfl 0 rfl ?_
    refine r1_gR hX hY dX11_init_113 kf_X11_38 rfl hc hs h ?_
    clear h hc hs; intro t6 G σ cc cs c0 s0 hc hs h
    refine r_aload_n hX dX11_init_116 rfl 0 rfl ?_
    refine r1_gR hX hY dX11_init_117 kf_X11_45 rfl hc hs h ?_
    clear h hc hs; intro t7 G σ cc cs c0 s0 hc hs h
    refine r1_cI (As := [kr E t6, kr E t7]) (st := [kr E t5, kr E l0]) hX hY dX11_init_120 kl_X5_init w_ml_X11_58 w_im_X5_init rfl (by decide) rfl (Nat.le_of_ble_eq_true rfl) rfl hc hs h (fun G1 σ1 c1 s1 h => wX5_init h) ?_
    clear h hc hs; intro G σ cc cs c0 s0 hc hs h
    refine r1_sR hX hY dX11_init_123 kf_X11_61 ⟨_, _, rfl⟩ rfl (by intro q hq; cases hq; exact ⟨_, tyX11_ok 7 (by decide), Or.inl ⟨_, rfl⟩⟩) hc hs h ?_
    clear h hc hs; intro G σ cc cs c0 s0 hc hs h
    refine r_aload_n hX dX11_init_126 rfl 0 rfl ?_
    refine r1_new (n := 8) hX hY dX11_init_127 kd_dd_X0 ⟨_, rfl⟩ w_cL_X11_65 w_is_X0 w_in_X0 hc hs h ?_
    clear h hc hs; intro t8 G σ cc cs c0 s0 hc hs h
    refine r_dup hX dX11_init_130 rfl ?_
    refine r_aload_n hX dX11_init_131 rfl 0 rfl ?_
    refine r1_gR hX hY dX11_init_132 kf_X11_38 rfl hc hs h ?_
    clear h hc hs; intro t9 G σ cc cs c0 s0 hc hs h
    refine r1_cI (As := [kr E t9]) (st := [kr E t8, kr E l0]) hX hY dX11_init_135 kl_X0_init w_ml_X11_67 w_im_X0_init rfl (by decide) rfl (Nat.le_of_ble_eq_true rfl) rfl hc hs h (fun G1 σ1 c1 s1 h => wX0_init h) ?_
    clear h hc hs; intro G σ cc cs c0 s0 hc hs h
    refine r1_sR hX hY dX11_init_138 kf_X11_70 ⟨_, _, rfl⟩ rfl (by intro q hq; cases hq; exact ⟨_, tyX11_ok 8 (by decide), Or.inl ⟨_, rfl⟩⟩) hc hs h ?_
    clear h hc hs; intro G σ cc cs c0 s0 hc hs h
    refine r_aload_n hX dX11_init_141 rfl 0 rfl ?_
    refine r1_new (n := 6) hX hY dX11_init_142 kd_dd_X2 ⟨_, rfl⟩ w_cL_X11_74 w_is_X2 w_in_X2 hc hs h ?_
    clear h hc hs; intro t10 G σ cc cs c0 s0 hc hs h
    refine r_dup hX dX11_init_145 rfl ?_
    refine r1_cIN (As := []) (st := [kr E t10, kr E l0]) (host := "KeyDesk") hX hY dX11_init_146 kl_X2_init (by decide +kernel) w_im_X2_init rfl (by decide) rfl (Nat.le_of_ble_eq_true rfl) rfl hc hs h (fun G1 σ1 c1 s1 h => wX2_init h) ?_
    clear h hc hs; intro G σ cc cs c0 s0 hc hs h
    refine r1_sR hX hY dX11_init_149 kf_X11_77 ⟨_, _, rfl⟩ rfl (by intro q hq; cases hq; exact ⟨_, tyX11_ok 9 (by decide), Or.inl ⟨_, rfl⟩⟩) hc hs h ?_
    clear h hc hs; intro G σ cc cs c0 s0 hc hs h
    refine r_aload_n hX dX11_init_152 rfl 0 rfl ?_
    refine r1_new (n := 9) hX hY dX11_init_153 kd_dd_X3 ⟨_, rfl⟩ w_cL_X11_81 w_is_X3 w_in_X3 hc hs h ?_
    clear h hc hs; intro t11 G σ cc cs c0 s0 hc hs h
    refine r_dup hX dX11_init_156 rfl ?_
    refine r1_cI (As := []) (st := [kr E t11, kr E l0]) hX hY dX11_init_157 kl_X3_init w_ml_X11_83 w_im_X3_init rfl (by decide) rfl (Nat.le_of_ble_eq_true rfl) rfl hc hs h (fun G1 σ1 c1 s1 h => wX3_init h) ?_
    clear h hc hs; intro G σ cc cs c0 s0 hc hs h
    refine r1_sR hX hY dX11_init_160 kf_X11_84 ⟨_, _, rfl⟩ rfl (by intro q hq; cases hq; exact ⟨_, tyX11_ok 10 (by decide), Or.inl ⟨_, rfl⟩⟩) hc hs h ?_
    clear h hc hs; intro G σ cc cs c0 s0 hc hs h
    refine r_aload_n hX dX11_init_163 rfl 0 rfl ?_
    refine r1_new (n := 12) hX hY dX11_init_164 kd_dd_X9 ⟨_, rfl⟩ w_cL_X11_88 w_is_X9 w_in_X9 hc hs h ?_
    clear h hc hs; intro t12 G σ cc cs c0 s0 hc hs h
    refine r_dup hX dX11_init_167 rfl ?_
    refine r_aload_n hX dX11_init_168 rfl 0 rfl ?_
    refine r1_gR hX hY dX11_init_169 kf_X11_84 rfl hc hs h ?_
    clear h hc hs; intro t13 G σ cc cs c0 s0 hc hs h
    refine r1_cI (As := [kr E t13]) (st := [kr E t12, kr E l0]) hX hY dX11_init_172 kl_X9_init w_ml_X11_90 w_im_X9_init rfl (by decide) rfl (Nat.le_of_ble_eq_true rfl) rfl hc hs h (fun G1 σ1 c1 s1 h => wX9_init h) ?_
    clear h hc hs; intro G σ cc cs c0 s0 hc hs h
    refine r1_sR hX hY dX11_init_175 kf_X11_93 ⟨_, _, rfl⟩ rfl (by intro q hq; cases hq; exact ⟨_, tyX11_ok 11 (by decide), Or.inl ⟨_, rfl⟩⟩) hc hs h ?_
    clear h hc hs; intro G σ cc cs c0 s0 hc hs h
    exact r1_vret hX hc hs dX11_init_178 h
  · clear h; intro h
    refine r_aload_n hX dX11_init_44 rfl 0 rfl ?_
    refine r1_gR hX hY dX11_init_45 kf_X11_23 rfl hc hs h ?_
    clear h hc hs; intro t14 G σ cc cs c0 s0 hc hs h
    refine r_iload_n hX dX11_init_48 rfl 1 rfl ?_
    refine r1_new (n := 8) hX hY dX11_init_49 kd_dd_X8 ⟨_, rfl⟩ w_cL_X11_21 w_is_X8 w_in_X8 hc hs h ?_
    clear h hc hs; intro t15 G σ cc cs c0 s0 hc hs h
    refine r_dup hX dX11_init_52 rfl ?_
    refine r1_cI (As := []) (st := [kr E t15, .int l1, kr E t14]) hX hY dX11_init_53 kl_X8_init w_ml_X11_27 w_im_X8_init rfl (by decide) rfl (Nat.le_of_ble_eq_true rfl) rfl hc hs h (fun G1 σ1 c1 s1 h => wX8_init h) ?_
    clear h hc hs; intro G σ cc cs c0 s0 hc hs h
    refine r1_tR17 hX hY dX11_init_56 hc hs h ?_
    clear h hc hs; intro G σ cc cs c0 s0 hc hs h
    refine r1_iincL (L2 := fun t16 => [(1, .int t16), (0, kr E l0)]) hX dX11_init_57 h 1 rfl (by decide) (fun _ => rfl) ?_
    clear h; intro t16 h
    refine r_goto (tgt := 39) hX dX11_init_60 (by decide) ?_
    refine r_sub [1, 0] rfl ?_
    exact hk39 _ _ _ _ _ _ _ _ hc hs h
def X11_init_39 : Nat → Int32 → kd1 → Option (Unit × kd1) := lp (fun _ _ _ => none) (X11_init_39B) NN
theorem wX11_init_39 {E : kdE} {A : kdA} {G1 : kdS} {σ1 : kdM} {c1 s1 : Nat} (hX : kdX E A cX11_init 2 RX11 none 3) (hY : kdY A) : ∀ (l0 : Nat) (l1 : Int32) (G : kdS) (σ : kdM) (cc cs c0 s0 : Nat), c0 + cc = (kdAR A).cells → s0 + cs = (kdAR A).slots → X11_init_39 l0 l1 (G, σ, cc, cs) = some ((), (G1, σ1, c1, s1)) → SWg E A 2 (kd1E E (none, G1, σ1) A) (kdR E G σ) c0 s0 39 [(0, kr E l0), (1, .int l1)] [] :=
  lp_ind (Q := fun f => ∀ (l0 : Nat) (l1 : Int32) (G : kdS) (σ : kdM) (cc cs c0 s0 : Nat), c0 + cc = (kdAR A).cells → s0 + cs = (kdAR A).slots → f l0 l1 (G, σ, cc, cs) = some ((), (G1, σ1, c1, s1)) → SWg E A 2 (kd1E E (none, G1, σ1) A) (kdR E G σ) c0 s0 39 [(0, kr E l0), (1, .int l1)] []) (by intros; contradiction) (fun k hk l0 l1 G σ cc cs c0 s0 hc hs h => wX11_init_39B hX hY k hk hc hs h) NN
def X11_init (l0 : Nat) : kd1 → Option (Unit × kd1) :=
  n1 6 2 fun t1 =>
  sub1 1 16 (X6_init t1 (16 : Int32)) <|
  s1R 11 0 l0 t1 <|
  n1 6 2 fun t2 =>
  sub1 1 3 (X6_init t2 (3 : Int32)) <|
  s1R 11 1 l0 t2 <|
  n1A 17 ((3 : Int32)) fun t3 =>
  s1R 11 2 l0 t3 <|
  X11_init_39 l0 (0 : Int32)
set_option maxRecDepth 100000 in
set_option maxHeartbeats 4000000 in
theorem wX11_init {E : kdE} {l0 : Nat} {G : kdS} {σ : kdM} {mc ms : Nat} {G1 : kdS} {σ1 : kdM} {c1 s1 : Nat} (h : X11_init l0 (G, σ, mc, ms) = some ((), (G1, σ1, c1, s1))) : Con1 E yX11_init cX11_init 2 none 3 mc ms [kr E l0] G σ (none, G1, σ1) := by
  refine kd1_head (own := RX11) rfl rfl (by decide +kernel) (Nat.le_of_ble_eq_true rfl) (fun A hX hY hc hs => ?_)
  replace hc : 0 + mc = (kdAR A).cells := by rw [hc, Nat.zero_add]
  replace hs : 0 + ms = (kdAR A).slots := by rw [hs, Nat.zero_add]
  show SWg E A 2 (kd1E E (none, G1, σ1) A) (kdR E G σ) 0 0 0 [(0, kr E l0)] []
  unfold X11_init at h
  refine r_aload_n hX dX11_init_0 rfl 0 rfl ?_
  refine r1_obj hX hY dX11_init_1 w_ml_X11_1 w_im_OI w_cd_OI (by decide) (Nat.le_of_ble_eq_true rfl) ?_
  refine r_aload_n hX dX11_init_4 rfl 0 rfl ?_
  refine r1_new (n := 2) hX hY dX11_init_5 kd_dd_X6 ⟨_, rfl⟩ w_cL_X11_7 w_is_X6 w_in_X6 hc hs h ?_
  clear h hc hs; intro t1 G σ cc cs c0 s0 hc hs h
  refine r_dup hX dX11_init_8 rfl ?_
  refine r_bipush hX dX11_init_9 kk_b_16 ?_
  refine r1_cI (As := [.int (16 : Int32)]) (st := [kr E t1, kr E l0]) hX hY dX11_init_11 kl_X6_init w_ml_X11_11 w_im_X6_init rfl (by decide) rfl (Nat.le_of_ble_eq_true rfl) rfl hc hs h (fun G1 σ1 c1 s1 h => wX6_init h) ?_
  clear h hc hs; intro G σ cc cs c0 s0 hc hs h
  refine r1_sR hX hY dX11_init_14 kf_X11_14 ⟨_, _, rfl⟩ rfl (by intro q hq; cases hq; exact ⟨_, tyX11_ok 0 (by decide), Or.inl ⟨_, rfl⟩⟩) hc hs h ?_
  clear h hc hs; intro G σ cc cs c0 s0 hc hs h
  refine r_aload_n hX dX11_init_17 rfl 0 rfl ?_
  refine r1_new (n := 2) hX hY dX11_init_18 kd_dd_X6 ⟨_, rfl⟩ w_cL_X11_7 w_is_X6 w_in_X6 hc hs h ?_
  clear h hc hs; intro t2 G σ cc cs c0 s0 hc hs h
  refine r_dup hX dX11_init_21 rfl ?_
  refine r_iconst hX dX11_init_22 kk_i_3 ?_
  refine r1_cI (As := [.int (3 : Int32)]) (st := [kr E t2, kr E l0]) hX hY dX11_init_23 kl_X6_init w_ml_X11_11 w_im_X6_init rfl (by decide) rfl (Nat.le_of_ble_eq_true rfl) rfl hc hs h (fun G1 σ1 c1 s1 h => wX6_init h) ?_
  clear h hc hs; intro G σ cc cs c0 s0 hc hs h
  refine r1_sR hX hY dX11_init_26 kf_X11_18 ⟨_, _, rfl⟩ rfl (by intro q hq; cases hq; exact ⟨_, tyX11_ok 1 (by decide), Or.inl ⟨_, rfl⟩⟩) hc hs h ?_
  clear h hc hs; intro G σ cc cs c0 s0 hc hs h
  refine r_aload_n hX dX11_init_29 rfl 0 rfl ?_
  refine r_iconst hX dX11_init_30 kk_i_3 ?_
  refine r1_newq17 hX hY dX11_init_31 w_cL_X11_21 hc hs h ?_
  clear h hc hs; intro t3 G σ cc cs c0 s0 hc hs h
  refine r1_sR hX hY dX11_init_34 kf_X11_23 ⟨_, _, rfl⟩ rfl (by intro q hq; cases hq; exact ⟨_, tyX11_ok 2 (by decide), Or.inr ⟨_, rfl⟩⟩) hc hs h ?_
  clear h hc hs; intro G σ cc cs c0 s0 hc hs h
  refine r_iconst hX dX11_init_37 kk_i_0 ?_
  refine r_istore_n (L2 := [(1, .int (0 : Int32)), (0, kr E l0)]) hX dX11_init_38 rfl (by decide) rfl ?_
  refine r_sub [1, 0] rfl ?_
  exact wX11_init_39 hX hY _ _ _ _ _ _ _ _ hc hs h
end
