/-! ===== BEGIN words of one list among another's, by their places ===== -/
theorem goodIn_r {big : List Cond} (ws : List Cond) (ps : List Nat) (hp : ws = ps.filterMap (fun i => big[i]?)) (h : ws.all goodWord = true) : GoodIn big ws := by
  intro w hw
  have h1 := List.all_eq_true.mp h w hw
  rw [hp] at hw
  obtain ⟨i, -, hi⟩ := List.mem_filterMap.mp hw
  have hm : w ∈ big := by first | exact List.mem_of_getElem? hi | exact List.getElem?_mem hi
  exact ⟨hm, good_of_word h1⟩
theorem goodIn_app {big a b : List Cond} (ha : GoodIn big a) (hb : GoodIn big b) : GoodIn big (a ++ b) := fun w h => (List.mem_append.mp h).elim (ha w) (hb w)
theorem goodIn_ca {big a b : List Cond} {c : Cond} (ha : GoodIn big (c :: a)) (hb : GoodIn big b) : GoodIn big (c :: (a ++ b)) := fun w h => (List.mem_cons.mp h).elim (fun e => ha w (List.mem_cons.mpr (Or.inl e))) (fun h => (List.mem_append.mp h).elim (fun h => ha w (List.mem_cons.mpr (Or.inr h))) (hb w))
theorem goodIn_sub {big ws : List Cond} (hm : ∀ w ∈ ws, w ∈ big) (h : ws.all goodWord = true) : GoodIn big ws := fun w hw => ⟨hm w hw, good_of_word (List.all_eq_true.mp h w hw)⟩
/-! ===== END ===== -/

/-! ===== BEGIN printed: names, fields, word lists, decode rows ===== -/
def RX0 : String := "InTheOldOne$CardKind"
def TX0 : u_T := fun k => match k with
  | _ => ("InTheOldOne$DiskKind", "code", "I", true)
def tyX0 : Nat → FieldType := fun k => match k with
  | _ => .int
abbrev wsX00 : List Cond := u_ws RX0 TX0 1
theorem nmX0 : ∀ a, a < 1 → ∀ b, b < 1 → a ≠ b → (TX0 a).2.1 ≠ (TX0 b).2.1 := by decide +kernel
theorem tyX0_ok : ∀ k, k < 1 → parseFieldDescriptor (TX0 k).2.2.1 = some (tyX0 k) := by decide +kernel
abbrev cX0_init : ByteArray := prog_2_method_1_code
def yX0_init : MethodName := ⟨RX0, "<init>", "(I)V"⟩
abbrev cX0_reads : ByteArray := prog_2_method_2_code
def yX0_reads : MethodName := ⟨RX0, "reads", "(III)Z"⟩
abbrev cX0_stampOn : ByteArray := prog_2_method_3_code
def yX0_stampOn : MethodName := ⟨RX0, "stampOn", "(II)I"⟩
abbrev cX0_roomBy : ByteArray := prog_2_method_4_code
def yX0_roomBy : MethodName := ⟨RX0, "roomBy", "(I)I"⟩
def RX1 : String := "InTheOldOne$CloudKind"
def TX1 : u_T := fun k => match k with
  | _ => ("InTheOldOne$DiskKind", "code", "I", true)
def tyX1 : Nat → FieldType := fun k => match k with
  | _ => .int
abbrev wsX10 : List Cond := u_ws RX1 TX1 1
theorem nmX1 : ∀ a, a < 1 → ∀ b, b < 1 → a ≠ b → (TX1 a).2.1 ≠ (TX1 b).2.1 := by decide +kernel
theorem tyX1_ok : ∀ k, k < 1 → parseFieldDescriptor (TX1 k).2.2.1 = some (tyX1 k) := by decide +kernel
abbrev cX1_init : ByteArray := prog_3_method_1_code
def yX1_init : MethodName := ⟨RX1, "<init>", "(I)V"⟩
abbrev cX1_reads : ByteArray := prog_3_method_2_code
def yX1_reads : MethodName := ⟨RX1, "reads", "(III)Z"⟩
def RX2 : String := "InTheOldOne$Disk"
def TX2 : u_T := fun k => match k with
  | 0 => ("InTheOldOne$Disk", "kind", "LInTheOldOne$DiskKind;", false)
  | 1 => ("InTheOldOne$Disk", "number", "I", false)
  | 2 => ("InTheOldOne$Disk", "since", "I", false)
  | 3 => ("InTheOldOne$Disk", "held", "I", false)
  | 4 => ("InTheOldOne$Disk", "contents", "[I", true)
  | _ => ("InTheOldOne$Disk", "stamps", "[I", true)
def tyX2 : Nat → FieldType := fun k => match k with
  | 0 => .object "InTheOldOne$DiskKind"
  | 1 => .int
  | 2 => .int
  | 3 => .int
  | 4 => .array .int
  | _ => .array .int
abbrev wsX20 : List Cond := u_ws RX2 TX2 6
theorem nmX2 : ∀ a, a < 6 → ∀ b, b < 6 → a ≠ b → (TX2 a).2.1 ≠ (TX2 b).2.1 := by decide +kernel
theorem tyX2_ok : ∀ k, k < 6 → parseFieldDescriptor (TX2 k).2.2.1 = some (tyX2 k) := by decide +kernel
abbrev cX2_init : ByteArray := prog_4_method_1_code
def yX2_init : MethodName := ⟨RX2, "<init>", "()V"⟩
abbrev cX2_begin : ByteArray := prog_4_method_2_code
def yX2_begin : MethodName := ⟨RX2, "begin", "(LInTheOldOne$DiskKind;II)V"⟩
abbrev cX2_become : ByteArray := prog_4_method_3_code
def yX2_become : MethodName := ⟨RX2, "become", "(LInTheOldOne$Disk;)V"⟩
abbrev cX2_readsOn : ByteArray := prog_4_method_4_code
def yX2_readsOn : MethodName := ⟨RX2, "readsOn", "(I)Z"⟩
abbrev cX2_takesIn : ByteArray := prog_4_method_5_code
def yX2_takesIn : MethodName := ⟨RX2, "takesIn", "(I)Z"⟩
abbrev cX2_put : ByteArray := prog_4_method_6_code
def yX2_put : MethodName := ⟨RX2, "put", "(III)V"⟩
abbrev cX2_drop : ByteArray := prog_4_method_7_code
def yX2_drop : MethodName := ⟨RX2, "drop", "(I)V"⟩
def RX3 : String := "InTheOldOne$DiskKind"
def TX3 : u_T := fun k => match k with
  | _ => ("InTheOldOne$DiskKind", "code", "I", true)
def tyX3 : Nat → FieldType := fun k => match k with
  | _ => .int
abbrev wsX30 : List Cond := u_ws RX3 TX3 1
theorem nmX3 : ∀ a, a < 1 → ∀ b, b < 1 → a ≠ b → (TX3 a).2.1 ≠ (TX3 b).2.1 := by decide +kernel
theorem tyX3_ok : ∀ k, k < 1 → parseFieldDescriptor (TX3 k).2.2.1 = some (tyX3 k) := by decide +kernel
abbrev cX3_init : ByteArray := prog_5_method_1_code
def yX3_init : MethodName := ⟨RX3, "<init>", "(I)V"⟩
abbrev cX3_reads : ByteArray := prog_5_method_2_code
def yX3_reads : MethodName := ⟨RX3, "reads", "(III)Z"⟩
abbrev cX3_stampOn : ByteArray := prog_5_method_3_code
def yX3_stampOn : MethodName := ⟨RX3, "stampOn", "(II)I"⟩
abbrev cX3_keeps : ByteArray := prog_5_method_4_code
def yX3_keeps : MethodName := ⟨RX3, "keeps", "(I)I"⟩
abbrev cX3_roomBy : ByteArray := prog_5_method_5_code
def yX3_roomBy : MethodName := ⟨RX3, "roomBy", "(I)I"⟩
def RX4 : String := "InTheOldOne$OldKind"
def TX4 : u_T := fun k => match k with
  | _ => ("InTheOldOne$DiskKind", "code", "I", true)
def tyX4 : Nat → FieldType := fun k => match k with
  | _ => .int
abbrev wsX40 : List Cond := u_ws RX4 TX4 1
theorem nmX4 : ∀ a, a < 1 → ∀ b, b < 1 → a ≠ b → (TX4 a).2.1 ≠ (TX4 b).2.1 := by decide +kernel
theorem tyX4_ok : ∀ k, k < 1 → parseFieldDescriptor (TX4 k).2.2.1 = some (tyX4 k) := by decide +kernel
abbrev cX4_init : ByteArray := prog_6_method_1_code
def yX4_init : MethodName := ⟨RX4, "<init>", "(I)V"⟩
abbrev cX4_reads : ByteArray := prog_6_method_2_code
def yX4_reads : MethodName := ⟨RX4, "reads", "(III)Z"⟩
abbrev cX4_stampOn : ByteArray := prog_6_method_3_code
def yX4_stampOn : MethodName := ⟨RX4, "stampOn", "(II)I"⟩
abbrev cX4_keeps : ByteArray := prog_6_method_4_code
def yX4_keeps : MethodName := ⟨RX4, "keeps", "(I)I"⟩
def RX5 : String := "InTheOldOne$PaperKind"
def TX5 : u_T := fun k => match k with
  | _ => ("InTheOldOne$DiskKind", "code", "I", true)
def tyX5 : Nat → FieldType := fun k => match k with
  | _ => .int
abbrev wsX50 : List Cond := u_ws RX5 TX5 1
theorem nmX5 : ∀ a, a < 1 → ∀ b, b < 1 → a ≠ b → (TX5 a).2.1 ≠ (TX5 b).2.1 := by decide +kernel
theorem tyX5_ok : ∀ k, k < 1 → parseFieldDescriptor (TX5 k).2.2.1 = some (tyX5 k) := by decide +kernel
abbrev cX5_init : ByteArray := prog_7_method_1_code
def yX5_init : MethodName := ⟨RX5, "<init>", "(I)V"⟩
abbrev cX5_reads : ByteArray := prog_7_method_2_code
def yX5_reads : MethodName := ⟨RX5, "reads", "(III)Z"⟩
abbrev cX5_stampOn : ByteArray := prog_7_method_3_code
def yX5_stampOn : MethodName := ⟨RX5, "stampOn", "(II)I"⟩
abbrev cX5_keeps : ByteArray := prog_7_method_4_code
def yX5_keeps : MethodName := ⟨RX5, "keeps", "(I)I"⟩
abbrev cX5_roomBy : ByteArray := prog_7_method_5_code
def yX5_roomBy : MethodName := ⟨RX5, "roomBy", "(I)I"⟩
def RX6 : String := "InTheOldOne$Rule"
def TX6 : u_T := fun k => match k with
  | 0 => ("InTheOldOne$Rule", "steps", "[I", true)
  | 1 => ("InTheOldOne$Rule", "ends", "[I", true)
  | 2 => ("InTheOldOne$Rule", "names", "[I", true)
  | 3 => ("InTheOldOne$Rule", "stack", "[I", true)
  | 4 => ("InTheOldOne$Rule", "size", "I", false)
  | _ => ("InTheOldOne$Rule", "top", "I", false)
def tyX6 : Nat → FieldType := fun k => match k with
  | 0 => .array .int
  | 1 => .array .int
  | 2 => .array .int
  | 3 => .array .int
  | 4 => .int
  | _ => .int
abbrev wsX60 : List Cond := u_ws RX6 TX6 6
theorem nmX6 : ∀ a, a < 6 → ∀ b, b < 6 → a ≠ b → (TX6 a).2.1 ≠ (TX6 b).2.1 := by decide +kernel
theorem tyX6_ok : ∀ k, k < 6 → parseFieldDescriptor (TX6 k).2.2.1 = some (tyX6 k) := by decide +kernel
abbrev cX6_init : ByteArray := prog_8_method_1_code
def yX6_init : MethodName := ⟨RX6, "<init>", "()V"⟩
abbrev cX6_clear : ByteArray := prog_8_method_2_code
def yX6_clear : MethodName := ⟨RX6, "clear", "()V"⟩
abbrev cX6_become : ByteArray := prog_8_method_3_code
def yX6_become : MethodName := ⟨RX6, "become", "(LInTheOldOne$Rule;)V"⟩
abbrev cX6_add : ByteArray := prog_8_method_4_code
def yX6_add : MethodName := ⟨RX6, "add", "(I)V"⟩
abbrev cX6_endPart : ByteArray := prog_8_method_5_code
def yX6_endPart : MethodName := ⟨RX6, "endPart", "(I)V"⟩
abbrev cX6_takes : ByteArray := prog_8_method_6_code
def yX6_takes : MethodName := ⟨RX6, "takes", "(IIIIII)Z"⟩
abbrev cX6_likelihood : ByteArray := prog_8_method_7_code
def yX6_likelihood : MethodName := ⟨RX6, "likelihood", "(II)I"⟩
abbrev cX6_worth : ByteArray := prog_8_method_8_code
def yX6_worth : MethodName := ⟨RX6, "worth", "(II)I"⟩
abbrev cX6_nameNothingThere : ByteArray := prog_8_method_9_code
def yX6_nameNothingThere : MethodName := ⟨RX6, "nameNothingThere", "()V"⟩
abbrev cX6_nameRest : ByteArray := prog_8_method_10_code
def yX6_nameRest : MethodName := ⟨RX6, "nameRest", "(III)V"⟩
abbrev cX6_answer : ByteArray := prog_8_method_11_code
def yX6_answer : MethodName := ⟨RX6, "answer", "(I)I"⟩
abbrev cX6_push : ByteArray := prog_8_method_12_code
def yX6_push : MethodName := ⟨RX6, "push", "(I)V"⟩
abbrev cX6_turnTop : ByteArray := prog_8_method_13_code
def yX6_turnTop : MethodName := ⟨RX6, "turnTop", "(I)V"⟩
abbrev cX6_joinTwo : ByteArray := prog_8_method_14_code
def yX6_joinTwo : MethodName := ⟨RX6, "joinTwo", "(I)V"⟩
def RX7 : String := "InTheOldOne$SharedKind"
def TX7 : u_T := fun k => match k with
  | _ => ("InTheOldOne$DiskKind", "code", "I", true)
def tyX7 : Nat → FieldType := fun k => match k with
  | _ => .int
abbrev wsX70 : List Cond := u_ws RX7 TX7 1
theorem nmX7 : ∀ a, a < 1 → ∀ b, b < 1 → a ≠ b → (TX7 a).2.1 ≠ (TX7 b).2.1 := by decide +kernel
theorem tyX7_ok : ∀ k, k < 1 → parseFieldDescriptor (TX7 k).2.2.1 = some (tyX7 k) := by decide +kernel
abbrev cX7_init : ByteArray := prog_9_method_1_code
def yX7_init : MethodName := ⟨RX7, "<init>", "(I)V"⟩
abbrev cX7_reads : ByteArray := prog_9_method_2_code
def yX7_reads : MethodName := ⟨RX7, "reads", "(III)Z"⟩
abbrev cX7_stampOn : ByteArray := prog_9_method_3_code
def yX7_stampOn : MethodName := ⟨RX7, "stampOn", "(II)I"⟩
def RX8 : String := "InTheOldOne$Sheet"
def TX8 : u_T := fun k => match k with
  | 0 => ("InTheOldOne$Sheet", "row", "[I", true)
  | 1 => ("InTheOldOne$Sheet", "sort", "I", false)
  | _ => ("InTheOldOne$Sheet", "size", "I", false)
def tyX8 : Nat → FieldType := fun k => match k with
  | 0 => .array .int
  | 1 => .int
  | _ => .int
abbrev wsX80 : List Cond := u_ws RX8 TX8 3
theorem nmX8 : ∀ a, a < 3 → ∀ b, b < 3 → a ≠ b → (TX8 a).2.1 ≠ (TX8 b).2.1 := by decide +kernel
theorem tyX8_ok : ∀ k, k < 3 → parseFieldDescriptor (TX8 k).2.2.1 = some (tyX8 k) := by decide +kernel
abbrev cX8_init : ByteArray := prog_10_method_1_code
def yX8_init : MethodName := ⟨RX8, "<init>", "()V"⟩
abbrev cX8_become : ByteArray := prog_10_method_2_code
def yX8_become : MethodName := ⟨RX8, "become", "(II)V"⟩
abbrev cX8_isMissing : ByteArray := prog_10_method_3_code
def yX8_isMissing : MethodName := ⟨RX8, "isMissing", "()Z"⟩
abbrev cX8_has : ByteArray := prog_10_method_4_code
def yX8_has : MethodName := ⟨RX8, "has", "(I)Z"⟩
abbrev cX8_hasPart : ByteArray := prog_10_method_5_code
def yX8_hasPart : MethodName := ⟨RX8, "hasPart", "(II)Z"⟩
abbrev cX8_put : ByteArray := prog_10_method_6_code
def yX8_put : MethodName := ⟨RX8, "put", "(II)V"⟩
def RX9 : String := "InTheOldOne$Tape"
def TX9 : u_T := fun k => match k with
  | 0 => ("InTheOldOne$Tape", "bytes", "[I", true)
  | 1 => ("InTheOldOne$Tape", "rule", "LInTheOldOne$Rule;", true)
  | 2 => ("InTheOldOne$Tape", "size", "I", false)
  | 3 => ("InTheOldOne$Tape", "place", "I", false)
  | 4 => ("InTheOldOne$Tape", "next", "I", false)
  | 5 => ("InTheOldOne$Tape", "token", "I", false)
  | _ => ("InTheOldOne$Tape", "value", "I", false)
def tyX9 : Nat → FieldType := fun k => match k with
  | 0 => .array .int
  | 1 => .object "InTheOldOne$Rule"
  | 2 => .int
  | 3 => .int
  | 4 => .int
  | 5 => .int
  | _ => .int
abbrev wsX90 : List Cond := u_ws RX9 TX9 7
theorem nmX9 : ∀ a, a < 7 → ∀ b, b < 7 → a ≠ b → (TX9 a).2.1 ≠ (TX9 b).2.1 := by decide +kernel
theorem tyX9_ok : ∀ k, k < 7 → parseFieldDescriptor (TX9 k).2.2.1 = some (tyX9 k) := by decide +kernel
abbrev cX9_init : ByteArray := prog_11_method_1_code
def yX9_init : MethodName := ⟨RX9, "<init>", "()V"⟩
abbrev cX9_add : ByteArray := prog_11_method_2_code
def yX9_add : MethodName := ⟨RX9, "add", "(I)Z"⟩
abbrev cX9_clear : ByteArray := prog_11_method_3_code
def yX9_clear : MethodName := ⟨RX9, "clear", "()V"⟩
abbrev cX9_read : ByteArray := prog_11_method_4_code
def yX9_read : MethodName := ⟨RX9, "read", "()I"⟩
abbrev cX9_readLevel : ByteArray := prog_11_method_5_code
def yX9_readLevel : MethodName := ⟨RX9, "readLevel", "(II)Z"⟩
abbrev cX9_readDenied : ByteArray := prog_11_method_6_code
def yX9_readDenied : MethodName := ⟨RX9, "readDenied", "(I)Z"⟩
abbrev cX9_readOne : ByteArray := prog_11_method_7_code
def yX9_readOne : MethodName := ⟨RX9, "readOne", "(I)Z"⟩
abbrev cX9_stepOn : ByteArray := prog_11_method_8_code
def yX9_stepOn : MethodName := ⟨RX9, "stepOn", "(I)I"⟩
abbrev cX9_advance : ByteArray := prog_11_method_9_code
def yX9_advance : MethodName := ⟨RX9, "advance", "()V"⟩
abbrev cX9_readWord : ByteArray := prog_11_method_10_code
def yX9_readWord : MethodName := ⟨RX9, "readWord", "()V"⟩
abbrev cX9_readNumber : ByteArray := prog_11_method_11_code
def yX9_readNumber : MethodName := ⟨RX9, "readNumber", "()V"⟩
abbrev cX9_wordIndex : ByteArray := prog_11_method_12_code
def yX9_wordIndex : MethodName := ⟨RX9, "wordIndex", "()I"⟩
abbrev cX9_isSpelled : ByteArray := prog_11_method_13_code
def yX9_isSpelled : MethodName := ⟨RX9, "isSpelled", "(II)Z"⟩
abbrev cX9_isLetter : ByteArray := prog_11_method_14_code
def yX9_isLetter : MethodName := ⟨RX9, "isLetter", "(I)Z"⟩
abbrev cX9_isDigit : ByteArray := prog_11_method_15_code
def yX9_isDigit : MethodName := ⟨RX9, "isDigit", "(I)Z"⟩
abbrev cX9_isSign : ByteArray := prog_11_method_16_code
def yX9_isSign : MethodName := ⟨RX9, "isSign", "(I)Z"⟩
def RX10 : String := "InTheOldOne$World"
def TX10 : u_T := fun k => match k with
  | 0 => ("InTheOldOne$World", "day", "I", false)
  | 1 => ("InTheOldOne$World", "rule", "I", false)
  | 2 => ("InTheOldOne$World", "size", "I", false)
  | _ => ("InTheOldOne$World", "disks", "[LInTheOldOne$Disk;", true)
def tyX10 : Nat → FieldType := fun k => match k with
  | 0 => .int
  | 1 => .int
  | 2 => .int
  | _ => .array (.object "InTheOldOne$Disk")
abbrev wsX100 : List Cond := u_ws RX10 TX10 4
theorem nmX10 : ∀ a, a < 4 → ∀ b, b < 4 → a ≠ b → (TX10 a).2.1 ≠ (TX10 b).2.1 := by decide +kernel
theorem tyX10_ok : ∀ k, k < 4 → parseFieldDescriptor (TX10 k).2.2.1 = some (tyX10 k) := by decide +kernel
abbrev cX10_init : ByteArray := prog_12_method_1_code
def yX10_init : MethodName := ⟨RX10, "<init>", "()V"⟩
abbrev cX10_become : ByteArray := prog_12_method_2_code
def yX10_become : MethodName := ⟨RX10, "become", "(LInTheOldOne$World;)V"⟩
abbrev cX10_has : ByteArray := prog_12_method_3_code
def yX10_has : MethodName := ⟨RX10, "has", "(I)Z"⟩
abbrev cX10_readers : ByteArray := prog_12_method_4_code
def yX10_readers : MethodName := ⟨RX10, "readers", "()I"⟩
abbrev cX10_filesOn : ByteArray := prog_12_method_5_code
def yX10_filesOn : MethodName := ⟨RX10, "filesOn", "(I)I"⟩
abbrev cX10_holders : ByteArray := prog_12_method_6_code
def yX10_holders : MethodName := ⟨RX10, "holders", "(I)I"⟩
abbrev cX10_holdersAmong : ByteArray := prog_12_method_7_code
def yX10_holdersAmong : MethodName := ⟨RX10, "holdersAmong", "(II)I"⟩
abbrev cX10_newestHolder : ByteArray := prog_12_method_8_code
def yX10_newestHolder : MethodName := ⟨RX10, "newestHolder", "(I)I"⟩
abbrev cX10_differing : ByteArray := prog_12_method_9_code
def yX10_differing : MethodName := ⟨RX10, "differing", "()I"⟩
abbrev cX10_areUnlike : ByteArray := prog_12_method_10_code
def yX10_areUnlike : MethodName := ⟨RX10, "areUnlike", "(II)Z"⟩
abbrev cX10_safe : ByteArray := prog_12_method_11_code
def yX10_safe : MethodName := ⟨RX10, "safe", "(I)I"⟩
abbrev cX10_lost : ByteArray := prog_12_method_12_code
def yX10_lost : MethodName := ⟨RX10, "lost", "()I"⟩
abbrev cX10_contentCount : ByteArray := prog_12_method_13_code
def yX10_contentCount : MethodName := ⟨RX10, "contentCount", "()I"⟩
abbrev cX10_canCopy : ByteArray := prog_12_method_14_code
def yX10_canCopy : MethodName := ⟨RX10, "canCopy", "(II)Z"⟩
abbrev cX10_copyOnto : ByteArray := prog_12_method_15_code
def yX10_copyOnto : MethodName := ⟨RX10, "copyOnto", "(IILInTheOldOne$Rule;)I"⟩
def RX11 : String := "InTheOldOne"
def TX11 : u_T := fun k => match k with
  | 0 => ("InTheOldOne", "kinds", "[LInTheOldOne$DiskKind;", true)
  | 1 => ("InTheOldOne", "texts", "[LInTheOldOne$Rule;", true)
  | 2 => ("InTheOldOne", "sheets", "[LInTheOldOne$Sheet;", true)
  | 3 => ("InTheOldOne", "tape", "LInTheOldOne$Tape;", true)
  | 4 => ("InTheOldOne", "now", "LInTheOldOne$World;", true)
  | 5 => ("InTheOldOne", "kept", "LInTheOldOne$World;", true)
  | 6 => ("InTheOldOne", "thought", "LInTheOldOne$World;", true)
  | 7 => ("InTheOldOne", "before", "[LInTheOldOne$Disk;", true)
  | 8 => ("InTheOldOne", "textCount", "I", false)
  | _ => ("InTheOldOne", "imageKept", "Z", false)
def tyX11 : Nat → FieldType := fun k => match k with
  | 0 => .array (.object "InTheOldOne$DiskKind")
  | 1 => .array (.object "InTheOldOne$Rule")
  | 2 => .array (.object "InTheOldOne$Sheet")
  | 3 => .object "InTheOldOne$Tape"
  | 4 => .object "InTheOldOne$World"
  | 5 => .object "InTheOldOne$World"
  | 6 => .object "InTheOldOne$World"
  | 7 => .array (.object "InTheOldOne$Disk")
  | 8 => .int
  | _ => .boolean
abbrev wsX110 : List Cond := u_ws RX11 TX11 10
theorem nmX11 : ∀ a, a < 10 → ∀ b, b < 10 → a ≠ b → (TX11 a).2.1 ≠ (TX11 b).2.1 := by decide +kernel
theorem tyX11_ok : ∀ k, k < 10 → parseFieldDescriptor (TX11 k).2.2.1 = some (tyX11 k) := by decide +kernel
abbrev cX11_init : ByteArray := prog_1_method_1_code
def yX11_init : MethodName := ⟨RX11, "<init>", "()V"⟩
abbrev cX11_set : ByteArray := prog_1_method_2_code
def yX11_set : MethodName := ⟨RX11, "set", "(III)I"⟩
abbrev cX11_disk : ByteArray := prog_1_method_3_code
def yX11_disk : MethodName := ⟨RX11, "disk", "(II)I"⟩
abbrev cX11_told : ByteArray := prog_1_method_4_code
def yX11_told : MethodName := ⟨RX11, "told", "(II)I"⟩
abbrev cX11_file : ByteArray := prog_1_method_5_code
def yX11_file : MethodName := ⟨RX11, "file", "(III)I"⟩
abbrev cX11_feed : ByteArray := prog_1_method_6_code
def yX11_feed : MethodName := ⟨RX11, "feed", "(I)I"⟩
abbrev cX11_text : ByteArray := prog_1_method_7_code
def yX11_text : MethodName := ⟨RX11, "text", "()I"⟩
abbrev cX11_force : ByteArray := prog_1_method_8_code
def yX11_force : MethodName := ⟨RX11, "force", "(I)I"⟩
abbrev cX11_write : ByteArray := prog_1_method_9_code
def yX11_write : MethodName := ⟨RX11, "write", "(III)I"⟩
abbrev cX11_lose : ByteArray := prog_1_method_10_code
def yX11_lose : MethodName := ⟨RX11, "lose", "(II)I"⟩
abbrev cX11_copies : ByteArray := prog_1_method_11_code
def yX11_copies : MethodName := ⟨RX11, "copies", "(II)I"⟩
abbrev cX11_on : ByteArray := prog_1_method_12_code
def yX11_on : MethodName := ⟨RX11, "on", "(I)I"⟩
abbrev cX11_newest : ByteArray := prog_1_method_13_code
def yX11_newest : MethodName := ⟨RX11, "newest", "(II)I"⟩
abbrev cX11_all : ByteArray := prog_1_method_14_code
def yX11_all : MethodName := ⟨RX11, "all", "(I)I"⟩
abbrev cX11_best : ByteArray := prog_1_method_15_code
def yX11_best : MethodName := ⟨RX11, "best", "(II)I"⟩
abbrev cX11_fewest : ByteArray := prog_1_method_16_code
def yX11_fewest : MethodName := ⟨RX11, "fewest", "(I)I"⟩
abbrev cX11_worst : ByteArray := prog_1_method_17_code
def yX11_worst : MethodName := ⟨RX11, "worst", "(I)I"⟩
abbrev cX11_letGo : ByteArray := prog_1_method_18_code
def yX11_letGo : MethodName := ⟨RX11, "letGo", "()I"⟩
abbrev cX11_again : ByteArray := prog_1_method_19_code
def yX11_again : MethodName := ⟨RX11, "again", "(II)I"⟩
abbrev cX11_goes : ByteArray := prog_1_method_20_code
def yX11_goes : MethodName := ⟨RX11, "goes", "(I)I"⟩
abbrev cX11_plan : ByteArray := prog_1_method_21_code
def yX11_plan : MethodName := ⟨RX11, "plan", "(II)I"⟩
abbrev cX11_tells : ByteArray := prog_1_method_22_code
def yX11_tells : MethodName := ⟨RX11, "tells", "(IIII)I"⟩
abbrev cX11_film : ByteArray := prog_1_method_23_code
def yX11_film : MethodName := ⟨RX11, "film", "(II)I"⟩
abbrev cX11_lot : ByteArray := prog_1_method_24_code
def yX11_lot : MethodName := ⟨RX11, "lot", "(I)I"⟩
abbrev cX11_chance : ByteArray := prog_1_method_25_code
def yX11_chance : MethodName := ⟨RX11, "chance", "(III)J"⟩
abbrev cX11_image : ByteArray := prog_1_method_26_code
def yX11_image : MethodName := ⟨RX11, "image", "()I"⟩
abbrev cX11_back : ByteArray := prog_1_method_27_code
def yX11_back : MethodName := ⟨RX11, "back", "()I"⟩
abbrev cX11_count : ByteArray := prog_1_method_28_code
def yX11_count : MethodName := ⟨RX11, "count", "(I)I"⟩
abbrev cX11_sheet : ByteArray := prog_1_method_29_code
def yX11_sheet : MethodName := ⟨RX11, "sheet", "(III)I"⟩
abbrev cX11_cell : ByteArray := prog_1_method_30_code
def yX11_cell : MethodName := ⟨RX11, "cell", "(III)I"⟩
abbrev cX11_copy : ByteArray := prog_1_method_31_code
def yX11_copy : MethodName := ⟨RX11, "copy", "(IIIII)I"⟩
abbrev cX11_disks : ByteArray := prog_1_method_32_code
def yX11_disks : MethodName := ⟨RX11, "disks", "(IIII)I"⟩
abbrev cX11_taken : ByteArray := prog_1_method_33_code
def yX11_taken : MethodName := ⟨RX11, "taken", "(II)I"⟩
abbrev cX11_rule : ByteArray := prog_1_method_34_code
def yX11_rule : MethodName := ⟨RX11, "rule", "()LInTheOldOne$Rule;"⟩
abbrev cX11_isFile : ByteArray := prog_1_method_35_code
def yX11_isFile : MethodName := ⟨RX11, "isFile", "(I)Z"⟩
abbrev cX11_isSheet : ByteArray := prog_1_method_36_code
def yX11_isSheet : MethodName := ⟨RX11, "isSheet", "(I)Z"⟩
abbrev cX11_isHowMany : ByteArray := prog_1_method_37_code
def yX11_isHowMany : MethodName := ⟨RX11, "isHowMany", "(I)Z"⟩
abbrev cX11_areTwo : ByteArray := prog_1_method_38_code
def yX11_areTwo : MethodName := ⟨RX11, "areTwo", "(II)Z"⟩
abbrev cX11_isIn : ByteArray := prog_1_method_39_code
def yX11_isIn : MethodName := ⟨RX11, "isIn", "(II)Z"⟩
abbrev cX11_without : ByteArray := prog_1_method_40_code
def yX11_without : MethodName := ⟨RX11, "without", "(II)I"⟩
abbrev cX11_bring : ByteArray := prog_1_method_41_code
def yX11_bring : MethodName := ⟨RX11, "bring", "(II)I"⟩
abbrev cX11_isUnder : ByteArray := prog_1_method_42_code
def yX11_isUnder : MethodName := ⟨RX11, "isUnder", "(LInTheOldOne$DiskKind;I)Z"⟩
abbrev cX11_worthOf : ByteArray := prog_1_method_43_code
def yX11_worthOf : MethodName := ⟨RX11, "worthOf", "(I)I"⟩
abbrev cX11_safeBehind : ByteArray := prog_1_method_44_code
def yX11_safeBehind : MethodName := ⟨RX11, "safeBehind", "(III)I"⟩
abbrev cX11_comesToSafe : ByteArray := prog_1_method_45_code
def yX11_comesToSafe : MethodName := ⟨RX11, "comesToSafe", "(III)Z"⟩
abbrev cX11_bringsAll : ByteArray := prog_1_method_46_code
def yX11_bringsAll : MethodName := ⟨RX11, "bringsAll", "(III)Z"⟩
abbrev cX11_leadsToSafe : ByteArray := prog_1_method_47_code
def yX11_leadsToSafe : MethodName := ⟨RX11, "leadsToSafe", "(IIIII)Z"⟩
abbrev cX11_tellsDisks : ByteArray := prog_1_method_48_code
def yX11_tellsDisks : MethodName := ⟨RX11, "tellsDisks", "(LInTheOldOne$Sheet;)Z"⟩
abbrev cX11_copyInThought : ByteArray := prog_1_method_49_code
def yX11_copyInThought : MethodName := ⟨RX11, "copyInThought", "(LInTheOldOne$Sheet;)I"⟩
abbrev cX11_otherwise : ByteArray := prog_1_method_50_code
def yX11_otherwise : MethodName := ⟨RX11, "otherwise", "(LInTheOldOne$Disk;LInTheOldOne$Sheet;)I"⟩
abbrev cX11_comesToTold : ByteArray := prog_1_method_51_code
def yX11_comesToTold : MethodName := ⟨RX11, "comesToTold", "(LInTheOldOne$Sheet;IILInTheOldOne$Rule;)Z"⟩
abbrev cX11_kindsTold : ByteArray := prog_1_method_52_code
def yX11_kindsTold : MethodName := ⟨RX11, "kindsTold", "(LInTheOldOne$Sheet;II)I"⟩
abbrev cX11_numbersTold : ByteArray := prog_1_method_53_code
def yX11_numbersTold : MethodName := ⟨RX11, "numbersTold", "(LInTheOldOne$Sheet;II)I"⟩
abbrev cX11_disksTold : ByteArray := prog_1_method_54_code
def yX11_disksTold : MethodName := ⟨RX11, "disksTold", "(LInTheOldOne$Sheet;I)I"⟩
abbrev cX11_textsTold : ByteArray := prog_1_method_55_code
def yX11_textsTold : MethodName := ⟨RX11, "textsTold", "(LInTheOldOne$Sheet;II)I"⟩
abbrev cX11_stayers : ByteArray := prog_1_method_56_code
def yX11_stayers : MethodName := ⟨RX11, "stayers", "(I)I"⟩
abbrev cX11_commonDivisor : ByteArray := prog_1_method_57_code
def yX11_commonDivisor : MethodName := ⟨RX11, "commonDivisor", "(II)I"⟩
def RX12 : String := "InTheOldOneModel"
def TX12 : u_T := fun k => match k with
  | 0 => ("InTheOldOneModel", "thrown", "I", false)
  | 1 => ("InTheOldOneModel", "texts", "[I", true)
  | 2 => ("InTheOldOneModel", "textSize", "[I", true)
  | 3 => ("InTheOldOneModel", "textCount", "I", false)
  | 4 => ("InTheOldOneModel", "rule", "I", false)
  | 5 => ("InTheOldOneModel", "tape", "[I", true)
  | 6 => ("InTheOldOneModel", "taped", "I", false)
  | 7 => ("InTheOldOneModel", "dayNow", "I", false)
  | 8 => ("InTheOldOneModel", "kinds", "[I", true)
  | 9 => ("InTheOldOneModel", "rows", "[I", true)
  | 10 => ("InTheOldOneModel", "contents", "[I", true)
  | 11 => ("InTheOldOneModel", "stamps", "[I", true)
  | 12 => ("InTheOldOneModel", "many", "I", false)
  | 13 => ("InTheOldOneModel", "ofHere", "I", false)
  | 14 => ("InTheOldOneModel", "ofThere", "I", false)
  | 15 => ("InTheOldOneModel", "ofSame", "I", false)
  | 16 => ("InTheOldOneModel", "ofNumber", "I", false)
  | 17 => ("InTheOldOneModel", "ofFile", "I", false)
  | 18 => ("InTheOldOneModel", "ofDay", "I", false)
  | 19 => ("InTheOldOneModel", "from", "I", false)
  | 20 => ("InTheOldOneModel", "size", "I", false)
  | 21 => ("InTheOldOneModel", "here", "I", false)
  | 22 => ("InTheOldOneModel", "token", "I", false)
  | 23 => ("InTheOldOneModel", "tokenAt", "I", false)
  | 24 => ("InTheOldOneModel", "tokenWorth", "J", false)
  | 25 => ("InTheOldOneModel", "open", "I", false)
  | 26 => ("InTheOldOneModel", "bad", "Z", false)
  | 27 => ("InTheOldOneModel", "fault", "I", false)
  | 28 => ("InTheOldOneModel", "gone", "I", false)
  | 29 => ("InTheOldOneModel", "frames", "[I", true)
  | 30 => ("InTheOldOneModel", "rowsKept", "[I", true)
  | 31 => ("InTheOldOneModel", "contentsKept", "[I", true)
  | 32 => ("InTheOldOneModel", "stampsKept", "[I", true)
  | 33 => ("InTheOldOneModel", "manyKept", "I", false)
  | 34 => ("InTheOldOneModel", "dayKept", "I", false)
  | 35 => ("InTheOldOneModel", "ruleKept", "I", false)
  | 36 => ("InTheOldOneModel", "isThere", "[Z", true)
  | 37 => ("InTheOldOneModel", "sorts", "[I", true)
  | 38 => ("InTheOldOneModel", "sheetSize", "[I", true)
  | _ => ("InTheOldOneModel", "items", "[I", true)
def tyX12 : Nat → FieldType := fun k => match k with
  | 0 => .int
  | 1 => .array .int
  | 2 => .array .int
  | 3 => .int
  | 4 => .int
  | 5 => .array .int
  | 6 => .int
  | 7 => .int
  | 8 => .array .int
  | 9 => .array .int
  | 10 => .array .int
  | 11 => .array .int
  | 12 => .int
  | 13 => .int
  | 14 => .int
  | 15 => .int
  | 16 => .int
  | 17 => .int
  | 18 => .int
  | 19 => .int
  | 20 => .int
  | 21 => .int
  | 22 => .int
  | 23 => .int
  | 24 => .long
  | 25 => .int
  | 26 => .boolean
  | 27 => .int
  | 28 => .int
  | 29 => .array .int
  | 30 => .array .int
  | 31 => .array .int
  | 32 => .array .int
  | 33 => .int
  | 34 => .int
  | 35 => .int
  | 36 => .array .boolean
  | 37 => .array .int
  | 38 => .array .int
  | _ => .array .int
abbrev wsX120 : List Cond := u_ws RX12 TX12 40
theorem nmX12 : ∀ a, a < 40 → ∀ b, b < 40 → a ≠ b → (TX12 a).2.1 ≠ (TX12 b).2.1 := by decide +kernel
theorem tyX12_ok : ∀ k, k < 40 → parseFieldDescriptor (TX12 k).2.2.1 = some (tyX12 k) := by decide +kernel
abbrev cX12_in : ByteArray := prog_14_method_2_code
def yX12_in : MethodName := ⟨RX12, "in", "(JJJ)Z"⟩
abbrev cX12_within : ByteArray := prog_14_method_3_code
def yX12_within : MethodName := ⟨RX12, "within", "(III)I"⟩
abbrev cX12_init : ByteArray := prog_14_method_4_code
def yX12_init : MethodName := ⟨RX12, "<init>", "()V"⟩
abbrev cX12_spell : ByteArray := prog_14_method_5_code
def yX12_spell : MethodName := ⟨RX12, "spell", "(IIIIIIIII)V"⟩
abbrev cX12_isDisk : ByteArray := prog_14_method_6_code
def yX12_isDisk : MethodName := ⟨RX12, "isDisk", "(I)Z"⟩
abbrev cX12_isFile : ByteArray := prog_14_method_7_code
def yX12_isFile : MethodName := ⟨RX12, "isFile", "(I)Z"⟩
abbrev cX12_set : ByteArray := prog_14_method_8_code
def yX12_set : MethodName := ⟨RX12, "set", "(III)I"⟩
abbrev cX12_lays : ByteArray := prog_14_method_9_code
def yX12_lays : MethodName := ⟨RX12, "lays", "(III)V"⟩
abbrev cX12_disk : ByteArray := prog_14_method_10_code
def yX12_disk : MethodName := ⟨RX12, "disk", "(II)I"⟩
abbrev cX12_empties : ByteArray := prog_14_method_11_code
def yX12_empties : MethodName := ⟨RX12, "empties", "(II)V"⟩
abbrev cX12_told : ByteArray := prog_14_method_12_code
def yX12_told : MethodName := ⟨RX12, "told", "(II)I"⟩
abbrev cX12_file : ByteArray := prog_14_method_13_code
def yX12_file : MethodName := ⟨RX12, "file", "(III)I"⟩
abbrev cX12_reads : ByteArray := prog_14_method_14_code
def yX12_reads : MethodName := ⟨RX12, "reads", "(I)Z"⟩
abbrev cX12_stampsOf : ByteArray := prog_14_method_15_code
def yX12_stampsOf : MethodName := ⟨RX12, "stampsOf", "(I)I"⟩
abbrev cX12_keepsOf : ByteArray := prog_14_method_16_code
def yX12_keepsOf : MethodName := ⟨RX12, "keepsOf", "(II)I"⟩
abbrev cX12_roomOf : ByteArray := prog_14_method_17_code
def yX12_roomOf : MethodName := ⟨RX12, "roomOf", "(I)I"⟩
abbrev cX12_hasOf : ByteArray := prog_14_method_18_code
def yX12_hasOf : MethodName := ⟨RX12, "hasOf", "(I)I"⟩
abbrev cX12_hasRoom : ByteArray := prog_14_method_19_code
def yX12_hasRoom : MethodName := ⟨RX12, "hasRoom", "(II)Z"⟩
abbrev cX12_feed : ByteArray := prog_14_method_20_code
def yX12_feed : MethodName := ⟨RX12, "feed", "(I)I"⟩
abbrev cX12_byteAt : ByteArray := prog_14_method_21_code
def yX12_byteAt : MethodName := ⟨RX12, "byteAt", "(I)I"⟩
abbrev cX12_next : ByteArray := prog_14_method_22_code
def yX12_next : MethodName := ⟨RX12, "next", "()V"⟩
abbrev cX12_fail : ByteArray := prog_14_method_23_code
def yX12_fail : MethodName := ⟨RX12, "fail", "()V"⟩
abbrev cX12_isLetter : ByteArray := prog_14_method_24_code
def yX12_isLetter : MethodName := ⟨RX12, "isLetter", "(II)Z"⟩
abbrev cX12_isWord : ByteArray := prog_14_method_25_code
def yX12_isWord : MethodName := ⟨RX12, "isWord", "(IIIIIIII)Z"⟩
abbrev cX12_isSign : ByteArray := prog_14_method_26_code
def yX12_isSign : MethodName := ⟨RX12, "isSign", "(I)Z"⟩
abbrev cX12_opens : ByteArray := prog_14_method_27_code
def yX12_opens : MethodName := ⟨RX12, "opens", "()Z"⟩
abbrev cX12_name : ByteArray := prog_14_method_28_code
def yX12_name : MethodName := ⟨RX12, "name", "()I"⟩
abbrev cX12_atom : ByteArray := prog_14_method_29_code
def yX12_atom : MethodName := ⟨RX12, "atom", "()I"⟩
abbrev cX12_term : ByteArray := prog_14_method_30_code
def yX12_term : MethodName := ⟨RX12, "term", "()I"⟩
abbrev cX12_added : ByteArray := prog_14_method_31_code
def yX12_added : MethodName := ⟨RX12, "added", "()I"⟩
abbrev cX12_not : ByteArray := prog_14_method_32_code
def yX12_not : MethodName := ⟨RX12, "not", "()I"⟩
abbrev cX12_both : ByteArray := prog_14_method_33_code
def yX12_both : MethodName := ⟨RX12, "both", "()I"⟩
abbrev cX12_either : ByteArray := prog_14_method_34_code
def yX12_either : MethodName := ⟨RX12, "either", "()I"⟩
abbrev cX12_part : ByteArray := prog_14_method_35_code
def yX12_part : MethodName := ⟨RX12, "part", "(Z)I"⟩
abbrev cX12_read : ByteArray := prog_14_method_36_code
def yX12_read : MethodName := ⟨RX12, "read", "(II)I"⟩
abbrev cX12_text : ByteArray := prog_14_method_37_code
def yX12_text : MethodName := ⟨RX12, "text", "()I"⟩
abbrev cX12_force : ByteArray := prog_14_method_38_code
def yX12_force : MethodName := ⟨RX12, "force", "(I)I"⟩
abbrev cX12_takes : ByteArray := prog_14_method_39_code
def yX12_takes : MethodName := ⟨RX12, "takes", "(III)Z"⟩
abbrev cX12_plainOf : ByteArray := prog_14_method_40_code
def yX12_plainOf : MethodName := ⟨RX12, "plainOf", "(IIII)I"⟩
abbrev cX12_goesOf : ByteArray := prog_14_method_41_code
def yX12_goesOf : MethodName := ⟨RX12, "goesOf", "(I)I"⟩
abbrev cX12_write : ByteArray := prog_14_method_42_code
def yX12_write : MethodName := ⟨RX12, "write", "(III)I"⟩
abbrev cX12_lose : ByteArray := prog_14_method_43_code
def yX12_lose : MethodName := ⟨RX12, "lose", "(II)I"⟩
abbrev cX12_canCopy : ByteArray := prog_14_method_44_code
def yX12_canCopy : MethodName := ⟨RX12, "canCopy", "(II)Z"⟩
abbrev cX12_copiesAll : ByteArray := prog_14_method_45_code
def yX12_copiesAll : MethodName := ⟨RX12, "copiesAll", "(II)I"⟩
abbrev cX12_copies : ByteArray := prog_14_method_46_code
def yX12_copies : MethodName := ⟨RX12, "copies", "(II)I"⟩
abbrev cX12_onOf : ByteArray := prog_14_method_47_code
def yX12_onOf : MethodName := ⟨RX12, "onOf", "(I)I"⟩
abbrev cX12_on : ByteArray := prog_14_method_48_code
def yX12_on : MethodName := ⟨RX12, "on", "(I)I"⟩
abbrev cX12_newestOf : ByteArray := prog_14_method_49_code
def yX12_newestOf : MethodName := ⟨RX12, "newestOf", "(I)I"⟩
abbrev cX12_newest : ByteArray := prog_14_method_50_code
def yX12_newest : MethodName := ⟨RX12, "newest", "(II)I"⟩
abbrev cX12_bitsOf : ByteArray := prog_14_method_51_code
def yX12_bitsOf : MethodName := ⟨RX12, "bitsOf", "(I)I"⟩
abbrev cX12_differs : ByteArray := prog_14_method_52_code
def yX12_differs : MethodName := ⟨RX12, "differs", "(I)Z"⟩
abbrev cX12_differ : ByteArray := prog_14_method_53_code
def yX12_differ : MethodName := ⟨RX12, "differ", "()I"⟩
abbrev cX12_safe : ByteArray := prog_14_method_54_code
def yX12_safe : MethodName := ⟨RX12, "safe", "(I)I"⟩
abbrev cX12_lostAll : ByteArray := prog_14_method_55_code
def yX12_lostAll : MethodName := ⟨RX12, "lostAll", "()I"⟩
abbrev cX12_worthAll : ByteArray := prog_14_method_56_code
def yX12_worthAll : MethodName := ⟨RX12, "worthAll", "()I"⟩
abbrev cX12_all : ByteArray := prog_14_method_57_code
def yX12_all : MethodName := ⟨RX12, "all", "(I)I"⟩
abbrev cX12_keeps : ByteArray := prog_14_method_58_code
def yX12_keeps : MethodName := ⟨RX12, "keeps", "(I)V"⟩
abbrev cX12_laysBack : ByteArray := prog_14_method_59_code
def yX12_laysBack : MethodName := ⟨RX12, "laysBack", "(I)V"⟩
abbrev cX12_best : ByteArray := prog_14_method_60_code
def yX12_best : MethodName := ⟨RX12, "best", "(II)I"⟩
abbrev cX12_makesSafe : ByteArray := prog_14_method_61_code
def yX12_makesSafe : MethodName := ⟨RX12, "makesSafe", "(III)Z"⟩
abbrev cX12_fewest : ByteArray := prog_14_method_62_code
def yX12_fewest : MethodName := ⟨RX12, "fewest", "(I)I"⟩
abbrev cX12_worst : ByteArray := prog_14_method_63_code
def yX12_worst : MethodName := ⟨RX12, "worst", "(I)I"⟩
abbrev cX12_letGo : ByteArray := prog_14_method_64_code
def yX12_letGo : MethodName := ⟨RX12, "letGo", "()I"⟩
abbrev cX12_hasSet : ByteArray := prog_14_method_65_code
def yX12_hasSet : MethodName := ⟨RX12, "hasSet", "(I)I"⟩
abbrev cX12_again : ByteArray := prog_14_method_66_code
def yX12_again : MethodName := ⟨RX12, "again", "(II)I"⟩
abbrev cX12_goes : ByteArray := prog_14_method_67_code
def yX12_goes : MethodName := ⟨RX12, "goes", "(I)I"⟩
abbrev cX12_isPlan : ByteArray := prog_14_method_68_code
def yX12_isPlan : MethodName := ⟨RX12, "isPlan", "(I)Z"⟩
abbrev cX12_plan : ByteArray := prog_14_method_69_code
def yX12_plan : MethodName := ⟨RX12, "plan", "(II)I"⟩
abbrev cX12_unlike : ByteArray := prog_14_method_70_code
def yX12_unlike : MethodName := ⟨RX12, "unlike", "(II)I"⟩
abbrev cX12_comesTo : ByteArray := prog_14_method_71_code
def yX12_comesTo : MethodName := ⟨RX12, "comesTo", "(III)Z"⟩
abbrev cX12_tells : ByteArray := prog_14_method_72_code
def yX12_tells : MethodName := ⟨RX12, "tells", "(IIII)I"⟩
abbrev cX12_film : ByteArray := prog_14_method_73_code
def yX12_film : MethodName := ⟨RX12, "film", "(II)I"⟩
abbrev cX12_goneBy : ByteArray := prog_14_method_74_code
def yX12_goneBy : MethodName := ⟨RX12, "goneBy", "(I)I"⟩
abbrev cX12_lot : ByteArray := prog_14_method_75_code
def yX12_lot : MethodName := ⟨RX12, "lot", "(I)I"⟩
abbrev cX12_chance : ByteArray := prog_14_method_76_code
def yX12_chance : MethodName := ⟨RX12, "chance", "(III)J"⟩
abbrev cX12_image : ByteArray := prog_14_method_77_code
def yX12_image : MethodName := ⟨RX12, "image", "()I"⟩
abbrev cX12_back : ByteArray := prog_14_method_78_code
def yX12_back : MethodName := ⟨RX12, "back", "()I"⟩
abbrev cX12_count : ByteArray := prog_14_method_79_code
def yX12_count : MethodName := ⟨RX12, "count", "(I)I"⟩
abbrev cX12_isSheet : ByteArray := prog_14_method_80_code
def yX12_isSheet : MethodName := ⟨RX12, "isSheet", "(I)Z"⟩
abbrev cX12_sheet : ByteArray := prog_14_method_81_code
def yX12_sheet : MethodName := ⟨RX12, "sheet", "(III)I"⟩
abbrev cX12_cell : ByteArray := prog_14_method_82_code
def yX12_cell : MethodName := ⟨RX12, "cell", "(III)I"⟩
abbrev cX12_copy : ByteArray := prog_14_method_83_code
def yX12_copy : MethodName := ⟨RX12, "copy", "(IIIII)I"⟩
abbrev cX12_disks : ByteArray := prog_14_method_84_code
def yX12_disks : MethodName := ⟨RX12, "disks", "(IIII)I"⟩
abbrev cX12_over : ByteArray := prog_14_method_85_code
def yX12_over : MethodName := ⟨RX12, "over", "(I)I"⟩
abbrev cX12_taken : ByteArray := prog_14_method_86_code
def yX12_taken : MethodName := ⟨RX12, "taken", "(II)I"⟩
def RJx145de : String := "java/io/Serializable"
def TJx145de : u_T := fun k => match k with
  | _ => ("", "", "", false)
def tyJx145de : Nat → FieldType := fun k => match k with
  | _ => .int
abbrev wsJx145de0 : List Cond := u_ws RJx145de TJx145de 0
theorem nmJx145de : ∀ a, a < 0 → ∀ b, b < 0 → a ≠ b → (TJx145de a).2.1 ≠ (TJx145de b).2.1 := by decide +kernel
theorem tyJx145de_ok : ∀ k, k < 0 → parseFieldDescriptor (TJx145de k).2.2.1 = some (tyJx145de k) := by decide +kernel
def RJx9f9b0 : String := "java/lang/CharSequence"
def TJx9f9b0 : u_T := fun k => match k with
  | _ => ("", "", "", false)
def tyJx9f9b0 : Nat → FieldType := fun k => match k with
  | _ => .int
abbrev wsJx9f9b00 : List Cond := u_ws RJx9f9b0 TJx9f9b0 0
theorem nmJx9f9b0 : ∀ a, a < 0 → ∀ b, b < 0 → a ≠ b → (TJx9f9b0 a).2.1 ≠ (TJx9f9b0 b).2.1 := by decide +kernel
theorem tyJx9f9b0_ok : ∀ k, k < 0 → parseFieldDescriptor (TJx9f9b0 k).2.2.1 = some (tyJx9f9b0 k) := by decide +kernel
def RJxb160c : String := "java/lang/Comparable"
def TJxb160c : u_T := fun k => match k with
  | _ => ("", "", "", false)
def tyJxb160c : Nat → FieldType := fun k => match k with
  | _ => .int
abbrev wsJxb160c0 : List Cond := u_ws RJxb160c TJxb160c 0
theorem nmJxb160c : ∀ a, a < 0 → ∀ b, b < 0 → a ≠ b → (TJxb160c a).2.1 ≠ (TJxb160c b).2.1 := by decide +kernel
theorem tyJxb160c_ok : ∀ k, k < 0 → parseFieldDescriptor (TJxb160c k).2.2.1 = some (tyJxb160c k) := by decide +kernel
def RJ6 : String := "java/lang/Integer"
def TJ6 : u_T := fun k => match k with
  | _ => ("", "", "", false)
def tyJ6 : Nat → FieldType := fun k => match k with
  | _ => .int
abbrev wsJ60 : List Cond := u_ws RJ6 TJ6 0
theorem nmJ6 : ∀ a, a < 0 → ∀ b, b < 0 → a ≠ b → (TJ6 a).2.1 ≠ (TJ6 b).2.1 := by decide +kernel
theorem tyJ6_ok : ∀ k, k < 0 → parseFieldDescriptor (TJ6 k).2.2.1 = some (tyJ6 k) := by decide +kernel
abbrev cJ6_bitCount_0f7a4 : ByteArray := prog_15_method_49_code
def yJ6_bitCount_0f7a4 : MethodName := ⟨RJ6, "bitCount", "(I)I"⟩
def RJ9 : String := "java/lang/Math"
def TJ9 : u_T := fun k => match k with
  | _ => ("", "", "", false)
def tyJ9 : Nat → FieldType := fun k => match k with
  | _ => .int
abbrev wsJ90 : List Cond := u_ws RJ9 TJ9 0
theorem nmJ9 : ∀ a, a < 0 → ∀ b, b < 0 → a ≠ b → (TJ9 a).2.1 ≠ (TJ9 b).2.1 := by decide +kernel
theorem tyJ9_ok : ∀ k, k < 0 → parseFieldDescriptor (TJ9 k).2.2.1 = some (tyJ9 k) := by decide +kernel
abbrev cJ9_max_7cf53 : ByteArray := prog_16_method_65_code
def yJ9_max_7cf53 : MethodName := ⟨RJ9, "max", "(II)I"⟩
abbrev cJ9_min_7cf53 : ByteArray := prog_16_method_69_code
def yJ9_min_7cf53 : MethodName := ⟨RJ9, "min", "(II)I"⟩
def RJ0 : String := "java/lang/String"
def TJ0 : u_T := fun k => match k with
  | _ => ("", "", "", false)
def tyJ0 : Nat → FieldType := fun k => match k with
  | _ => .int
abbrev wsJ00 : List Cond := u_ws RJ0 TJ0 0
theorem nmJ0 : ∀ a, a < 0 → ∀ b, b < 0 → a ≠ b → (TJ0 a).2.1 ≠ (TJ0 b).2.1 := by decide +kernel
theorem tyJ0_ok : ∀ k, k < 0 → parseFieldDescriptor (TJ0 k).2.2.1 = some (tyJ0 k) := by decide +kernel
abbrev cJ0_length_8abf5 : ByteArray := prog_17_method_54_code
def yJ0_length_8abf5 : MethodName := ⟨RJ0, "length", "()I"⟩
abbrev cJ0_charAt_5068e : ByteArray := prog_17_method_56_code
def yJ0_charAt_5068e : MethodName := ⟨RJ0, "charAt", "(I)C"⟩
abbrev cJ0_coder_7d493 : ByteArray := prog_17_method_152_code
def yJ0_coder_7d493 : MethodName := ⟨RJ0, "coder", "()B"⟩
abbrev cJ0_isLatin1_aae02 : ByteArray := prog_17_method_154_code
def yJ0_isLatin1_aae02 : MethodName := ⟨RJ0, "isLatin1", "()Z"⟩
abbrev cJ0_checkIndex_df160 : ByteArray := prog_17_method_155_code
def yJ0_checkIndex_df160 : MethodName := ⟨RJ0, "checkIndex", "(II)V"⟩
def RJ1 : String := "java/lang/StringLatin1"
def TJ1 : u_T := fun k => match k with
  | _ => ("", "", "", false)
def tyJ1 : Nat → FieldType := fun k => match k with
  | _ => .int
abbrev wsJ10 : List Cond := u_ws RJ1 TJ1 0
theorem nmJ1 : ∀ a, a < 0 → ∀ b, b < 0 → a ≠ b → (TJ1 a).2.1 ≠ (TJ1 b).2.1 := by decide +kernel
theorem tyJ1_ok : ∀ k, k < 0 → parseFieldDescriptor (TJ1 k).2.2.1 = some (tyJ1 k) := by decide +kernel
abbrev cJ1_charAt_3b067 : ByteArray := prog_18_method_2_code
def yJ1_charAt_3b067 : MethodName := ⟨RJ1, "charAt", "([BI)C"⟩
def RJ2 : String := "java/lang/StringUTF16"
def TJ2 : u_T := fun k => match k with
  | _ => ("", "", "", false)
def tyJ2 : Nat → FieldType := fun k => match k with
  | _ => .int
abbrev wsJ20 : List Cond := u_ws RJ2 TJ2 0
theorem nmJ2 : ∀ a, a < 0 → ∀ b, b < 0 → a ≠ b → (TJ2 a).2.1 ≠ (TJ2 b).2.1 := by decide +kernel
theorem tyJ2_ok : ∀ k, k < 0 → parseFieldDescriptor (TJ2 k).2.2.1 = some (tyJ2 k) := by decide +kernel
abbrev cJ2_getChar_3b067 : ByteArray := prog_19_method_5_code
def yJ2_getChar_3b067 : MethodName := ⟨RJ2, "getChar", "([BI)C"⟩
abbrev cJ2_length_9d52b : ByteArray := prog_19_method_6_code
def yJ2_length_9d52b : MethodName := ⟨RJ2, "length", "([B)I"⟩
abbrev cJ2_charAt_3b067 : ByteArray := prog_19_method_83_code
def yJ2_charAt_3b067 : MethodName := ⟨RJ2, "charAt", "([BI)C"⟩
abbrev cJ2_checkIndex_2214a : ByteArray := prog_19_method_91_code
def yJ2_checkIndex_2214a : MethodName := ⟨RJ2, "checkIndex", "(I[B)V"⟩
def RJ10 : String := "java/lang/System"
def TJ10 : u_T := fun k => match k with
  | _ => ("", "", "", false)
def tyJ10 : Nat → FieldType := fun k => match k with
  | _ => .int
abbrev wsJ100 : List Cond := u_ws RJ10 TJ10 0
theorem nmJ10 : ∀ a, a < 0 → ∀ b, b < 0 → a ≠ b → (TJ10 a).2.1 ≠ (TJ10 b).2.1 := by decide +kernel
theorem tyJ10_ok : ∀ k, k < 0 → parseFieldDescriptor (TJ10 k).2.2.1 = some (tyJ10 k) := by decide +kernel
def RJxfd54e : String := "java/lang/constant/Constable"
def TJxfd54e : u_T := fun k => match k with
  | _ => ("", "", "", false)
def tyJxfd54e : Nat → FieldType := fun k => match k with
  | _ => .int
abbrev wsJxfd54e0 : List Cond := u_ws RJxfd54e TJxfd54e 0
theorem nmJxfd54e : ∀ a, a < 0 → ∀ b, b < 0 → a ≠ b → (TJxfd54e a).2.1 ≠ (TJxfd54e b).2.1 := by decide +kernel
theorem tyJxfd54e_ok : ∀ k, k < 0 → parseFieldDescriptor (TJxfd54e k).2.2.1 = some (tyJxfd54e k) := by decide +kernel
def RJx3cf43 : String := "java/lang/constant/ConstantDesc"
def TJx3cf43 : u_T := fun k => match k with
  | _ => ("", "", "", false)
def tyJx3cf43 : Nat → FieldType := fun k => match k with
  | _ => .int
abbrev wsJx3cf430 : List Cond := u_ws RJx3cf43 TJx3cf43 0
theorem nmJx3cf43 : ∀ a, a < 0 → ∀ b, b < 0 → a ≠ b → (TJx3cf43 a).2.1 ≠ (TJx3cf43 b).2.1 := by decide +kernel
theorem tyJx3cf43_ok : ∀ k, k < 0 → parseFieldDescriptor (TJx3cf43 k).2.2.1 = some (tyJx3cf43 k) := by decide +kernel
def RJ7 : String := "java/util/Arrays"
def TJ7 : u_T := fun k => match k with
  | _ => ("", "", "", false)
def tyJ7 : Nat → FieldType := fun k => match k with
  | _ => .int
abbrev wsJ70 : List Cond := u_ws RJ7 TJ7 0
theorem nmJ7 : ∀ a, a < 0 → ∀ b, b < 0 → a ≠ b → (TJ7 a).2.1 ≠ (TJ7 b).2.1 := by decide +kernel
theorem tyJ7_ok : ∀ k, k < 0 → parseFieldDescriptor (TJ7 k).2.2.1 = some (tyJ7 k) := by decide +kernel
abbrev cJ7_fill_53178 : ByteArray := prog_21_method_103_code
def yJ7_fill_53178 : MethodName := ⟨RJ7, "fill", "([II)V"⟩
def RJ3 : String := "jdk/internal/util/Preconditions"
def TJ3 : u_T := fun k => match k with
  | _ => ("", "", "", false)
def tyJ3 : Nat → FieldType := fun k => match k with
  | _ => .int
abbrev wsJ30 : List Cond := u_ws RJ3 TJ3 0
theorem nmJ3 : ∀ a, a < 0 → ∀ b, b < 0 → a ≠ b → (TJ3 a).2.1 ≠ (TJ3 b).2.1 := by decide +kernel
theorem tyJ3_ok : ∀ k, k < 0 → parseFieldDescriptor (TJ3 k).2.2.1 = some (tyJ3 k) := by decide +kernel
abbrev cJ3_checkIndex_8e157 : ByteArray := prog_22_method_11_code
def yJ3_checkIndex_8e157 : MethodName := ⟨RJ3, "checkIndex", "(IILjava/util/function/BiFunction;)I"⟩
def RL : String := "InTheOldOneLaw"
abbrev cL_law : ByteArray := code
def yL_law : MethodName := ⟨RL, "law", "([I)Z"⟩
def wsL_law_r1 : List Cond := [Cond.classLink RL 7 RX11, Cond.instantiable RX11 10, Cond.initialized RX11, Cond.classLink RL 10 RX12, Cond.instantiable RX12 40, Cond.initialized RX12, Cond.methodLink RL 9 yX11_init, Cond.instanceMethod yX11_init, Cond.code yX11_init cX11_init 2 none, Cond.methodLink RX11 1 objectInit, Cond.instanceMethod objectInit, Cond.code objectInit ⟨#[0xb1]⟩ 1 none, Cond.classLink RX11 9 RX3, Cond.fieldLink RX11 11 "InTheOldOne" "kinds" "[LInTheOldOne$DiskKind;", Cond.classLink RX11 15 RX6, Cond.fieldLink RX11 17 "InTheOldOne" "texts" "[LInTheOldOne$Rule;", Cond.classLink RX11 21 RX8, Cond.fieldLink RX11 23 "InTheOldOne" "sheets" "[LInTheOldOne$Sheet;", Cond.classLink RX11 27 RX9, Cond.instantiable RX9 7, Cond.initialized RX9, Cond.fieldLink RX11 30 "InTheOldOne" "tape" "LInTheOldOne$Tape;", Cond.classLink RX11 34 RX10, Cond.instantiable RX10 4]
def wsL_law_r2 : List Cond := [Cond.initialized RX10, Cond.fieldLink RX11 37 "InTheOldOne" "now" "LInTheOldOne$World;", Cond.fieldLink RX11 41 "InTheOldOne" "kept" "LInTheOldOne$World;", Cond.fieldLink RX11 44 "InTheOldOne" "thought" "LInTheOldOne$World;", Cond.classLink RX11 47 RX2, Cond.fieldLink RX11 49 "InTheOldOne" "before" "[LInTheOldOne$Disk;", Cond.fieldLink RX11 53 "InTheOldOne" "textCount" "I", Cond.fieldLink RX11 57 "InTheOldOne" "imageKept" "Z", Cond.instantiable RX3 1, Cond.initialized RX3, Cond.classLink RX11 64 RX0, Cond.instantiable RX0 1, Cond.initialized RX0, Cond.classLink RX11 67 RX1, Cond.instantiable RX1 1, Cond.initialized RX1, Cond.classLink RX11 70 RX4, Cond.instantiable RX4 1, Cond.initialized RX4, Cond.classLink RX11 73 RX7, Cond.instantiable RX7 1, Cond.initialized RX7, Cond.classLink RX11 76 RX5, Cond.instantiable RX5 1]
def wsL_law_r3 : List Cond := [Cond.initialized RX5, Cond.instantiable RX6 6, Cond.initialized RX6, Cond.instantiable RX8 3, Cond.initialized RX8, Cond.instantiable RX2 6, Cond.initialized RX2, Cond.fieldLink RX11 104 "InTheOldOne$Tape" "rule" "LInTheOldOne$Rule;", Cond.instanceMethod yX9_init, Cond.code yX9_init cX9_init 1 none, Cond.methodLink RX9 3 objectInit, Cond.arrayClass .int, Cond.fieldLink RX9 9 "InTheOldOne$Tape" "bytes" "[I", Cond.classLink RX9 15 RX6, Cond.fieldLink RX9 18 "InTheOldOne$Tape" "rule" "LInTheOldOne$Rule;", Cond.instanceMethod yX6_init, Cond.code yX6_init cX6_init 1 none, Cond.methodLink RX6 3 objectInit, Cond.fieldLink RX6 9 "InTheOldOne$Rule" "steps" "[I", Cond.fieldLink RX6 15 "InTheOldOne$Rule" "ends" "[I", Cond.fieldLink RX6 18 "InTheOldOne$Rule" "names" "[I", Cond.fieldLink RX6 21 "InTheOldOne$Rule" "stack" "[I", Cond.methodLink RX11 36 yX10_init, Cond.instanceMethod yX10_init]
def wsL_law_r4 : List Cond := [Cond.code yX10_init cX10_init 2 none, Cond.methodLink RX10 3 objectInit, Cond.classLink RX10 9 RX2, Cond.fieldLink RX10 11 "InTheOldOne$World" "disks" "[LInTheOldOne$Disk;", Cond.instanceMethod yX2_init, Cond.code yX2_init cX2_init 1 none, Cond.methodLink RX2 3 objectInit, Cond.classLink RX2 9 RX3, Cond.fieldLink RX2 14 "InTheOldOne$Disk" "kind" "LInTheOldOne$DiskKind;", Cond.fieldLink RX2 20 "InTheOldOne$Disk" "contents" "[I", Cond.fieldLink RX2 24 "InTheOldOne$Disk" "stamps" "[I", Cond.methodLink RX2 11 yX3_init, Cond.instanceMethod yX3_init, Cond.code yX3_init cX3_init 2 none, Cond.methodLink RX3 3 objectInit, Cond.fieldLink RX3 9 "InTheOldOne$DiskKind" "code" "I", Cond.methodLink RX11 61 yX3_init, Cond.methodLink RX11 66 yX0_init, Cond.instanceMethod yX0_init, Cond.code yX0_init cX0_init 2 none, Cond.methodLink RX0 1 yX3_init, Cond.methodLink RX11 69 yX1_init, Cond.instanceMethod yX1_init, Cond.code yX1_init cX1_init 2 none]
def wsL_law_r5 : List Cond := [Cond.methodLink RX1 1 yX3_init, Cond.methodLink RX11 72 yX4_init, Cond.instanceMethod yX4_init, Cond.code yX4_init cX4_init 2 none, Cond.methodLink RX4 1 yX0_init, Cond.methodLink RX11 75 yX7_init, Cond.instanceMethod yX7_init, Cond.code yX7_init cX7_init 2 none, Cond.methodLink RX7 1 yX1_init, Cond.methodLink RX11 78 yX5_init, Cond.instanceMethod yX5_init, Cond.code yX5_init cX5_init 2 none, Cond.methodLink RX5 1 yX3_init, Cond.instanceMethod yX8_init, Cond.code yX8_init cX8_init 1 none, Cond.methodLink RX8 3 objectInit, Cond.fieldLink RX8 9 "InTheOldOne$Sheet" "row" "[I", Cond.fieldLink RX8 15 "InTheOldOne$Sheet" "sort" "I", Cond.methodLink RX11 84 yJ0_length_8abf5, Cond.instanceMethod yJ0_length_8abf5, Cond.selects RJ0 yJ0_length_8abf5 yJ0_length_8abf5, Cond.initialized RJ0, Cond.code yJ0_length_8abf5 cJ0_length_8abf5 1 (some .int), Cond.fieldLink RJ0 9 "java/lang/String" "value" "[B"]
def wsL_law_r6 : List Cond := [Cond.methodLink RJ0 335 yJ0_coder_7d493, Cond.instanceMethod yJ0_coder_7d493, Cond.selects RJ0 yJ0_coder_7d493 yJ0_coder_7d493, Cond.code yJ0_coder_7d493 cJ0_coder_7d493 1 (some .byte), Cond.fieldLink RJ0 38 "java/lang/String" "COMPACT_STRINGS" "Z", Cond.fieldLink RJ0 15 "java/lang/String" "coder" "B", Cond.methodLink RX11 90 yJ0_charAt_5068e, Cond.instanceMethod yJ0_charAt_5068e, Cond.selects RJ0 yJ0_charAt_5068e yJ0_charAt_5068e, Cond.code yJ0_charAt_5068e cJ0_charAt_5068e 2 (some .char), Cond.methodLink RJ0 492 yJ0_isLatin1_aae02, Cond.instanceMethod yJ0_isLatin1_aae02, Cond.selects RJ0 yJ0_isLatin1_aae02 yJ0_isLatin1_aae02, Cond.code yJ0_isLatin1_aae02 cJ0_isLatin1_aae02 1 (some .boolean), Cond.methodLink RJ0 495 yJ1_charAt_3b067, Cond.static yJ1_charAt_3b067, Cond.initialized RJ1, Cond.code yJ1_charAt_3b067 cJ1_charAt_3b067 2 (some .char), Cond.methodLink RJ1 9 yJ0_checkIndex_df160, Cond.static yJ0_checkIndex_df160, Cond.code yJ0_checkIndex_df160 cJ0_checkIndex_df160 2 none, Cond.fieldLink RJ0 1053 "jdk/internal/util/Preconditions" "SIOOBE_FORMATTER" "Ljava/util/function/BiFunction;", Cond.methodLink RJ0 1059 yJ3_checkIndex_8e157, Cond.static yJ3_checkIndex_8e157]
def wsL_law_r7 : List Cond := [Cond.initialized RJ3, Cond.code yJ3_checkIndex_8e157 cJ3_checkIndex_8e157 3 (some .int), Cond.methodLink RJ0 498 yJ2_charAt_3b067, Cond.static yJ2_charAt_3b067, Cond.initialized RJ2, Cond.code yJ2_charAt_3b067 cJ2_charAt_3b067 2 (some .char), Cond.methodLink RJ2 67 yJ2_checkIndex_2214a, Cond.static yJ2_checkIndex_2214a, Cond.code yJ2_checkIndex_2214a cJ2_checkIndex_2214a 2 none, Cond.methodLink RJ2 48 yJ2_length_9d52b, Cond.static yJ2_length_9d52b, Cond.code yJ2_length_9d52b cJ2_length_9d52b 1 (some .int), Cond.methodLink RJ2 414 yJ0_checkIndex_df160, Cond.methodLink RJ2 71 yJ2_getChar_3b067, Cond.static yJ2_getChar_3b067, Cond.code yJ2_getChar_3b067 cJ2_getChar_3b067 2 (some .char), Cond.fieldLink RJ2 44 "java/lang/StringUTF16" "$assertionsDisabled" "Z", Cond.fieldLink RJ2 59 "java/lang/StringUTF16" "HI_BYTE_SHIFT" "I", Cond.fieldLink RJ2 63 "java/lang/StringUTF16" "LO_BYTE_SHIFT" "I", Cond.methodLink RX11 94 yX9_add, Cond.instanceMethod yX9_add, Cond.selects RX9 yX9_add yX9_add, Cond.code yX9_add cX9_add 2 (some .boolean), Cond.fieldLink RX9 22 "InTheOldOne$Tape" "size" "I"]
def wsL_law_r8 : List Cond := [Cond.methodLink RX11 98 yX9_read, Cond.instanceMethod yX9_read, Cond.selects RX9 yX9_read yX9_read, Cond.code yX9_read cX9_read 2 (some .int), Cond.fieldLink RX9 29 "InTheOldOne$Tape" "next" "I", Cond.fieldLink RX9 35 "InTheOldOne$Tape" "token" "I", Cond.fieldLink RX9 38 "InTheOldOne$Tape" "place" "I", Cond.methodLink RX9 26 yX6_clear, Cond.instanceMethod yX6_clear, Cond.selects RX6 yX6_clear yX6_clear, Cond.code yX6_clear cX6_clear 1 none, Cond.fieldLink RX6 24 "InTheOldOne$Rule" "size" "I", Cond.methodLink RX9 32 yX9_advance, Cond.instanceMethod yX9_advance, Cond.selects RX9 yX9_advance yX9_advance, Cond.code yX9_advance cX9_advance 1 none, Cond.methodLink RX9 66 yX9_isLetter, Cond.static yX9_isLetter, Cond.code yX9_isLetter cX9_isLetter 1 (some .boolean), Cond.methodLink RX9 69 yX9_readWord, Cond.instanceMethod yX9_readWord, Cond.selects RX9 yX9_readWord yX9_readWord, Cond.code yX9_readWord cX9_readWord 2 none, Cond.fieldLink RX9 63 "InTheOldOne$Tape" "value" "I"]
def wsL_law_r9 : List Cond := [Cond.methodLink RX9 81 yX9_wordIndex, Cond.instanceMethod yX9_wordIndex, Cond.selects RX9 yX9_wordIndex yX9_wordIndex, Cond.code yX9_wordIndex cX9_wordIndex 4 (some .int), Cond.methodLink RX9 87 yJ0_length_8abf5, Cond.methodLink RX9 92 yJ0_charAt_5068e, Cond.methodLink RX9 96 yX9_isSpelled, Cond.instanceMethod yX9_isSpelled, Cond.selects RX9 yX9_isSpelled yX9_isSpelled, Cond.code yX9_isSpelled cX9_isSpelled 4 (some .boolean), Cond.methodLink RX9 72 yX9_isDigit, Cond.static yX9_isDigit, Cond.code yX9_isDigit cX9_isDigit 1 (some .boolean), Cond.methodLink RX9 75 yX9_readNumber, Cond.instanceMethod yX9_readNumber, Cond.selects RX9 yX9_readNumber yX9_readNumber, Cond.code yX9_readNumber cX9_readNumber 2 none, Cond.methodLink RX9 78 yX9_isSign, Cond.static yX9_isSign, Cond.code yX9_isSign cX9_isSign 1 (some .boolean), Cond.methodLink RX9 41 yX9_readLevel, Cond.instanceMethod yX9_readLevel, Cond.selects RX9 yX9_readLevel yX9_readLevel, Cond.code yX9_readLevel cX9_readLevel 7 (some .boolean)]
def wsL_law_r10 : List Cond := [Cond.methodLink RX9 49 yX9_readOne, Cond.instanceMethod yX9_readOne, Cond.selects RX9 yX9_readOne yX9_readOne, Cond.methodLink RX9 53 yX9_readDenied, Cond.instanceMethod yX9_readDenied, Cond.selects RX9 yX9_readDenied yX9_readDenied, Cond.methodLink RX9 56 yX9_stepOn, Cond.instanceMethod yX9_stepOn, Cond.selects RX9 yX9_stepOn yX9_stepOn, Cond.code yX9_stepOn cX9_stepOn 2 (some .int), Cond.methodLink RX9 60 yX6_add, Cond.instanceMethod yX6_add, Cond.selects RX6 yX6_add yX6_add, Cond.code yX6_add cX6_add 2 none, Cond.code yX9_readDenied cX9_readDenied 3 (some .boolean), Cond.code yX9_readOne cX9_readOne 4 (some .boolean), Cond.methodLink RX9 45 yX6_endPart, Cond.instanceMethod yX6_endPart, Cond.selects RX6 yX6_endPart yX6_endPart, Cond.code yX6_endPart cX6_endPart 2 none, Cond.methodLink RX11 101 yX9_clear, Cond.instanceMethod yX9_clear, Cond.selects RX9 yX9_clear yX9_clear, Cond.code yX9_clear cX9_clear 1 none]
def wsL_law_r11 : List Cond := [Cond.methodLink RX11 108 yX6_become, Cond.instanceMethod yX6_become, Cond.selects RX6 yX6_become yX6_become, Cond.code yX6_become cX6_become 2 none, Cond.methodLink RX6 28 arraycopyName, Cond.native arraycopyName, Cond.static arraycopyName, Cond.initialized "java/lang/System", Cond.methodLink RL 12 yX12_init, Cond.instanceMethod yX12_init, Cond.code yX12_init cX12_init 1 none, Cond.methodLink RX12 7 objectInit, Cond.fieldLink RX12 13 "InTheOldOneModel" "texts" "[I", Cond.fieldLink RX12 17 "InTheOldOneModel" "textSize" "[I", Cond.fieldLink RX12 20 "InTheOldOneModel" "tape" "[I", Cond.fieldLink RX12 23 "InTheOldOneModel" "kinds" "[I", Cond.fieldLink RX12 26 "InTheOldOneModel" "rows" "[I", Cond.fieldLink RX12 29 "InTheOldOneModel" "contents" "[I", Cond.fieldLink RX12 32 "InTheOldOneModel" "stamps" "[I", Cond.fieldLink RX12 35 "InTheOldOneModel" "frames" "[I", Cond.fieldLink RX12 38 "InTheOldOneModel" "rowsKept" "[I", Cond.fieldLink RX12 41 "InTheOldOneModel" "contentsKept" "[I", Cond.fieldLink RX12 44 "InTheOldOneModel" "stampsKept" "[I", Cond.fieldLink RX12 47 "InTheOldOneModel" "manyKept" "I"]
def wsL_law_r12 : List Cond := [Cond.arrayClass .boolean, Cond.fieldLink RX12 50 "InTheOldOneModel" "isThere" "[Z", Cond.fieldLink RX12 54 "InTheOldOneModel" "sorts" "[I", Cond.fieldLink RX12 57 "InTheOldOneModel" "sheetSize" "[I", Cond.fieldLink RX12 60 "InTheOldOneModel" "items" "[I", Cond.fieldLink RX12 67 "InTheOldOneModel" "textCount" "I", Cond.methodLink RX12 63 yX12_spell, Cond.instanceMethod yX12_spell, Cond.selects RX12 yX12_spell yX12_spell, Cond.code yX12_spell cX12_spell 10 none, Cond.methodLink RL 13 yX11_set, Cond.instanceMethod yX11_set, Cond.selects RX11 yX11_set yX11_set, Cond.code yX11_set cX11_set 5 (some .int), Cond.fieldLink RX11 115 "InTheOldOne$World" "day" "I", Cond.fieldLink RX11 118 "InTheOldOne$World" "disks" "[LInTheOldOne$Disk;", Cond.fieldLink RX11 121 "InTheOldOne$Disk" "number" "I", Cond.fieldLink RX11 124 "InTheOldOne$Disk" "since" "I", Cond.methodLink RX11 112 yX10_has, Cond.instanceMethod yX10_has, Cond.selects RX10 yX10_has yX10_has, Cond.code yX10_has cX10_has 2 (some .boolean), Cond.fieldLink RX10 25 "InTheOldOne$World" "size" "I", Cond.methodLink RL 17 yX12_set]
def wsL_law_r13 : List Cond := [Cond.instanceMethod yX12_set, Cond.selects RX12 yX12_set yX12_set, Cond.code yX12_set cX12_set 5 (some .int), Cond.constantLong RX12 79 (2), Cond.constantLong RX12 85 (9), Cond.constantLong RX12 87 (999), Cond.methodLink RX12 73 yX12_in, Cond.static yX12_in, Cond.code yX12_in cX12_in 6 (some .boolean), Cond.methodLink RX12 81 yX12_isDisk, Cond.instanceMethod yX12_isDisk, Cond.selects RX12 yX12_isDisk yX12_isDisk, Cond.code yX12_isDisk cX12_isDisk 2 (some .boolean), Cond.fieldLink RX12 70 "InTheOldOneModel" "many" "I", Cond.methodLink RX12 89 yX12_told, Cond.instanceMethod yX12_told, Cond.selects RX12 yX12_told yX12_told, Cond.code yX12_told cX12_told 3 (some .int), Cond.constantLong RX12 109 (8), Cond.fieldLink RX12 97 "InTheOldOneModel" "dayNow" "I", Cond.methodLink RX12 111 yX12_reads, Cond.instanceMethod yX12_reads, Cond.selects RX12 yX12_reads yX12_reads, Cond.code yX12_reads cX12_reads 5 (some .boolean)]
def wsL_law_r14 : List Cond := [Cond.methodLink RX12 114 yX12_stampsOf, Cond.instanceMethod yX12_stampsOf, Cond.selects RX12 yX12_stampsOf yX12_stampsOf, Cond.code yX12_stampsOf cX12_stampsOf 4 (some .int), Cond.methodLink RX12 118 yX12_roomOf, Cond.instanceMethod yX12_roomOf, Cond.selects RX12 yX12_roomOf yX12_roomOf, Cond.code yX12_roomOf cX12_roomOf 3 (some .int), Cond.methodLink RX12 121 yX12_hasOf, Cond.instanceMethod yX12_hasOf, Cond.selects RX12 yX12_hasOf yX12_hasOf, Cond.code yX12_hasOf cX12_hasOf 4 (some .int), Cond.methodLink RX12 124 yX12_goesOf, Cond.instanceMethod yX12_goesOf, Cond.selects RX12 yX12_goesOf yX12_goesOf, Cond.code yX12_goesOf cX12_goesOf 2 (some .int), Cond.methodLink RX12 253 yX12_plainOf, Cond.instanceMethod yX12_plainOf, Cond.selects RX12 yX12_plainOf yX12_plainOf, Cond.code yX12_plainOf cX12_plainOf 5 (some .int), Cond.fieldLink RX12 191 "InTheOldOneModel" "ofHere" "I", Cond.fieldLink RX12 194 "InTheOldOneModel" "ofThere" "I", Cond.fieldLink RX12 197 "InTheOldOneModel" "ofSame" "I", Cond.fieldLink RX12 200 "InTheOldOneModel" "ofNumber" "I"]
def wsL_law_r15 : List Cond := [Cond.fieldLink RX12 203 "InTheOldOneModel" "ofFile" "I", Cond.fieldLink RX12 206 "InTheOldOneModel" "ofDay" "I", Cond.fieldLink RX12 100 "InTheOldOneModel" "rule" "I", Cond.methodLink RX12 246 yX12_read, Cond.instanceMethod yX12_read, Cond.selects RX12 yX12_read yX12_read, Cond.code yX12_read cX12_read 6 (some .int), Cond.fieldLink RX12 138 "InTheOldOneModel" "from" "I", Cond.fieldLink RX12 135 "InTheOldOneModel" "size" "I", Cond.fieldLink RX12 141 "InTheOldOneModel" "here" "I", Cond.fieldLink RX12 178 "InTheOldOneModel" "open" "I", Cond.fieldLink RX12 167 "InTheOldOneModel" "bad" "Z", Cond.fieldLink RX12 150 "InTheOldOneModel" "token" "I", Cond.methodLink RX12 184 yX12_next, Cond.instanceMethod yX12_next, Cond.selects RX12 yX12_next yX12_next, Cond.code yX12_next cX12_next 3 none, Cond.fieldLink RX12 147 "InTheOldOneModel" "tokenAt" "I", Cond.constantLong RX12 153 (97), Cond.constantLong RX12 155 (122), Cond.constantLong RX12 157 (48), Cond.constantLong RX12 159 (57), Cond.fieldLink RX12 161 "InTheOldOneModel" "tokenWorth" "J", Cond.constantLong RX12 165 (10)]
def wsL_law_r16 : List Cond := [Cond.methodLink RX12 144 yX12_byteAt, Cond.instanceMethod yX12_byteAt, Cond.selects RX12 yX12_byteAt yX12_byteAt, Cond.code yX12_byteAt cX12_byteAt 2 (some .int), Cond.methodLink RX12 187 yX12_isWord, Cond.instanceMethod yX12_isWord, Cond.selects RX12 yX12_isWord yX12_isWord, Cond.code yX12_isWord cX12_isWord 9 (some .boolean), Cond.methodLink RX12 174 yX12_isLetter, Cond.instanceMethod yX12_isLetter, Cond.selects RX12 yX12_isLetter yX12_isLetter, Cond.code yX12_isLetter cX12_isLetter 3 (some .boolean), Cond.methodLink RX12 242 yX12_part, Cond.instanceMethod yX12_part, Cond.selects RX12 yX12_part yX12_part, Cond.code yX12_part cX12_part 3 (some .int), Cond.methodLink RX12 181 yX12_fail, Cond.instanceMethod yX12_fail, Cond.selects RX12 yX12_fail yX12_fail, Cond.code yX12_fail cX12_fail 1 none, Cond.fieldLink RX12 171 "InTheOldOneModel" "fault" "I", Cond.methodLink RX12 220 yX12_either, Cond.instanceMethod yX12_either, Cond.selects RX12 yX12_either yX12_either]
def wsL_law_r17 : List Cond := [Cond.code yX12_either cX12_either 3 (some .int), Cond.methodLink RX12 239 yX12_both, Cond.instanceMethod yX12_both, Cond.selects RX12 yX12_both yX12_both, Cond.code yX12_added cX12_added 4 (some .int), Cond.constantLong RX12 229 (43), Cond.methodLink RX12 226 yX12_term, Cond.instanceMethod yX12_term, Cond.selects RX12 yX12_term yX12_term, Cond.methodLink RX12 209 yX12_isSign, Cond.instanceMethod yX12_isSign, Cond.selects RX12 yX12_isSign yX12_isSign, Cond.code yX12_isSign cX12_isSign 2 (some .boolean), Cond.code yX12_atom cX12_atom 2 (some .int), Cond.methodLink RX12 212 yX12_opens, Cond.instanceMethod yX12_opens, Cond.selects RX12 yX12_opens yX12_opens, Cond.code yX12_opens cX12_opens 1 (some .boolean), Cond.methodLink RX12 216 yX12_atom, Cond.instanceMethod yX12_atom, Cond.selects RX12 yX12_atom yX12_atom, Cond.methodLink RX12 223 yX12_name, Cond.instanceMethod yX12_name, Cond.selects RX12 yX12_name yX12_name]
def wsL_law_r18 : List Cond := [Cond.code yX12_name cX12_name 1 (some .int), Cond.code yX12_both cX12_both 3 (some .int), Cond.methodLink RX12 231 yX12_not, Cond.instanceMethod yX12_not, Cond.selects RX12 yX12_not yX12_not, Cond.code yX12_not cX12_not 4 (some .int), Cond.constantLong RX12 237 (60), Cond.methodLink RX12 234 yX12_added, Cond.instanceMethod yX12_added, Cond.selects RX12 yX12_added yX12_added, Cond.code yX12_term cX12_term 2 (some .int), Cond.methodLink RX12 249 yX12_within, Cond.static yX12_within, Cond.code yX12_within cX12_within 3 (some .int), Cond.methodLink RX12 93 yX12_lays, Cond.instanceMethod yX12_lays, Cond.selects RX12 yX12_lays yX12_lays, Cond.code yX12_lays cX12_lays 4 none, Cond.methodLink RL 18 yX11_disk, Cond.instanceMethod yX11_disk, Cond.selects RX11 yX11_disk yX11_disk, Cond.code yX11_disk cX11_disk 3 (some .int), Cond.methodLink RX11 127 yX11_bring, Cond.instanceMethod yX11_bring]
def wsL_law_r19 : List Cond := [Cond.selects RX11 yX11_bring yX11_bring, Cond.code yX11_bring cX11_bring 3 (some .int), Cond.fieldLink RX11 225 "InTheOldOne$World" "size" "I", Cond.methodLink RX11 313 yX2_begin, Cond.instanceMethod yX2_begin, Cond.selects RX2 yX2_begin yX2_begin, Cond.code yX2_begin cX2_begin 5 none, Cond.fieldLink RX2 27 "InTheOldOne$Disk" "number" "I", Cond.fieldLink RX2 31 "InTheOldOne$Disk" "since" "I", Cond.methodLink RX2 34 yX2_drop, Cond.instanceMethod yX2_drop, Cond.selects RX2 yX2_drop yX2_drop, Cond.code yX2_drop cX2_drop 2 none, Cond.fieldLink RX2 37 "InTheOldOne$Disk" "held" "I", Cond.static yX11_without, Cond.code yX11_without cX11_without 2 (some .int), Cond.methodLink RL 22 yX12_disk, Cond.instanceMethod yX12_disk, Cond.selects RX12 yX12_disk yX12_disk, Cond.code yX12_disk cX12_disk 4 (some .int), Cond.constantLong RX12 103 (5), Cond.methodLink RX12 105 yX12_empties, Cond.instanceMethod yX12_empties, Cond.selects RX12 yX12_empties yX12_empties]
def wsL_law_r20 : List Cond := [Cond.code yX12_empties cX12_empties 3 none, Cond.methodLink RL 23 yX11_told, Cond.instanceMethod yX11_told, Cond.selects RX11 yX11_told yX11_told, Cond.code yX11_told cX11_told 4 (some .int), Cond.fieldLink RX11 131 "InTheOldOne$Disk" "kind" "LInTheOldOne$DiskKind;", Cond.fieldLink RX11 135 "InTheOldOne$DiskKind" "code" "I", Cond.fieldLink RX11 148 "InTheOldOne$Disk" "held" "I", Cond.methodLink RX11 138 yX2_readsOn, Cond.instanceMethod yX2_readsOn, Cond.selects RX2 yX2_readsOn yX2_readsOn, Cond.code yX2_readsOn cX2_readsOn 2 (some .boolean), Cond.methodLink RX2 46 ⟨"InTheOldOne$DiskKind", "reads", "(III)Z"⟩, Cond.sameMethod "InTheOldOne$DiskKind" "InTheOldOne$DiskKind" "reads" "(III)Z", Cond.instanceMethod ⟨"InTheOldOne$DiskKind", "reads", "(III)Z"⟩, Cond.selects RX0 ⟨"InTheOldOne$DiskKind", "reads", "(III)Z"⟩ yX0_reads, Cond.instanceMethod yX0_reads, Cond.code yX0_reads cX0_reads 4 (some .boolean), Cond.code yX3_reads cX3_reads 4 (some .boolean), Cond.selects RX1 ⟨"InTheOldOne$DiskKind", "reads", "(III)Z"⟩ yX1_reads, Cond.instanceMethod yX1_reads, Cond.code yX1_reads cX1_reads 4 (some .boolean), Cond.methodLink RX2 46 yX3_reads, Cond.instanceMethod yX3_reads]
def wsL_law_r21 : List Cond := [Cond.selects RX3 yX3_reads yX3_reads, Cond.selects RX4 ⟨"InTheOldOne$DiskKind", "reads", "(III)Z"⟩ yX4_reads, Cond.instanceMethod yX4_reads, Cond.code yX4_reads cX4_reads 4 (some .boolean), Cond.methodLink RX4 7 yX0_reads, Cond.sameMethod "InTheOldOne$CardKind" "InTheOldOne$CardKind" "reads" "(III)Z", Cond.superclass RX4 RX0, Cond.selects RX5 ⟨"InTheOldOne$DiskKind", "reads", "(III)Z"⟩ yX5_reads, Cond.instanceMethod yX5_reads, Cond.code yX5_reads cX5_reads 4 (some .boolean), Cond.selects RX7 ⟨"InTheOldOne$DiskKind", "reads", "(III)Z"⟩ yX7_reads, Cond.instanceMethod yX7_reads, Cond.code yX7_reads cX7_reads 4 (some .boolean), Cond.methodLink RX7 7 yX1_reads, Cond.sameMethod "InTheOldOne$CloudKind" "InTheOldOne$CloudKind" "reads" "(III)Z", Cond.superclass RX7 RX1, Cond.methodLink RX11 141 ⟨"InTheOldOne$DiskKind", "stampOn", "(II)I"⟩, Cond.sameMethod "InTheOldOne$DiskKind" "InTheOldOne$DiskKind" "stampOn" "(II)I", Cond.instanceMethod ⟨"InTheOldOne$DiskKind", "stampOn", "(II)I"⟩, Cond.selects RX0 ⟨"InTheOldOne$DiskKind", "stampOn", "(II)I"⟩ yX0_stampOn, Cond.instanceMethod yX0_stampOn, Cond.code yX0_stampOn cX0_stampOn 3 (some .int), Cond.methodLink RX0 7 yX3_stampOn, Cond.superclass RX0 RX3]
def wsL_law_r22 : List Cond := [Cond.instanceMethod yX3_stampOn, Cond.code yX3_stampOn cX3_stampOn 3 (some .int), Cond.selects RX1 ⟨"InTheOldOne$DiskKind", "stampOn", "(II)I"⟩ yX3_stampOn, Cond.methodLink RX11 141 yX3_stampOn, Cond.selects RX3 yX3_stampOn yX3_stampOn, Cond.selects RX4 ⟨"InTheOldOne$DiskKind", "stampOn", "(II)I"⟩ yX4_stampOn, Cond.instanceMethod yX4_stampOn, Cond.code yX4_stampOn cX4_stampOn 3 (some .int), Cond.methodLink RX4 11 yX0_stampOn, Cond.sameMethod "InTheOldOne$CardKind" "InTheOldOne$CardKind" "stampOn" "(II)I", Cond.selects RX5 ⟨"InTheOldOne$DiskKind", "stampOn", "(II)I"⟩ yX5_stampOn, Cond.instanceMethod yX5_stampOn, Cond.code yX5_stampOn cX5_stampOn 3 (some .int), Cond.selects RX7 ⟨"InTheOldOne$DiskKind", "stampOn", "(II)I"⟩ yX7_stampOn, Cond.instanceMethod yX7_stampOn, Cond.code yX7_stampOn cX7_stampOn 3 (some .int), Cond.methodLink RX11 144 ⟨"InTheOldOne$DiskKind", "roomBy", "(I)I"⟩, Cond.sameMethod "InTheOldOne$DiskKind" "InTheOldOne$DiskKind" "roomBy" "(I)I", Cond.instanceMethod ⟨"InTheOldOne$DiskKind", "roomBy", "(I)I"⟩, Cond.selects RX0 ⟨"InTheOldOne$DiskKind", "roomBy", "(I)I"⟩ yX0_roomBy, Cond.instanceMethod yX0_roomBy, Cond.code yX0_roomBy cX0_roomBy 2 (some .int), Cond.code yX3_roomBy cX3_roomBy 2 (some .int), Cond.selects RX1 ⟨"InTheOldOne$DiskKind", "roomBy", "(I)I"⟩ yX3_roomBy]
def wsL_law_r23 : List Cond := [Cond.instanceMethod yX3_roomBy, Cond.methodLink RX11 144 yX3_roomBy, Cond.selects RX3 yX3_roomBy yX3_roomBy, Cond.selects RX4 ⟨"InTheOldOne$DiskKind", "roomBy", "(I)I"⟩ yX0_roomBy, Cond.selects RX5 ⟨"InTheOldOne$DiskKind", "roomBy", "(I)I"⟩ yX5_roomBy, Cond.instanceMethod yX5_roomBy, Cond.code yX5_roomBy cX5_roomBy 2 (some .int), Cond.selects RX7 ⟨"InTheOldOne$DiskKind", "roomBy", "(I)I"⟩ yX3_roomBy, Cond.methodLink RX11 151 yJ6_bitCount_0f7a4, Cond.static yJ6_bitCount_0f7a4, Cond.initialized RJ6, Cond.code yJ6_bitCount_0f7a4 cJ6_bitCount_0f7a4 1 (some .int), Cond.constant RJ6 265 (1431655765), Cond.constant RJ6 266 (858993459), Cond.constant RJ6 267 (252645135), Cond.methodLink RX11 156 yX11_rule, Cond.instanceMethod yX11_rule, Cond.selects RX11 yX11_rule yX11_rule, Cond.code yX11_rule cX11_rule 1 (some (.object "InTheOldOne$Rule")), Cond.fieldLink RX11 175 "InTheOldOne$World" "rule" "I", Cond.methodLink RX11 159 yX6_likelihood, Cond.instanceMethod yX6_likelihood, Cond.selects RX6 yX6_likelihood yX6_likelihood, Cond.code yX6_likelihood cX6_likelihood 3 (some .int)]
def wsL_law_r24 : List Cond := [Cond.methodLink RX6 45 Lib.Math.min.name, Cond.static Lib.Math.min.name, Cond.initialized "java/lang/Math", Cond.code Lib.Math.min.name Lib.Math.min.code 2 (some .int), Cond.methodLink RX6 51 Lib.Math.max.name, Cond.static Lib.Math.max.name, Cond.code Lib.Math.max.name Lib.Math.max.code 2 (some .int), Cond.methodLink RX6 42 yX6_nameNothingThere, Cond.instanceMethod yX6_nameNothingThere, Cond.selects RX6 yX6_nameNothingThere yX6_nameNothingThere, Cond.code yX6_nameNothingThere cX6_nameNothingThere 1 none, Cond.methodLink RX6 34 yX6_nameRest, Cond.instanceMethod yX6_nameRest, Cond.selects RX6 yX6_nameRest yX6_nameRest, Cond.code yX6_nameRest cX6_nameRest 4 none, Cond.methodLink RX6 38 yX6_answer, Cond.instanceMethod yX6_answer, Cond.selects RX6 yX6_answer yX6_answer, Cond.code yX6_answer cX6_answer 5 (some .int), Cond.fieldLink RX6 54 "InTheOldOne$Rule" "top" "I", Cond.methodLink RX6 57 yX6_push, Cond.instanceMethod yX6_push, Cond.selects RX6 yX6_push yX6_push, Cond.code yX6_push cX6_push 2 none]
def wsL_law_r25 : List Cond := [Cond.methodLink RX6 61 yX6_turnTop, Cond.instanceMethod yX6_turnTop, Cond.selects RX6 yX6_turnTop yX6_turnTop, Cond.code yX6_turnTop cX6_turnTop 4 none, Cond.methodLink RX6 64 yX6_joinTwo, Cond.instanceMethod yX6_joinTwo, Cond.selects RX6 yX6_joinTwo yX6_joinTwo, Cond.code yX6_joinTwo cX6_joinTwo 5 none, Cond.methodLink RL 26 yX12_told, Cond.methodLink RL 27 yX11_file, Cond.instanceMethod yX11_file, Cond.selects RX11 yX11_file yX11_file, Cond.code yX11_file cX11_file 4 (some .int), Cond.fieldLink RX11 165 "InTheOldOne$Disk" "contents" "[I", Cond.fieldLink RX11 169 "InTheOldOne$Disk" "stamps" "[I", Cond.methodLink RX11 162 yX11_isFile, Cond.static yX11_isFile, Cond.code yX11_isFile cX11_isFile 1 (some .boolean), Cond.methodLink RL 30 yX12_file, Cond.instanceMethod yX12_file, Cond.selects RX12 yX12_file yX12_file, Cond.code yX12_file cX12_file 4 (some .int), Cond.methodLink RX12 127 yX12_isFile, Cond.static yX12_isFile]
def wsL_law_r26 : List Cond := [Cond.code yX12_isFile cX12_isFile 1 (some .boolean), Cond.constantLong RX12 77 (7), Cond.methodLink RL 31 yX11_feed, Cond.instanceMethod yX11_feed, Cond.selects RX11 yX11_feed yX11_feed, Cond.code yX11_feed cX11_feed 2 (some .int), Cond.fieldLink RX11 172 "InTheOldOne$Tape" "size" "I", Cond.methodLink RL 35 yX12_feed, Cond.instanceMethod yX12_feed, Cond.selects RX12 yX12_feed yX12_feed, Cond.code yX12_feed cX12_feed 2 (some .int), Cond.constantLong RX12 130 (255), Cond.fieldLink RX12 132 "InTheOldOneModel" "taped" "I", Cond.methodLink RL 36 yX11_text, Cond.instanceMethod yX11_text, Cond.selects RX11 yX11_text yX11_text, Cond.code yX11_text cX11_text 2 (some .int), Cond.methodLink RL 40 yX12_text, Cond.instanceMethod yX12_text, Cond.selects RX12 yX12_text yX12_text, Cond.code yX12_text cX12_text 2 (some .int), Cond.methodLink RL 41 yX11_force, Cond.instanceMethod yX11_force, Cond.selects RX11 yX11_force yX11_force]
def wsL_law_r27 : List Cond := [Cond.code yX11_force cX11_force 3 (some .int), Cond.methodLink RL 44 yX12_force, Cond.instanceMethod yX12_force, Cond.selects RX12 yX12_force yX12_force, Cond.code yX12_force cX12_force 3 (some .int), Cond.methodLink RL 45 yX11_write, Cond.instanceMethod yX11_write, Cond.selects RX11 yX11_write yX11_write, Cond.code yX11_write cX11_write 5 (some .int), Cond.methodLink RX11 177 yX2_takesIn, Cond.instanceMethod yX2_takesIn, Cond.selects RX2 yX2_takesIn yX2_takesIn, Cond.code yX2_takesIn cX2_takesIn 2 (some .boolean), Cond.static yX11_isIn, Cond.code yX11_isIn cX11_isIn 2 (some .boolean), Cond.methodLink RX2 54 yJ6_bitCount_0f7a4, Cond.methodLink RX2 60 ⟨"InTheOldOne$DiskKind", "roomBy", "(I)I"⟩, Cond.methodLink RX2 60 yX3_roomBy, Cond.methodLink RX11 180 yX2_put, Cond.instanceMethod yX2_put, Cond.selects RX2 yX2_put yX2_put, Cond.code yX2_put cX2_put 4 none, Cond.methodLink RX2 63 ⟨"InTheOldOne$DiskKind", "keeps", "(I)I"⟩, Cond.sameMethod "InTheOldOne$DiskKind" "InTheOldOne$DiskKind" "keeps" "(I)I"]
def wsL_law_r28 : List Cond := [Cond.selects RX0 ⟨"InTheOldOne$DiskKind", "keeps", "(I)I"⟩ yX3_keeps, Cond.instanceMethod yX3_keeps, Cond.code yX3_keeps cX3_keeps 2 (some .int), Cond.selects RX1 ⟨"InTheOldOne$DiskKind", "keeps", "(I)I"⟩ yX3_keeps, Cond.methodLink RX2 63 yX3_keeps, Cond.selects RX3 yX3_keeps yX3_keeps, Cond.instanceMethod ⟨"InTheOldOne$DiskKind", "keeps", "(I)I"⟩, Cond.selects RX4 ⟨"InTheOldOne$DiskKind", "keeps", "(I)I"⟩ yX4_keeps, Cond.instanceMethod yX4_keeps, Cond.code yX4_keeps cX4_keeps 2 (some .int), Cond.methodLink RX4 15 Lib.Math.min.name, Cond.selects RX5 ⟨"InTheOldOne$DiskKind", "keeps", "(I)I"⟩ yX5_keeps, Cond.instanceMethod yX5_keeps, Cond.code yX5_keeps cX5_keeps 2 (some .int), Cond.selects RX7 ⟨"InTheOldOne$DiskKind", "keeps", "(I)I"⟩ yX3_keeps, Cond.methodLink RL 48 yX12_write, Cond.instanceMethod yX12_write, Cond.selects RX12 yX12_write yX12_write, Cond.code yX12_write cX12_write 5 (some .int), Cond.methodLink RX12 257 yX12_hasRoom, Cond.instanceMethod yX12_hasRoom, Cond.selects RX12 yX12_hasRoom yX12_hasRoom, Cond.code yX12_hasRoom cX12_hasRoom 3 (some .boolean), Cond.methodLink RX12 260 yX12_keepsOf]
def wsL_law_r29 : List Cond := [Cond.instanceMethod yX12_keepsOf, Cond.selects RX12 yX12_keepsOf yX12_keepsOf, Cond.code yX12_keepsOf cX12_keepsOf 3 (some .int), Cond.methodLink RL 49 yX11_lose, Cond.instanceMethod yX11_lose, Cond.selects RX11 yX11_lose yX11_lose, Cond.code yX11_lose cX11_lose 5 (some .int), Cond.methodLink RX11 184 yX2_drop, Cond.methodLink RL 52 yX12_lose, Cond.instanceMethod yX12_lose, Cond.selects RX12 yX12_lose yX12_lose, Cond.code yX12_lose cX12_lose 4 (some .int), Cond.methodLink RL 53 yX11_copies, Cond.instanceMethod yX11_copies, Cond.selects RX11 yX11_copies yX11_copies, Cond.code yX11_copies cX11_copies 3 (some .int), Cond.methodLink RX11 187 yX11_areTwo, Cond.instanceMethod yX11_areTwo, Cond.selects RX11 yX11_areTwo yX11_areTwo, Cond.code yX11_areTwo cX11_areTwo 3 (some .boolean), Cond.methodLink RX11 191 yX10_canCopy, Cond.instanceMethod yX10_canCopy, Cond.selects RX10 yX10_canCopy yX10_canCopy, Cond.code yX10_canCopy cX10_canCopy 3 (some .boolean)]
def wsL_law_r30 : List Cond := [Cond.fieldLink RX10 18 "InTheOldOne$World" "day" "I", Cond.methodLink RX10 32 yX2_readsOn, Cond.methodLink RX11 194 yX10_copyOnto, Cond.instanceMethod yX10_copyOnto, Cond.selects RX10 yX10_copyOnto yX10_copyOnto, Cond.code yX10_copyOnto cX10_copyOnto 9 (some .int), Cond.fieldLink RX10 40 "InTheOldOne$Disk" "held" "I", Cond.fieldLink RX10 65 "InTheOldOne$Disk" "contents" "[I", Cond.fieldLink RX10 58 "InTheOldOne$Disk" "stamps" "[I", Cond.fieldLink RX10 79 "InTheOldOne$Disk" "number" "I", Cond.methodLink RX10 76 yX2_takesIn, Cond.methodLink RX10 82 yX6_takes, Cond.instanceMethod yX6_takes, Cond.selects RX6 yX6_takes yX6_takes, Cond.code yX6_takes cX6_takes 7 (some .boolean), Cond.methodLink RX10 88 yX2_put, Cond.methodLink RL 56 yX12_copies, Cond.instanceMethod yX12_copies, Cond.selects RX12 yX12_copies yX12_copies, Cond.code yX12_copies cX12_copies 3 (some .int), Cond.methodLink RX12 267 yX12_canCopy, Cond.instanceMethod yX12_canCopy, Cond.selects RX12 yX12_canCopy yX12_canCopy, Cond.code yX12_canCopy cX12_canCopy 3 (some .boolean)]
def wsL_law_r31 : List Cond := [Cond.methodLink RX12 270 yX12_copiesAll, Cond.instanceMethod yX12_copiesAll, Cond.selects RX12 yX12_copiesAll yX12_copiesAll, Cond.code yX12_copiesAll cX12_copiesAll 6 (some .int), Cond.methodLink RX12 263 yX12_takes, Cond.instanceMethod yX12_takes, Cond.selects RX12 yX12_takes yX12_takes, Cond.code yX12_takes cX12_takes 6 (some .boolean), Cond.methodLink RL 57 yX11_on, Cond.instanceMethod yX11_on, Cond.selects RX11 yX11_on yX11_on, Cond.code yX11_on cX11_on 2 (some .int), Cond.methodLink RX11 198 yX10_holders, Cond.instanceMethod yX10_holders, Cond.selects RX10 yX10_holders yX10_holders, Cond.code yX10_holders cX10_holders 2 (some .int), Cond.methodLink RX10 43 yX10_readers, Cond.instanceMethod yX10_readers, Cond.selects RX10 yX10_readers yX10_readers, Cond.code yX10_readers cX10_readers 3 (some .int), Cond.methodLink RX10 47 yX10_holdersAmong, Cond.instanceMethod yX10_holdersAmong, Cond.selects RX10 yX10_holdersAmong yX10_holdersAmong, Cond.code yX10_holdersAmong cX10_holdersAmong 5 (some .int)]
def wsL_law_r32 : List Cond := [Cond.methodLink RL 60 yX12_on, Cond.instanceMethod yX12_on, Cond.selects RX12 yX12_on yX12_on, Cond.code yX12_on cX12_on 2 (some .int), Cond.methodLink RX12 276 yX12_onOf, Cond.instanceMethod yX12_onOf, Cond.selects RX12 yX12_onOf yX12_onOf, Cond.code yX12_onOf cX12_onOf 4 (some .int), Cond.fieldLink RX12 273 "InTheOldOneModel" "gone" "I", Cond.methodLink RL 61 yX11_newest, Cond.instanceMethod yX11_newest, Cond.selects RX11 yX11_newest yX11_newest, Cond.code yX11_newest cX11_newest 4 (some .int), Cond.methodLink RX11 201 yX10_newestHolder, Cond.instanceMethod yX10_newestHolder, Cond.selects RX10 yX10_newestHolder yX10_newestHolder, Cond.code yX10_newestHolder cX10_newestHolder 5 (some .int), Cond.methodLink RX10 54 yX10_holders, Cond.methodLink RL 64 yX12_newest, Cond.instanceMethod yX12_newest, Cond.selects RX12 yX12_newest yX12_newest, Cond.code yX12_newest cX12_newest 4 (some .int), Cond.methodLink RX12 279 yX12_newestOf, Cond.instanceMethod yX12_newestOf]
def wsL_law_r33 : List Cond := [Cond.selects RX12 yX12_newestOf yX12_newestOf, Cond.code yX12_newestOf cX12_newestOf 5 (some .int), Cond.methodLink RL 65 yX11_all, Cond.instanceMethod yX11_all, Cond.selects RX11 yX11_all yX11_all, Cond.code yX11_all cX11_all 2 (some .int), Cond.methodLink RX11 204 yX10_differing, Cond.instanceMethod yX10_differing, Cond.selects RX10 yX10_differing yX10_differing, Cond.code yX10_differing cX10_differing 4 (some .int), Cond.methodLink RX10 62 yX10_areUnlike, Cond.instanceMethod yX10_areUnlike, Cond.selects RX10 yX10_areUnlike yX10_areUnlike, Cond.code yX10_areUnlike cX10_areUnlike 5 (some .boolean), Cond.methodLink RX11 207 yX10_lost, Cond.instanceMethod yX10_lost, Cond.selects RX10 yX10_lost yX10_lost, Cond.code yX10_lost cX10_lost 2 (some .int), Cond.methodLink RX10 73 yX10_filesOn, Cond.instanceMethod yX10_filesOn, Cond.selects RX10 yX10_filesOn yX10_filesOn, Cond.code yX10_filesOn cX10_filesOn 4 (some .int), Cond.methodLink RX11 210 yX10_readers, Cond.methodLink RX11 213 yX10_filesOn]
def wsL_law_r34 : List Cond := [Cond.methodLink RX11 216 yX11_worthOf, Cond.instanceMethod yX11_worthOf, Cond.selects RX11 yX11_worthOf yX11_worthOf, Cond.code yX11_worthOf cX11_worthOf 4 (some .int), Cond.methodLink RX11 237 yX11_isIn, Cond.methodLink RX11 317 yX6_worth, Cond.instanceMethod yX6_worth, Cond.selects RX6 yX6_worth yX6_worth, Cond.code yX6_worth cX6_worth 3 (some .int), Cond.methodLink RX11 219 yX10_safe, Cond.instanceMethod yX10_safe, Cond.selects RX10 yX10_safe yX10_safe, Cond.code yX10_safe cX10_safe 5 (some .int), Cond.methodLink RX10 68 yJ6_bitCount_0f7a4, Cond.methodLink RL 68 yX12_all, Cond.instanceMethod yX12_all, Cond.selects RX12 yX12_all yX12_all, Cond.code yX12_all cX12_all 2 (some .int), Cond.methodLink RX12 288 yX12_differ, Cond.instanceMethod yX12_differ, Cond.selects RX12 yX12_differ yX12_differ, Cond.code yX12_differ cX12_differ 3 (some .int), Cond.methodLink RX12 282 yX12_differs, Cond.instanceMethod yX12_differs]
def wsL_law_r35 : List Cond := [Cond.selects RX12 yX12_differs yX12_differs, Cond.code yX12_differs cX12_differs 5 (some .boolean), Cond.methodLink RX12 291 yX12_safe, Cond.instanceMethod yX12_safe, Cond.selects RX12 yX12_safe yX12_safe, Cond.code yX12_safe cX12_safe 4 (some .int), Cond.methodLink RX12 285 yX12_bitsOf, Cond.static yX12_bitsOf, Cond.code yX12_bitsOf cX12_bitsOf 3 (some .int), Cond.methodLink RX12 294 yX12_lostAll, Cond.instanceMethod yX12_lostAll, Cond.selects RX12 yX12_lostAll yX12_lostAll, Cond.code yX12_lostAll cX12_lostAll 4 (some .int), Cond.methodLink RX12 297 yX12_worthAll, Cond.instanceMethod yX12_worthAll, Cond.selects RX12 yX12_worthAll yX12_worthAll, Cond.code yX12_worthAll cX12_worthAll 3 (some .int), Cond.methodLink RL 69 yX11_best, Cond.instanceMethod yX11_best, Cond.selects RX11 yX11_best yX11_best, Cond.code yX11_best cX11_best 8 (some .int), Cond.methodLink RX11 222 yX11_isHowMany, Cond.static yX11_isHowMany, Cond.code yX11_isHowMany cX11_isHowMany 1 (some .boolean)]
def wsL_law_r36 : List Cond := [Cond.methodLink RX11 226 yX11_safeBehind, Cond.instanceMethod yX11_safeBehind, Cond.selects RX11 yX11_safeBehind yX11_safeBehind, Cond.code yX11_safeBehind cX11_safeBehind 4 (some .int), Cond.methodLink RX11 230 yX10_become, Cond.instanceMethod yX10_become, Cond.selects RX10 yX10_become yX10_become, Cond.code yX10_become cX10_become 3 none, Cond.fieldLink RX10 22 "InTheOldOne$World" "rule" "I", Cond.methodLink RX10 28 yX2_become, Cond.instanceMethod yX2_become, Cond.selects RX2 yX2_become yX2_become, Cond.code yX2_become cX2_become 2 none, Cond.methodLink RX2 40 arraycopyName, Cond.methodLink RL 72 yX12_best, Cond.instanceMethod yX12_best, Cond.selects RX12 yX12_best yX12_best, Cond.code yX12_best cX12_best 9 (some .int), Cond.constantLong RX12 300 (6), Cond.methodLink RX12 302 yX12_keeps, Cond.instanceMethod yX12_keeps, Cond.selects RX12 yX12_keeps yX12_keeps, Cond.code yX12_keeps cX12_keeps 3 none, Cond.methodLink RX12 306 yX12_laysBack]
def wsL_law_r37 : List Cond := [Cond.instanceMethod yX12_laysBack, Cond.selects RX12 yX12_laysBack yX12_laysBack, Cond.code yX12_laysBack cX12_laysBack 3 none, Cond.methodLink RL 73 yX11_fewest, Cond.instanceMethod yX11_fewest, Cond.selects RX11 yX11_fewest yX11_fewest, Cond.code yX11_fewest cX11_fewest 4 (some .int), Cond.methodLink RX11 233 yX11_comesToSafe, Cond.instanceMethod yX11_comesToSafe, Cond.selects RX11 yX11_comesToSafe yX11_comesToSafe, Cond.code yX11_comesToSafe cX11_comesToSafe 7 (some .boolean), Cond.methodLink RX11 320 yX11_bringsAll, Cond.instanceMethod yX11_bringsAll, Cond.selects RX11 yX11_bringsAll yX11_bringsAll, Cond.code yX11_bringsAll cX11_bringsAll 5 (some .boolean), Cond.methodLink RX11 323 yX11_leadsToSafe, Cond.instanceMethod yX11_leadsToSafe, Cond.selects RX11 yX11_leadsToSafe yX11_leadsToSafe, Cond.code yX11_leadsToSafe cX11_leadsToSafe 8 (some .boolean), Cond.methodLink RX11 327 yX2_become, Cond.methodLink RL 76 yX12_fewest, Cond.instanceMethod yX12_fewest, Cond.selects RX12 yX12_fewest yX12_fewest, Cond.code yX12_fewest cX12_fewest 4 (some .int)]
def wsL_law_r38 : List Cond := [Cond.methodLink RX12 309 yX12_makesSafe, Cond.instanceMethod yX12_makesSafe, Cond.selects RX12 yX12_makesSafe yX12_makesSafe, Cond.code yX12_makesSafe cX12_makesSafe 6 (some .boolean), Cond.methodLink RL 77 yX11_worst, Cond.instanceMethod yX11_worst, Cond.selects RX11 yX11_worst yX11_worst, Cond.code yX11_worst cX11_worst 7 (some .int), Cond.methodLink RX11 240 yX11_without, Cond.methodLink RL 80 yX12_worst, Cond.instanceMethod yX12_worst, Cond.selects RX12 yX12_worst yX12_worst, Cond.code yX12_worst cX12_worst 6 (some .int), Cond.methodLink RL 81 yX11_letGo, Cond.instanceMethod yX11_letGo, Cond.selects RX11 yX11_letGo yX11_letGo, Cond.code yX11_letGo cX11_letGo 4 (some .int), Cond.methodLink RL 84 yX12_letGo, Cond.instanceMethod yX12_letGo, Cond.selects RX12 yX12_letGo yX12_letGo, Cond.code yX12_letGo cX12_letGo 4 (some .int), Cond.methodLink RL 85 yX11_again, Cond.instanceMethod yX11_again, Cond.selects RX11 yX11_again yX11_again]
def wsL_law_r39 : List Cond := [Cond.code yX11_again cX11_again 3 (some .int), Cond.methodLink RL 88 yX12_again, Cond.instanceMethod yX12_again, Cond.selects RX12 yX12_again yX12_again, Cond.code yX12_again cX12_again 5 (some .int), Cond.methodLink RX12 312 yX12_hasSet, Cond.instanceMethod yX12_hasSet, Cond.selects RX12 yX12_hasSet yX12_hasSet, Cond.code yX12_hasSet cX12_hasSet 4 (some .int), Cond.methodLink RL 89 yX11_goes, Cond.instanceMethod yX11_goes, Cond.selects RX11 yX11_goes yX11_goes, Cond.code yX11_goes cX11_goes 3 (some .int), Cond.methodLink RL 92 yX12_goes, Cond.instanceMethod yX12_goes, Cond.selects RX12 yX12_goes yX12_goes, Cond.code yX12_goes cX12_goes 4 (some .int), Cond.methodLink RL 93 yX11_plan, Cond.instanceMethod yX11_plan, Cond.selects RX11 yX11_plan yX11_plan, Cond.code yX11_plan cX11_plan 5 (some .int), Cond.fieldLink RX11 250 "InTheOldOne$Sheet" "size" "I", Cond.methodLink RX11 243 yX11_isSheet, Cond.static yX11_isSheet]
def wsL_law_r40 : List Cond := [Cond.code yX11_isSheet cX11_isSheet 1 (some .boolean), Cond.methodLink RX11 246 yX8_isMissing, Cond.instanceMethod yX8_isMissing, Cond.selects RX8 yX8_isMissing yX8_isMissing, Cond.code yX8_isMissing cX8_isMissing 1 (some .boolean), Cond.methodLink RX11 251 yX11_tellsDisks, Cond.instanceMethod yX11_tellsDisks, Cond.selects RX11 yX11_tellsDisks yX11_tellsDisks, Cond.code yX11_tellsDisks cX11_tellsDisks 3 (some .boolean), Cond.fieldLink RX11 300 "InTheOldOne$Sheet" "row" "[I", Cond.methodLink RX11 255 yX11_copyInThought, Cond.instanceMethod yX11_copyInThought, Cond.selects RX11 yX11_copyInThought yX11_copyInThought, Cond.code yX11_copyInThought cX11_copyInThought 5 (some .int), Cond.methodLink RL 96 yX12_plan, Cond.instanceMethod yX12_plan, Cond.selects RX12 yX12_plan yX12_plan, Cond.code yX12_plan cX12_plan 6 (some .int), Cond.methodLink RX12 315 yX12_isSheet, Cond.static yX12_isSheet, Cond.code yX12_isSheet cX12_isSheet 1 (some .boolean), Cond.constantLong RX12 346 (3), Cond.methodLink RX12 318 yX12_isPlan, Cond.instanceMethod yX12_isPlan]
def wsL_law_r41 : List Cond := [Cond.selects RX12 yX12_isPlan yX12_isPlan, Cond.code yX12_isPlan cX12_isPlan 3 (some .boolean), Cond.methodLink RL 97 yX11_tells, Cond.instanceMethod yX11_tells, Cond.selects RX11 yX11_tells yX11_tells, Cond.code yX11_tells cX11_tells 7 (some .int), Cond.methodLink RX11 259 yX11_otherwise, Cond.static yX11_otherwise, Cond.code yX11_otherwise cX11_otherwise 4 (some .int), Cond.methodLink RX11 263 yX11_kindsTold, Cond.instanceMethod yX11_kindsTold, Cond.selects RX11 yX11_kindsTold yX11_kindsTold, Cond.code yX11_kindsTold cX11_kindsTold 6 (some .int), Cond.methodLink RX11 330 yX11_comesToTold, Cond.instanceMethod yX11_comesToTold, Cond.selects RX11 yX11_comesToTold yX11_comesToTold, Cond.code yX11_comesToTold cX11_comesToTold 5 (some .boolean), Cond.methodLink RX11 267 yX11_numbersTold, Cond.instanceMethod yX11_numbersTold, Cond.selects RX11 yX11_numbersTold yX11_numbersTold, Cond.code yX11_numbersTold cX11_numbersTold 6 (some .int), Cond.methodLink RX11 270 yX11_disksTold, Cond.instanceMethod yX11_disksTold, Cond.selects RX11 yX11_disksTold yX11_disksTold]
def wsL_law_r42 : List Cond := [Cond.code yX11_disksTold cX11_disksTold 5 (some .int), Cond.methodLink RX11 274 yX11_textsTold, Cond.instanceMethod yX11_textsTold, Cond.selects RX11 yX11_textsTold yX11_textsTold, Cond.code yX11_textsTold cX11_textsTold 6 (some .int), Cond.methodLink RL 101 yX12_tells, Cond.instanceMethod yX12_tells, Cond.selects RX12 yX12_tells yX12_tells, Cond.code yX12_tells cX12_tells 11 (some .int), Cond.constantLong RX12 324 (4), Cond.methodLink RX12 321 yX12_unlike, Cond.instanceMethod yX12_unlike, Cond.selects RX12 yX12_unlike yX12_unlike, Cond.code yX12_unlike cX12_unlike 5 (some .int), Cond.methodLink RX12 326 yX12_comesTo, Cond.instanceMethod yX12_comesTo, Cond.selects RX12 yX12_comesTo yX12_comesTo, Cond.code yX12_comesTo cX12_comesTo 5 (some .boolean), Cond.methodLink RL 102 yX11_film, Cond.instanceMethod yX11_film, Cond.selects RX11 yX11_film yX11_film, Cond.code yX11_film cX11_film 4 (some .int), Cond.methodLink RX11 277 yX8_become, Cond.instanceMethod yX8_become]
def wsL_law_r43 : List Cond := [Cond.selects RX8 yX8_become yX8_become, Cond.code yX8_become cX8_become 3 none, Cond.fieldLink RX8 19 "InTheOldOne$Sheet" "size" "I", Cond.methodLink RX8 22 yJ7_fill_53178, Cond.static yJ7_fill_53178, Cond.initialized RJ7, Cond.code yJ7_fill_53178 cJ7_fill_53178 4 none, Cond.methodLink RX11 280 yX8_put, Cond.instanceMethod yX8_put, Cond.selects RX8 yX8_put yX8_put, Cond.code yX8_put cX8_put 3 none, Cond.methodLink RL 105 yX12_film, Cond.instanceMethod yX12_film, Cond.selects RX12 yX12_film yX12_film, Cond.code yX12_film cX12_film 4 (some .int), Cond.methodLink RX12 329 yX12_sheet, Cond.instanceMethod yX12_sheet, Cond.selects RX12 yX12_sheet yX12_sheet, Cond.code yX12_sheet cX12_sheet 5 (some .int), Cond.constantLong RX12 348 (-1), Cond.methodLink RL 106 yX11_lot, Cond.instanceMethod yX11_lot, Cond.selects RX11 yX11_lot yX11_lot, Cond.code yX11_lot cX11_lot 2 (some .int)]
def wsL_law_r44 : List Cond := [Cond.methodLink RX11 282 yX11_stayers, Cond.instanceMethod yX11_stayers, Cond.selects RX11 yX11_stayers yX11_stayers, Cond.code yX11_stayers cX11_stayers 5 (some .int), Cond.constant RX11 334 (1103515245), Cond.methodLink RL 109 yX12_lot, Cond.instanceMethod yX12_lot, Cond.selects RX12 yX12_lot yX12_lot, Cond.code yX12_lot cX12_lot 3 (some .int), Cond.methodLink RX12 333 yX12_goneBy, Cond.instanceMethod yX12_goneBy, Cond.selects RX12 yX12_goneBy yX12_goneBy, Cond.code yX12_goneBy cX12_goneBy 5 (some .int), Cond.constant RX12 332 (1103515245), Cond.methodLink RL 110 yX11_chance, Cond.instanceMethod yX11_chance, Cond.selects RX11 yX11_chance yX11_chance, Cond.code yX11_chance cX11_chance 7 (some .long), Cond.constantLong RX11 285 (-4611686018427387904), Cond.methodLink RX11 287 yX11_commonDivisor, Cond.static yX11_commonDivisor, Cond.code yX11_commonDivisor cX11_commonDivisor 3 (some .int), Cond.methodLink RL 114 yX12_chance, Cond.instanceMethod yX12_chance]
def wsL_law_r45 : List Cond := [Cond.selects RX12 yX12_chance yX12_chance, Cond.code yX12_chance cX12_chance 13 (some .long), Cond.constantLong RX12 336 (20), Cond.constantLong RX12 338 (-4611686018427387904), Cond.methodLink RL 115 yX11_image, Cond.instanceMethod yX11_image, Cond.selects RX11 yX11_image yX11_image, Cond.code yX11_image cX11_image 1 (some .int), Cond.methodLink RL 118 yX12_image, Cond.instanceMethod yX12_image, Cond.selects RX12 yX12_image yX12_image, Cond.code yX12_image cX12_image 2 (some .int), Cond.fieldLink RX12 340 "InTheOldOneModel" "dayKept" "I", Cond.fieldLink RX12 343 "InTheOldOneModel" "ruleKept" "I", Cond.methodLink RL 119 yX11_back, Cond.instanceMethod yX11_back, Cond.selects RX11 yX11_back yX11_back, Cond.code yX11_back cX11_back 1 (some .int), Cond.methodLink RL 122 yX12_back, Cond.instanceMethod yX12_back, Cond.selects RX12 yX12_back yX12_back, Cond.code yX12_back cX12_back 2 (some .int), Cond.methodLink RL 123 yX11_count, Cond.instanceMethod yX11_count]
def wsL_law_r46 : List Cond := [Cond.selects RX11 yX11_count yX11_count, Cond.code yX11_count cX11_count 2 (some .int), Cond.methodLink RX11 290 yX10_contentCount, Cond.instanceMethod yX10_contentCount, Cond.selects RX10 yX10_contentCount yX10_contentCount, Cond.code yX10_contentCount cX10_contentCount 3 (some .int), Cond.methodLink RL 126 yX12_count, Cond.instanceMethod yX12_count, Cond.selects RX12 yX12_count yX12_count, Cond.code yX12_count cX12_count 4 (some .int), Cond.methodLink RL 127 yX11_sheet, Cond.instanceMethod yX11_sheet, Cond.selects RX11 yX11_sheet yX11_sheet, Cond.code yX11_sheet cX11_sheet 4 (some .int), Cond.methodLink RL 130 yX12_sheet, Cond.methodLink RL 131 yX11_cell, Cond.instanceMethod yX11_cell, Cond.selects RX11 yX11_cell yX11_cell, Cond.code yX11_cell cX11_cell 4 (some .int), Cond.methodLink RX11 293 yX8_has, Cond.instanceMethod yX8_has, Cond.selects RX8 yX8_has yX8_has, Cond.code yX8_has cX8_has 2 (some .boolean), Cond.methodLink RL 134 yX12_cell]
def wsL_law_r47 : List Cond := [Cond.instanceMethod yX12_cell, Cond.selects RX12 yX12_cell yX12_cell, Cond.code yX12_cell cX12_cell 4 (some .int), Cond.methodLink RL 135 yX11_copy, Cond.instanceMethod yX11_copy, Cond.selects RX11 yX11_copy yX11_copy, Cond.code yX11_copy cX11_copy 8 (some .int), Cond.fieldLink RX11 294 "InTheOldOne$Sheet" "sort" "I", Cond.methodLink RX11 303 arraycopyName, Cond.methodLink RX11 297 yX8_hasPart, Cond.instanceMethod yX8_hasPart, Cond.selects RX8 yX8_hasPart yX8_hasPart, Cond.code yX8_hasPart cX8_hasPart 3 (some .boolean), Cond.methodLink RL 139 yX12_copy, Cond.instanceMethod yX12_copy, Cond.selects RX12 yX12_copy yX12_copy, Cond.code yX12_copy cX12_copy 9 (some .int), Cond.methodLink RL 140 yX11_disks, Cond.instanceMethod yX11_disks, Cond.selects RX11 yX11_disks yX11_disks, Cond.code yX11_disks cX11_disks 9 (some .int), Cond.methodLink RL 143 yX12_disks, Cond.instanceMethod yX12_disks, Cond.selects RX12 yX12_disks yX12_disks]
def wsL_law_r48 : List Cond := [Cond.code yX12_disks cX12_disks 8 (some .int), Cond.methodLink RX12 350 yX12_disk, Cond.methodLink RL 144 yX11_taken, Cond.instanceMethod yX11_taken, Cond.selects RX11 yX11_taken yX11_taken, Cond.code yX11_taken cX11_taken 3 (some .int), Cond.methodLink RX11 309 yX11_isUnder, Cond.static yX11_isUnder, Cond.code yX11_isUnder cX11_isUnder 2 (some .boolean), Cond.classLink RX11 64 "InTheOldOne$CardKind", Cond.classLink RX11 67 "InTheOldOne$CloudKind", Cond.classLink RX11 70 "InTheOldOne$OldKind", Cond.classLink RX11 73 "InTheOldOne$SharedKind", Cond.classLink RX11 76 "InTheOldOne$PaperKind", Cond.methodLink RL 147 yX12_taken, Cond.instanceMethod yX12_taken, Cond.selects RX12 yX12_taken yX12_taken, Cond.code yX12_taken cX12_taken 4 (some .int), Cond.methodLink RX12 353 yX12_over, Cond.static yX12_over, Cond.code yX12_over cX12_over 1 (some .int)]
def wsL_law : List Cond := (wsL_law_r1 ++ (wsL_law_r2 ++ (wsL_law_r3 ++ (wsL_law_r4 ++ (wsL_law_r5 ++ (wsL_law_r6 ++ (wsL_law_r7 ++ (wsL_law_r8 ++ (wsL_law_r9 ++ (wsL_law_r10 ++ (wsL_law_r11 ++ (wsL_law_r12 ++ (wsL_law_r13 ++ (wsL_law_r14 ++ (wsL_law_r15 ++ (wsL_law_r16 ++ (wsL_law_r17 ++ (wsL_law_r18 ++ (wsL_law_r19 ++ (wsL_law_r20 ++ (wsL_law_r21 ++ (wsL_law_r22 ++ (wsL_law_r23 ++ (wsL_law_r24 ++ (wsL_law_r25 ++ (wsL_law_r26 ++ (wsL_law_r27 ++ (wsL_law_r28 ++ (wsL_law_r29 ++ (wsL_law_r30 ++ (wsL_law_r31 ++ (wsL_law_r32 ++ (wsL_law_r33 ++ (wsL_law_r34 ++ (wsL_law_r35 ++ (wsL_law_r36 ++ (wsL_law_r37 ++ (wsL_law_r38 ++ (wsL_law_r39 ++ (wsL_law_r40 ++ (wsL_law_r41 ++ (wsL_law_r42 ++ (wsL_law_r43 ++ (wsL_law_r44 ++ (wsL_law_r45 ++ (wsL_law_r46 ++ (wsL_law_r47 ++ wsL_law_r48))))))))))))))))))))))))))))))))))))))))))))))) ++ wsX110 ++ wsX120 ++ wsX90 ++ wsX100 ++ wsX30 ++ wsX00 ++ wsX10 ++ wsX40 ++ wsX70 ++ wsX50 ++ wsX60 ++ wsX80 ++ wsX20 ++ ([] : List Cond)
set_option maxRecDepth 20000 in
theorem inlX0 : ∀ w ∈ wsX00, w ∈ wsL_law := fun _ h => List.mem_append_left _ (List.mem_append_left _ (List.mem_append_left _ (List.mem_append_left _ (List.mem_append_left _ (List.mem_append_left _ (List.mem_append_left _ (List.mem_append_left _ (List.mem_append_right _ h))))))))
set_option maxRecDepth 20000 in
theorem inlX1 : ∀ w ∈ wsX10, w ∈ wsL_law := fun _ h => List.mem_append_left _ (List.mem_append_left _ (List.mem_append_left _ (List.mem_append_left _ (List.mem_append_left _ (List.mem_append_left _ (List.mem_append_left _ (List.mem_append_right _ h)))))))
set_option maxRecDepth 20000 in
theorem inlX2 : ∀ w ∈ wsX20, w ∈ wsL_law := fun _ h => List.mem_append_left _ (List.mem_append_right _ h)
set_option maxRecDepth 20000 in
theorem inlX3 : ∀ w ∈ wsX30, w ∈ wsL_law := fun _ h => List.mem_append_left _ (List.mem_append_left _ (List.mem_append_left _ (List.mem_append_left _ (List.mem_append_left _ (List.mem_append_left _ (List.mem_append_left _ (List.mem_append_left _ (List.mem_append_left _ (List.mem_append_right _ h)))))))))
set_option maxRecDepth 20000 in
theorem inlX4 : ∀ w ∈ wsX40, w ∈ wsL_law := fun _ h => List.mem_append_left _ (List.mem_append_left _ (List.mem_append_left _ (List.mem_append_left _ (List.mem_append_left _ (List.mem_append_left _ (List.mem_append_right _ h))))))
set_option maxRecDepth 20000 in
theorem inlX5 : ∀ w ∈ wsX50, w ∈ wsL_law := fun _ h => List.mem_append_left _ (List.mem_append_left _ (List.mem_append_left _ (List.mem_append_left _ (List.mem_append_right _ h))))
set_option maxRecDepth 20000 in
theorem inlX6 : ∀ w ∈ wsX60, w ∈ wsL_law := fun _ h => List.mem_append_left _ (List.mem_append_left _ (List.mem_append_left _ (List.mem_append_right _ h)))
set_option maxRecDepth 20000 in
theorem inlX7 : ∀ w ∈ wsX70, w ∈ wsL_law := fun _ h => List.mem_append_left _ (List.mem_append_left _ (List.mem_append_left _ (List.mem_append_left _ (List.mem_append_left _ (List.mem_append_right _ h)))))
set_option maxRecDepth 20000 in
theorem inlX8 : ∀ w ∈ wsX80, w ∈ wsL_law := fun _ h => List.mem_append_left _ (List.mem_append_left _ (List.mem_append_right _ h))
set_option maxRecDepth 20000 in
theorem inlX9 : ∀ w ∈ wsX90, w ∈ wsL_law := fun _ h => List.mem_append_left _ (List.mem_append_left _ (List.mem_append_left _ (List.mem_append_left _ (List.mem_append_left _ (List.mem_append_left _ (List.mem_append_left _ (List.mem_append_left _ (List.mem_append_left _ (List.mem_append_left _ (List.mem_append_left _ (List.mem_append_right _ h)))))))))))
set_option maxRecDepth 20000 in
theorem inlX10 : ∀ w ∈ wsX100, w ∈ wsL_law := fun _ h => List.mem_append_left _ (List.mem_append_left _ (List.mem_append_left _ (List.mem_append_left _ (List.mem_append_left _ (List.mem_append_left _ (List.mem_append_left _ (List.mem_append_left _ (List.mem_append_left _ (List.mem_append_left _ (List.mem_append_right _ h))))))))))
set_option maxRecDepth 20000 in
theorem inlX11 : ∀ w ∈ wsX110, w ∈ wsL_law := fun _ h => List.mem_append_left _ (List.mem_append_left _ (List.mem_append_left _ (List.mem_append_left _ (List.mem_append_left _ (List.mem_append_left _ (List.mem_append_left _ (List.mem_append_left _ (List.mem_append_left _ (List.mem_append_left _ (List.mem_append_left _ (List.mem_append_left _ (List.mem_append_left _ (List.mem_append_right _ h)))))))))))))
set_option maxRecDepth 20000 in
theorem inlX12 : ∀ w ∈ wsX120, w ∈ wsL_law := fun _ h => List.mem_append_left _ (List.mem_append_left _ (List.mem_append_left _ (List.mem_append_left _ (List.mem_append_left _ (List.mem_append_left _ (List.mem_append_left _ (List.mem_append_left _ (List.mem_append_left _ (List.mem_append_left _ (List.mem_append_left _ (List.mem_append_left _ (List.mem_append_right _ h))))))))))))
theorem inJx145de : ∀ w ∈ wsJx145de0, w ∈ lw_tbl := by decide +kernel
theorem inJx9f9b0 : ∀ w ∈ wsJx9f9b00, w ∈ lw_tbl := by decide +kernel
theorem inJxb160c : ∀ w ∈ wsJxb160c0, w ∈ lw_tbl := by decide +kernel
theorem inJ6 : ∀ w ∈ wsJ60, w ∈ lw_tbl := by decide +kernel
theorem inJ9 : ∀ w ∈ wsJ90, w ∈ lw_tbl := by decide +kernel
theorem inJ0 : ∀ w ∈ wsJ00, w ∈ lw_tbl := by decide +kernel
theorem inJ1 : ∀ w ∈ wsJ10, w ∈ lw_tbl := by decide +kernel
theorem inJ2 : ∀ w ∈ wsJ20, w ∈ lw_tbl := by decide +kernel
theorem inJ10 : ∀ w ∈ wsJ100, w ∈ lw_tbl := by decide +kernel
theorem inJxfd54e : ∀ w ∈ wsJxfd54e0, w ∈ lw_tbl := by decide +kernel
theorem inJx3cf43 : ∀ w ∈ wsJx3cf430, w ∈ lw_tbl := by decide +kernel
theorem inJ7 : ∀ w ∈ wsJ70, w ∈ lw_tbl := by decide +kernel
theorem inJ3 : ∀ w ∈ wsJ30, w ∈ lw_tbl := by decide +kernel
abbrev vwCl : List vw_C := [(RX0, TX0, 1), (RX1, TX1, 1), (RX2, TX2, 6), (RX3, TX3, 1), (RX4, TX4, 1), (RX5, TX5, 1), (RX6, TX6, 6), (RX7, TX7, 1), (RX8, TX8, 3), (RX9, TX9, 7), (RX10, TX10, 4), (RX11, TX11, 10), (RX12, TX12, 40)]
