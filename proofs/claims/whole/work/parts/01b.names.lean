/-! ===== BEGIN words of one list among another's, by their places ===== -/
theorem goodIn_r {big : List Cond} (ws : List Cond) (ps : List Nat) (hp : ws = ps.filterMap (fun i => big[i]?)) (h : ws.all goodWord = true) : GoodIn big ws := by
  intro w hw
  have h1 := List.all_eq_true.mp h w hw
  rw [hp] at hw
  obtain ⟨i, -, hi⟩ := List.mem_filterMap.mp hw
  have hm : w ∈ big := by first | exact List.mem_of_getElem? hi | exact List.getElem?_mem hi
  exact ⟨hm, good_of_word h1⟩
theorem goodIn_app {big a b : List Cond} (ha : GoodIn big a) (hb : GoodIn big b) : GoodIn big (a ++ b) := fun w h => (List.mem_append.mp h).elim (ha w) (hb w)
theorem goodIn_ca {big a b : List Cond} {c : Cond} (ha : GoodIn big (c :: a)) (hb : GoodIn big b) : GoodIn big (c :: (a ++ b)) := fun w h => (List.mem_cons.mp h).elim (fun e => ha w (List.mem_cons.mpr (Or.inl e))) (fun h => (List.mem_append.mp h).elim (fun h => ha w (List.mem_cons.mpr (Or.inr h))) (hb w))
theorem goodIn_sub {big ws : List Cond} (hm : ∀ w ∈ ws, w ∈ big) (h : ws.all goodWord = true) : GoodIn big ws := fun w hw => ⟨hm w hw, good_of_word (List.all_eq_true.mp h w hw)⟩
/-! ===== END ===== -/

/-! ===== BEGIN printed: names, fields, word lists, decode rows ===== -/
def RX0 : String := "InTheOldOne$CardKind"
def TX0 : u_T := fun k => match k with
  | _ => ("InTheOldOne$DiskKind", "code", "I", true)
def tyX0 : Nat → FieldType := fun k => match k with
  | _ => .int
abbrev wsX00 : List Cond := u_ws RX0 TX0 1
theorem nmX0 : ∀ a, a < 1 → ∀ b, b < 1 → a ≠ b → (TX0 a).2.1 ≠ (TX0 b).2.1 := by decide +kernel
theorem tyX0_ok : ∀ k, k < 1 → parseFieldDescriptor (TX0 k).2.2.1 = some (tyX0 k) := by decide +kernel
abbrev cX0_init : ByteArray := prog_2_method_1_code
def yX0_init : MethodName := ⟨RX0, "<init>", "(I)V"⟩
abbrev cX0_reads : ByteArray := prog_2_method_2_code
def yX0_reads : MethodName := ⟨RX0, "reads", "(III)Z"⟩
abbrev cX0_stampOn : ByteArray := prog_2_method_3_code
def yX0_stampOn : MethodName := ⟨RX0, "stampOn", "(II)I"⟩
abbrev cX0_roomBy : ByteArray := prog_2_method_4_code
def yX0_roomBy : MethodName := ⟨RX0, "roomBy", "(I)I"⟩
def RX1 : String := "InTheOldOne$CloudKind"
def TX1 : u_T := fun k => match k with
  | _ => ("InTheOldOne$DiskKind", "code", "I", true)
def tyX1 : Nat → FieldType := fun k => match k with
  | _ => .int
abbrev wsX10 : List Cond := u_ws RX1 TX1 1
theorem nmX1 : ∀ a, a < 1 → ∀ b, b < 1 → a ≠ b → (TX1 a).2.1 ≠ (TX1 b).2.1 := by decide +kernel
theorem tyX1_ok : ∀ k, k < 1 → parseFieldDescriptor (TX1 k).2.2.1 = some (tyX1 k) := by decide +kernel
abbrev cX1_init : ByteArray := prog_3_method_1_code
def yX1_init : MethodName := ⟨RX1, "<init>", "(I)V"⟩
abbrev cX1_reads : ByteArray := prog_3_method_2_code
def yX1_reads : MethodName := ⟨RX1, "reads", "(III)Z"⟩
def RX2 : String := "InTheOldOne$Disk"
def TX2 : u_T := fun k => match k with
  | 0 => ("InTheOldOne$Disk", "kind", "LInTheOldOne$DiskKind;", false)
  | 1 => ("InTheOldOne$Disk", "number", "I", false)
  | 2 => ("InTheOldOne$Disk", "since", "I", false)
  | 3 => ("InTheOldOne$Disk", "held", "I", false)
  | 4 => ("InTheOldOne$Disk", "contents", "[I", true)
  | _ => ("InTheOldOne$Disk", "stamps", "[I", true)
def tyX2 : Nat → FieldType := fun k => match k with
  | 0 => .object "InTheOldOne$DiskKind"
  | 1 => .int
  | 2 => .int
  | 3 => .int
  | 4 => .array .int
  | _ => .array .int
abbrev wsX20 : List Cond := u_ws RX2 TX2 6
theorem nmX2 : ∀ a, a < 6 → ∀ b, b < 6 → a ≠ b → (TX2 a).2.1 ≠ (TX2 b).2.1 := by decide +kernel
theorem tyX2_ok : ∀ k, k < 6 → parseFieldDescriptor (TX2 k).2.2.1 = some (tyX2 k) := by decide +kernel
abbrev cX2_init : ByteArray := prog_4_method_1_code
def yX2_init : MethodName := ⟨RX2, "<init>", "()V"⟩
abbrev cX2_begin : ByteArray := prog_4_method_2_code
def yX2_begin : MethodName := ⟨RX2, "begin", "(LInTheOldOne$DiskKind;II)V"⟩
abbrev cX2_become : ByteArray := prog_4_method_3_code
def yX2_become : MethodName := ⟨RX2, "become", "(LInTheOldOne$Disk;)V"⟩
abbrev cX2_readsOn : ByteArray := prog_4_method_4_code
def yX2_readsOn : MethodName := ⟨RX2, "readsOn", "(I)Z"⟩
abbrev cX2_takesIn : ByteArray := prog_4_method_5_code
def yX2_takesIn : MethodName := ⟨RX2, "takesIn", "(I)Z"⟩
abbrev cX2_put : ByteArray := prog_4_method_6_code
def yX2_put : MethodName := ⟨RX2, "put", "(III)V"⟩
abbrev cX2_drop : ByteArray := prog_4_method_7_code
def yX2_drop : MethodName := ⟨RX2, "drop", "(I)V"⟩
def RX3 : String := "InTheOldOne$DiskKind"
def TX3 : u_T := fun k => match k with
  | _ => ("InTheOldOne$DiskKind", "code", "I", true)
def tyX3 : Nat → FieldType := fun k => match k with
  | _ => .int
abbrev wsX30 : List Cond := u_ws RX3 TX3 1
theorem nmX3 : ∀ a, a < 1 → ∀ b, b < 1 → a ≠ b → (TX3 a).2.1 ≠ (TX3 b).2.1 := by decide +kernel
theorem tyX3_ok : ∀ k, k < 1 → parseFieldDescriptor (TX3 k).2.2.1 = some (tyX3 k) := by decide +kernel
abbrev cX3_init : ByteArray := prog_5_method_1_code
def yX3_init : MethodName := ⟨RX3, "<init>", "(I)V"⟩
abbrev cX3_reads : ByteArray := prog_5_method_2_code
def yX3_reads : MethodName := ⟨RX3, "reads", "(III)Z"⟩
abbrev cX3_stampOn : ByteArray := prog_5_method_3_code
def yX3_stampOn : MethodName := ⟨RX3, "stampOn", "(II)I"⟩
abbrev cX3_keeps : ByteArray := prog_5_method_4_code
def yX3_keeps : MethodName := ⟨RX3, "keeps", "(I)I"⟩
abbrev cX3_roomBy : ByteArray := prog_5_method_5_code
def yX3_roomBy : MethodName := ⟨RX3, "roomBy", "(I)I"⟩
def RX4 : String := "InTheOldOne$OldKind"
def TX4 : u_T := fun k => match k with
  | _ => ("InTheOldOne$DiskKind", "code", "I", true)
def tyX4 : Nat → FieldType := fun k => match k with
  | _ => .int
abbrev wsX40 : List Cond := u_ws RX4 TX4 1
theorem nmX4 : ∀ a, a < 1 → ∀ b, b < 1 → a ≠ b → (TX4 a).2.1 ≠ (TX4 b).2.1 := by decide +kernel
theorem tyX4_ok : ∀ k, k < 1 → parseFieldDescriptor (TX4 k).2.2.1 = some (tyX4 k) := by decide +kernel
abbrev cX4_init : ByteArray := prog_6_method_1_code
def yX4_init : MethodName := ⟨RX4, "<init>", "(I)V"⟩
abbrev cX4_reads : ByteArray := prog_6_method_2_code
def yX4_reads : MethodName := ⟨RX4, "reads", "(III)Z"⟩
abbrev cX4_stampOn : ByteArray := prog_6_method_3_code
def yX4_stampOn : MethodName := ⟨RX4, "stampOn", "(II)I"⟩
abbrev cX4_keeps : ByteArray := prog_6_method_4_code
def yX4_keeps : MethodName := ⟨RX4, "keeps", "(I)I"⟩
def RX5 : String := "InTheOldOne$PaperKind"
def TX5 : u_T := fun k => match k with
  | _ => ("InTheOldOne$DiskKind", "code", "I", true)
def tyX5 : Nat → FieldType := fun k => match k with
  | _ => .int
abbrev wsX50 : List Cond := u_ws RX5 TX5 1
theorem nmX5 : ∀ a, a < 1 → ∀ b, b < 1 → a ≠ b → (TX5 a).2.1 ≠ (TX5 b).2.1 := by decide +kernel
theorem tyX5_ok : ∀ k, k < 1 → parseFieldDescriptor (TX5 k).2.2.1 = some (tyX5 k) := by decide +kernel
abbrev cX5_init : ByteArray := prog_7_method_1_code
def yX5_init : MethodName := ⟨RX5, "<init>", "(I)V"⟩
abbrev cX5_reads : ByteArray := prog_7_method_2_code
def yX5_reads : MethodName := ⟨RX5, "reads", "(III)Z"⟩
abbrev cX5_stampOn : ByteArray := prog_7_method_3_code
def yX5_stampOn : MethodName := ⟨RX5, "stampOn", "(II)I"⟩
abbrev cX5_keeps : ByteArray := prog_7_method_4_code
def yX5_keeps : MethodName := ⟨RX5, "keeps", "(I)I"⟩
abbrev cX5_roomBy : ByteArray := prog_7_method_5_code
def yX5_roomBy : MethodName := ⟨RX5, "roomBy", "(I)I"⟩
def RX6 : String := "InTheOldOne$Rule"
def TX6 : u_T := fun k => match k with
  | 0 => ("InTheOldOne$Rule", "steps", "[I", true)
  | 1 => ("InTheOldOne$Rule", "ends", "[I", true)
  | 2 => ("InTheOldOne$Rule", "names", "[I", true)
  | 3 => ("InTheOldOne$Rule", "stack", "[I", true)
  | 4 => ("InTheOldOne$Rule", "size", "I", false)
  | _ => ("InTheOldOne$Rule", "top", "I", false)
def tyX6 : Nat → FieldType := fun k => match k with
  | 0 => .array .int
  | 1 => .array .int
  | 2 => .array .int
  | 3 => .array .int
  | 4 => .int
  | _ => .int
abbrev wsX60 : List Cond := u_ws RX6 TX6 6
theorem nmX6 : ∀ a, a < 6 → ∀ b, b < 6 → a ≠ b → (TX6 a).2.1 ≠ (TX6 b).2.1 := by decide +kernel
theorem tyX6_ok : ∀ k, k < 6 → parseFieldDescriptor (TX6 k).2.2.1 = some (tyX6 k) := by decide +kernel
abbrev cX6_init : ByteArray := prog_8_method_1_code
def yX6_init : MethodName := ⟨RX6, "<init>", "()V"⟩
abbrev cX6_clear : ByteArray := prog_8_method_2_code
def yX6_clear : MethodName := ⟨RX6, "clear", "()V"⟩
abbrev cX6_become : ByteArray := prog_8_method_3_code
def yX6_become : MethodName := ⟨RX6, "become", "(LInTheOldOne$Rule;)V"⟩
abbrev cX6_add : ByteArray := prog_8_method_4_code
def yX6_add : MethodName := ⟨RX6, "add", "(I)V"⟩
abbrev cX6_endPart : ByteArray := prog_8_method_5_code
def yX6_endPart : MethodName := ⟨RX6, "endPart", "(I)V"⟩
abbrev cX6_takes : ByteArray := prog_8_method_6_code
def yX6_takes : MethodName := ⟨RX6, "takes", "(IIIIII)Z"⟩
abbrev cX6_likelihood : ByteArray := prog_8_method_7_code
def yX6_likelihood : MethodName := ⟨RX6, "likelihood", "(II)I"⟩
abbrev cX6_worth : ByteArray := prog_8_method_8_code
def yX6_worth : MethodName := ⟨RX6, "worth", "(II)I"⟩
abbrev cX6_nameNothingThere : ByteArray := prog_8_method_9_code
def yX6_nameNothingThere : MethodName := ⟨RX6, "nameNothingThere", "()V"⟩
abbrev cX6_nameRest : ByteArray := prog_8_method_10_code
def yX6_nameRest : MethodName := ⟨RX6, "nameRest", "(III)V"⟩
abbrev cX6_answer : ByteArray := prog_8_method_11_code
def yX6_answer : MethodName := ⟨RX6, "answer", "(I)I"⟩
abbrev cX6_push : ByteArray := prog_8_method_12_code
def yX6_push : MethodName := ⟨RX6, "push", "(I)V"⟩
abbrev cX6_turnTop : ByteArray := prog_8_method_13_code
def yX6_turnTop : MethodName := ⟨RX6, "turnTop", "(I)V"⟩
abbrev cX6_joinTwo : ByteArray := prog_8_method_14_code
def yX6_joinTwo : MethodName := ⟨RX6, "joinTwo", "(I)V"⟩
def RX7 : String := "InTheOldOne$SharedKind"
def TX7 : u_T := fun k => match k with
  | _ => ("InTheOldOne$DiskKind", "code", "I", true)
def tyX7 : Nat → FieldType := fun k => match k with
  | _ => .int
abbrev wsX70 : List Cond := u_ws RX7 TX7 1
theorem nmX7 : ∀ a, a < 1 → ∀ b, b < 1 → a ≠ b → (TX7 a).2.1 ≠ (TX7 b).2.1 := by decide +kernel
theorem tyX7_ok : ∀ k, k < 1 → parseFieldDescriptor (TX7 k).2.2.1 = some (tyX7 k) := by decide +kernel
abbrev cX7_init : ByteArray := prog_9_method_1_code
def yX7_init : MethodName := ⟨RX7, "<init>", "(I)V"⟩
abbrev cX7_reads : ByteArray := prog_9_method_2_code
def yX7_reads : MethodName := ⟨RX7, "reads", "(III)Z"⟩
abbrev cX7_stampOn : ByteArray := prog_9_method_3_code
def yX7_stampOn : MethodName := ⟨RX7, "stampOn", "(II)I"⟩
def RX8 : String := "InTheOldOne$Sheet"
def TX8 : u_T := fun k => match k with
  | 0 => ("InTheOldOne$Sheet", "row", "[I", true)
  | 1 => ("InTheOldOne$Sheet", "sort", "I", false)
  | _ => ("InTheOldOne$Sheet", "size", "I", false)
def tyX8 : Nat → FieldType := fun k => match k with
  | 0 => .array .int
  | 1 => .int
  | _ => .int
abbrev wsX80 : List Cond := u_ws RX8 TX8 3
theorem nmX8 : ∀ a, a < 3 → ∀ b, b < 3 → a ≠ b → (TX8 a).2.1 ≠ (TX8 b).2.1 := by decide +kernel
theorem tyX8_ok : ∀ k, k < 3 → parseFieldDescriptor (TX8 k).2.2.1 = some (tyX8 k) := by decide +kernel
abbrev cX8_init : ByteArray := prog_10_method_1_code
def yX8_init : MethodName := ⟨RX8, "<init>", "()V"⟩
abbrev cX8_become : ByteArray := prog_10_method_2_code
def yX8_become : MethodName := ⟨RX8, "become", "(II)V"⟩
abbrev cX8_isMissing : ByteArray := prog_10_method_3_code
def yX8_isMissing : MethodName := ⟨RX8, "isMissing", "()Z"⟩
abbrev cX8_has : ByteArray := prog_10_method_4_code
def yX8_has : MethodName := ⟨RX8, "has", "(I)Z"⟩
abbrev cX8_hasPart : ByteArray := prog_10_method_5_code
def yX8_hasPart : MethodName := ⟨RX8, "hasPart", "(II)Z"⟩
abbrev cX8_put : ByteArray := prog_10_method_6_code
def yX8_put : MethodName := ⟨RX8, "put", "(II)V"⟩
def RX9 : String := "InTheOldOne$Tape"
def TX9 : u_T := fun k => match k with
  | 0 => ("InTheOldOne$Tape", "bytes", "[I", true)
  | 1 => ("InTheOldOne$Tape", "rule", "LInTheOldOne$Rule;", true)
  | 2 => ("InTheOldOne$Tape", "size", "I", false)
  | 3 => ("InTheOldOne$Tape", "place", "I", false)
  | 4 => ("InTheOldOne$Tape", "next", "I", false)
  | 5 => ("InTheOldOne$Tape", "token", "I", false)
  | _ => ("InTheOldOne$Tape", "value", "I", false)
def tyX9 : Nat → FieldType := fun k => match k with
  | 0 => .array .int
  | 1 => .object "InTheOldOne$Rule"
  | 2 => .int
  | 3 => .int
  | 4 => .int
  | 5 => .int
  | _ => .int
abbrev wsX90 : List Cond := u_ws RX9 TX9 7
theorem nmX9 : ∀ a, a < 7 → ∀ b, b < 7 → a ≠ b → (TX9 a).2.1 ≠ (TX9 b).2.1 := by decide +kernel
theorem tyX9_ok : ∀ k, k < 7 → parseFieldDescriptor (TX9 k).2.2.1 = some (tyX9 k) := by decide +kernel
abbrev cX9_init : ByteArray := prog_11_method_1_code
def yX9_init : MethodName := ⟨RX9, "<init>", "()V"⟩
abbrev cX9_add : ByteArray := prog_11_method_2_code
def yX9_add : MethodName := ⟨RX9, "add", "(I)Z"⟩
abbrev cX9_clear : ByteArray := prog_11_method_3_code
def yX9_clear : MethodName := ⟨RX9, "clear", "()V"⟩
abbrev cX9_read : ByteArray := prog_11_method_4_code
def yX9_read : MethodName := ⟨RX9, "read", "()I"⟩
abbrev cX9_readLevel : ByteArray := prog_11_method_5_code
def yX9_readLevel : MethodName := ⟨RX9, "readLevel", "(II)Z"⟩
abbrev cX9_readDenied : ByteArray := prog_11_method_6_code
def yX9_readDenied : MethodName := ⟨RX9, "readDenied", "(I)Z"⟩
abbrev cX9_readOne : ByteArray := prog_11_method_7_code
def yX9_readOne : MethodName := ⟨RX9, "readOne", "(I)Z"⟩
abbrev cX9_stepOn : ByteArray := prog_11_method_8_code
def yX9_stepOn : MethodName := ⟨RX9, "stepOn", "(I)I"⟩
abbrev cX9_advance : ByteArray := prog_11_method_9_code
def yX9_advance : MethodName := ⟨RX9, "advance", "()V"⟩
abbrev cX9_readWord : ByteArray := prog_11_method_10_code
def yX9_readWord : MethodName := ⟨RX9, "readWord", "()V"⟩
abbrev cX9_readNumber : ByteArray := prog_11_method_11_code
def yX9_readNumber : MethodName := ⟨RX9, "readNumber", "()V"⟩
abbrev cX9_wordIndex : ByteArray := prog_11_method_12_code
def yX9_wordIndex : MethodName := ⟨RX9, "wordIndex", "()I"⟩
abbrev cX9_isSpelled : ByteArray := prog_11_method_13_code
def yX9_isSpelled : MethodName := ⟨RX9, "isSpelled", "(II)Z"⟩
abbrev cX9_isLetter : ByteArray := prog_11_method_14_code
def yX9_isLetter : MethodName := ⟨RX9, "isLetter", "(I)Z"⟩
abbrev cX9_isDigit : ByteArray := prog_11_method_15_code
def yX9_isDigit : MethodName := ⟨RX9, "isDigit", "(I)Z"⟩
abbrev cX9_isSign : ByteArray := prog_11_method_16_code
def yX9_isSign : MethodName := ⟨RX9, "isSign", "(I)Z"⟩
def RX10 : String := "InTheOldOne$World"
def TX10 : u_T := fun k => match k with
  | 0 => ("InTheOldOne$World", "day", "I", false)
  | 1 => ("InTheOldOne$World", "rule", "I", false)
  | 2 => ("InTheOldOne$World", "size", "I", false)
  | _ => ("InTheOldOne$World", "disks", "[LInTheOldOne$Disk;", true)
def tyX10 : Nat → FieldType := fun k => match k with
  | 0 => .int
  | 1 => .int
  | 2 => .int
  | _ => .array (.object "InTheOldOne$Disk")
abbrev wsX100 : List Cond := u_ws RX10 TX10 4
theorem nmX10 : ∀ a, a < 4 → ∀ b, b < 4 → a ≠ b → (TX10 a).2.1 ≠ (TX10 b).2.1 := by decide +kernel
theorem tyX10_ok : ∀ k, k < 4 → parseFieldDescriptor (TX10 k).2.2.1 = some (tyX10 k) := by decide +kernel
abbrev cX10_init : ByteArray := prog_12_method_1_code
def yX10_init : MethodName := ⟨RX10, "<init>", "()V"⟩
abbrev cX10_become : ByteArray := prog_12_method_2_code
def yX10_become : MethodName := ⟨RX10, "become", "(LInTheOldOne$World;)V"⟩
abbrev cX10_has : ByteArray := prog_12_method_3_code
def yX10_has : MethodName := ⟨RX10, "has", "(I)Z"⟩
abbrev cX10_readers : ByteArray := prog_12_method_4_code
def yX10_readers : MethodName := ⟨RX10, "readers", "()I"⟩
abbrev cX10_filesOn : ByteArray := prog_12_method_5_code
def yX10_filesOn : MethodName := ⟨RX10, "filesOn", "(I)I"⟩
abbrev cX10_holders : ByteArray := prog_12_method_6_code
def yX10_holders : MethodName := ⟨RX10, "holders", "(I)I"⟩
abbrev cX10_holdersAmong : ByteArray := prog_12_method_7_code
def yX10_holdersAmong : MethodName := ⟨RX10, "holdersAmong", "(II)I"⟩
abbrev cX10_newestHolder : ByteArray := prog_12_method_8_code
def yX10_newestHolder : MethodName := ⟨RX10, "newestHolder", "(I)I"⟩
abbrev cX10_differing : ByteArray := prog_12_method_9_code
def yX10_differing : MethodName := ⟨RX10, "differing", "()I"⟩
abbrev cX10_areUnlike : ByteArray := prog_12_method_10_code
def yX10_areUnlike : MethodName := ⟨RX10, "areUnlike", "(II)Z"⟩
abbrev cX10_safe : ByteArray := prog_12_method_11_code
def yX10_safe : MethodName := ⟨RX10, "safe", "(I)I"⟩
abbrev cX10_lost : ByteArray := prog_12_method_12_code
def yX10_lost : MethodName := ⟨RX10, "lost", "()I"⟩
abbrev cX10_contentCount : ByteArray := prog_12_method_13_code
def yX10_contentCount : MethodName := ⟨RX10, "contentCount", "()I"⟩
abbrev cX10_canCopy : ByteArray := prog_12_method_14_code
def yX10_canCopy : MethodName := ⟨RX10, "canCopy", "(II)Z"⟩
abbrev cX10_copyOnto : ByteArray := prog_12_method_15_code
def yX10_copyOnto : MethodName := ⟨RX10, "copyOnto", "(IILInTheOldOne$Rule;)I"⟩
def RX11 : String := "InTheOldOne"
def TX11 : u_T := fun k => match k with
  | 0 => ("InTheOldOne", "kinds", "[LInTheOldOne$DiskKind;", true)
  | 1 => ("InTheOldOne", "texts", "[LInTheOldOne$Rule;", true)
  | 2 => ("InTheOldOne", "sheets", "[LInTheOldOne$Sheet;", true)
  | 3 => ("InTheOldOne", "tape", "LInTheOldOne$Tape;", true)
  | 4 => ("InTheOldOne", "now", "LInTheOldOne$World;", true)
  | 5 => ("InTheOldOne", "kept", "LInTheOldOne$World;", true)
  | 6 => ("InTheOldOne", "thought", "LInTheOldOne$World;", true)
  | 7 => ("InTheOldOne", "before", "[LInTheOldOne$Disk;", true)
  | 8 => ("InTheOldOne", "textCount", "I", false)
  | _ => ("InTheOldOne", "imageKept", "Z", false)
def tyX11 : Nat → FieldType := fun k => match k with
  | 0 => .array (.object "InTheOldOne$DiskKind")
  | 1 => .array (.object "InTheOldOne$Rule")
  | 2 => .array (.object "InTheOldOne$Sheet")
  | 3 => .object "InTheOldOne$Tape"
  | 4 => .object "InTheOldOne$World"
  | 5 => .object "InTheOldOne$World"
  | 6 => .object "InTheOldOne$World"
  | 7 => .array (.object "InTheOldOne$Disk")
  | 8 => .int
  | _ => .boolean
abbrev wsX110 : List Cond := u_ws RX11 TX11 10
theorem nmX11 : ∀ a, a < 10 → ∀ b, b < 10 → a ≠ b → (TX11 a).2.1 ≠ (TX11 b).2.1 := by decide +kernel
theorem tyX11_ok : ∀ k, k < 10 → parseFieldDescriptor (TX11 k).2.2.1 = some (tyX11 k) := by decide +kernel
abbrev cX11_init : ByteArray := prog_1_method_1_code
def yX11_init : MethodName := ⟨RX11, "<init>", "()V"⟩
abbrev cX11_set : ByteArray := prog_1_method_2_code
def yX11_set : MethodName := ⟨RX11, "set", "(III)I"⟩
abbrev cX11_disk : ByteArray := prog_1_method_3_code
def yX11_disk : MethodName := ⟨RX11, "disk", "(II)I"⟩
abbrev cX11_told : ByteArray := prog_1_method_4_code
def yX11_told : MethodName := ⟨RX11, "told", "(II)I"⟩
abbrev cX11_file : ByteArray := prog_1_method_5_code
def yX11_file : MethodName := ⟨RX11, "file", "(III)I"⟩
abbrev cX11_feed : ByteArray := prog_1_method_6_code
def yX11_feed : MethodName := ⟨RX11, "feed", "(I)I"⟩
abbrev cX11_text : ByteArray := prog_1_method_7_code
def yX11_text : MethodName := ⟨RX11, "text", "()I"⟩
abbrev cX11_force : ByteArray := prog_1_method_8_code
def yX11_force : MethodName := ⟨RX11, "force", "(I)I"⟩
abbrev cX11_write : ByteArray := prog_1_method_9_code
def yX11_write : MethodName := ⟨RX11, "write", "(III)I"⟩
abbrev cX11_lose : ByteArray := prog_1_method_10_code
def yX11_lose : MethodName := ⟨RX11, "lose", "(II)I"⟩
abbrev cX11_copies : ByteArray := prog_1_method_11_code
def yX11_copies : MethodName := ⟨RX11, "copies", "(II)I"⟩
abbrev cX11_on : ByteArray := prog_1_method_12_code
def yX11_on : MethodName := ⟨RX11, "on", "(I)I"⟩
abbrev cX11_newest : ByteArray := prog_1_method_13_code
def yX11_newest : MethodName := ⟨RX11, "newest", "(II)I"⟩
abbrev cX11_all : ByteArray := prog_1_method_14_code
def yX11_all : MethodName := ⟨RX11, "all", "(I)I"⟩
abbrev cX11_best : ByteArray := prog_1_method_15_code
def yX11_best : MethodName := ⟨RX11, "best", "(II)I"⟩
abbrev cX11_fewest : ByteArray := prog_1_method_16_code
def yX11_fewest : MethodName := ⟨RX11, "fewest", "(I)I"⟩
abbrev cX11_worst : ByteArray := prog_1_method_17_code
def yX11_worst : MethodName := ⟨RX11, "worst", "(I)I"⟩
abbrev cX11_letGo : ByteArray := prog_1_method_18_code
def yX11_letGo : MethodName := ⟨RX11, "letGo", "()I"⟩
abbrev cX11_again : ByteArray := prog_1_method_19_code
def yX11_again : MethodName := ⟨RX11, "again", "(II)I"⟩
abbrev cX11_goes : ByteArray := prog_1_method_20_code
def yX11_goes : MethodName := ⟨RX11, "goes", "(I)I"⟩
abbrev cX11_plan : ByteArray := prog_1_method_21_code
def yX11_plan : MethodName := ⟨RX11, "plan", "(II)I"⟩
abbrev cX11_tells : ByteArray := prog_1_method_22_code
def yX11_tells : MethodName := ⟨RX11, "tells", "(IIII)I"⟩
abbrev cX11_film : ByteArray := prog_1_method_23_code
def yX11_film : MethodName := ⟨RX11, "film", "(II)I"⟩
abbrev cX11_lot : ByteArray := prog_1_method_24_code
def yX11_lot : MethodName := ⟨RX11, "lot", "(I)I"⟩
abbrev cX11_chance : ByteArray := prog_1_method_25_code
def yX11_chance : MethodName := ⟨RX11, "chance", "(III)J"⟩
abbrev cX11_image : ByteArray := prog_1_method_26_code
def yX11_image : MethodName := ⟨RX11, "image", "()I"⟩
abbrev cX11_back : ByteArray := prog_1_method_27_code
def yX11_back : MethodName := ⟨RX11, "back", "()I"⟩
abbrev cX11_count : ByteArray := prog_1_method_28_code
def yX11_count : MethodName := ⟨RX11, "count", "(I)I"⟩
abbrev cX11_sheet : ByteArray := prog_1_method_29_code
def yX11_sheet : MethodName := ⟨RX11, "sheet", "(III)I"⟩
abbrev cX11_cell : ByteArray := prog_1_method_30_code
def yX11_cell : MethodName := ⟨RX11, "cell", "(III)I"⟩
abbrev cX11_copy : ByteArray := prog_1_method_31_code
def yX11_copy : MethodName := ⟨RX11, "copy", "(IIIII)I"⟩
abbrev cX11_disks : ByteArray := prog_1_method_32_code
def yX11_disks : MethodName := ⟨RX11, "disks", "(IIII)I"⟩
abbrev cX11_taken : ByteArray := prog_1_method_33_code
def yX11_taken : MethodName := ⟨RX11, "taken", "(II)I"⟩
abbrev cX11_rule : ByteArray := prog_1_method_34_code
def yX11_rule : MethodName := ⟨RX11, "rule", "()LInTheOldOne$Rule;"⟩
abbrev cX11_isFile : ByteArray := prog_1_method_35_code
def yX11_isFile : MethodName := ⟨RX11, "isFile", "(I)Z"⟩
abbrev cX11_isSheet : ByteArray := prog_1_method_36_code
def yX11_isSheet : MethodName := ⟨RX11, "isSheet", "(I)Z"⟩
abbrev cX11_isHowMany : ByteArray := prog_1_method_37_code
def yX11_isHowMany : MethodName := ⟨RX11, "isHowMany", "(I)Z"⟩
abbrev cX11_areTwo : ByteArray := prog_1_method_38_code
def yX11_areTwo : MethodName := ⟨RX11, "areTwo", "(II)Z"⟩
abbrev cX11_isIn : ByteArray := prog_1_method_39_code
def yX11_isIn : MethodName := ⟨RX11, "isIn", "(II)Z"⟩
abbrev cX11_without : ByteArray := prog_1_method_40_code
def yX11_without : MethodName := ⟨RX11, "without", "(II)I"⟩
abbrev cX11_bring : ByteArray := prog_1_method_41_code
def yX11_bring : MethodName := ⟨RX11, "bring", "(II)I"⟩
abbrev cX11_isUnder : ByteArray := prog_1_method_42_code
def yX11_isUnder : MethodName := ⟨RX11, "isUnder", "(LInTheOldOne$DiskKind;I)Z"⟩
abbrev cX11_worthOf : ByteArray := prog_1_method_43_code
def yX11_worthOf : MethodName := ⟨RX11, "worthOf", "(I)I"⟩
abbrev cX11_safeBehind : ByteArray := prog_1_method_44_code
def yX11_safeBehind : MethodName := ⟨RX11, "safeBehind", "(III)I"⟩
abbrev cX11_comesToSafe : ByteArray := prog_1_method_45_code
def yX11_comesToSafe : MethodName := ⟨RX11, "comesToSafe", "(III)Z"⟩
abbrev cX11_bringsAll : ByteArray := prog_1_method_46_code
def yX11_bringsAll : MethodName := ⟨RX11, "bringsAll", "(III)Z"⟩
abbrev cX11_leadsToSafe : ByteArray := prog_1_method_47_code
def yX11_leadsToSafe : MethodName := ⟨RX11, "leadsToSafe", "(IIIII)Z"⟩
abbrev cX11_tellsDisks : ByteArray := prog_1_method_48_code
def yX11_tellsDisks : MethodName := ⟨RX11, "tellsDisks", "(LInTheOldOne$Sheet;)Z"⟩
abbrev cX11_copyInThought : ByteArray := prog_1_method_49_code
def yX11_copyInThought : MethodName := ⟨RX11, "copyInThought", "(LInTheOldOne$Sheet;)I"⟩
abbrev cX11_otherwise : ByteArray := prog_1_method_50_code
def yX11_otherwise : MethodName := ⟨RX11, "otherwise", "(LInTheOldOne$Disk;LInTheOldOne$Sheet;)I"⟩
abbrev cX11_comesToTold : ByteArray := prog_1_method_51_code
def yX11_comesToTold : MethodName := ⟨RX11, "comesToTold", "(LInTheOldOne$Sheet;IILInTheOldOne$Rule;)Z"⟩
abbrev cX11_kindsTold : ByteArray := prog_1_method_52_code
def yX11_kindsTold : MethodName := ⟨RX11, "kindsTold", "(LInTheOldOne$Sheet;II)I"⟩
abbrev cX11_numbersTold : ByteArray := prog_1_method_53_code
def yX11_numbersTold : MethodName := ⟨RX11, "numbersTold", "(LInTheOldOne$Sheet;II)I"⟩
abbrev cX11_disksTold : ByteArray := prog_1_method_54_code
def yX11_disksTold : MethodName := ⟨RX11, "disksTold", "(LInTheOldOne$Sheet;I)I"⟩
abbrev cX11_textsTold : ByteArray := prog_1_method_55_code
def yX11_textsTold : MethodName := ⟨RX11, "textsTold", "(LInTheOldOne$Sheet;II)I"⟩
abbrev cX11_stayers : ByteArray := prog_1_method_56_code
def yX11_stayers : MethodName := ⟨RX11, "stayers", "(I)I"⟩
abbrev cX11_commonDivisor : ByteArray := prog_1_method_57_code
def yX11_commonDivisor : MethodName := ⟨RX11, "commonDivisor", "(II)I"⟩
def RX12 : String := "InTheOldOneModel"
def TX12 : u_T := fun k => match k with
  | 0 => ("InTheOldOneModel", "thrown", "I", false)
  | 1 => ("InTheOldOneModel", "texts", "[I", true)
  | 2 => ("InTheOldOneModel", "textSize", "[I", true)
  | 3 => ("InTheOldOneModel", "textCount", "I", false)
  | 4 => ("InTheOldOneModel", "rule", "I", false)
  | 5 => ("InTheOldOneModel", "tape", "[I", true)
  | 6 => ("InTheOldOneModel", "taped", "I", false)
  | 7 => ("InTheOldOneModel", "dayNow", "I", false)
  | 8 => ("InTheOldOneModel", "kinds", "[I", true)
  | 9 => ("InTheOldOneModel", "rows", "[I", true)
  | 10 => ("InTheOldOneModel", "contents", "[I", true)
  | 11 => ("InTheOldOneModel", "stamps", "[I", true)
  | 12 => ("InTheOldOneModel", "many", "I", false)
  | 13 => ("InTheOldOneModel", "ofHere", "I", false)
  | 14 => ("InTheOldOneModel", "ofThere", "I", false)
  | 15 => ("InTheOldOneModel", "ofSame", "I", false)
  | 16 => ("InTheOldOneModel", "ofNumber", "I", false)
  | 17 => ("InTheOldOneModel", "ofFile", "I", false)
  | 18 => ("InTheOldOneModel", "ofDay", "I", false)
  | 19 => ("InTheOldOneModel", "from", "I", false)
  | 20 => ("InTheOldOneModel", "size", "I", false)
  | 21 => ("InTheOldOneModel", "here", "I", false)
  | 22 => ("InTheOldOneModel", "token", "I", false)
  | 23 => ("InTheOldOneModel", "tokenAt", "I", false)
  | 24 => ("InTheOldOneModel", "tokenWorth", "J", false)
  | 25 => ("InTheOldOneModel", "open", "I", false)
  | 26 => ("InTheOldOneModel", "bad", "Z", false)
  | 27 => ("InTheOldOneModel", "fault", "I", false)
  | 28 => ("InTheOldOneModel", "gone", "I", false)
  | 29 => ("InTheOldOneModel", "frames", "[I", true)
  | 30 => ("InTheOldOneModel", "rowsKept", "[I", true)
  | 31 => ("InTheOldOneModel", "contentsKept", "[I", true)
  | 32 => ("InTheOldOneModel", "stampsKept", "[I", true)
  | 33 => ("InTheOldOneModel", "manyKept", "I", false)
  | 34 => ("InTheOldOneModel", "dayKept", "I", false)
  | 35 => ("InTheOldOneModel", "ruleKept", "I", false)
  | 36 => ("InTheOldOneModel", "isThere", "[Z", true)
  | 37 => ("InTheOldOneModel", "sorts", "[I", true)
  | 38 => ("InTheOldOneModel", "sheetSize", "[I", true)
  | _ => ("InTheOldOneModel", "items", "[I", true)
def tyX12 : Nat → FieldType := fun k => match k with
  | 0 => .int
  | 1 => .array .int
  | 2 => .array .int
  | 3 => .int
  | 4 => .int
  | 5 => .array .int
  | 6 => .int
  | 7 => .int
  | 8 => .array .int
  | 9 => .array .int
  | 10 => .array .int
  | 11 => .array .int
  | 12 => .int
  | 13 => .int
  | 14 => .int
  | 15 => .int
  | 16 => .int
  | 17 => .int
  | 18 => .int
  | 19 => .int
  | 20 => .int
  | 21 => .int
  | 22 => .int
  | 23 => .int
  | 24 => .long
  | 25 => .int
  | 26 => .boolean
  | 27 => .int
  | 28 => .int
  | 29 => .array .int
  | 30 => .array .int
  | 31 => .array .int
  | 32 => .array .int
  | 33 => .int
  | 34 => .int
  | 35 => .int
  | 36 => .array .boolean
  | 37 => .array .int
  | 38 => .array .int
  | _ => .array .int
abbrev wsX120 : List Cond := u_ws RX12 TX12 40
theorem nmX12 : ∀ a, a < 40 → ∀ b, b < 40 → a ≠ b → (TX12 a).2.1 ≠ (TX12 b).2.1 := by decide +kernel
theorem tyX12_ok : ∀ k, k < 40 → parseFieldDescriptor (TX12 k).2.2.1 = some (tyX12 k) := by decide +kernel
abbrev cX12_in : ByteArray := prog_14_method_2_code
def yX12_in : MethodName := ⟨RX12, "in", "(JJJ)Z"⟩
abbrev cX12_within : ByteArray := prog_14_method_3_code
def yX12_within : MethodName := ⟨RX12, "within", "(III)I"⟩
abbrev cX12_init : ByteArray := prog_14_method_4_code
def yX12_init : MethodName := ⟨RX12, "<init>", "()V"⟩
abbrev cX12_spell : ByteArray := prog_14_method_5_code
def yX12_spell : MethodName := ⟨RX12, "spell", "(IIIIIIIII)V"⟩
abbrev cX12_isDisk : ByteArray := prog_14_method_6_code
def yX12_isDisk : MethodName := ⟨RX12, "isDisk", "(I)Z"⟩
abbrev cX12_isFile : ByteArray := prog_14_method_7_code
def yX12_isFile : MethodName := ⟨RX12, "isFile", "(I)Z"⟩
abbrev cX12_set : ByteArray := prog_14_method_8_code
def yX12_set : MethodName := ⟨RX12, "set", "(III)I"⟩
abbrev cX12_lays : ByteArray := prog_14_method_9_code
def yX12_lays : MethodName := ⟨RX12, "lays", "(III)V"⟩
abbrev cX12_disk : ByteArray := prog_14_method_10_code
def yX12_disk : MethodName := ⟨RX12, "disk", "(II)I"⟩
abbrev cX12_empties : ByteArray := prog_14_method_11_code
def yX12_empties : MethodName := ⟨RX12, "empties", "(II)V"⟩
abbrev cX12_told : ByteArray := prog_14_method_12_code
def yX12_told : MethodName := ⟨RX12, "told", "(II)I"⟩
abbrev cX12_file : ByteArray := prog_14_method_13_code
def yX12_file : MethodName := ⟨RX12, "file", "(III)I"⟩
abbrev cX12_reads : ByteArray := prog_14_method_14_code
def yX12_reads : MethodName := ⟨RX12, "reads", "(I)Z"⟩
abbrev cX12_stampsOf : ByteArray := prog_14_method_15_code
def yX12_stampsOf : MethodName := ⟨RX12, "stampsOf", "(I)I"⟩
abbrev cX12_keepsOf : ByteArray := prog_14_method_16_code
def yX12_keepsOf : MethodName := ⟨RX12, "keepsOf", "(II)I"⟩
abbrev cX12_roomOf : ByteArray := prog_14_method_17_code
def yX12_roomOf : MethodName := ⟨RX12, "roomOf", "(I)I"⟩
abbrev cX12_hasOf : ByteArray := prog_14_method_18_code
def yX12_hasOf : MethodName := ⟨RX12, "hasOf", "(I)I"⟩
abbrev cX12_hasRoom : ByteArray := prog_14_method_19_code
def yX12_hasRoom : MethodName := ⟨RX12, "hasRoom", "(II)Z"⟩
abbrev cX12_feed : ByteArray := prog_14_method_20_code
def yX12_feed : MethodName := ⟨RX12, "feed", "(I)I"⟩
abbrev cX12_byteAt : ByteArray := prog_14_method_21_code
def yX12_byteAt : MethodName := ⟨RX12, "byteAt", "(I)I"⟩
abbrev cX12_next : ByteArray := prog_14_method_22_code
def yX12_next : MethodName := ⟨RX12, "next", "()V"⟩
abbrev cX12_fail : ByteArray := prog_14_method_23_code
def yX12_fail : MethodName := ⟨RX12, "fail", "()V"⟩
abbrev cX12_isLetter : ByteArray := prog_14_method_24_code
def yX12_isLetter : MethodName := ⟨RX12, "isLetter", "(II)Z"⟩
abbrev cX12_isWord : ByteArray := prog_14_method_25_code
def yX12_isWord : MethodName := ⟨RX12, "isWord", "(IIIIIIII)Z"⟩
abbrev cX12_isSign : ByteArray := prog_14_method_26_code
def yX12_isSign : MethodName := ⟨RX12, "isSign", "(I)Z"⟩
abbrev cX12_opens : ByteArray := prog_14_method_27_code
def yX12_opens : MethodName := ⟨RX12, "opens", "()Z"⟩
abbrev cX12_name : ByteArray := prog_14_method_28_code
def yX12_name : MethodName := ⟨RX12, "name", "()I"⟩
abbrev cX12_atom : ByteArray := prog_14_method_29_code
def yX12_atom : MethodName := ⟨RX12, "atom", "()I"⟩
abbrev cX12_term : ByteArray := prog_14_method_30_code
def yX12_term : MethodName := ⟨RX12, "term", "()I"⟩
abbrev cX12_added : ByteArray := prog_14_method_31_code
def yX12_added : MethodName := ⟨RX12, "added", "()I"⟩
abbrev cX12_not : ByteArray := prog_14_method_32_code
def yX12_not : MethodName := ⟨RX12, "not", "()I"⟩
abbrev cX12_both : ByteArray := prog_14_method_33_code
def yX12_both : MethodName := ⟨RX12, "both", "()I"⟩
abbrev cX12_either : ByteArray := prog_14_method_34_code
def yX12_either : MethodName := ⟨RX12, "either", "()I"⟩
abbrev cX12_part : ByteArray := prog_14_method_35_code
def yX12_part : MethodName := ⟨RX12, "part", "(Z)I"⟩
abbrev cX12_read : ByteArray := prog_14_method_36_code
def yX12_read : MethodName := ⟨RX12, "read", "(II)I"⟩
abbrev cX12_text : ByteArray := prog_14_method_37_code
def yX12_text : MethodName := ⟨RX12, "text", "()I"⟩
abbrev cX12_force : ByteArray := prog_14_method_38_code
def yX12_force : MethodName := ⟨RX12, "force", "(I)I"⟩
abbrev cX12_takes : ByteArray := prog_14_method_39_code
def yX12_takes : MethodName := ⟨RX12, "takes", "(III)Z"⟩
abbrev cX12_plainOf : ByteArray := prog_14_method_40_code
def yX12_plainOf : MethodName := ⟨RX12, "plainOf", "(IIII)I"⟩
abbrev cX12_goesOf : ByteArray := prog_14_method_41_code
def yX12_goesOf : MethodName := ⟨RX12, "goesOf", "(I)I"⟩
abbrev cX12_write : ByteArray := prog_14_method_42_code
def yX12_write : MethodName := ⟨RX12, "write", "(III)I"⟩
abbrev cX12_lose : ByteArray := prog_14_method_43_code
def yX12_lose : MethodName := ⟨RX12, "lose", "(II)I"⟩
abbrev cX12_canCopy : ByteArray := prog_14_method_44_code
def yX12_canCopy : MethodName := ⟨RX12, "canCopy", "(II)Z"⟩
abbrev cX12_copiesAll : ByteArray := prog_14_method_45_code
def yX12_copiesAll : MethodName := ⟨RX12, "copiesAll", "(II)I"⟩
abbrev cX12_copies : ByteArray := prog_14_method_46_code
def yX12_copies : MethodName := ⟨RX12, "copies", "(II)I"⟩
abbrev cX12_onOf : ByteArray := prog_14_method_47_code
def yX12_onOf : MethodName := ⟨RX12, "onOf", "(I)I"⟩
abbrev cX12_on : ByteArray := prog_14_method_48_code
def yX12_on : MethodName := ⟨RX12, "on", "(I)I"⟩
abbrev cX12_newestOf : ByteArray := prog_14_method_49_code
def yX12_newestOf : MethodName := ⟨RX12, "newestOf", "(I)I"⟩
abbrev cX12_newest : ByteArray := prog_14_method_50_code
def yX12_newest : MethodName := ⟨RX12, "newest", "(II)I"⟩
abbrev cX12_bitsOf : ByteArray := prog_14_method_51_code
def yX12_bitsOf : MethodName := ⟨RX12, "bitsOf", "(I)I"⟩
abbrev cX12_differs : ByteArray := prog_14_method_52_code
def yX12_differs : MethodName := ⟨RX12, "differs", "(I)Z"⟩
abbrev cX12_differ : ByteArray := prog_14_method_53_code
def yX12_differ : MethodName := ⟨RX12, "differ", "()I"⟩
abbrev cX12_safe : ByteArray := prog_14_method_54_code
def yX12_safe : MethodName := ⟨RX12, "safe", "(I)I"⟩
abbrev cX12_lostAll : ByteArray := prog_14_method_55_code
def yX12_lostAll : MethodName := ⟨RX12, "lostAll", "()I"⟩
abbrev cX12_worthAll : ByteArray := prog_14_method_56_code
def yX12_worthAll : MethodName := ⟨RX12, "worthAll", "()I"⟩
abbrev cX12_all : ByteArray := prog_14_method_57_code
def yX12_all : MethodName := ⟨RX12, "all", "(I)I"⟩
abbrev cX12_keeps : ByteArray := prog_14_method_58_code
def yX12_keeps : MethodName := ⟨RX12, "keeps", "(I)V"⟩
abbrev cX12_laysBack : ByteArray := prog_14_method_59_code
def yX12_laysBack : MethodName := ⟨RX12, "laysBack", "(I)V"⟩
abbrev cX12_best : ByteArray := prog_14_method_60_code
def yX12_best : MethodName := ⟨RX12, "best", "(II)I"⟩
abbrev cX12_makesSafe : ByteArray := prog_14_method_61_code
def yX12_makesSafe : MethodName := ⟨RX12, "makesSafe", "(III)Z"⟩
abbrev cX12_fewest : ByteArray := prog_14_method_62_code
def yX12_fewest : MethodName := ⟨RX12, "fewest", "(I)I"⟩
abbrev cX12_worst : ByteArray := prog_14_method_63_code
def yX12_worst : MethodName := ⟨RX12, "worst", "(I)I"⟩
abbrev cX12_letGo : ByteArray := prog_14_method_64_code
def yX12_letGo : MethodName := ⟨RX12, "letGo", "()I"⟩
abbrev cX12_hasSet : ByteArray := prog_14_method_65_code
def yX12_hasSet : MethodName := ⟨RX12, "hasSet", "(I)I"⟩
abbrev cX12_again : ByteArray := prog_14_method_66_code
def yX12_again : MethodName := ⟨RX12, "again", "(II)I"⟩
abbrev cX12_goes : ByteArray := prog_14_method_67_code
def yX12_goes : MethodName := ⟨RX12, "goes", "(I)I"⟩
abbrev cX12_isPlan : ByteArray := prog_14_method_68_code
def yX12_isPlan : MethodName := ⟨RX12, "isPlan", "(I)Z"⟩
abbrev cX12_plan : ByteArray := prog_14_method_69_code
def yX12_plan : MethodName := ⟨RX12, "plan", "(II)I"⟩
abbrev cX12_unlike : ByteArray := prog_14_method_70_code
def yX12_unlike : MethodName := ⟨RX12, "unlike", "(II)I"⟩
abbrev cX12_comesTo : ByteArray := prog_14_method_71_code
def yX12_comesTo : MethodName := ⟨RX12, "comesTo", "(III)Z"⟩
abbrev cX12_tells : ByteArray := prog_14_method_72_code
def yX12_tells : MethodName := ⟨RX12, "tells", "(IIII)I"⟩
abbrev cX12_film : ByteArray := prog_14_method_73_code
def yX12_film : MethodName := ⟨RX12, "film", "(II)I"⟩
abbrev cX12_goneBy : ByteArray := prog_14_method_74_code
def yX12_goneBy : MethodName := ⟨RX12, "goneBy", "(I)I"⟩
abbrev cX12_lot : ByteArray := prog_14_method_75_code
def yX12_lot : MethodName := ⟨RX12, "lot", "(I)I"⟩
abbrev cX12_chance : ByteArray := prog_14_method_76_code
def yX12_chance : MethodName := ⟨RX12, "chance", "(III)J"⟩
abbrev cX12_image : ByteArray := prog_14_method_77_code
def yX12_image : MethodName := ⟨RX12, "image", "()I"⟩
abbrev cX12_back : ByteArray := prog_14_method_78_code
def yX12_back : MethodName := ⟨RX12, "back", "()I"⟩
abbrev cX12_count : ByteArray := prog_14_method_79_code
def yX12_count : MethodName := ⟨RX12, "count", "(I)I"⟩
abbrev cX12_isSheet : ByteArray := prog_14_method_80_code
def yX12_isSheet : MethodName := ⟨RX12, "isSheet", "(I)Z"⟩
abbrev cX12_sheet : ByteArray := prog_14_method_81_code
def yX12_sheet : MethodName := ⟨RX12, "sheet", "(III)I"⟩
abbrev cX12_cell : ByteArray := prog_14_method_82_code
def yX12_cell : MethodName := ⟨RX12, "cell", "(III)I"⟩
abbrev cX12_copy : ByteArray := prog_14_method_83_code
def yX12_copy : MethodName := ⟨RX12, "copy", "(IIIII)I"⟩
abbrev cX12_disks : ByteArray := prog_14_method_84_code
def yX12_disks : MethodName := ⟨RX12, "disks", "(IIII)I"⟩
abbrev cX12_over : ByteArray := prog_14_method_85_code
def yX12_over : MethodName := ⟨RX12, "over", "(I)I"⟩
abbrev cX12_taken : ByteArray := prog_14_method_86_code
def yX12_taken : MethodName := ⟨RX12, "taken", "(II)I"⟩
def RJx145de : String := "java/io/Serializable"
def TJx145de : u_T := fun k => match k with
  | _ => ("", "", "", false)
def tyJx145de : Nat → FieldType := fun k => match k with
  | _ => .int
abbrev wsJx145de0 : List Cond := u_ws RJx145de TJx145de 0
theorem nmJx145de : ∀ a, a < 0 → ∀ b, b < 0 → a ≠ b → (TJx145de a).2.1 ≠ (TJx145de b).2.1 := by decide +kernel
theorem tyJx145de_ok : ∀ k, k < 0 → parseFieldDescriptor (TJx145de k).2.2.1 = some (tyJx145de k) := by decide +kernel
def RJx9f9b0 : String := "java/lang/CharSequence"
def TJx9f9b0 : u_T := fun k => match k with
  | _ => ("", "", "", false)
def tyJx9f9b0 : Nat → FieldType := fun k => match k with
  | _ => .int
abbrev wsJx9f9b00 : List Cond := u_ws RJx9f9b0 TJx9f9b0 0
theorem nmJx9f9b0 : ∀ a, a < 0 → ∀ b, b < 0 → a ≠ b → (TJx9f9b0 a).2.1 ≠ (TJx9f9b0 b).2.1 := by decide +kernel
theorem tyJx9f9b0_ok : ∀ k, k < 0 → parseFieldDescriptor (TJx9f9b0 k).2.2.1 = some (tyJx9f9b0 k) := by decide +kernel
def RJxb160c : String := "java/lang/Comparable"
def TJxb160c : u_T := fun k => match k with
  | _ => ("", "", "", false)
def tyJxb160c : Nat → FieldType := fun k => match k with
  | _ => .int
abbrev wsJxb160c0 : List Cond := u_ws RJxb160c TJxb160c 0
theorem nmJxb160c : ∀ a, a < 0 → ∀ b, b < 0 → a ≠ b → (TJxb160c a).2.1 ≠ (TJxb160c b).2.1 := by decide +kernel
theorem tyJxb160c_ok : ∀ k, k < 0 → parseFieldDescriptor (TJxb160c k).2.2.1 = some (tyJxb160c k) := by decide +kernel
def RJ6 : String := "java/lang/Integer"
def TJ6 : u_T := fun k => match k with
  | _ => ("", "", "", false)
def tyJ6 : Nat → FieldType := fun k => match k with
  | _ => .int
abbrev wsJ60 : List Cond := u_ws RJ6 TJ6 0
theorem nmJ6 : ∀ a, a < 0 → ∀ b, b < 0 → a ≠ b → (TJ6 a).2.1 ≠ (TJ6 b).2.1 := by decide +kernel
theorem tyJ6_ok : ∀ k, k < 0 → parseFieldDescriptor (TJ6 k).2.2.1 = some (tyJ6 k) := by decide +kernel
abbrev cJ6_bitCount_0f7a4 : ByteArray := prog_15_method_49_code
def yJ6_bitCount_0f7a4 : MethodName := ⟨RJ6, "bitCount", "(I)I"⟩
def RJ9 : String := "java/lang/Math"
def TJ9 : u_T := fun k => match k with
  | _ => ("", "", "", false)
def tyJ9 : Nat → FieldType := fun k => match k with
  | _ => .int
abbrev wsJ90 : List Cond := u_ws RJ9 TJ9 0
theorem nmJ9 : ∀ a, a < 0 → ∀ b, b < 0 → a ≠ b → (TJ9 a).2.1 ≠ (TJ9 b).2.1 := by decide +kernel
theorem tyJ9_ok : ∀ k, k < 0 → parseFieldDescriptor (TJ9 k).2.2.1 = some (tyJ9 k) := by decide +kernel
abbrev cJ9_max_7cf53 : ByteArray := prog_16_method_65_code
def yJ9_max_7cf53 : MethodName := ⟨RJ9, "max", "(II)I"⟩
abbrev cJ9_min_7cf53 : ByteArray := prog_16_method_69_code
def yJ9_min_7cf53 : MethodName := ⟨RJ9, "min", "(II)I"⟩
def RJ0 : String := "java/lang/String"
def TJ0 : u_T := fun k => match k with
  | _ => ("", "", "", false)
def tyJ0 : Nat → FieldType := fun k => match k with
  | _ => .int
abbrev wsJ00 : List Cond := u_ws RJ0 TJ0 0
theorem nmJ0 : ∀ a, a < 0 → ∀ b, b < 0 → a ≠ b → (TJ0 a).2.1 ≠ (TJ0 b).2.1 := by decide +kernel
theorem tyJ0_ok : ∀ k, k < 0 → parseFieldDescriptor (TJ0 k).2.2.1 = some (tyJ0 k) := by decide +kernel
abbrev cJ0_length_8abf5 : ByteArray := prog_17_method_54_code
def yJ0_length_8abf5 : MethodName := ⟨RJ0, "length", "()I"⟩
abbrev cJ0_charAt_5068e : ByteArray := prog_17_method_56_code
def yJ0_charAt_5068e : MethodName := ⟨RJ0, "charAt", "(I)C"⟩
abbrev cJ0_coder_7d493 : ByteArray := prog_17_method_152_code
def yJ0_coder_7d493 : MethodName := ⟨RJ0, "coder", "()B"⟩
abbrev cJ0_isLatin1_aae02 : ByteArray := prog_17_method_154_code
def yJ0_isLatin1_aae02 : MethodName := ⟨RJ0, "isLatin1", "()Z"⟩
abbrev cJ0_checkIndex_df160 : ByteArray := prog_17_method_155_code
def yJ0_checkIndex_df160 : MethodName := ⟨RJ0, "checkIndex", "(II)V"⟩
def RJ1 : String := "java/lang/StringLatin1"
def TJ1 : u_T := fun k => match k with
  | _ => ("", "", "", false)
def tyJ1 : Nat → FieldType := fun k => match k with
  | _ => .int
abbrev wsJ10 : List Cond := u_ws RJ1 TJ1 0
theorem nmJ1 : ∀ a, a < 0 → ∀ b, b < 0 → a ≠ b → (TJ1 a).2.1 ≠ (TJ1 b).2.1 := by decide +kernel
theorem tyJ1_ok : ∀ k, k < 0 → parseFieldDescriptor (TJ1 k).2.2.1 = some (tyJ1 k) := by decide +kernel
abbrev cJ1_charAt_3b067 : ByteArray := prog_18_method_2_code
def yJ1_charAt_3b067 : MethodName := ⟨RJ1, "charAt", "([BI)C"⟩
def RJ2 : String := "java/lang/StringUTF16"
def TJ2 : u_T := fun k => match k with
  | _ => ("", "", "", false)
def tyJ2 : Nat → FieldType := fun k => match k with
  | _ => .int
abbrev wsJ20 : List Cond := u_ws RJ2 TJ2 0
theorem nmJ2 : ∀ a, a < 0 → ∀ b, b < 0 → a ≠ b → (TJ2 a).2.1 ≠ (TJ2 b).2.1 := by decide +kernel
theorem tyJ2_ok : ∀ k, k < 0 → parseFieldDescriptor (TJ2 k).2.2.1 = some (tyJ2 k) := by decide +kernel
abbrev cJ2_getChar_3b067 : ByteArray := prog_19_method_5_code
def yJ2_getChar_3b067 : MethodName := ⟨RJ2, "getChar", "([BI)C"⟩
abbrev cJ2_length_9d52b : ByteArray := prog_19_method_6_code
def yJ2_length_9d52b : MethodName := ⟨RJ2, "length", "([B)I"⟩
abbrev cJ2_charAt_3b067 : ByteArray := prog_19_method_83_code
def yJ2_charAt_3b067 : MethodName := ⟨RJ2, "charAt", "([BI)C"⟩
abbrev cJ2_checkIndex_2214a : ByteArray := prog_19_method_91_code
def yJ2_checkIndex_2214a : MethodName := ⟨RJ2, "checkIndex", "(I[B)V"⟩
def RJ10 : String := "java/lang/System"
def TJ10 : u_T := fun k => match k with
  | _ => ("", "", "", false)
def tyJ10 : Nat → FieldType := fun k => match k with
  | _ => .int
abbrev wsJ100 : List Cond := u_ws RJ10 TJ10 0
theorem nmJ10 : ∀ a, a < 0 → ∀ b, b < 0 → a ≠ b → (TJ10 a).2.1 ≠ (TJ10 b).2.1 := by decide +kernel
theorem tyJ10_ok : ∀ k, k < 0 → parseFieldDescriptor (TJ10 k).2.2.1 = some (tyJ10 k) := by decide +kernel
def RJxfd54e : String := "java/lang/constant/Constable"
def TJxfd54e : u_T := fun k => match k with
  | _ => ("", "", "", false)
def tyJxfd54e : Nat → FieldType := fun k => match k with
  | _ => .int
abbrev wsJxfd54e0 : List Cond := u_ws RJxfd54e TJxfd54e 0
theorem nmJxfd54e : ∀ a, a < 0 → ∀ b, b < 0 → a ≠ b → (TJxfd54e a).2.1 ≠ (TJxfd54e b).2.1 := by decide +kernel
theorem tyJxfd54e_ok : ∀ k, k < 0 → parseFieldDescriptor (TJxfd54e k).2.2.1 = some (tyJxfd54e k) := by decide +kernel
def RJx3cf43 : String := "java/lang/constant/ConstantDesc"
def TJx3cf43 : u_T := fun k => match k with
  | _ => ("", "", "", false)
def tyJx3cf43 : Nat → FieldType := fun k => match k with
  | _ => .int
abbrev wsJx3cf430 : List Cond := u_ws RJx3cf43 TJx3cf43 0
theorem nmJx3cf43 : ∀ a, a < 0 → ∀ b, b < 0 → a ≠ b → (TJx3cf43 a).2.1 ≠ (TJx3cf43 b).2.1 := by decide +kernel
theorem tyJx3cf43_ok : ∀ k, k < 0 → parseFieldDescriptor (TJx3cf43 k).2.2.1 = some (tyJx3cf43 k) := by decide +kernel
def RJ7 : String := "java/util/Arrays"
def TJ7 : u_T := fun k => match k with
  | _ => ("", "", "", false)
def tyJ7 : Nat → FieldType := fun k => match k with
  | _ => .int
abbrev wsJ70 : List Cond := u_ws RJ7 TJ7 0
theorem nmJ7 : ∀ a, a < 0 → ∀ b, b < 0 → a ≠ b → (TJ7 a).2.1 ≠ (TJ7 b).2.1 := by decide +kernel
theorem tyJ7_ok : ∀ k, k < 0 → parseFieldDescriptor (TJ7 k).2.2.1 = some (tyJ7 k) := by decide +kernel
abbrev cJ7_fill_53178 : ByteArray := prog_21_method_103_code
def yJ7_fill_53178 : MethodName := ⟨RJ7, "fill", "([II)V"⟩
def RJ3 : String := "jdk/internal/util/Preconditions"
def TJ3 : u_T := fun k => match k with
  | _ => ("", "", "", false)
def tyJ3 : Nat → FieldType := fun k => match k with
  | _ => .int
abbrev wsJ30 : List Cond := u_ws RJ3 TJ3 0
theorem nmJ3 : ∀ a, a < 0 → ∀ b, b < 0 → a ≠ b → (TJ3 a).2.1 ≠ (TJ3 b).2.1 := by decide +kernel
theorem tyJ3_ok : ∀ k, k < 0 → parseFieldDescriptor (TJ3 k).2.2.1 = some (tyJ3 k) := by decide +kernel
abbrev cJ3_checkIndex_8e157 : ByteArray := prog_22_method_11_code
def yJ3_checkIndex_8e157 : MethodName := ⟨RJ3, "checkIndex", "(IILjava/util/function/BiFunction;)I"⟩
def RL : String := "InTheOldOneLaw"
abbrev cL_law : ByteArray := code
def yL_law : MethodName := ⟨RL, "law", "([I)Z"⟩
theorem inJx145de : ∀ w ∈ wsJx145de0, w ∈ lw_tbl := by decide +kernel
theorem inJx9f9b0 : ∀ w ∈ wsJx9f9b00, w ∈ lw_tbl := by decide +kernel
theorem inJxb160c : ∀ w ∈ wsJxb160c0, w ∈ lw_tbl := by decide +kernel
theorem inJ6 : ∀ w ∈ wsJ60, w ∈ lw_tbl := by decide +kernel
theorem inJ9 : ∀ w ∈ wsJ90, w ∈ lw_tbl := by decide +kernel
theorem inJ0 : ∀ w ∈ wsJ00, w ∈ lw_tbl := by decide +kernel
theorem inJ1 : ∀ w ∈ wsJ10, w ∈ lw_tbl := by decide +kernel
theorem inJ2 : ∀ w ∈ wsJ20, w ∈ lw_tbl := by decide +kernel
theorem inJ10 : ∀ w ∈ wsJ100, w ∈ lw_tbl := by decide +kernel
theorem inJxfd54e : ∀ w ∈ wsJxfd54e0, w ∈ lw_tbl := by decide +kernel
theorem inJx3cf43 : ∀ w ∈ wsJx3cf430, w ∈ lw_tbl := by decide +kernel
theorem inJ7 : ∀ w ∈ wsJ70, w ∈ lw_tbl := by decide +kernel
theorem inJ3 : ∀ w ∈ wsJ30, w ∈ lw_tbl := by decide +kernel
abbrev vwCl : List vw_C := [(RX0, TX0, 1), (RX1, TX1, 1), (RX2, TX2, 6), (RX3, TX3, 1), (RX4, TX4, 1), (RX5, TX5, 1), (RX6, TX6, 6), (RX7, TX7, 1), (RX8, TX8, 3), (RX9, TX9, 7), (RX10, TX10, 4), (RX11, TX11, 10), (RX12, TX12, 40)]
