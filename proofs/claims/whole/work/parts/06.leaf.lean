/-! the kinds, bits, a disk: what each method answers -/
def kReads (k : Nat) (age day num : Int32) : Bool :=
  match k with
  | 0 => decide (age ≤ 300)
  | 1 => decide (age ≤ 20 * num + 20)
  | 3 => decide (age ≤ 20 * num + 20) && decide (age - age / 2 * 2 = 0)
  | 4 => !decide (day - day / 7 * 7 = num)
  | _ => true
def kStamp (k : Nat) (day num : Int32) : Int32 :=
  match k with
  | 1 => day - num
  | 3 => (day - num) / 2
  | 4 => day + 1
  | 5 => 0
  | _ => day
def kKeeps (k : Nat) (c : Int32) : Int32 :=
  match k with
  | 3 => if 899 < c then 899 else c
  | 5 => c - (c - c / 10 * 10)
  | _ => c
def kRoom (k : Nat) (num : Int32) : Int32 :=
  match k with
  | 1 => 1 + num / 2
  | 3 => 1 + num / 2
  | 5 => num
  | _ => 8
theorem rI_b {b b' : Bool} {M : MM} (h : b = b') : rI (b2i b') M (some (.int (b2i b))) M := ⟨by rw [h], rfl⟩
theorem rI_i {a b : Int32} {M : MM} (h : a = b) : rI b M (some (.int a)) M := ⟨by rw [h], rfl⟩
theorem m_X9_add : xIM yX9_add cX9_add 2 (some .boolean) 1 := ⟨q7_20, q7_21, q1_20, q7_22, by decide +kernel, by decide⟩
theorem m_X9_read : xIM yX9_read cX9_read 2 (some .int) 0 := ⟨q8_1, q8_2, q1_20, q8_3, by decide +kernel, by decide⟩
theorem m_X6_clear : xIM yX6_clear cX6_clear 1 none 0 := ⟨q8_8, q8_9, q3_2, q8_10, by decide +kernel, by decide⟩
theorem m_X9_advance : xIM yX9_advance cX9_advance 1 none 0 := ⟨q8_13, q8_14, q1_20, q8_15, by decide +kernel, by decide⟩
theorem m_X9_isLetter : xSM yX9_isLetter cX9_isLetter 1 (some .boolean) 1 := ⟨q8_17, q1_20, q8_18, by decide +kernel, by decide⟩
theorem m_X9_readWord : xIM yX9_readWord cX9_readWord 2 none 0 := ⟨q8_20, q8_21, q1_20, q8_22, by decide +kernel, by decide⟩
theorem m_X9_wordIndex : xIM yX9_wordIndex cX9_wordIndex 4 (some .int) 0 := ⟨q9_1, q9_2, q1_20, q9_3, by decide +kernel, by decide⟩
theorem m_X9_isSpelled : xIM yX9_isSpelled cX9_isSpelled 4 (some .boolean) 2 := ⟨q9_7, q9_8, q1_20, q9_9, by decide +kernel, by decide⟩
theorem m_X9_isDigit : xSM yX9_isDigit cX9_isDigit 1 (some .boolean) 1 := ⟨q9_11, q1_20, q9_12, by decide +kernel, by decide⟩
theorem m_X9_readNumber : xIM yX9_readNumber cX9_readNumber 2 none 0 := ⟨q9_14, q9_15, q1_20, q9_16, by decide +kernel, by decide⟩
theorem m_X9_isSign : xSM yX9_isSign cX9_isSign 1 (some .boolean) 1 := ⟨q9_18, q1_20, q9_19, by decide +kernel, by decide⟩
theorem m_X9_readLevel : xIM yX9_readLevel cX9_readLevel 7 (some .boolean) 2 := ⟨q9_21, q9_22, q1_20, q9_23, by decide +kernel, by decide⟩
theorem m_X9_stepOn : xIM yX9_stepOn cX9_stepOn 2 (some .int) 1 := ⟨q10_7, q10_8, q1_20, q10_9, by decide +kernel, by decide⟩
theorem m_X6_add : xIM yX6_add cX6_add 2 none 1 := ⟨q10_11, q10_12, q3_2, q10_13, by decide +kernel, by decide⟩
theorem m_X9_readDenied : xIM yX9_readDenied cX9_readDenied 3 (some .boolean) 1 := ⟨q10_4, q10_5, q1_20, q10_14, by decide +kernel, by decide⟩
theorem m_X9_readOne : xIM yX9_readOne cX9_readOne 4 (some .boolean) 1 := ⟨q10_1, q10_2, q1_20, q10_15, by decide +kernel, by decide⟩
theorem m_X6_endPart : xIM yX6_endPart cX6_endPart 2 none 1 := ⟨q10_17, q10_18, q3_2, q10_19, by decide +kernel, by decide⟩
theorem m_X9_clear : xIM yX9_clear cX9_clear 1 none 0 := ⟨q10_21, q10_22, q1_20, q10_23, by decide +kernel, by decide⟩
theorem m_X6_become : xIM yX6_become cX6_become 2 none 1 := ⟨q11_1, q11_2, q3_2, q11_3, by decide +kernel, by decide⟩
theorem m_X12_spell : xIM yX12_spell cX12_spell 10 none 9 := ⟨q12_7, q12_8, q1_5, q12_9, by decide +kernel, by decide⟩
theorem m_X11_set : xIM yX11_set cX11_set 5 (some .int) 3 := ⟨q12_11, q12_12, q1_2, q12_13, by decide +kernel, by decide⟩
theorem m_X10_has : xIM yX10_has cX10_has 2 (some .boolean) 1 := ⟨q12_19, q12_20, q2_0, q12_21, by decide +kernel, by decide⟩
theorem m_X12_set : xIM yX12_set cX12_set 5 (some .int) 3 := ⟨q13_0, q13_1, q1_5, q13_2, by decide +kernel, by decide⟩
theorem m_X12_in : xSM yX12_in cX12_in 6 (some .boolean) 3 := ⟨q13_7, q1_5, q13_8, by decide +kernel, by decide⟩
theorem m_X12_isDisk : xIM yX12_isDisk cX12_isDisk 2 (some .boolean) 1 := ⟨q13_10, q13_11, q1_5, q13_12, by decide +kernel, by decide⟩
theorem m_X12_told : xIM yX12_told cX12_told 3 (some .int) 2 := ⟨q13_15, q13_16, q1_5, q13_17, by decide +kernel, by decide⟩
theorem m_X12_reads : xIM yX12_reads cX12_reads 5 (some .boolean) 1 := ⟨q13_21, q13_22, q1_5, q13_23, by decide +kernel, by decide⟩
theorem m_X12_stampsOf : xIM yX12_stampsOf cX12_stampsOf 4 (some .int) 1 := ⟨q14_1, q14_2, q1_5, q14_3, by decide +kernel, by decide⟩
theorem m_X12_roomOf : xIM yX12_roomOf cX12_roomOf 3 (some .int) 1 := ⟨q14_5, q14_6, q1_5, q14_7, by decide +kernel, by decide⟩
theorem m_X12_hasOf : xIM yX12_hasOf cX12_hasOf 4 (some .int) 1 := ⟨q14_9, q14_10, q1_5, q14_11, by decide +kernel, by decide⟩
theorem m_X12_goesOf : xIM yX12_goesOf cX12_goesOf 2 (some .int) 1 := ⟨q14_13, q14_14, q1_5, q14_15, by decide +kernel, by decide⟩
theorem m_X12_plainOf : xIM yX12_plainOf cX12_plainOf 5 (some .int) 4 := ⟨q14_17, q14_18, q1_5, q14_19, by decide +kernel, by decide⟩
theorem m_X12_read : xIM yX12_read cX12_read 6 (some .int) 2 := ⟨q15_4, q15_5, q1_5, q15_6, by decide +kernel, by decide⟩
theorem m_X12_next : xIM yX12_next cX12_next 3 none 0 := ⟨q15_14, q15_15, q1_5, q15_16, by decide +kernel, by decide⟩
theorem m_X12_byteAt : xIM yX12_byteAt cX12_byteAt 2 (some .int) 1 := ⟨q16_1, q16_2, q1_5, q16_3, by decide +kernel, by decide⟩
theorem m_X12_isWord : xIM yX12_isWord cX12_isWord 9 (some .boolean) 8 := ⟨q16_5, q16_6, q1_5, q16_7, by decide +kernel, by decide⟩
theorem m_X12_isLetter : xIM yX12_isLetter cX12_isLetter 3 (some .boolean) 2 := ⟨q16_9, q16_10, q1_5, q16_11, by decide +kernel, by decide⟩
theorem m_X12_part : xIM yX12_part cX12_part 3 (some .int) 1 := ⟨q16_13, q16_14, q1_5, q16_15, by decide +kernel, by decide⟩
theorem m_X12_fail : xIM yX12_fail cX12_fail 1 none 0 := ⟨q16_17, q16_18, q1_5, q16_19, by decide +kernel, by decide⟩
theorem m_X12_either : xIM yX12_either cX12_either 3 (some .int) 0 := ⟨q16_22, q16_23, q1_5, q17_0, by decide +kernel, by decide⟩
theorem m_X12_added : xIM yX12_added cX12_added 4 (some .int) 0 := ⟨q18_8, q18_9, q1_5, q17_4, by decide +kernel, by decide⟩
theorem m_X12_isSign : xIM yX12_isSign cX12_isSign 2 (some .boolean) 1 := ⟨q17_10, q17_11, q1_5, q17_12, by decide +kernel, by decide⟩
theorem m_X12_atom : xIM yX12_atom cX12_atom 2 (some .int) 0 := ⟨q17_19, q17_20, q1_5, q17_13, by decide +kernel, by decide⟩
theorem m_X12_opens : xIM yX12_opens cX12_opens 1 (some .boolean) 0 := ⟨q17_15, q17_16, q1_5, q17_17, by decide +kernel, by decide⟩
theorem m_X12_name : xIM yX12_name cX12_name 1 (some .int) 0 := ⟨q17_22, q17_23, q1_5, q18_0, by decide +kernel, by decide⟩
theorem m_X12_both : xIM yX12_both cX12_both 3 (some .int) 0 := ⟨q17_2, q17_3, q1_5, q18_1, by decide +kernel, by decide⟩
theorem m_X12_not : xIM yX12_not cX12_not 4 (some .int) 0 := ⟨q18_3, q18_4, q1_5, q18_5, by decide +kernel, by decide⟩
theorem m_X12_term : xIM yX12_term cX12_term 2 (some .int) 0 := ⟨q17_7, q17_8, q1_5, q18_10, by decide +kernel, by decide⟩
theorem m_X12_within : xSM yX12_within cX12_within 3 (some .int) 3 := ⟨q18_12, q1_5, q18_13, by decide +kernel, by decide⟩
theorem m_X12_lays : xIM yX12_lays cX12_lays 4 none 3 := ⟨q18_15, q18_16, q1_5, q18_17, by decide +kernel, by decide⟩
theorem m_X11_disk : xIM yX11_disk cX11_disk 3 (some .int) 2 := ⟨q18_19, q18_20, q1_2, q18_21, by decide +kernel, by decide⟩
theorem m_X11_bring : xIM yX11_bring cX11_bring 3 (some .int) 2 := ⟨q18_23, q19_0, q1_2, q19_1, by decide +kernel, by decide⟩
theorem m_X2_begin : xIM yX2_begin cX2_begin 5 none 3 := ⟨q19_4, q19_5, q3_6, q19_6, by decide +kernel, by decide⟩
theorem m_X2_drop : xIM yX2_drop cX2_drop 2 none 1 := ⟨q19_10, q19_11, q3_6, q19_12, by decide +kernel, by decide⟩
theorem m_X11_without : xSM yX11_without cX11_without 2 (some .int) 2 := ⟨q19_14, q1_2, q19_15, by decide +kernel, by decide⟩
theorem m_X12_disk : xIM yX12_disk cX12_disk 4 (some .int) 2 := ⟨q19_17, q19_18, q1_5, q19_19, by decide +kernel, by decide⟩
theorem m_X12_empties : xIM yX12_empties cX12_empties 3 none 2 := ⟨q19_22, q19_23, q1_5, q20_0, by decide +kernel, by decide⟩
theorem m_X11_told : xIM yX11_told cX11_told 4 (some .int) 2 := ⟨q20_2, q20_3, q1_2, q20_4, by decide +kernel, by decide⟩
theorem m_X2_readsOn : xIM yX2_readsOn cX2_readsOn 2 (some .boolean) 1 := ⟨q20_9, q20_10, q3_6, q20_11, by decide +kernel, by decide⟩
theorem m_X3_reads : xIM yX3_reads cX3_reads 4 (some .boolean) 3 := ⟨q20_23, q21_0, q2_9, q20_18, by decide +kernel, by decide⟩
theorem m_X3_stampOn : xIM yX3_stampOn cX3_stampOn 3 (some .int) 2 := ⟨q22_0, q22_4, q2_9, q22_1, by decide +kernel, by decide⟩
theorem m_X3_roomBy : xIM yX3_roomBy cX3_roomBy 2 (some .int) 1 := ⟨q23_0, q23_2, q2_9, q22_22, by decide +kernel, by decide⟩
theorem m_X11_rule : xIM yX11_rule cX11_rule 1 (some (.object "InTheOldOne$Rule")) 0 := ⟨q23_16, q23_17, q1_2, q23_18, by decide +kernel, by decide⟩
theorem m_X6_likelihood : xIM yX6_likelihood cX6_likelihood 3 (some .int) 2 := ⟨q23_21, q23_22, q3_2, q23_23, by decide +kernel, by decide⟩
theorem m_X6_nameNothingThere : xIM yX6_nameNothingThere cX6_nameNothingThere 1 none 0 := ⟨q24_8, q24_9, q3_2, q24_10, by decide +kernel, by decide⟩
theorem m_X6_nameRest : xIM yX6_nameRest cX6_nameRest 4 none 3 := ⟨q24_12, q24_13, q3_2, q24_14, by decide +kernel, by decide⟩
theorem m_X6_answer : xIM yX6_answer cX6_answer 5 (some .int) 1 := ⟨q24_16, q24_17, q3_2, q24_18, by decide +kernel, by decide⟩
theorem m_X6_push : xIM yX6_push cX6_push 2 none 1 := ⟨q24_21, q24_22, q3_2, q24_23, by decide +kernel, by decide⟩
theorem m_X6_turnTop : xIM yX6_turnTop cX6_turnTop 4 none 1 := ⟨q25_1, q25_2, q3_2, q25_3, by decide +kernel, by decide⟩
theorem m_X6_joinTwo : xIM yX6_joinTwo cX6_joinTwo 5 none 1 := ⟨q25_5, q25_6, q3_2, q25_7, by decide +kernel, by decide⟩
theorem m_X11_file : xIM yX11_file cX11_file 4 (some .int) 3 := ⟨q25_10, q25_11, q1_2, q25_12, by decide +kernel, by decide⟩
theorem m_X11_isFile : xSM yX11_isFile cX11_isFile 1 (some .boolean) 1 := ⟨q25_16, q1_2, q25_17, by decide +kernel, by decide⟩
theorem m_X12_file : xIM yX12_file cX12_file 4 (some .int) 3 := ⟨q25_19, q25_20, q1_5, q25_21, by decide +kernel, by decide⟩
theorem m_X12_isFile : xSM yX12_isFile cX12_isFile 1 (some .boolean) 1 := ⟨q25_23, q1_5, q26_0, by decide +kernel, by decide⟩
theorem m_X11_feed : xIM yX11_feed cX11_feed 2 (some .int) 1 := ⟨q26_3, q26_4, q1_2, q26_5, by decide +kernel, by decide⟩
theorem m_X12_feed : xIM yX12_feed cX12_feed 2 (some .int) 1 := ⟨q26_8, q26_9, q1_5, q26_10, by decide +kernel, by decide⟩
theorem m_X11_text : xIM yX11_text cX11_text 2 (some .int) 0 := ⟨q26_14, q26_15, q1_2, q26_16, by decide +kernel, by decide⟩
theorem m_X12_text : xIM yX12_text cX12_text 2 (some .int) 0 := ⟨q26_18, q26_19, q1_5, q26_20, by decide +kernel, by decide⟩
theorem m_X11_force : xIM yX11_force cX11_force 3 (some .int) 1 := ⟨q26_22, q26_23, q1_2, q27_0, by decide +kernel, by decide⟩
theorem m_X12_force : xIM yX12_force cX12_force 3 (some .int) 1 := ⟨q27_2, q27_3, q1_5, q27_4, by decide +kernel, by decide⟩
theorem m_X11_write : xIM yX11_write cX11_write 5 (some .int) 3 := ⟨q27_6, q27_7, q1_2, q27_8, by decide +kernel, by decide⟩
theorem m_X2_takesIn : xIM yX2_takesIn cX2_takesIn 2 (some .boolean) 1 := ⟨q27_10, q27_11, q3_6, q27_12, by decide +kernel, by decide⟩
theorem m_X11_isIn : xSM yX11_isIn cX11_isIn 2 (some .boolean) 2 := ⟨q27_13, q1_2, q27_14, by decide +kernel, by decide⟩
theorem m_X2_put : xIM yX2_put cX2_put 4 none 3 := ⟨q27_19, q27_20, q3_6, q27_21, by decide +kernel, by decide⟩
theorem m_X3_keeps : xIM yX3_keeps cX3_keeps 2 (some .int) 1 := ⟨q28_1, q28_5, q2_9, q28_2, by decide +kernel, by decide⟩
theorem m_X12_write : xIM yX12_write cX12_write 5 (some .int) 3 := ⟨q28_16, q28_17, q1_5, q28_18, by decide +kernel, by decide⟩
theorem m_X12_hasRoom : xIM yX12_hasRoom cX12_hasRoom 3 (some .boolean) 2 := ⟨q28_20, q28_21, q1_5, q28_22, by decide +kernel, by decide⟩
theorem m_X12_keepsOf : xIM yX12_keepsOf cX12_keepsOf 3 (some .int) 2 := ⟨q29_0, q29_1, q1_5, q29_2, by decide +kernel, by decide⟩
theorem m_X11_lose : xIM yX11_lose cX11_lose 5 (some .int) 2 := ⟨q29_4, q29_5, q1_2, q29_6, by decide +kernel, by decide⟩
theorem m_X12_lose : xIM yX12_lose cX12_lose 4 (some .int) 2 := ⟨q29_9, q29_10, q1_5, q29_11, by decide +kernel, by decide⟩
theorem m_X11_copies : xIM yX11_copies cX11_copies 3 (some .int) 2 := ⟨q29_13, q29_14, q1_2, q29_15, by decide +kernel, by decide⟩
theorem m_X11_areTwo : xIM yX11_areTwo cX11_areTwo 3 (some .boolean) 2 := ⟨q29_17, q29_18, q1_2, q29_19, by decide +kernel, by decide⟩
theorem m_X10_canCopy : xIM yX10_canCopy cX10_canCopy 3 (some .boolean) 2 := ⟨q29_21, q29_22, q2_0, q29_23, by decide +kernel, by decide⟩
theorem m_X10_copyOnto : xIM yX10_copyOnto cX10_copyOnto 9 (some .int) 3 := ⟨q30_3, q30_4, q2_0, q30_5, by decide +kernel, by decide⟩
theorem m_X6_takes : xIM yX6_takes cX6_takes 7 (some .boolean) 6 := ⟨q30_12, q30_13, q3_2, q30_14, by decide +kernel, by decide⟩
theorem m_X12_copies : xIM yX12_copies cX12_copies 3 (some .int) 2 := ⟨q30_17, q30_18, q1_5, q30_19, by decide +kernel, by decide⟩
theorem m_X12_canCopy : xIM yX12_canCopy cX12_canCopy 3 (some .boolean) 2 := ⟨q30_21, q30_22, q1_5, q30_23, by decide +kernel, by decide⟩
theorem m_X12_copiesAll : xIM yX12_copiesAll cX12_copiesAll 6 (some .int) 2 := ⟨q31_1, q31_2, q1_5, q31_3, by decide +kernel, by decide⟩
theorem m_X12_takes : xIM yX12_takes cX12_takes 6 (some .boolean) 3 := ⟨q31_5, q31_6, q1_5, q31_7, by decide +kernel, by decide⟩
theorem m_X11_on : xIM yX11_on cX11_on 2 (some .int) 1 := ⟨q31_9, q31_10, q1_2, q31_11, by decide +kernel, by decide⟩
theorem m_X10_holders : xIM yX10_holders cX10_holders 2 (some .int) 1 := ⟨q31_13, q31_14, q2_0, q31_15, by decide +kernel, by decide⟩
theorem m_X10_readers : xIM yX10_readers cX10_readers 3 (some .int) 0 := ⟨q31_17, q31_18, q2_0, q31_19, by decide +kernel, by decide⟩
theorem m_X10_holdersAmong : xIM yX10_holdersAmong cX10_holdersAmong 5 (some .int) 2 := ⟨q31_21, q31_22, q2_0, q31_23, by decide +kernel, by decide⟩
theorem m_X12_on : xIM yX12_on cX12_on 2 (some .int) 1 := ⟨q32_1, q32_2, q1_5, q32_3, by decide +kernel, by decide⟩
theorem m_X12_onOf : xIM yX12_onOf cX12_onOf 4 (some .int) 1 := ⟨q32_5, q32_6, q1_5, q32_7, by decide +kernel, by decide⟩
theorem m_X11_newest : xIM yX11_newest cX11_newest 4 (some .int) 2 := ⟨q32_10, q32_11, q1_2, q32_12, by decide +kernel, by decide⟩
theorem m_X10_newestHolder : xIM yX10_newestHolder cX10_newestHolder 5 (some .int) 1 := ⟨q32_14, q32_15, q2_0, q32_16, by decide +kernel, by decide⟩
theorem m_X12_newest : xIM yX12_newest cX12_newest 4 (some .int) 2 := ⟨q32_19, q32_20, q1_5, q32_21, by decide +kernel, by decide⟩
theorem m_X12_newestOf : xIM yX12_newestOf cX12_newestOf 5 (some .int) 1 := ⟨q32_23, q33_0, q1_5, q33_1, by decide +kernel, by decide⟩
theorem m_X11_all : xIM yX11_all cX11_all 2 (some .int) 1 := ⟨q33_3, q33_4, q1_2, q33_5, by decide +kernel, by decide⟩
theorem m_X10_differing : xIM yX10_differing cX10_differing 4 (some .int) 0 := ⟨q33_7, q33_8, q2_0, q33_9, by decide +kernel, by decide⟩
theorem m_X10_areUnlike : xIM yX10_areUnlike cX10_areUnlike 5 (some .boolean) 2 := ⟨q33_11, q33_12, q2_0, q33_13, by decide +kernel, by decide⟩
theorem m_X10_lost : xIM yX10_lost cX10_lost 2 (some .int) 0 := ⟨q33_15, q33_16, q2_0, q33_17, by decide +kernel, by decide⟩
theorem m_X10_filesOn : xIM yX10_filesOn cX10_filesOn 4 (some .int) 1 := ⟨q33_19, q33_20, q2_0, q33_21, by decide +kernel, by decide⟩
theorem m_X11_worthOf : xIM yX11_worthOf cX11_worthOf 4 (some .int) 1 := ⟨q34_1, q34_2, q1_2, q34_3, by decide +kernel, by decide⟩
theorem m_X6_worth : xIM yX6_worth cX6_worth 3 (some .int) 2 := ⟨q34_6, q34_7, q3_2, q34_8, by decide +kernel, by decide⟩
theorem m_X10_safe : xIM yX10_safe cX10_safe 5 (some .int) 1 := ⟨q34_10, q34_11, q2_0, q34_12, by decide +kernel, by decide⟩
theorem m_X12_all : xIM yX12_all cX12_all 2 (some .int) 1 := ⟨q34_15, q34_16, q1_5, q34_17, by decide +kernel, by decide⟩
theorem m_X12_differ : xIM yX12_differ cX12_differ 3 (some .int) 0 := ⟨q34_19, q34_20, q1_5, q34_21, by decide +kernel, by decide⟩
theorem m_X12_differs : xIM yX12_differs cX12_differs 5 (some .boolean) 1 := ⟨q34_23, q35_0, q1_5, q35_1, by decide +kernel, by decide⟩
theorem m_X12_safe : xIM yX12_safe cX12_safe 4 (some .int) 1 := ⟨q35_3, q35_4, q1_5, q35_5, by decide +kernel, by decide⟩
theorem m_X12_bitsOf : xSM yX12_bitsOf cX12_bitsOf 3 (some .int) 1 := ⟨q35_7, q1_5, q35_8, by decide +kernel, by decide⟩
theorem m_X12_lostAll : xIM yX12_lostAll cX12_lostAll 4 (some .int) 0 := ⟨q35_10, q35_11, q1_5, q35_12, by decide +kernel, by decide⟩
theorem m_X12_worthAll : xIM yX12_worthAll cX12_worthAll 3 (some .int) 0 := ⟨q35_14, q35_15, q1_5, q35_16, by decide +kernel, by decide⟩
theorem m_X11_best : xIM yX11_best cX11_best 8 (some .int) 2 := ⟨q35_18, q35_19, q1_2, q35_20, by decide +kernel, by decide⟩
theorem m_X11_isHowMany : xSM yX11_isHowMany cX11_isHowMany 1 (some .boolean) 1 := ⟨q35_22, q1_2, q35_23, by decide +kernel, by decide⟩
theorem m_X11_safeBehind : xIM yX11_safeBehind cX11_safeBehind 4 (some .int) 3 := ⟨q36_1, q36_2, q1_2, q36_3, by decide +kernel, by decide⟩
theorem m_X10_become : xIM yX10_become cX10_become 3 none 1 := ⟨q36_5, q36_6, q2_0, q36_7, by decide +kernel, by decide⟩
theorem m_X2_become : xIM yX2_become cX2_become 2 none 1 := ⟨q36_10, q36_11, q3_6, q36_12, by decide +kernel, by decide⟩
theorem m_X12_best : xIM yX12_best cX12_best 9 (some .int) 2 := ⟨q36_15, q36_16, q1_5, q36_17, by decide +kernel, by decide⟩
theorem m_X12_keeps : xIM yX12_keeps cX12_keeps 3 none 1 := ⟨q36_20, q36_21, q1_5, q36_22, by decide +kernel, by decide⟩
theorem m_X12_laysBack : xIM yX12_laysBack cX12_laysBack 3 none 1 := ⟨q37_0, q37_1, q1_5, q37_2, by decide +kernel, by decide⟩
theorem m_X11_fewest : xIM yX11_fewest cX11_fewest 4 (some .int) 1 := ⟨q37_4, q37_5, q1_2, q37_6, by decide +kernel, by decide⟩
theorem m_X11_comesToSafe : xIM yX11_comesToSafe cX11_comesToSafe 7 (some .boolean) 3 := ⟨q37_8, q37_9, q1_2, q37_10, by decide +kernel, by decide⟩
theorem m_X11_bringsAll : xIM yX11_bringsAll cX11_bringsAll 5 (some .boolean) 3 := ⟨q37_12, q37_13, q1_2, q37_14, by decide +kernel, by decide⟩
theorem m_X11_leadsToSafe : xIM yX11_leadsToSafe cX11_leadsToSafe 8 (some .boolean) 5 := ⟨q37_16, q37_17, q1_2, q37_18, by decide +kernel, by decide⟩
theorem m_X12_fewest : xIM yX12_fewest cX12_fewest 4 (some .int) 1 := ⟨q37_21, q37_22, q1_5, q37_23, by decide +kernel, by decide⟩
theorem m_X12_makesSafe : xIM yX12_makesSafe cX12_makesSafe 6 (some .boolean) 3 := ⟨q38_1, q38_2, q1_5, q38_3, by decide +kernel, by decide⟩
theorem m_X11_worst : xIM yX11_worst cX11_worst 7 (some .int) 1 := ⟨q38_5, q38_6, q1_2, q38_7, by decide +kernel, by decide⟩
theorem m_X12_worst : xIM yX12_worst cX12_worst 6 (some .int) 1 := ⟨q38_10, q38_11, q1_5, q38_12, by decide +kernel, by decide⟩
theorem m_X11_letGo : xIM yX11_letGo cX11_letGo 4 (some .int) 0 := ⟨q38_14, q38_15, q1_2, q38_16, by decide +kernel, by decide⟩
theorem m_X12_letGo : xIM yX12_letGo cX12_letGo 4 (some .int) 0 := ⟨q38_18, q38_19, q1_5, q38_20, by decide +kernel, by decide⟩
theorem m_X11_again : xIM yX11_again cX11_again 3 (some .int) 2 := ⟨q38_22, q38_23, q1_2, q39_0, by decide +kernel, by decide⟩
theorem m_X12_again : xIM yX12_again cX12_again 5 (some .int) 2 := ⟨q39_2, q39_3, q1_5, q39_4, by decide +kernel, by decide⟩
theorem m_X12_hasSet : xIM yX12_hasSet cX12_hasSet 4 (some .int) 1 := ⟨q39_6, q39_7, q1_5, q39_8, by decide +kernel, by decide⟩
theorem m_X11_goes : xIM yX11_goes cX11_goes 3 (some .int) 1 := ⟨q39_10, q39_11, q1_2, q39_12, by decide +kernel, by decide⟩
theorem m_X12_goes : xIM yX12_goes cX12_goes 4 (some .int) 1 := ⟨q39_14, q39_15, q1_5, q39_16, by decide +kernel, by decide⟩
theorem m_X11_plan : xIM yX11_plan cX11_plan 5 (some .int) 2 := ⟨q39_18, q39_19, q1_2, q39_20, by decide +kernel, by decide⟩
theorem m_X11_isSheet : xSM yX11_isSheet cX11_isSheet 1 (some .boolean) 1 := ⟨q39_23, q1_2, q40_0, by decide +kernel, by decide⟩
theorem m_X8_isMissing : xIM yX8_isMissing cX8_isMissing 1 (some .boolean) 0 := ⟨q40_2, q40_3, q3_4, q40_4, by decide +kernel, by decide⟩
theorem m_X11_tellsDisks : xIM yX11_tellsDisks cX11_tellsDisks 3 (some .boolean) 1 := ⟨q40_6, q40_7, q1_2, q40_8, by decide +kernel, by decide⟩
theorem m_X11_copyInThought : xIM yX11_copyInThought cX11_copyInThought 5 (some .int) 1 := ⟨q40_11, q40_12, q1_2, q40_13, by decide +kernel, by decide⟩
theorem m_X12_plan : xIM yX12_plan cX12_plan 6 (some .int) 2 := ⟨q40_15, q40_16, q1_5, q40_17, by decide +kernel, by decide⟩
theorem m_X12_isSheet : xSM yX12_isSheet cX12_isSheet 1 (some .boolean) 1 := ⟨q40_19, q1_5, q40_20, by decide +kernel, by decide⟩
theorem m_X12_isPlan : xIM yX12_isPlan cX12_isPlan 3 (some .boolean) 1 := ⟨q40_23, q41_0, q1_5, q41_1, by decide +kernel, by decide⟩
theorem m_X11_tells : xIM yX11_tells cX11_tells 7 (some .int) 4 := ⟨q41_3, q41_4, q1_2, q41_5, by decide +kernel, by decide⟩
theorem m_X11_otherwise : xSM yX11_otherwise cX11_otherwise 4 (some .int) 2 := ⟨q41_7, q1_2, q41_8, by decide +kernel, by decide⟩
theorem m_X11_kindsTold : xIM yX11_kindsTold cX11_kindsTold 6 (some .int) 3 := ⟨q41_10, q41_11, q1_2, q41_12, by decide +kernel, by decide⟩
theorem m_X11_comesToTold : xIM yX11_comesToTold cX11_comesToTold 5 (some .boolean) 4 := ⟨q41_14, q41_15, q1_2, q41_16, by decide +kernel, by decide⟩
theorem m_X11_numbersTold : xIM yX11_numbersTold cX11_numbersTold 6 (some .int) 3 := ⟨q41_18, q41_19, q1_2, q41_20, by decide +kernel, by decide⟩
theorem m_X11_disksTold : xIM yX11_disksTold cX11_disksTold 5 (some .int) 2 := ⟨q41_22, q41_23, q1_2, q42_0, by decide +kernel, by decide⟩
theorem m_X11_textsTold : xIM yX11_textsTold cX11_textsTold 6 (some .int) 3 := ⟨q42_2, q42_3, q1_2, q42_4, by decide +kernel, by decide⟩
theorem m_X12_tells : xIM yX12_tells cX12_tells 11 (some .int) 4 := ⟨q42_6, q42_7, q1_5, q42_8, by decide +kernel, by decide⟩
theorem m_X12_unlike : xIM yX12_unlike cX12_unlike 5 (some .int) 2 := ⟨q42_11, q42_12, q1_5, q42_13, by decide +kernel, by decide⟩
theorem m_X12_comesTo : xIM yX12_comesTo cX12_comesTo 5 (some .boolean) 3 := ⟨q42_15, q42_16, q1_5, q42_17, by decide +kernel, by decide⟩
theorem m_X11_film : xIM yX11_film cX11_film 4 (some .int) 2 := ⟨q42_19, q42_20, q1_2, q42_21, by decide +kernel, by decide⟩
theorem m_X8_become : xIM yX8_become cX8_become 3 none 2 := ⟨q42_23, q43_0, q3_4, q43_1, by decide +kernel, by decide⟩
theorem m_X8_put : xIM yX8_put cX8_put 3 none 2 := ⟨q43_8, q43_9, q3_4, q43_10, by decide +kernel, by decide⟩
theorem m_X12_film : xIM yX12_film cX12_film 4 (some .int) 2 := ⟨q43_12, q43_13, q1_5, q43_14, by decide +kernel, by decide⟩
theorem m_X12_sheet : xIM yX12_sheet cX12_sheet 5 (some .int) 3 := ⟨q43_16, q43_17, q1_5, q43_18, by decide +kernel, by decide⟩
theorem m_X11_lot : xIM yX11_lot cX11_lot 2 (some .int) 1 := ⟨q43_21, q43_22, q1_2, q43_23, by decide +kernel, by decide⟩
theorem m_X11_stayers : xIM yX11_stayers cX11_stayers 5 (some .int) 1 := ⟨q44_1, q44_2, q1_2, q44_3, by decide +kernel, by decide⟩
theorem m_X12_lot : xIM yX12_lot cX12_lot 3 (some .int) 1 := ⟨q44_6, q44_7, q1_5, q44_8, by decide +kernel, by decide⟩
theorem m_X12_goneBy : xIM yX12_goneBy cX12_goneBy 5 (some .int) 1 := ⟨q44_10, q44_11, q1_5, q44_12, by decide +kernel, by decide⟩
theorem m_X11_chance : xIM yX11_chance cX11_chance 7 (some .long) 3 := ⟨q44_15, q44_16, q1_2, q44_17, by decide +kernel, by decide⟩
theorem m_X11_commonDivisor : xSM yX11_commonDivisor cX11_commonDivisor 3 (some .int) 2 := ⟨q44_20, q1_2, q44_21, by decide +kernel, by decide⟩
theorem m_X12_chance : xIM yX12_chance cX12_chance 13 (some .long) 3 := ⟨q44_23, q45_0, q1_5, q45_1, by decide +kernel, by decide⟩
theorem m_X11_image : xIM yX11_image cX11_image 1 (some .int) 0 := ⟨q45_5, q45_6, q1_2, q45_7, by decide +kernel, by decide⟩
theorem m_X12_image : xIM yX12_image cX12_image 2 (some .int) 0 := ⟨q45_9, q45_10, q1_5, q45_11, by decide +kernel, by decide⟩
theorem m_X11_back : xIM yX11_back cX11_back 1 (some .int) 0 := ⟨q45_15, q45_16, q1_2, q45_17, by decide +kernel, by decide⟩
theorem m_X12_back : xIM yX12_back cX12_back 2 (some .int) 0 := ⟨q45_19, q45_20, q1_5, q45_21, by decide +kernel, by decide⟩
theorem m_X11_count : xIM yX11_count cX11_count 2 (some .int) 1 := ⟨q45_23, q46_0, q1_2, q46_1, by decide +kernel, by decide⟩
theorem m_X10_contentCount : xIM yX10_contentCount cX10_contentCount 3 (some .int) 0 := ⟨q46_3, q46_4, q2_0, q46_5, by decide +kernel, by decide⟩
theorem m_X12_count : xIM yX12_count cX12_count 4 (some .int) 1 := ⟨q46_7, q46_8, q1_5, q46_9, by decide +kernel, by decide⟩
theorem m_X11_sheet : xIM yX11_sheet cX11_sheet 4 (some .int) 3 := ⟨q46_11, q46_12, q1_2, q46_13, by decide +kernel, by decide⟩
theorem m_X11_cell : xIM yX11_cell cX11_cell 4 (some .int) 3 := ⟨q46_16, q46_17, q1_2, q46_18, by decide +kernel, by decide⟩
theorem m_X8_has : xIM yX8_has cX8_has 2 (some .boolean) 1 := ⟨q46_20, q46_21, q3_4, q46_22, by decide +kernel, by decide⟩
theorem m_X12_cell : xIM yX12_cell cX12_cell 4 (some .int) 3 := ⟨q47_0, q47_1, q1_5, q47_2, by decide +kernel, by decide⟩
theorem m_X11_copy : xIM yX11_copy cX11_copy 8 (some .int) 5 := ⟨q47_4, q47_5, q1_2, q47_6, by decide +kernel, by decide⟩
theorem m_X8_hasPart : xIM yX8_hasPart cX8_hasPart 3 (some .boolean) 2 := ⟨q47_10, q47_11, q3_4, q47_12, by decide +kernel, by decide⟩
theorem m_X12_copy : xIM yX12_copy cX12_copy 9 (some .int) 5 := ⟨q47_14, q47_15, q1_5, q47_16, by decide +kernel, by decide⟩
theorem m_X11_disks : xIM yX11_disks cX11_disks 9 (some .int) 4 := ⟨q47_18, q47_19, q1_2, q47_20, by decide +kernel, by decide⟩
theorem m_X12_disks : xIM yX12_disks cX12_disks 8 (some .int) 4 := ⟨q47_22, q47_23, q1_5, q48_0, by decide +kernel, by decide⟩
theorem m_X11_taken : xIM yX11_taken cX11_taken 3 (some .int) 2 := ⟨q48_3, q48_4, q1_2, q48_5, by decide +kernel, by decide⟩
theorem m_X11_isUnder : xSM yX11_isUnder cX11_isUnder 2 (some .boolean) 2 := ⟨q48_7, q1_2, q48_8, by decide +kernel, by decide⟩
theorem m_X12_taken : xIM yX12_taken cX12_taken 4 (some .int) 2 := ⟨q48_15, q48_16, q1_5, q48_17, by decide +kernel, by decide⟩
theorem m_X12_over : xSM yX12_over cX12_over 1 (some .int) 1 := ⟨q48_19, q1_5, q48_20, by decide +kernel, by decide⟩
theorem m_J6_bitCount_0f7a4 : xSM yJ6_bitCount_0f7a4 cJ6_bitCount_0f7a4 1 (some .int) 1 := ⟨q23_9, q23_10, q23_11, by decide +kernel, by decide⟩
theorem m_J7_fill_53178 : xSM yJ7_fill_53178 cJ7_fill_53178 4 none 2 := ⟨q43_4, q43_5, q43_6, by decide +kernel, by decide⟩
set_option maxRecDepth 100000 in
set_option maxHeartbeats 4000000 in
theorem c_X3_reads (t : CT) (M : MM) (a : Nat) (x1 x2 x3 : Int32) : XMet (wC t) yX3_reads cX3_reads 4 (some .boolean) 1 [.ref a, .int x1, .int x2, .int x3] M (rI (b2i (kReads 0 x1 x2 x3)) M) := by
  refine x_met RX3 (by decide) rfl (Nat.le_of_ble_eq_true rfl) (fun κ C X E => ?_)
  refine x_L (L' := [(0, .ref a), (1, .int x1), (2, .int x2), (3, .int x3)]) rfl ?_
  refine x_iload_n (pc := 0) C 1 dX3_reads_0 rfl ?_
  refine x_sipush (pc := 1) (v := 300) C dX3_reads_1 rfl ?_
  refine x_icmp_gt (pc := 4) C 11 dX3_reads_4 (by decide) (fun h4 => ?_) (fun h4 => ?_)
  · refine x_iconst (pc := 11) (v := 0) C dX3_reads_11 rfl ?_
    exact x_bret (pc := 12) C X (b := false) rfl dX3_reads_12 (rI_b (by first | (simp [kReads, i_lt, i_le, i_eq] at *; done) | (simp [kReads, i_lt, i_le, i_eq] at *; omega)))
  · refine x_iconst (pc := 7) (v := 1) C dX3_reads_7 rfl ?_
    refine x_goto (pc := 8) C 12 dX3_reads_8 (by decide) ?_
    exact x_bret (pc := 12) C X (b := true) rfl dX3_reads_12 (rI_b (by first | (simp [kReads, i_lt, i_le, i_eq] at *; done) | (simp [kReads, i_lt, i_le, i_eq] at *; omega)))

set_option maxRecDepth 100000 in
set_option maxHeartbeats 4000000 in
theorem c_X0_reads (t : CT) (M : MM) (a : Nat) (x1 x2 x3 : Int32) : XMet (wC t) yX0_reads cX0_reads 4 (some .boolean) 1 [.ref a, .int x1, .int x2, .int x3] M (rI (b2i (kReads 1 x1 x2 x3)) M) := by
  refine x_met RX0 (by decide) rfl (Nat.le_of_ble_eq_true rfl) (fun κ C X E => ?_)
  refine x_L (L' := [(0, .ref a), (1, .int x1), (2, .int x2), (3, .int x3)]) rfl ?_
  refine x_iload_n (pc := 0) C 1 dX0_reads_0 rfl ?_
  refine x_bipush (pc := 1) (v := 20) C dX0_reads_1 rfl ?_
  refine x_iload_n (pc := 3) C 3 dX0_reads_3 rfl ?_
  refine x_imul (pc := 4) C dX0_reads_4 ?_
  refine x_bipush (pc := 5) (v := 20) C dX0_reads_5 rfl ?_
  refine x_iadd (pc := 7) C dX0_reads_7 ?_
  refine x_icmp_gt (pc := 8) C 15 dX0_reads_8 (by decide) (fun h8 => ?_) (fun h8 => ?_)
  · refine x_iconst (pc := 15) (v := 0) C dX0_reads_15 rfl ?_
    exact x_bret (pc := 16) C X (b := false) rfl dX0_reads_16 (rI_b (by first | (simp [kReads, i_lt, i_le, i_eq] at *; done) | (simp [kReads, i_lt, i_le, i_eq] at *; omega)))
  · refine x_iconst (pc := 11) (v := 1) C dX0_reads_11 rfl ?_
    refine x_goto (pc := 12) C 16 dX0_reads_12 (by decide) ?_
    exact x_bret (pc := 16) C X (b := true) rfl dX0_reads_16 (rI_b (by first | (simp [kReads, i_lt, i_le, i_eq] at *; done) | (simp [kReads, i_lt, i_le, i_eq] at *; omega)))

set_option maxRecDepth 100000 in
set_option maxHeartbeats 4000000 in
theorem c_X1_reads (t : CT) (M : MM) (a : Nat) (x1 x2 x3 : Int32) : XMet (wC t) yX1_reads cX1_reads 4 (some .boolean) 1 [.ref a, .int x1, .int x2, .int x3] M (rI (b2i (kReads 2 x1 x2 x3)) M) := by
  refine x_met RX1 (by decide) rfl (Nat.le_of_ble_eq_true rfl) (fun κ C X E => ?_)
  refine x_L (L' := [(0, .ref a), (1, .int x1), (2, .int x2), (3, .int x3)]) rfl ?_
  refine x_iconst (pc := 0) (v := 1) C dX1_reads_0 rfl ?_
  exact x_bret (pc := 1) C X (b := true) rfl dX1_reads_1 (rI_b (by first | (simp [kReads, i_lt, i_le, i_eq] at *; done) | (simp [kReads, i_lt, i_le, i_eq] at *; omega)))

set_option maxRecDepth 100000 in
set_option maxHeartbeats 4000000 in
theorem c_X5_reads (t : CT) (M : MM) (a : Nat) (x1 x2 x3 : Int32) : XMet (wC t) yX5_reads cX5_reads 4 (some .boolean) 1 [.ref a, .int x1, .int x2, .int x3] M (rI (b2i (kReads 5 x1 x2 x3)) M) := by
  refine x_met RX5 (by decide) rfl (Nat.le_of_ble_eq_true rfl) (fun κ C X E => ?_)
  refine x_L (L' := [(0, .ref a), (1, .int x1), (2, .int x2), (3, .int x3)]) rfl ?_
  refine x_iconst (pc := 0) (v := 1) C dX5_reads_0 rfl ?_
  exact x_bret (pc := 1) C X (b := true) rfl dX5_reads_1 (rI_b (by first | (simp [kReads, i_lt, i_le, i_eq] at *; done) | (simp [kReads, i_lt, i_le, i_eq] at *; omega)))

set_option maxRecDepth 100000 in
set_option maxHeartbeats 4000000 in
theorem c_X4_reads (t : CT) (M : MM) {nm : Nat} {CN : String} (ho : xo (wC t) nm CN) (x1 x2 x3 : Int32) : XMet (wC t) yX4_reads cX4_reads 4 (some .boolean) 2 [.ref (t.1 nm), .int x1, .int x2, .int x3] M (rI (b2i (kReads 3 x1 x2 x3)) M) := by
  refine x_met RX4 (by decide) rfl (Nat.le_of_ble_eq_true rfl) (fun κ C X E => ?_)
  refine x_L (L' := [(0, .ref (t.1 nm)), (1, .int x1), (2, .int x2), (3, .int x3)]) rfl ?_
  refine x_aload_n (pc := 0) C 0 dX4_reads_0 rfl ?_
  refine x_iload_n (pc := 1) C 1 dX4_reads_1 rfl ?_
  refine x_iload_n (pc := 2) C 2 dX4_reads_2 rfl ?_
  refine x_iload_n (pc := 3) C 3 dX4_reads_3 rfl ?_
  refine x_callSU (pc := 4) (np := 3) C E [.int x1, .int x2, .int x3] [] (c_X0_reads t M _ x1 x2 x3) ⟨q21_4, q21_5, q21_6, q20_16, q2_12, q20_17⟩ ho ⟨by decide, by decide +kernel⟩ (by decide) rfl (by decide) (Nat.le_of_ble_eq_true rfl) dX4_reads_4 rfl (k_I ?_)
  refine x_ifb_eq (pc := 7) C 20 dX4_reads_7 (by decide) (fun h7 => ?_) (fun h7 => ?_)
  · refine x_iconst (pc := 20) (v := 0) C dX4_reads_20 rfl ?_
    exact x_bret (pc := 21) C X (b := false) rfl dX4_reads_21 (rI_b (by first | (simp [kReads, i_lt, i_le, i_eq] at *; done) | (simp [kReads, i_lt, i_le, i_eq] at *; omega)))
  · refine x_iload_n (pc := 10) C 1 dX4_reads_10 rfl ?_
    refine x_iconst (pc := 11) (v := 2) C dX4_reads_11 rfl ?_
    refine x_irem (pc := 12) C dX4_reads_12 (by decide) ?_
    refine x_if_ne (pc := 13) C 20 dX4_reads_13 (by decide) (fun h13 => ?_) (fun h13 => ?_)
    · refine x_iconst (pc := 20) (v := 0) C dX4_reads_20 rfl ?_
      exact x_bret (pc := 21) C X (b := false) rfl dX4_reads_21 (rI_b (by first | (simp [kReads, i_lt, i_le, i_eq] at *; done) | (simp [kReads, i_lt, i_le, i_eq] at *; omega)))
    · refine x_iconst (pc := 16) (v := 1) C dX4_reads_16 rfl ?_
      refine x_goto (pc := 17) C 21 dX4_reads_17 (by decide) ?_
      exact x_bret (pc := 21) C X (b := true) rfl dX4_reads_21 (rI_b (by first | (simp [kReads, i_lt, i_le, i_eq] at *; done) | (simp [kReads, i_lt, i_le, i_eq] at *; omega)))

set_option maxRecDepth 100000 in
set_option maxHeartbeats 4000000 in
theorem c_X7_reads (t : CT) (M : MM) {nm : Nat} {CN : String} (ho : xo (wC t) nm CN) (x1 x2 x3 : Int32) : XMet (wC t) yX7_reads cX7_reads 4 (some .boolean) 2 [.ref (t.1 nm), .int x1, .int x2, .int x3] M (rI (b2i (kReads 4 x1 x2 x3)) M) := by
  refine x_met RX7 (by decide) rfl (Nat.le_of_ble_eq_true rfl) (fun κ C X E => ?_)
  refine x_L (L' := [(0, .ref (t.1 nm)), (1, .int x1), (2, .int x2), (3, .int x3)]) rfl ?_
  refine x_aload_n (pc := 0) C 0 dX7_reads_0 rfl ?_
  refine x_iload_n (pc := 1) C 1 dX7_reads_1 rfl ?_
  refine x_iload_n (pc := 2) C 2 dX7_reads_2 rfl ?_
  refine x_iload_n (pc := 3) C 3 dX7_reads_3 rfl ?_
  refine x_callSU (pc := 4) (np := 3) C E [.int x1, .int x2, .int x3] [] (c_X1_reads t M _ x1 x2 x3) ⟨q21_13, q21_14, q21_15, q20_20, q2_15, q20_21⟩ ho ⟨by decide, by decide +kernel⟩ (by decide) rfl (by decide) (Nat.le_of_ble_eq_true rfl) dX7_reads_4 rfl (k_I ?_)
  refine x_ifb_eq (pc := 7) C 22 dX7_reads_7 (by decide) (fun h7 => ?_) (fun h7 => ?_)
  · refine x_iconst (pc := 22) (v := 0) C dX7_reads_22 rfl ?_
    exact x_bret (pc := 23) C X (b := false) rfl dX7_reads_23 (rI_b (by first | (simp [kReads, i_lt, i_le, i_eq] at *; done) | (simp [kReads, i_lt, i_le, i_eq] at *; omega)))
  · refine x_iload_n (pc := 10) C 2 dX7_reads_10 rfl ?_
    refine x_bipush (pc := 11) (v := 7) C dX7_reads_11 rfl ?_
    refine x_irem (pc := 13) C dX7_reads_13 (by decide) ?_
    refine x_iload_n (pc := 14) C 3 dX7_reads_14 rfl ?_
    refine x_icmp_eq (pc := 15) C 22 dX7_reads_15 (by decide) (fun h15 => ?_) (fun h15 => ?_)
    · refine x_iconst (pc := 22) (v := 0) C dX7_reads_22 rfl ?_
      exact x_bret (pc := 23) C X (b := false) rfl dX7_reads_23 (rI_b (by first | (simp [kReads, i_lt, i_le, i_eq] at *; done) | (simp [kReads, i_lt, i_le, i_eq] at *; omega)))
    · refine x_iconst (pc := 18) (v := 1) C dX7_reads_18 rfl ?_
      refine x_goto (pc := 19) C 23 dX7_reads_19 (by decide) ?_
      exact x_bret (pc := 23) C X (b := true) rfl dX7_reads_23 (rI_b (by first | (simp [kReads, i_lt, i_le, i_eq] at *; done) | (simp [kReads, i_lt, i_le, i_eq] at *; omega)))

set_option maxRecDepth 100000 in
set_option maxHeartbeats 4000000 in
theorem c_X3_stampOn (t : CT) (M : MM) (a : Nat) (x1 x2 : Int32) : XMet (wC t) yX3_stampOn cX3_stampOn 3 (some .int) 1 [.ref a, .int x1, .int x2] M (rI x1 M) := by
  refine x_met RX3 (by decide) rfl (Nat.le_of_ble_eq_true rfl) (fun κ C X E => ?_)
  refine x_L (L' := [(0, .ref a), (1, .int x1), (2, .int x2)]) rfl ?_
  refine x_iload_n (pc := 0) C 1 dX3_stampOn_0 rfl ?_
  exact x_iret (pc := 1) C X dX3_stampOn_1 (rI_i rfl)

set_option maxRecDepth 100000 in
set_option maxHeartbeats 4000000 in
theorem c_X0_stampOn (t : CT) (M : MM) {nm : Nat} {CN : String} (ho : xo (wC t) nm CN) (x1 x2 : Int32) : XMet (wC t) yX0_stampOn cX0_stampOn 3 (some .int) 2 [.ref (t.1 nm), .int x1, .int x2] M (rI (x1 - x2) M) := by
  refine x_met RX0 (by decide) rfl (Nat.le_of_ble_eq_true rfl) (fun κ C X E => ?_)
  refine x_L (L' := [(0, .ref (t.1 nm)), (1, .int x1), (2, .int x2)]) rfl ?_
  refine x_aload_n (pc := 0) C 0 dX0_stampOn_0 rfl ?_
  refine x_iload_n (pc := 1) C 1 dX0_stampOn_1 rfl ?_
  refine x_iload_n (pc := 2) C 2 dX0_stampOn_2 rfl ?_
  refine x_callSU (pc := 3) (np := 2) C E [.int x1, .int x2] [] (c_X3_stampOn t M _ x1 x2) ⟨q21_22, q21_17, q21_23, q22_0, q2_9, q22_1⟩ ho ⟨by decide, by decide +kernel⟩ (by decide) rfl (by decide) (Nat.le_of_ble_eq_true rfl) dX0_stampOn_3 rfl (k_I ?_)
  refine x_iload_n (pc := 6) C 2 dX0_stampOn_6 rfl ?_
  refine x_isub (pc := 7) C dX0_stampOn_7 ?_
  exact x_iret (pc := 8) C X dX0_stampOn_8 (rI_i rfl)

set_option maxRecDepth 100000 in
set_option maxHeartbeats 4000000 in
theorem c_X4_stampOn (t : CT) (M : MM) {nm : Nat} {CN : String} (ho : xo (wC t) nm CN) (x1 x2 : Int32) : XMet (wC t) yX4_stampOn cX4_stampOn 3 (some .int) 3 [.ref (t.1 nm), .int x1, .int x2] M (rI ((x1 - x2) / 2) M) := by
  refine x_met RX4 (by decide) rfl (Nat.le_of_ble_eq_true rfl) (fun κ C X E => ?_)
  refine x_L (L' := [(0, .ref (t.1 nm)), (1, .int x1), (2, .int x2)]) rfl ?_
  refine x_aload_n (pc := 0) C 0 dX4_stampOn_0 rfl ?_
  refine x_iload_n (pc := 1) C 1 dX4_stampOn_1 rfl ?_
  refine x_iload_n (pc := 2) C 2 dX4_stampOn_2 rfl ?_
  refine x_callSU (pc := 3) (np := 2) C E [.int x1, .int x2] [] (c_X0_stampOn t M ho x1 x2) ⟨q22_8, q22_9, q21_6, q21_20, q2_12, q21_21⟩ ho ⟨by decide, by decide +kernel⟩ (by decide) rfl (by decide) (Nat.le_of_ble_eq_true rfl) dX4_stampOn_3 rfl (k_I ?_)
  refine x_iconst (pc := 6) (v := 2) C dX4_stampOn_6 rfl ?_
  refine x_idiv (pc := 7) C dX4_stampOn_7 (by decide) ?_
  exact x_iret (pc := 8) C X dX4_stampOn_8 (rI_i rfl)

set_option maxRecDepth 100000 in
set_option maxHeartbeats 4000000 in
theorem c_X7_stampOn (t : CT) (M : MM) {nm : Nat} {CN : String} (ho : xo (wC t) nm CN) (x1 x2 : Int32) : XMet (wC t) yX7_stampOn cX7_stampOn 3 (some .int) 2 [.ref (t.1 nm), .int x1, .int x2] M (rI (x1 + 1) M) := by
  refine x_met RX7 (by decide) rfl (Nat.le_of_ble_eq_true rfl) (fun κ C X E => ?_)
  refine x_L (L' := [(0, .ref (t.1 nm)), (1, .int x1), (2, .int x2)]) rfl ?_
  refine x_aload_n (pc := 0) C 0 dX7_stampOn_0 rfl ?_
  refine x_iload_n (pc := 1) C 1 dX7_stampOn_1 rfl ?_
  refine x_iload_n (pc := 2) C 2 dX7_stampOn_2 rfl ?_
  refine x_callSUO (pc := 3) (np := 2) C E (y := yX3_stampOn) (mid := "InTheOldOne$CloudKind") [.int x1, .int x2] [] (c_X3_stampOn t M _ x1 x2) ⟨q48_21, q48_22, q21_15, q48_23, q22_0, q2_9, q22_1⟩ ho ⟨by decide, by decide +kernel⟩ (by decide) rfl (by decide) (Nat.le_of_ble_eq_true rfl) dX7_stampOn_3 rfl (k_I ?_)
  refine x_iconst (pc := 6) (v := 1) C dX7_stampOn_6 rfl ?_
  refine x_iadd (pc := 7) C dX7_stampOn_7 ?_
  exact x_iret (pc := 8) C X dX7_stampOn_8 (rI_i rfl)

set_option maxRecDepth 100000 in
set_option maxHeartbeats 4000000 in
theorem c_X5_stampOn (t : CT) (M : MM) (a : Nat) (x1 x2 : Int32) : XMet (wC t) yX5_stampOn cX5_stampOn 3 (some .int) 1 [.ref a, .int x1, .int x2] M (rI 0 M) := by
  refine x_met RX5 (by decide) rfl (Nat.le_of_ble_eq_true rfl) (fun κ C X E => ?_)
  refine x_L (L' := [(0, .ref a), (1, .int x1), (2, .int x2)]) rfl ?_
  refine x_iconst (pc := 0) (v := 0) C dX5_stampOn_0 rfl ?_
  exact x_iret (pc := 1) C X dX5_stampOn_1 (rI_i rfl)

set_option maxRecDepth 100000 in
set_option maxHeartbeats 4000000 in
theorem c_X3_keeps (t : CT) (M : MM) (a : Nat) (x1 : Int32) : XMet (wC t) yX3_keeps cX3_keeps 2 (some .int) 1 [.ref a, .int x1] M (rI x1 M) := by
  refine x_met RX3 (by decide) rfl (Nat.le_of_ble_eq_true rfl) (fun κ C X E => ?_)
  refine x_L (L' := [(0, .ref a), (1, .int x1)]) rfl ?_
  refine x_iload_n (pc := 0) C 1 dX3_keeps_0 rfl ?_
  exact x_iret (pc := 1) C X dX3_keeps_1 (rI_i rfl)

set_option maxRecDepth 100000 in
set_option maxHeartbeats 4000000 in
theorem c_X5_keeps (t : CT) (M : MM) (a : Nat) (x1 : Int32) : XMet (wC t) yX5_keeps cX5_keeps 2 (some .int) 1 [.ref a, .int x1] M (rI (x1 - (x1 - x1 / 10 * 10)) M) := by
  refine x_met RX5 (by decide) rfl (Nat.le_of_ble_eq_true rfl) (fun κ C X E => ?_)
  refine x_L (L' := [(0, .ref a), (1, .int x1)]) rfl ?_
  refine x_iload_n (pc := 0) C 1 dX5_keeps_0 rfl ?_
  refine x_iload_n (pc := 1) C 1 dX5_keeps_1 rfl ?_
  refine x_bipush (pc := 2) (v := 10) C dX5_keeps_2 rfl ?_
  refine x_irem (pc := 4) C dX5_keeps_4 (by decide) ?_
  refine x_isub (pc := 5) C dX5_keeps_5 ?_
  exact x_iret (pc := 6) C X dX5_keeps_6 (rI_i rfl)

set_option maxRecDepth 100000 in
set_option maxHeartbeats 4000000 in
theorem c_X3_roomBy (t : CT) (M : MM) (a : Nat) (x1 : Int32) : XMet (wC t) yX3_roomBy cX3_roomBy 2 (some .int) 1 [.ref a, .int x1] M (rI 8 M) := by
  refine x_met RX3 (by decide) rfl (Nat.le_of_ble_eq_true rfl) (fun κ C X E => ?_)
  refine x_L (L' := [(0, .ref a), (1, .int x1)]) rfl ?_
  refine x_bipush (pc := 0) (v := 8) C dX3_roomBy_0 rfl ?_
  exact x_iret (pc := 2) C X dX3_roomBy_2 (rI_i rfl)

set_option maxRecDepth 100000 in
set_option maxHeartbeats 4000000 in
theorem c_X0_roomBy (t : CT) (M : MM) (a : Nat) (x1 : Int32) : XMet (wC t) yX0_roomBy cX0_roomBy 2 (some .int) 1 [.ref a, .int x1] M (rI (1 + x1 / 2) M) := by
  refine x_met RX0 (by decide) rfl (Nat.le_of_ble_eq_true rfl) (fun κ C X E => ?_)
  refine x_L (L' := [(0, .ref a), (1, .int x1)]) rfl ?_
  refine x_iconst (pc := 0) (v := 1) C dX0_roomBy_0 rfl ?_
  refine x_iload_n (pc := 1) C 1 dX0_roomBy_1 rfl ?_
  refine x_iconst (pc := 2) (v := 2) C dX0_roomBy_2 rfl ?_
  refine x_idiv (pc := 3) C dX0_roomBy_3 (by decide) ?_
  refine x_iadd (pc := 4) C dX0_roomBy_4 ?_
  exact x_iret (pc := 5) C X dX0_roomBy_5 (rI_i rfl)

set_option maxRecDepth 100000 in
set_option maxHeartbeats 4000000 in
theorem c_X5_roomBy (t : CT) (M : MM) (a : Nat) (x1 : Int32) : XMet (wC t) yX5_roomBy cX5_roomBy 2 (some .int) 1 [.ref a, .int x1] M (rI x1 M) := by
  refine x_met RX5 (by decide) rfl (Nat.le_of_ble_eq_true rfl) (fun κ C X E => ?_)
  refine x_L (L' := [(0, .ref a), (1, .int x1)]) rfl ?_
  refine x_iload_n (pc := 0) C 1 dX5_roomBy_0 rfl ?_
  exact x_iret (pc := 1) C X dX5_roomBy_1 (rI_i rfl)

set_option maxRecDepth 100000 in
set_option maxHeartbeats 4000000 in
theorem c_X11_isIn (t : CT) (M : MM) (x : Int32) {i : Nat} (hi : i < 32) : XMet (wC t) yX11_isIn cX11_isIn 2 (some .boolean) 1 [.int x, .int (nI i)] M (rI (b2i (bt x i)) M) := by
  refine x_met RX11 (by decide) rfl (Nat.le_of_ble_eq_true rfl) (fun κ C X E => ?_)
  refine x_L (L' := [(0, .int x), (1, .int (nI i))]) rfl ?_
  refine x_iload_n (pc := 0) C 0 dX11_isIn_0 rfl ?_
  refine x_iload_n (pc := 1) C 1 dX11_isIn_1 rfl ?_
  refine x_iushr (pc := 2) C dX11_isIn_2 ?_
  refine x_iconst (pc := 3) (v := 1) C dX11_isIn_3 rfl ?_
  refine x_iand (pc := 4) C dX11_isIn_4 ?_
  refine x_eq (show ((Int32.toUInt32 x >>> (Int32.toUInt32 (nI i) &&& Int32.toUInt32 31)).toInt32) &&& 1 = b2i (bt x i) from isIn_iff hi) ?_
  refine x_ifb_eq (pc := 5) C 12 dX11_isIn_5 (by decide) (fun h5 => ?_) (fun h5 => ?_)
  · refine x_iconst (pc := 12) (v := 0) C dX11_isIn_12 rfl ?_
    exact x_bret (pc := 13) C X (b := false) rfl dX11_isIn_13 (rI_b (by simp [h5]))
  · refine x_iconst (pc := 8) (v := 1) C dX11_isIn_8 rfl ?_
    refine x_goto (pc := 9) C 13 dX11_isIn_9 (by decide) ?_
    exact x_bret (pc := 13) C X (b := true) rfl dX11_isIn_13 (rI_b (by simp [h5]))

set_option maxRecDepth 100000 in
set_option maxHeartbeats 4000000 in
theorem c_X11_without (t : CT) (M : MM) (x y : Int32) : XMet (wC t) yX11_without cX11_without 2 (some .int) 1 [.int x, .int y] M (rI (x &&& (((1 : Int32) <<< (y &&& 31)) ^^^ (-1))) M) := by
  refine x_met RX11 (by decide) rfl (Nat.le_of_ble_eq_true rfl) (fun κ C X E => ?_)
  refine x_L (L' := [(0, .int x), (1, .int y)]) rfl ?_
  refine x_iload_n (pc := 0) C 0 dX11_without_0 rfl ?_
  refine x_iconst (pc := 1) (v := 1) C dX11_without_1 rfl ?_
  refine x_iload_n (pc := 2) C 1 dX11_without_2 rfl ?_
  refine x_ishl (pc := 3) C dX11_without_3 ?_
  refine x_iconst (pc := 4) (v := (-1)) C dX11_without_4 rfl ?_
  refine x_ixor (pc := 5) C dX11_without_5 ?_
  refine x_iand (pc := 6) C dX11_without_6 ?_
  exact x_iret (pc := 7) C X dX11_without_7 (rI_i rfl)

set_option maxRecDepth 100000 in
set_option maxHeartbeats 4000000 in
theorem c_X11_isFile (t : CT) (M : MM) (x : Int32) : XMet (wC t) yX11_isFile cX11_isFile 1 (some .boolean) 1 [.int x] M (rI (b2i (inB x 8)) M) := by
  refine x_met RX11 (by decide) rfl (Nat.le_of_ble_eq_true rfl) (fun κ C X E => ?_)
  refine x_L (L' := [(0, .int x)]) rfl ?_
  refine x_iload_n (pc := 0) C 0 dX11_isFile_0 rfl ?_
  refine x_if_lt (pc := 1) C 14 dX11_isFile_1 (by decide) (fun h1 => ?_) (fun h1 => ?_)
  · refine x_iconst (pc := 14) (v := 0) C dX11_isFile_14 rfl ?_
    exact x_bret (pc := 15) C X (b := false) rfl dX11_isFile_15 (rI_b (by first | (simp [inB, i_lt, i_le, i_eq] at *; done) | (simp [inB, i_lt, i_le, i_eq] at *; omega)))
  · refine x_iload_n (pc := 4) C 0 dX11_isFile_4 rfl ?_
    refine x_bipush (pc := 5) (v := 8) C dX11_isFile_5 rfl ?_
    refine x_icmp_ge (pc := 7) C 14 dX11_isFile_7 (by decide) (fun h7 => ?_) (fun h7 => ?_)
    · refine x_iconst (pc := 14) (v := 0) C dX11_isFile_14 rfl ?_
      exact x_bret (pc := 15) C X (b := false) rfl dX11_isFile_15 (rI_b (by first | (simp [inB, i_lt, i_le, i_eq] at *; done) | (simp [inB, i_lt, i_le, i_eq] at *; omega)))
    · refine x_iconst (pc := 10) (v := 1) C dX11_isFile_10 rfl ?_
      refine x_goto (pc := 11) C 15 dX11_isFile_11 (by decide) ?_
      exact x_bret (pc := 15) C X (b := true) rfl dX11_isFile_15 (rI_b (by first | (simp [inB, i_lt, i_le, i_eq] at *; done) | (simp [inB, i_lt, i_le, i_eq] at *; omega)))

set_option maxRecDepth 100000 in
set_option maxHeartbeats 4000000 in
theorem c_X11_isSheet (t : CT) (M : MM) (x : Int32) : XMet (wC t) yX11_isSheet cX11_isSheet 1 (some .boolean) 1 [.int x] M (rI (b2i (inB x 4)) M) := by
  refine x_met RX11 (by decide) rfl (Nat.le_of_ble_eq_true rfl) (fun κ C X E => ?_)
  refine x_L (L' := [(0, .int x)]) rfl ?_
  refine x_iload_n (pc := 0) C 0 dX11_isSheet_0 rfl ?_
  refine x_if_lt (pc := 1) C 13 dX11_isSheet_1 (by decide) (fun h1 => ?_) (fun h1 => ?_)
  · refine x_iconst (pc := 13) (v := 0) C dX11_isSheet_13 rfl ?_
    exact x_bret (pc := 14) C X (b := false) rfl dX11_isSheet_14 (rI_b (by first | (simp [inB, i_lt, i_le, i_eq] at *; done) | (simp [inB, i_lt, i_le, i_eq] at *; omega)))
  · refine x_iload_n (pc := 4) C 0 dX11_isSheet_4 rfl ?_
    refine x_iconst (pc := 5) (v := 4) C dX11_isSheet_5 rfl ?_
    refine x_icmp_ge (pc := 6) C 13 dX11_isSheet_6 (by decide) (fun h6 => ?_) (fun h6 => ?_)
    · refine x_iconst (pc := 13) (v := 0) C dX11_isSheet_13 rfl ?_
      exact x_bret (pc := 14) C X (b := false) rfl dX11_isSheet_14 (rI_b (by first | (simp [inB, i_lt, i_le, i_eq] at *; done) | (simp [inB, i_lt, i_le, i_eq] at *; omega)))
    · refine x_iconst (pc := 9) (v := 1) C dX11_isSheet_9 rfl ?_
      refine x_goto (pc := 10) C 14 dX11_isSheet_10 (by decide) ?_
      exact x_bret (pc := 14) C X (b := true) rfl dX11_isSheet_14 (rI_b (by first | (simp [inB, i_lt, i_le, i_eq] at *; done) | (simp [inB, i_lt, i_le, i_eq] at *; omega)))

set_option maxRecDepth 100000 in
set_option maxHeartbeats 4000000 in
theorem c_X11_isHowMany (t : CT) (M : MM) (x : Int32) : XMet (wC t) yX11_isHowMany cX11_isHowMany 1 (some .boolean) 1 [.int x] M (rI (b2i (decide (1 ≤ x.toInt ∧ x.toInt ≤ 6))) M) := by
  refine x_met RX11 (by decide) rfl (Nat.le_of_ble_eq_true rfl) (fun κ C X E => ?_)
  refine x_L (L' := [(0, .int x)]) rfl ?_
  refine x_iload_n (pc := 0) C 0 dX11_isHowMany_0 rfl ?_
  refine x_iconst (pc := 1) (v := 1) C dX11_isHowMany_1 rfl ?_
  refine x_icmp_lt (pc := 2) C 15 dX11_isHowMany_2 (by decide) (fun h2 => ?_) (fun h2 => ?_)
  · refine x_iconst (pc := 15) (v := 0) C dX11_isHowMany_15 rfl ?_
    exact x_bret (pc := 16) C X (b := false) rfl dX11_isHowMany_16 (rI_b (by first | (simp [inB, i_lt, i_le, i_eq] at *; done) | (simp [inB, i_lt, i_le, i_eq] at *; omega)))
  · refine x_iload_n (pc := 5) C 0 dX11_isHowMany_5 rfl ?_
    refine x_bipush (pc := 6) (v := 6) C dX11_isHowMany_6 rfl ?_
    refine x_icmp_gt (pc := 8) C 15 dX11_isHowMany_8 (by decide) (fun h8 => ?_) (fun h8 => ?_)
    · refine x_iconst (pc := 15) (v := 0) C dX11_isHowMany_15 rfl ?_
      exact x_bret (pc := 16) C X (b := false) rfl dX11_isHowMany_16 (rI_b (by first | (simp [inB, i_lt, i_le, i_eq] at *; done) | (simp [inB, i_lt, i_le, i_eq] at *; omega)))
    · refine x_iconst (pc := 11) (v := 1) C dX11_isHowMany_11 rfl ?_
      refine x_goto (pc := 12) C 16 dX11_isHowMany_12 (by decide) ?_
      exact x_bret (pc := 16) C X (b := true) rfl dX11_isHowMany_16 (rI_b (by first | (simp [inB, i_lt, i_le, i_eq] at *; done) | (simp [inB, i_lt, i_le, i_eq] at *; omega)))

set_option maxRecDepth 100000 in
set_option maxHeartbeats 4000000 in
theorem c_bitCount (t : CT) (M : MM) (x : Int32) : XMet (wC t) yJ6_bitCount_0f7a4 cJ6_bitCount_0f7a4 1 (some .int) 1 [.int x] M (rI (jbc x) M) := by
  refine x_met RJ6 (by decide) rfl (Nat.le_of_ble_eq_true rfl) (fun κ C X E => ?_)
  refine x_L (L' := [(0, .int x)]) rfl ?_
  refine x_iload_n (pc := 0) C 0 dJ6_bitCount_0f7a4_0 rfl ?_
  refine x_iload_n (pc := 1) C 0 dJ6_bitCount_0f7a4_1 rfl ?_
  refine x_iconst (pc := 2) (v := (nI 1)) C dJ6_bitCount_0f7a4_2 (by decide) ?_
  refine x_iushr (pc := 3) C dJ6_bitCount_0f7a4_3 ?_
  refine x_ldcw (pc := 4) (v := 1431655765) C q23_12 dJ6_bitCount_0f7a4_4 ?_
  refine x_iand (pc := 7) C dJ6_bitCount_0f7a4_7 ?_
  refine x_isub (pc := 8) C dJ6_bitCount_0f7a4_8 ?_
  refine x_istore_n (pc := 9) (L' := [(0, .int (x - (((Int32.toUInt32 x >>> (Int32.toUInt32 (nI 1) &&& Int32.toUInt32 31)).toInt32) &&& 1431655765)))]) C dJ6_bitCount_0f7a4_9 (by decide) rfl ?_
  refine x_iload_n (pc := 10) C 0 dJ6_bitCount_0f7a4_10 rfl ?_
  refine x_ldcw (pc := 11) (v := 858993459) C q23_13 dJ6_bitCount_0f7a4_11 ?_
  refine x_iand (pc := 14) C dJ6_bitCount_0f7a4_14 ?_
  refine x_iload_n (pc := 15) C 0 dJ6_bitCount_0f7a4_15 rfl ?_
  refine x_iconst (pc := 16) (v := (nI 2)) C dJ6_bitCount_0f7a4_16 (by decide) ?_
  refine x_iushr (pc := 17) C dJ6_bitCount_0f7a4_17 ?_
  refine x_ldcw (pc := 18) (v := 858993459) C q23_13 dJ6_bitCount_0f7a4_18 ?_
  refine x_iand (pc := 21) C dJ6_bitCount_0f7a4_21 ?_
  refine x_iadd (pc := 22) C dJ6_bitCount_0f7a4_22 ?_
  refine x_istore_n (pc := 23) (L' := [(0, .int (((x - (((Int32.toUInt32 x >>> (Int32.toUInt32 (nI 1) &&& Int32.toUInt32 31)).toInt32) &&& 1431655765)) &&& 858993459) + (((Int32.toUInt32 (x - (((Int32.toUInt32 x >>> (Int32.toUInt32 (nI 1) &&& Int32.toUInt32 31)).toInt32) &&& 1431655765)) >>> (Int32.toUInt32 (nI 2) &&& Int32.toUInt32 31)).toInt32) &&& 858993459)))]) C dJ6_bitCount_0f7a4_23 (by decide) rfl ?_
  refine x_iload_n (pc := 24) C 0 dJ6_bitCount_0f7a4_24 rfl ?_
  refine x_iload_n (pc := 25) C 0 dJ6_bitCount_0f7a4_25 rfl ?_
  refine x_iconst (pc := 26) (v := (nI 4)) C dJ6_bitCount_0f7a4_26 (by decide) ?_
  refine x_iushr (pc := 27) C dJ6_bitCount_0f7a4_27 ?_
  refine x_iadd (pc := 28) C dJ6_bitCount_0f7a4_28 ?_
  refine x_ldcw (pc := 29) (v := 252645135) C q23_14 dJ6_bitCount_0f7a4_29 ?_
  refine x_iand (pc := 32) C dJ6_bitCount_0f7a4_32 ?_
  refine x_istore_n (pc := 33) (L' := [(0, .int (((((x - (((Int32.toUInt32 x >>> (Int32.toUInt32 (nI 1) &&& Int32.toUInt32 31)).toInt32) &&& 1431655765)) &&& 858993459) + (((Int32.toUInt32 (x - (((Int32.toUInt32 x >>> (Int32.toUInt32 (nI 1) &&& Int32.toUInt32 31)).toInt32) &&& 1431655765)) >>> (Int32.toUInt32 (nI 2) &&& Int32.toUInt32 31)).toInt32) &&& 858993459)) + ((Int32.toUInt32 (((x - (((Int32.toUInt32 x >>> (Int32.toUInt32 (nI 1) &&& Int32.toUInt32 31)).toInt32) &&& 1431655765)) &&& 858993459) + (((Int32.toUInt32 (x - (((Int32.toUInt32 x >>> (Int32.toUInt32 (nI 1) &&& Int32.toUInt32 31)).toInt32) &&& 1431655765)) >>> (Int32.toUInt32 (nI 2) &&& Int32.toUInt32 31)).toInt32) &&& 858993459)) >>> (Int32.toUInt32 (nI 4) &&& Int32.toUInt32 31)).toInt32)) &&& 252645135))]) C dJ6_bitCount_0f7a4_33 (by decide) rfl ?_
  refine x_iload_n (pc := 34) C 0 dJ6_bitCount_0f7a4_34 rfl ?_
  refine x_iload_n (pc := 35) C 0 dJ6_bitCount_0f7a4_35 rfl ?_
  refine x_bipush (pc := 36) (v := (nI 8)) C dJ6_bitCount_0f7a4_36 (by decide) ?_
  refine x_iushr (pc := 38) C dJ6_bitCount_0f7a4_38 ?_
  refine x_iadd (pc := 39) C dJ6_bitCount_0f7a4_39 ?_
  refine x_istore_n (pc := 40) (L' := [(0, .int ((((((x - (((Int32.toUInt32 x >>> (Int32.toUInt32 (nI 1) &&& Int32.toUInt32 31)).toInt32) &&& 1431655765)) &&& 858993459) + (((Int32.toUInt32 (x - (((Int32.toUInt32 x >>> (Int32.toUInt32 (nI 1) &&& Int32.toUInt32 31)).toInt32) &&& 1431655765)) >>> (Int32.toUInt32 (nI 2) &&& Int32.toUInt32 31)).toInt32) &&& 858993459)) + ((Int32.toUInt32 (((x - (((Int32.toUInt32 x >>> (Int32.toUInt32 (nI 1) &&& Int32.toUInt32 31)).toInt32) &&& 1431655765)) &&& 858993459) + (((Int32.toUInt32 (x - (((Int32.toUInt32 x >>> (Int32.toUInt32 (nI 1) &&& Int32.toUInt32 31)).toInt32) &&& 1431655765)) >>> (Int32.toUInt32 (nI 2) &&& Int32.toUInt32 31)).toInt32) &&& 858993459)) >>> (Int32.toUInt32 (nI 4) &&& Int32.toUInt32 31)).toInt32)) &&& 252645135) + ((Int32.toUInt32 (((((x - (((Int32.toUInt32 x >>> (Int32.toUInt32 (nI 1) &&& Int32.toUInt32 31)).toInt32) &&& 1431655765)) &&& 858993459) + (((Int32.toUInt32 (x - (((Int32.toUInt32 x >>> (Int32.toUInt32 (nI 1) &&& Int32.toUInt32 31)).toInt32) &&& 1431655765)) >>> (Int32.toUInt32 (nI 2) &&& Int32.toUInt32 31)).toInt32) &&& 858993459)) + ((Int32.toUInt32 (((x - (((Int32.toUInt32 x >>> (Int32.toUInt32 (nI 1) &&& Int32.toUInt32 31)).toInt32) &&& 1431655765)) &&& 858993459) + (((Int32.toUInt32 (x - (((Int32.toUInt32 x >>> (Int32.toUInt32 (nI 1) &&& Int32.toUInt32 31)).toInt32) &&& 1431655765)) >>> (Int32.toUInt32 (nI 2) &&& Int32.toUInt32 31)).toInt32) &&& 858993459)) >>> (Int32.toUInt32 (nI 4) &&& Int32.toUInt32 31)).toInt32)) &&& 252645135) >>> (Int32.toUInt32 (nI 8) &&& Int32.toUInt32 31)).toInt32)))]) C dJ6_bitCount_0f7a4_40 (by decide) rfl ?_
  refine x_iload_n (pc := 41) C 0 dJ6_bitCount_0f7a4_41 rfl ?_
  refine x_iload_n (pc := 42) C 0 dJ6_bitCount_0f7a4_42 rfl ?_
  refine x_bipush (pc := 43) (v := (nI 16)) C dJ6_bitCount_0f7a4_43 (by decide) ?_
  refine x_iushr (pc := 45) C dJ6_bitCount_0f7a4_45 ?_
  refine x_iadd (pc := 46) C dJ6_bitCount_0f7a4_46 ?_
  refine x_istore_n (pc := 47) (L' := [(0, .int (((((((x - (((Int32.toUInt32 x >>> (Int32.toUInt32 (nI 1) &&& Int32.toUInt32 31)).toInt32) &&& 1431655765)) &&& 858993459) + (((Int32.toUInt32 (x - (((Int32.toUInt32 x >>> (Int32.toUInt32 (nI 1) &&& Int32.toUInt32 31)).toInt32) &&& 1431655765)) >>> (Int32.toUInt32 (nI 2) &&& Int32.toUInt32 31)).toInt32) &&& 858993459)) + ((Int32.toUInt32 (((x - (((Int32.toUInt32 x >>> (Int32.toUInt32 (nI 1) &&& Int32.toUInt32 31)).toInt32) &&& 1431655765)) &&& 858993459) + (((Int32.toUInt32 (x - (((Int32.toUInt32 x >>> (Int32.toUInt32 (nI 1) &&& Int32.toUInt32 31)).toInt32) &&& 1431655765)) >>> (Int32.toUInt32 (nI 2) &&& Int32.toUInt32 31)).toInt32) &&& 858993459)) >>> (Int32.toUInt32 (nI 4) &&& Int32.toUInt32 31)).toInt32)) &&& 252645135) + ((Int32.toUInt32 (((((x - (((Int32.toUInt32 x >>> (Int32.toUInt32 (nI 1) &&& Int32.toUInt32 31)).toInt32) &&& 1431655765)) &&& 858993459) + (((Int32.toUInt32 (x - (((Int32.toUInt32 x >>> (Int32.toUInt32 (nI 1) &&& Int32.toUInt32 31)).toInt32) &&& 1431655765)) >>> (Int32.toUInt32 (nI 2) &&& Int32.toUInt32 31)).toInt32) &&& 858993459)) + ((Int32.toUInt32 (((x - (((Int32.toUInt32 x >>> (Int32.toUInt32 (nI 1) &&& Int32.toUInt32 31)).toInt32) &&& 1431655765)) &&& 858993459) + (((Int32.toUInt32 (x - (((Int32.toUInt32 x >>> (Int32.toUInt32 (nI 1) &&& Int32.toUInt32 31)).toInt32) &&& 1431655765)) >>> (Int32.toUInt32 (nI 2) &&& Int32.toUInt32 31)).toInt32) &&& 858993459)) >>> (Int32.toUInt32 (nI 4) &&& Int32.toUInt32 31)).toInt32)) &&& 252645135) >>> (Int32.toUInt32 (nI 8) &&& Int32.toUInt32 31)).toInt32)) + ((Int32.toUInt32 ((((((x - (((Int32.toUInt32 x >>> (Int32.toUInt32 (nI 1) &&& Int32.toUInt32 31)).toInt32) &&& 1431655765)) &&& 858993459) + (((Int32.toUInt32 (x - (((Int32.toUInt32 x >>> (Int32.toUInt32 (nI 1) &&& Int32.toUInt32 31)).toInt32) &&& 1431655765)) >>> (Int32.toUInt32 (nI 2) &&& Int32.toUInt32 31)).toInt32) &&& 858993459)) + ((Int32.toUInt32 (((x - (((Int32.toUInt32 x >>> (Int32.toUInt32 (nI 1) &&& Int32.toUInt32 31)).toInt32) &&& 1431655765)) &&& 858993459) + (((Int32.toUInt32 (x - (((Int32.toUInt32 x >>> (Int32.toUInt32 (nI 1) &&& Int32.toUInt32 31)).toInt32) &&& 1431655765)) >>> (Int32.toUInt32 (nI 2) &&& Int32.toUInt32 31)).toInt32) &&& 858993459)) >>> (Int32.toUInt32 (nI 4) &&& Int32.toUInt32 31)).toInt32)) &&& 252645135) + ((Int32.toUInt32 (((((x - (((Int32.toUInt32 x >>> (Int32.toUInt32 (nI 1) &&& Int32.toUInt32 31)).toInt32) &&& 1431655765)) &&& 858993459) + (((Int32.toUInt32 (x - (((Int32.toUInt32 x >>> (Int32.toUInt32 (nI 1) &&& Int32.toUInt32 31)).toInt32) &&& 1431655765)) >>> (Int32.toUInt32 (nI 2) &&& Int32.toUInt32 31)).toInt32) &&& 858993459)) + ((Int32.toUInt32 (((x - (((Int32.toUInt32 x >>> (Int32.toUInt32 (nI 1) &&& Int32.toUInt32 31)).toInt32) &&& 1431655765)) &&& 858993459) + (((Int32.toUInt32 (x - (((Int32.toUInt32 x >>> (Int32.toUInt32 (nI 1) &&& Int32.toUInt32 31)).toInt32) &&& 1431655765)) >>> (Int32.toUInt32 (nI 2) &&& Int32.toUInt32 31)).toInt32) &&& 858993459)) >>> (Int32.toUInt32 (nI 4) &&& Int32.toUInt32 31)).toInt32)) &&& 252645135) >>> (Int32.toUInt32 (nI 8) &&& Int32.toUInt32 31)).toInt32)) >>> (Int32.toUInt32 (nI 16) &&& Int32.toUInt32 31)).toInt32)))]) C dJ6_bitCount_0f7a4_47 (by decide) rfl ?_
  refine x_iload_n (pc := 48) C 0 dJ6_bitCount_0f7a4_48 rfl ?_
  refine x_bipush (pc := 49) (v := 63) C dJ6_bitCount_0f7a4_49 rfl ?_
  refine x_iand (pc := 51) C dJ6_bitCount_0f7a4_51 ?_
  exact x_iret (pc := 52) C X dJ6_bitCount_0f7a4_52 (rI_i rfl)

set_option maxRecDepth 100000 in
set_option maxHeartbeats 4000000 in
theorem c_X10_has (t : CT) (M : MM) {i : Nat} (hi : i < 3) (x : Int32) {n : Nat} (hn : M (7 + i) 2 = nI n) (h31 : n < 2 ^ 31) : XMet (wC t) yX10_has cX10_has 2 (some .boolean) 1 [.ref (t.1 (7 + i)), .int x] M (rI (b2i (inB x n)) M) := by
  refine x_met RX10 (by decide) rfl (Nat.le_of_ble_eq_true rfl) (fun κ C X E => ?_)
  refine x_L (L' := [(0, .ref (t.1 (7 + i))), (1, .int x)]) rfl ?_
  refine x_iload_n (pc := 0) C 1 dX10_has_0 rfl ?_
  refine x_if_lt (pc := 1) C 16 dX10_has_1 (by decide) (fun h1 => ?_) (fun h1 => ?_)
  · refine x_iconst (pc := 16) (v := 0) C dX10_has_16 rfl ?_
    exact x_bret (pc := 17) C X (b := false) rfl dX10_has_17 (rI_b (by first | (simp [inB, i_lt, i_le, i_eq, nI_toInt h31] at *; done) | (simp [inB, i_lt, i_le, i_eq, nI_toInt h31] at *; omega)))
  · refine x_iload_n (pc := 4) C 1 dX10_has_4 rfl ?_
    refine x_aload_n (pc := 5) C 0 dX10_has_5 rfl ?_
    refine g_World_size (pc := 6) C E hi q12_22 dX10_has_6 ?_
    refine x_eq (show M (7 + i) 2 = nI n from hn) ?_
    refine x_icmp_ge (pc := 9) C 16 dX10_has_9 (by decide) (fun h9 => ?_) (fun h9 => ?_)
    · refine x_iconst (pc := 16) (v := 0) C dX10_has_16 rfl ?_
      exact x_bret (pc := 17) C X (b := false) rfl dX10_has_17 (rI_b (by first | (simp [inB, i_lt, i_le, i_eq, nI_toInt h31] at *; done) | (simp [inB, i_lt, i_le, i_eq, nI_toInt h31] at *; omega)))
    · refine x_iconst (pc := 12) (v := 1) C dX10_has_12 rfl ?_
      refine x_goto (pc := 13) C 17 dX10_has_13 (by decide) ?_
      exact x_bret (pc := 17) C X (b := true) rfl dX10_has_17 (rI_b (by first | (simp [inB, i_lt, i_le, i_eq, nI_toInt h31] at *; done) | (simp [inB, i_lt, i_le, i_eq, nI_toInt h31] at *; omega)))

set_option maxRecDepth 100000 in
set_option maxHeartbeats 4000000 in
theorem c_X4_keeps (t : CT) (M : MM) (a : Nat) (x1 : Int32) : XMet (wC t) yX4_keeps cX4_keeps 2 (some .int) 1 [.ref a, .int x1] M (rI (if 899 < x1 then 899 else x1) M) := by
  refine x_met RX4 (by decide) rfl (Nat.le_of_ble_eq_true rfl) (fun κ C X E => ?_)
  refine x_L (L' := [(0, .ref a), (1, .int x1)]) rfl ?_
  refine x_iload_n (pc := 0) C 1 dX4_keeps_0 rfl ?_
  refine x_sipush (pc := 1) (v := 899) C dX4_keeps_1 rfl ?_
  refine x_mmin (pc := 4) C (by decide) q28_10 q24_1 q24_2 q24_3 (Nat.le_of_ble_eq_true rfl) dX4_keeps_4 ?_
  exact x_iret (pc := 7) C X dX4_keeps_7 (rI_i rfl)

theorem x_kreads {κ : XK} {own : String} {cc : ByteArray} {n d : Nat} {t : CT} {M : MM} {pc : Nat} {L : List (Nat × Value)} {rest : List Value} (C : XC κ own cc n d) (E : XE κ (wC t)) {k index : Nat} (hk : k < 6) (x1 x2 x3 : Int32) (hlink : Cond.methodLink own index yX3_reads ∈ wsL_law) (hdd : 3 < d) (hst : (rest.map fun v => v.category).sum ≤ 8) (hd : decode cc pc = .ok (.invokevirtual index, 3)) (kk : XV κ (xP (wC t) M) (pc + 3) L (.int (b2i (kReads k x1 x2 x3)) :: rest)) : XV κ (xP (wC t) M) pc L (.int x3 :: .int x2 :: .int x1 :: .ref (t.1 (13 + k)) :: rest) := by
  match k, hk with
  | 0, _ => exact x_callU (np := 3) C E (xm := yX3_reads) (y := yX3_reads) (CN := RX3) (owner := "InTheOldOne$DiskKind") (nm := 13) [.int x1, .int x2, .int x3] rest (c_X3_reads t M _ x1 x2 x3) ⟨hlink, q20_13, q20_23, q20_18, q21_0, q20_23, q2_9, q20_18⟩ xo_kind0 ⟨by decide, by decide, by decide +kernel⟩ (by decide) rfl (by omega) hst hd rfl (k_I kk)
  | 1, _ => exact x_callU (np := 3) C E (xm := yX3_reads) (y := yX0_reads) (CN := RX0) (owner := "InTheOldOne$DiskKind") (nm := 14) [.int x1, .int x2, .int x3] rest (c_X0_reads t M _ x1 x2 x3) ⟨hlink, q20_13, q20_23, q20_18, q20_15, q20_16, q2_12, q20_17⟩ xo_kind1 ⟨by decide, by decide, by decide +kernel⟩ (by decide) rfl (by omega) hst hd rfl (k_I kk)
  | 2, _ => exact x_callU (np := 3) C E (xm := yX3_reads) (y := yX1_reads) (CN := RX1) (owner := "InTheOldOne$DiskKind") (nm := 15) [.int x1, .int x2, .int x3] rest (c_X1_reads t M _ x1 x2 x3) ⟨hlink, q20_13, q20_23, q20_18, q20_19, q20_20, q2_15, q20_21⟩ xo_kind2 ⟨by decide, by decide, by decide +kernel⟩ (by decide) rfl (by omega) hst hd rfl (k_I kk)
  | 3, _ => exact x_callU (np := 3) C E (xm := yX3_reads) (y := yX4_reads) (CN := RX4) (owner := "InTheOldOne$DiskKind") (nm := 16) [.int x1, .int x2, .int x3] rest (c_X4_reads t M (xo_kind3 (t := t)) x1 x2 x3) ⟨hlink, q20_13, q20_23, q20_18, q21_1, q21_2, q2_18, q21_3⟩ xo_kind3 ⟨by decide, by decide, by decide +kernel⟩ (by decide) rfl (by omega) hst hd rfl (k_I kk)
  | 4, _ => exact x_callU (np := 3) C E (xm := yX3_reads) (y := yX7_reads) (CN := RX7) (owner := "InTheOldOne$DiskKind") (nm := 17) [.int x1, .int x2, .int x3] rest (c_X7_reads t M (xo_kind4 (t := t)) x1 x2 x3) ⟨hlink, q20_13, q20_23, q20_18, q21_10, q21_11, q2_21, q21_12⟩ xo_kind4 ⟨by decide, by decide, by decide +kernel⟩ (by decide) rfl (by omega) hst hd rfl (k_I kk)
  | 5, _ => exact x_callU (np := 3) C E (xm := yX3_reads) (y := yX5_reads) (CN := RX5) (owner := "InTheOldOne$DiskKind") (nm := 18) [.int x1, .int x2, .int x3] rest (c_X5_reads t M _ x1 x2 x3) ⟨hlink, q20_13, q20_23, q20_18, q21_7, q21_8, q3_0, q21_9⟩ xo_kind5 ⟨by decide, by decide, by decide +kernel⟩ (by decide) rfl (by omega) hst hd rfl (k_I kk)
theorem x_kstampOn {κ : XK} {own : String} {cc : ByteArray} {n d : Nat} {t : CT} {M : MM} {pc : Nat} {L : List (Nat × Value)} {rest : List Value} (C : XC κ own cc n d) (E : XE κ (wC t)) {k index : Nat} (hk : k < 6) (x1 x2 : Int32) (hlink : Cond.methodLink own index yX3_stampOn ∈ wsL_law) (hdd : 3 < d) (hst : (rest.map fun v => v.category).sum ≤ 8) (hd : decode cc pc = .ok (.invokevirtual index, 3)) (kk : XV κ (xP (wC t) M) (pc + 3) L (.int (kStamp k x1 x2) :: rest)) : XV κ (xP (wC t) M) pc L (.int x2 :: .int x1 :: .ref (t.1 (13 + k)) :: rest) := by
  match k, hk with
  | 0, _ => exact x_callU (np := 2) C E (xm := yX3_stampOn) (y := yX3_stampOn) (CN := RX3) (owner := "InTheOldOne$DiskKind") (nm := 13) [.int x1, .int x2] rest (c_X3_stampOn t M _ x1 x2) ⟨hlink, q21_17, q22_0, q22_1, q22_4, q22_0, q2_9, q22_1⟩ xo_kind0 ⟨by decide, by decide, by decide +kernel⟩ (by decide) rfl (by omega) hst hd rfl (k_I kk)
  | 1, _ => exact x_callU (np := 2) C E (xm := yX3_stampOn) (y := yX0_stampOn) (CN := RX0) (owner := "InTheOldOne$DiskKind") (nm := 14) [.int x1, .int x2] rest (c_X0_stampOn t M (xo_kind1 (t := t)) x1 x2) ⟨hlink, q21_17, q22_0, q22_1, q21_19, q21_20, q2_12, q21_21⟩ xo_kind1 ⟨by decide, by decide, by decide +kernel⟩ (by decide) rfl (by omega) hst hd rfl (k_I kk)
  | 2, _ => exact x_callU (np := 2) C E (xm := yX3_stampOn) (y := yX3_stampOn) (CN := RX1) (owner := "InTheOldOne$DiskKind") (nm := 15) [.int x1, .int x2] rest (c_X3_stampOn t M _ x1 x2) ⟨hlink, q21_17, q22_0, q22_1, q22_2, q22_0, q2_9, q22_1⟩ xo_kind2 ⟨by decide, by decide, by decide +kernel⟩ (by decide) rfl (by omega) hst hd rfl (k_I kk)
  | 3, _ => exact x_callU (np := 2) C E (xm := yX3_stampOn) (y := yX4_stampOn) (CN := RX4) (owner := "InTheOldOne$DiskKind") (nm := 16) [.int x1, .int x2] rest (c_X4_stampOn t M (xo_kind3 (t := t)) x1 x2) ⟨hlink, q21_17, q22_0, q22_1, q22_5, q22_6, q2_18, q22_7⟩ xo_kind3 ⟨by decide, by decide, by decide +kernel⟩ (by decide) rfl (by omega) hst hd rfl (k_I kk)
  | 4, _ => exact x_callU (np := 2) C E (xm := yX3_stampOn) (y := yX7_stampOn) (CN := RX7) (owner := "InTheOldOne$DiskKind") (nm := 17) [.int x1, .int x2] rest (c_X7_stampOn t M (xo_kind4 (t := t)) x1 x2) ⟨hlink, q21_17, q22_0, q22_1, q22_13, q22_14, q2_21, q22_15⟩ xo_kind4 ⟨by decide, by decide, by decide +kernel⟩ (by decide) rfl (by omega) hst hd rfl (k_I kk)
  | 5, _ => exact x_callU (np := 2) C E (xm := yX3_stampOn) (y := yX5_stampOn) (CN := RX5) (owner := "InTheOldOne$DiskKind") (nm := 18) [.int x1, .int x2] rest (c_X5_stampOn t M _ x1 x2) ⟨hlink, q21_17, q22_0, q22_1, q22_10, q22_11, q3_0, q22_12⟩ xo_kind5 ⟨by decide, by decide, by decide +kernel⟩ (by decide) rfl (by omega) hst hd rfl (k_I kk)
theorem x_kkeeps {κ : XK} {own : String} {cc : ByteArray} {n d : Nat} {t : CT} {M : MM} {pc : Nat} {L : List (Nat × Value)} {rest : List Value} (C : XC κ own cc n d) (E : XE κ (wC t)) {k index : Nat} (hk : k < 6) (x1 : Int32) (hlink : Cond.methodLink own index yX3_keeps ∈ wsL_law) (hdd : 3 < d) (hst : (rest.map fun v => v.category).sum ≤ 8) (hd : decode cc pc = .ok (.invokevirtual index, 3)) (kk : XV κ (xP (wC t) M) (pc + 3) L (.int (kKeeps k x1) :: rest)) : XV κ (xP (wC t) M) pc L (.int x1 :: .ref (t.1 (13 + k)) :: rest) := by
  match k, hk with
  | 0, _ => exact x_callU (np := 1) C E (xm := yX3_keeps) (y := yX3_keeps) (CN := RX3) (owner := "InTheOldOne$DiskKind") (nm := 13) [.int x1] rest (c_X3_keeps t M _ x1) ⟨hlink, q27_23, q28_1, q28_2, q28_5, q28_1, q2_9, q28_2⟩ xo_kind0 ⟨by decide, by decide, by decide +kernel⟩ (by decide) rfl (by omega) hst hd rfl (k_I kk)
  | 1, _ => exact x_callU (np := 1) C E (xm := yX3_keeps) (y := yX3_keeps) (CN := RX0) (owner := "InTheOldOne$DiskKind") (nm := 14) [.int x1] rest (c_X3_keeps t M _ x1) ⟨hlink, q27_23, q28_1, q28_2, q28_0, q28_1, q2_9, q28_2⟩ xo_kind1 ⟨by decide, by decide, by decide +kernel⟩ (by decide) rfl (by omega) hst hd rfl (k_I kk)
  | 2, _ => exact x_callU (np := 1) C E (xm := yX3_keeps) (y := yX3_keeps) (CN := RX1) (owner := "InTheOldOne$DiskKind") (nm := 15) [.int x1] rest (c_X3_keeps t M _ x1) ⟨hlink, q27_23, q28_1, q28_2, q28_3, q28_1, q2_9, q28_2⟩ xo_kind2 ⟨by decide, by decide, by decide +kernel⟩ (by decide) rfl (by omega) hst hd rfl (k_I kk)
  | 3, _ => exact x_callU (np := 1) C E (xm := yX3_keeps) (y := yX4_keeps) (CN := RX4) (owner := "InTheOldOne$DiskKind") (nm := 16) [.int x1] rest (c_X4_keeps t M _ x1) ⟨hlink, q27_23, q28_1, q28_2, q28_7, q28_8, q2_18, q28_9⟩ xo_kind3 ⟨by decide, by decide, by decide +kernel⟩ (by decide) rfl (by omega) hst hd rfl (k_I kk)
  | 4, _ => exact x_callU (np := 1) C E (xm := yX3_keeps) (y := yX3_keeps) (CN := RX7) (owner := "InTheOldOne$DiskKind") (nm := 17) [.int x1] rest (c_X3_keeps t M _ x1) ⟨hlink, q27_23, q28_1, q28_2, q28_14, q28_1, q2_9, q28_2⟩ xo_kind4 ⟨by decide, by decide, by decide +kernel⟩ (by decide) rfl (by omega) hst hd rfl (k_I kk)
  | 5, _ => exact x_callU (np := 1) C E (xm := yX3_keeps) (y := yX5_keeps) (CN := RX5) (owner := "InTheOldOne$DiskKind") (nm := 18) [.int x1] rest (c_X5_keeps t M _ x1) ⟨hlink, q27_23, q28_1, q28_2, q28_11, q28_12, q3_0, q28_13⟩ xo_kind5 ⟨by decide, by decide, by decide +kernel⟩ (by decide) rfl (by omega) hst hd rfl (k_I kk)
theorem x_kroomBy {κ : XK} {own : String} {cc : ByteArray} {n d : Nat} {t : CT} {M : MM} {pc : Nat} {L : List (Nat × Value)} {rest : List Value} (C : XC κ own cc n d) (E : XE κ (wC t)) {k index : Nat} (hk : k < 6) (x1 : Int32) (hlink : Cond.methodLink own index yX3_roomBy ∈ wsL_law) (hdd : 3 < d) (hst : (rest.map fun v => v.category).sum ≤ 8) (hd : decode cc pc = .ok (.invokevirtual index, 3)) (kk : XV κ (xP (wC t) M) (pc + 3) L (.int (kRoom k x1) :: rest)) : XV κ (xP (wC t) M) pc L (.int x1 :: .ref (t.1 (13 + k)) :: rest) := by
  match k, hk with
  | 0, _ => exact x_callU (np := 1) C E (xm := yX3_roomBy) (y := yX3_roomBy) (CN := RX3) (owner := "InTheOldOne$DiskKind") (nm := 13) [.int x1] rest (c_X3_roomBy t M _ x1) ⟨hlink, q22_17, q23_0, q22_22, q23_2, q23_0, q2_9, q22_22⟩ xo_kind0 ⟨by decide, by decide, by decide +kernel⟩ (by decide) rfl (by omega) hst hd rfl (k_I kk)
  | 1, _ => exact x_callU (np := 1) C E (xm := yX3_roomBy) (y := yX0_roomBy) (CN := RX0) (owner := "InTheOldOne$DiskKind") (nm := 14) [.int x1] rest (c_X0_roomBy t M _ x1) ⟨hlink, q22_17, q23_0, q22_22, q22_19, q22_20, q2_12, q22_21⟩ xo_kind1 ⟨by decide, by decide, by decide +kernel⟩ (by decide) rfl (by omega) hst hd rfl (k_I kk)
  | 2, _ => exact x_callU (np := 1) C E (xm := yX3_roomBy) (y := yX3_roomBy) (CN := RX1) (owner := "InTheOldOne$DiskKind") (nm := 15) [.int x1] rest (c_X3_roomBy t M _ x1) ⟨hlink, q22_17, q23_0, q22_22, q22_23, q23_0, q2_9, q22_22⟩ xo_kind2 ⟨by decide, by decide, by decide +kernel⟩ (by decide) rfl (by omega) hst hd rfl (k_I kk)
  | 3, _ => exact x_callU (np := 1) C E (xm := yX3_roomBy) (y := yX0_roomBy) (CN := RX4) (owner := "InTheOldOne$DiskKind") (nm := 16) [.int x1] rest (c_X0_roomBy t M _ x1) ⟨hlink, q22_17, q23_0, q22_22, q23_3, q22_20, q2_12, q22_21⟩ xo_kind3 ⟨by decide, by decide, by decide +kernel⟩ (by decide) rfl (by omega) hst hd rfl (k_I kk)
  | 4, _ => exact x_callU (np := 1) C E (xm := yX3_roomBy) (y := yX3_roomBy) (CN := RX7) (owner := "InTheOldOne$DiskKind") (nm := 17) [.int x1] rest (c_X3_roomBy t M _ x1) ⟨hlink, q22_17, q23_0, q22_22, q23_7, q23_0, q2_9, q22_22⟩ xo_kind4 ⟨by decide, by decide, by decide +kernel⟩ (by decide) rfl (by omega) hst hd rfl (k_I kk)
  | 5, _ => exact x_callU (np := 1) C E (xm := yX3_roomBy) (y := yX5_roomBy) (CN := RX5) (owner := "InTheOldOne$DiskKind") (nm := 18) [.int x1] rest (c_X5_roomBy t M _ x1) ⟨hlink, q22_17, q23_0, q22_22, q23_4, q23_5, q3_0, q23_6⟩ xo_kind5 ⟨by decide, by decide, by decide +kernel⟩ (by decide) rfl (by omega) hst hd rfl (k_I kk)
def rdJ (M : MM) (j : Nat) (x : Int32) : Bool := kReads (M (62 + 3 * j) 0).toNatClampNeg (x - M (62 + 3 * j) 2) x (M (62 + 3 * j) 1)
set_option maxRecDepth 100000 in
set_option maxHeartbeats 4000000 in
theorem c_X2_readsOn (t : CT) (M : MM) {j : Nat} (hj : j < 21) (hk : (M (62 + 3 * j) 0).toNatClampNeg < 6) (x : Int32) : XMet (wC t) yX2_readsOn cX2_readsOn 2 (some .boolean) 4 [.ref (t.1 (62 + 3 * j)), .int x] M (rI (b2i (rdJ M j x)) M) := by
  refine x_met RX2 (by decide) rfl (Nat.le_of_ble_eq_true rfl) (fun κ C X E => ?_)
  refine x_L (L' := [(0, .ref (t.1 (62 + 3 * j))), (1, .int x)]) rfl ?_
  refine x_aload_n (pc := 0) C 0 dX2_readsOn_0 rfl ?_
  refine g_Disk_kind (pc := 1) C E hj q4_8 dX2_readsOn_1 ?_
  refine x_iload_n (pc := 4) C 1 dX2_readsOn_4 rfl ?_
  refine x_aload_n (pc := 5) C 0 dX2_readsOn_5 rfl ?_
  refine g_Disk_since (pc := 6) C E hj q19_8 dX2_readsOn_6 ?_
  refine x_isub (pc := 9) C dX2_readsOn_9 ?_
  refine x_iload_n (pc := 10) C 1 dX2_readsOn_10 rfl ?_
  refine x_aload_n (pc := 11) C 0 dX2_readsOn_11 rfl ?_
  refine g_Disk_number (pc := 12) C E hj q19_7 dX2_readsOn_12 ?_
  refine x_kreads (pc := 15) C E hk (x - (M (62 + 3 * j) 2)) x (M (62 + 3 * j) 1) q20_22 (by decide) (Nat.le_of_ble_eq_true rfl) dX2_readsOn_15 ?_
  exact x_bret (pc := 18) C X (b := (kReads ((M (62 + 3 * j) 0).toNatClampNeg) (x - (M (62 + 3 * j) 2)) x (M (62 + 3 * j) 1))) rfl dX2_readsOn_18 (rI_b rfl)

def tiJ (M : MM) (j f : Nat) : Bool := bt (M (62 + 3 * j) 3) f || decide (jbc (M (62 + 3 * j) 3) < kRoom (M (62 + 3 * j) 0).toNatClampNeg (M (62 + 3 * j) 1))
set_option maxRecDepth 100000 in
set_option maxHeartbeats 4000000 in
theorem c_X2_takesIn (t : CT) (M : MM) {j : Nat} (hj : j < 21) (hk : (M (62 + 3 * j) 0).toNatClampNeg < 6) {f : Nat} (hf : f < 8) : XMet (wC t) yX2_takesIn cX2_takesIn 2 (some .boolean) 4 [.ref (t.1 (62 + 3 * j)), .int (nI f)] M (rI (b2i (tiJ M j f)) M) := by
  refine x_met RX2 (by decide) rfl (Nat.le_of_ble_eq_true rfl) (fun κ C X E => ?_)
  refine x_L (L' := [(0, .ref (t.1 (62 + 3 * j))), (1, .int (nI f))]) rfl ?_
  refine x_aload_n (pc := 0) C 0 dX2_takesIn_0 rfl ?_
  refine g_Disk_held (pc := 1) C E hj q19_13 dX2_takesIn_1 ?_
  refine x_iload_n (pc := 4) C 1 dX2_takesIn_4 rfl ?_
  refine x_callSN (host := RX11) (pc := 5) C E [.int (M (62 + 3 * j) 3), .int (nI f)] [] (c_X11_isIn t _ _ (by omega)) m_X11_isIn (by simp [lw_nest]) rfl (by decide) (Nat.le_of_ble_eq_true rfl) dX2_takesIn_5 rfl (k_I ?_)
  refine x_ifb_ne (pc := 8) C 32 dX2_takesIn_8 (by decide) (fun h8 => ?_) (fun h8 => ?_)
  · refine x_iconst (pc := 32) (v := 1) C dX2_takesIn_32 rfl ?_
    refine x_goto (pc := 33) C 37 dX2_takesIn_33 (by decide) ?_
    exact x_bret (pc := 37) C X (b := true) rfl dX2_takesIn_37 (rI_b (by first | (simp [tiJ, h8]; done) | (simp [tiJ, h8, h29]; done) | (simp [tiJ, h8]; exact Int32.not_le.mp h29)))
  · refine x_aload_n (pc := 11) C 0 dX2_takesIn_11 rfl ?_
    refine g_Disk_held (pc := 12) C E hj q19_13 dX2_takesIn_12 ?_
    refine x_callS (pc := 15) C E [.int (M (62 + 3 * j) 3)] [] (c_bitCount t _ _) m_J6_bitCount_0f7a4 q27_15 rfl (by decide) (Nat.le_of_ble_eq_true rfl) dX2_takesIn_15 rfl (k_I ?_)
    refine x_aload_n (pc := 18) C 0 dX2_takesIn_18 rfl ?_
    refine g_Disk_kind (pc := 19) C E hj q4_8 dX2_takesIn_19 ?_
    refine x_aload_n (pc := 22) C 0 dX2_takesIn_22 rfl ?_
    refine g_Disk_number (pc := 23) C E hj q19_7 dX2_takesIn_23 ?_
    refine x_kroomBy (pc := 26) C E hk (M (62 + 3 * j) 1) q27_17 (by decide) (Nat.le_of_ble_eq_true rfl) dX2_takesIn_26 ?_
    refine x_icmp_ge (pc := 29) C 36 dX2_takesIn_29 (by decide) (fun h29 => ?_) (fun h29 => ?_)
    · refine x_iconst (pc := 36) (v := 0) C dX2_takesIn_36 rfl ?_
      exact x_bret (pc := 37) C X (b := false) rfl dX2_takesIn_37 (rI_b (by first | (simp [tiJ, h8]; done) | (simp [tiJ, h8, h29]; done) | (simp [tiJ, h8]; exact Int32.not_le.mp h29)))
    · refine x_iconst (pc := 32) (v := 1) C dX2_takesIn_32 rfl ?_
      refine x_goto (pc := 33) C 37 dX2_takesIn_33 (by decide) ?_
      exact x_bret (pc := 37) C X (b := true) rfl dX2_takesIn_37 (rI_b (by first | (simp [tiJ, h8]; done) | (simp [tiJ, h8, h29]; done) | (simp [tiJ, h8]; exact Int32.not_le.mp h29)))

def dPut (M : MM) (j f : Nat) (c s : Int32) : MM := (mu (mu (mu M (63 + 3 * j) f (kKeeps (M (62 + 3 * j) 0).toNatClampNeg c)) (64 + 3 * j) f s) (62 + 3 * j) 3 (M (62 + 3 * j) 3 ||| ((1 : Int32) <<< (nI f &&& 31))))
set_option maxRecDepth 100000 in
set_option maxHeartbeats 4000000 in
theorem c_X2_put (t : CT) (M : MM) {j : Nat} (hj : j < 21) (hk : (M (62 + 3 * j) 0).toNatClampNeg < 6) {f : Nat} (hf : f < 8) (c s : Int32) : XMet (wC t) yX2_put cX2_put 4 none 4 [.ref (t.1 (62 + 3 * j)), .int (nI f), .int c, .int s] M (rU (dPut M j f c s)) := by
  refine x_met RX2 (by decide) rfl (Nat.le_of_ble_eq_true rfl) (fun κ C X E => ?_)
  refine x_L (L' := [(0, .ref (t.1 (62 + 3 * j))), (1, .int (nI f)), (2, .int c), (3, .int s)]) rfl ?_
  refine x_aload_n (pc := 0) C 0 dX2_put_0 rfl ?_
  refine g_Disk_contents (pc := 1) C E hj q4_9 dX2_put_1 ?_
  refine x_iload_n (pc := 4) C 1 dX2_put_4 rfl ?_
  refine x_aload_n (pc := 5) C 0 dX2_put_5 rfl ?_
  refine g_Disk_kind (pc := 6) C E hj q4_8 dX2_put_6 ?_
  refine x_iload_n (pc := 9) C 2 dX2_put_9 rfl ?_
  refine x_kkeeps (pc := 10) C E hk c q28_4 (by decide) (Nat.le_of_ble_eq_true rfl) dX2_put_10 ?_
  refine s_ct (pc := 13) C E hj (by omega) dX2_put_13 ?_
  refine x_aload_n (pc := 14) C 0 dX2_put_14 rfl ?_
  refine g_Disk_stamps (pc := 15) C E hj q4_10 dX2_put_15 ?_
  refine x_iload_n (pc := 18) C 1 dX2_put_18 rfl ?_
  refine x_iload_n (pc := 19) C 3 dX2_put_19 rfl ?_
  refine s_st (pc := 20) C E hj (by omega) dX2_put_20 ?_
  refine x_aload_n (pc := 21) C 0 dX2_put_21 rfl ?_
  refine x_dup (pc := 22) C dX2_put_22 rfl ?_
  refine g_Disk_held (pc := 23) C E hj q19_13 dX2_put_23 ?_
  refine x_iconst (pc := 26) (v := 1) C dX2_put_26 rfl ?_
  refine x_iload_n (pc := 27) C 1 dX2_put_27 rfl ?_
  refine x_ishl (pc := 28) C dX2_put_28 ?_
  refine x_ior (pc := 29) C dX2_put_29 ?_
  refine p_Disk_held (pc := 30) C E hj q19_13 dX2_put_30 ?_
  exact x_vret (pc := 33) C X dX2_put_33 ⟨rfl, by unfold dPut; simp only [mu_at]; simp⟩

def dDrop (M : MM) (j f : Nat) : MM := mu (mu (mu M (63 + 3 * j) f (-1)) (64 + 3 * j) f (-100)) (62 + 3 * j) 3 (M (62 + 3 * j) 3 &&& (((1 : Int32) <<< (nI f &&& 31)) ^^^ (-1)))
set_option maxRecDepth 100000 in
set_option maxHeartbeats 4000000 in
theorem c_X2_drop (t : CT) (M : MM) {j : Nat} (hj : j < 21) {f : Nat} (hf : f < 8) : XMet (wC t) yX2_drop cX2_drop 2 none 2 [.ref (t.1 (62 + 3 * j)), .int (nI f)] M (rU (dDrop M j f)) := by
  refine x_met RX2 (by decide) rfl (Nat.le_of_ble_eq_true rfl) (fun κ C X E => ?_)
  refine x_L (L' := [(0, .ref (t.1 (62 + 3 * j))), (1, .int (nI f))]) rfl ?_
  refine x_aload_n (pc := 0) C 0 dX2_drop_0 rfl ?_
  refine g_Disk_contents (pc := 1) C E hj q4_9 dX2_drop_1 ?_
  refine x_iload_n (pc := 4) C 1 dX2_drop_4 rfl ?_
  refine x_iconst (pc := 5) (v := (-1)) C dX2_drop_5 rfl ?_
  refine s_ct (pc := 6) C E hj (by omega) dX2_drop_6 ?_
  refine x_aload_n (pc := 7) C 0 dX2_drop_7 rfl ?_
  refine g_Disk_stamps (pc := 8) C E hj q4_10 dX2_drop_8 ?_
  refine x_iload_n (pc := 11) C 1 dX2_drop_11 rfl ?_
  refine x_bipush (pc := 12) (v := (-100)) C dX2_drop_12 rfl ?_
  refine s_st (pc := 14) C E hj (by omega) dX2_drop_14 ?_
  refine x_aload_n (pc := 15) C 0 dX2_drop_15 rfl ?_
  refine x_aload_n (pc := 16) C 0 dX2_drop_16 rfl ?_
  refine g_Disk_held (pc := 17) C E hj q19_13 dX2_drop_17 ?_
  refine x_iload_n (pc := 20) C 1 dX2_drop_20 rfl ?_
  refine x_callSN (host := RX11) (pc := 21) C E [.int ((mu (mu M (63 + 3 * j) f (-1)) (64 + 3 * j) f (-100)) (62 + 3 * j) 3), .int (nI f)] [.ref (t.1 (62 + 3 * j))] (c_X11_without t _ _ _) m_X11_without (by simp [lw_nest]) rfl (by decide) (Nat.le_of_ble_eq_true rfl) dX2_drop_21 rfl (k_I ?_)
  refine p_Disk_held (pc := 24) C E hj q19_13 dX2_drop_24 ?_
  exact x_vret (pc := 27) C X dX2_drop_27 ⟨rfl, by unfold dDrop; simp only [mu_at]; simp⟩

def dDropN (M : MM) (j : Nat) : Nat → MM
  | 0 => M
  | f + 1 => dDrop (dDropN M j f) j f
def dBegin (M : MM) (j : Nat) (v num day : Int32) : MM := dDropN (mu (mu (mu M (62 + 3 * j) 0 v) (62 + 3 * j) 1 num) (62 + 3 * j) 2 day) j 8
set_option maxRecDepth 100000 in
set_option maxHeartbeats 4000000 in
theorem c_X2_begin (t : CT) (M : MM) {j : Nat} (hj : j < 21) (v x2 x3 : Int32) : XMet (wC t) yX2_begin cX2_begin 5 none 3 [.ref (t.1 (62 + 3 * j)), .ref (t.1 (13 + (v.toNatClampNeg))), .int x2, .int x3] M (rU (dBegin M j v x2 x3)) := by
  refine x_met RX2 (by decide) rfl (Nat.le_of_ble_eq_true rfl) (fun κ C X E => ?_)
  refine x_L (L' := [(0, .ref (t.1 (62 + 3 * j))), (1, .ref (t.1 (13 + (v.toNatClampNeg)))), (2, .int x2), (3, .int x3)]) rfl ?_
  refine x_aload_n (pc := 0) C 0 dX2_begin_0 rfl ?_
  refine x_aload_n (pc := 1) C 1 dX2_begin_1 rfl ?_
  refine p_Disk_kind (pc := 2) C E (v := v) hj q4_8 dX2_begin_2 ?_
  refine x_aload_n (pc := 5) C 0 dX2_begin_5 rfl ?_
  refine x_iload_n (pc := 6) C 2 dX2_begin_6 rfl ?_
  refine p_Disk_number (pc := 7) C E hj q19_7 dX2_begin_7 ?_
  refine x_aload_n (pc := 10) C 0 dX2_begin_10 rfl ?_
  refine x_iload_n (pc := 11) C 3 dX2_begin_11 rfl ?_
  refine p_Disk_since (pc := 12) C E hj q19_8 dX2_begin_12 ?_
  refine x_iconst (pc := 15) (v := (nI 0)) C dX2_begin_15 (by decide) ?_
  refine x_istore (pc := 16) (L' := [(4, .int (nI 0)), (0, .ref (t.1 (62 + 3 * j))), (1, .ref (t.1 (13 + (v.toNatClampNeg)))), (2, .int x2), (3, .int x3)]) C dX2_begin_16 (by decide) rfl ?_
  have loop18 : ∀ (k f : Nat) (y : Int32) (Mx : MM) , f + k = 8 → y = nI f → Mx = dDropN (mu (mu (mu M (62 + 3 * j) 0 v) (62 + 3 * j) 1 x2) (62 + 3 * j) 2 x3) j f → XV κ (xP (wC t) Mx) 18 [(4, .int y), (0, .ref (t.1 (62 + 3 * j))), (1, .ref (t.1 (13 + (v.toNatClampNeg)))), (2, .int x2), (3, .int x3)] [] := by
    intro k
    induction k with
      | zero =>
        intro f y Mx  hcnt ey eMx
        subst ey
        subst eMx
        obtain rfl : 8 = f := by omega
        refine x_iload (pc := 18) C 0 dX2_begin_18 rfl ?_
        refine x_bipush (pc := 20) (v := (nI 8)) C dX2_begin_20 (by decide) ?_
        refine x_icmp_ge_t (pc := 22) C 37 dX2_begin_22 (by decide) (nI_le (by omega) (by omega)) ?_
        exact x_vret (pc := 37) C X dX2_begin_37 ⟨rfl, rfl⟩
      | succ k ih =>
        intro f y Mx  hcnt ey eMx
        subst ey
        subst eMx
        have hi18 : f < 8 := by omega
        refine x_iload (pc := 18) C 0 dX2_begin_18 rfl ?_
        refine x_bipush (pc := 20) (v := (nI 8)) C dX2_begin_20 (by decide) ?_
        refine x_icmp_ge_f (pc := 22) C 37 dX2_begin_22 (by decide) (nI_ge (by omega) (by omega)) ?_
        refine x_aload_n (pc := 25) C 1 dX2_begin_25 rfl ?_
        refine x_iload (pc := 26) C 0 dX2_begin_26 rfl ?_
        refine x_callV (pc := 28) C E [.int (nI f)] [] (c_X2_drop t _ hj (by omega)) m_X2_drop q19_9 (xo_Disk hj) rfl (by decide) (Nat.le_of_ble_eq_true rfl) dX2_begin_28 rfl (k_U ?_)
        refine x_iinc (pc := 31) (v := nI (f + 1)) (L' := [(4, .int (nI (f + 1))), (0, .ref (t.1 (62 + 3 * j))), (1, .ref (t.1 (13 + (v.toNatClampNeg)))), (2, .int x2), (3, .int x3)]) C 0 dX2_begin_31 rfl (nI_1 _) (by decide) rfl ?_
        refine x_goto (pc := 34) C 18 dX2_begin_34 (by decide) ?_
        refine x_sub [0, 1, 2, 3, 4] rfl ?_
        exact ih (f + 1) _ _ (by omega) rfl rfl
  refine x_sub [0, 1, 2, 3, 4] rfl ?_
  exact loop18 8 0 _ _ (by omega) rfl rfl

def dBec (M : MM) (j j2 : Nat) : MM := fun a b => if a = 62 + 3 * j ∧ b < 4 then M (62 + 3 * j2) b else if a = 63 + 3 * j ∧ b < 8 then M (63 + 3 * j2) b else if a = 64 + 3 * j ∧ b < 8 then M (64 + 3 * j2) b else M a b
set_option maxRecDepth 100000 in
set_option maxHeartbeats 4000000 in
theorem c_X2_become (t : CT) (M : MM) {j : Nat} (hj : j < 21) {j2 : Nat} (hj2 : j2 < 21) : XMet (wC t) yX2_become cX2_become 2 none 2 [.ref (t.1 (62 + 3 * j)), .ref (t.1 (62 + 3 * j2))] M (rU (dBec M j j2)) := by
  refine x_met RX2 (by decide) rfl (Nat.le_of_ble_eq_true rfl) (fun κ C X E => ?_)
  refine x_L (L' := [(0, .ref (t.1 (62 + 3 * j))), (1, .ref (t.1 (62 + 3 * j2)))]) rfl ?_
  refine x_aload_n (pc := 0) C 0 dX2_become_0 rfl ?_
  refine x_aload_n (pc := 1) C 1 dX2_become_1 rfl ?_
  refine g_Disk_kind (pc := 2) C E hj2 q4_8 dX2_become_2 ?_
  refine p_Disk_kind (pc := 5) C E (v := (M (62 + 3 * j2) 0)) hj q4_8 dX2_become_5 ?_
  refine x_aload_n (pc := 8) C 0 dX2_become_8 rfl ?_
  refine x_aload_n (pc := 9) C 1 dX2_become_9 rfl ?_
  refine g_Disk_number (pc := 10) C E hj2 q19_7 dX2_become_10 ?_
  refine p_Disk_number (pc := 13) C E hj q19_7 dX2_become_13 ?_
  refine x_aload_n (pc := 16) C 0 dX2_become_16 rfl ?_
  refine x_aload_n (pc := 17) C 1 dX2_become_17 rfl ?_
  refine g_Disk_since (pc := 18) C E hj2 q19_8 dX2_become_18 ?_
  refine p_Disk_since (pc := 21) C E hj q19_8 dX2_become_21 ?_
  refine x_aload_n (pc := 24) C 0 dX2_become_24 rfl ?_
  refine x_aload_n (pc := 25) C 1 dX2_become_25 rfl ?_
  refine g_Disk_held (pc := 26) C E hj2 q19_13 dX2_become_26 ?_
  refine p_Disk_held (pc := 29) C E hj q19_13 dX2_become_29 ?_
  refine x_aload_n (pc := 32) C 1 dX2_become_32 rfl ?_
  refine g_Disk_contents (pc := 33) C E hj2 q4_9 dX2_become_33 ?_
  refine x_iconst (pc := 36) (v := (nI 0)) C dX2_become_36 (by decide) ?_
  refine x_aload_n (pc := 37) C 0 dX2_become_37 rfl ?_
  refine g_Disk_contents (pc := 38) C E hj q4_9 dX2_become_38 ?_
  refine x_iconst (pc := 41) (v := (nI 0)) C dX2_become_41 (by decide) ?_
  refine x_bipush (pc := 42) (v := (nI 8)) C dX2_become_42 (by decide) ?_
  refine x_copyi (pc := 44) C E (by decide) (n0 := 63 + 3 * j2) (n1 := 63 + 3 * j) 0 (by show _ < 146; omega) (cC_ct hj2) (by show _ < 146; omega) (fun r => (cC_ct hj)) rfl q36_13 q11_5 q11_6 q11_7 (by decide) (by decide) (by decide) (by decide) (by decide) rfl dX2_become_44 ?_
  refine x_aload_n (pc := 47) C 1 dX2_become_47 rfl ?_
  refine g_Disk_stamps (pc := 48) C E hj2 q4_10 dX2_become_48 ?_
  refine x_iconst (pc := 51) (v := (nI 0)) C dX2_become_51 (by decide) ?_
  refine x_aload_n (pc := 52) C 0 dX2_become_52 rfl ?_
  refine g_Disk_stamps (pc := 53) C E hj q4_10 dX2_become_53 ?_
  refine x_iconst (pc := 56) (v := (nI 0)) C dX2_become_56 (by decide) ?_
  refine x_bipush (pc := 57) (v := (nI 8)) C dX2_become_57 (by decide) ?_
  refine x_copyi (pc := 59) C E (by decide) (n0 := 64 + 3 * j2) (n1 := 64 + 3 * j) 0 (by show _ < 146; omega) (cC_st hj2) (by show _ < 146; omega) (fun r => (cC_st hj)) rfl q36_13 q11_5 q11_6 q11_7 (by decide) (by decide) (by decide) (by decide) (by decide) rfl dX2_become_59 ?_
  exact x_vret (pc := 62) C X dX2_become_62 ⟨rfl, by
      funext a b
      by_cases h1 : a = 62 + 3 * j
      · subst h1
        rw [mr_n _ _ _ (by omega), mr_n _ _ _ (by omega)]
        unfold dBec
        simp only [mu_at]
        rcases (by omega : b = 0 ∨ b = 1 ∨ b = 2 ∨ b = 3 ∨ 4 ≤ b) with rfl | rfl | rfl | rfl | h
        · simp
        · simp
        · simp
        · simp
        · simp [show ¬ b = 0 by omega, show ¬ b = 1 by omega, show ¬ b = 2 by omega, show ¬ b = 3 by omega, show ¬ b < 4 by omega, show ¬ 62 + 3 * j = 63 + 3 * j by omega, show ¬ 62 + 3 * j = 64 + 3 * j by omega]
      · by_cases h2 : a = 63 + 3 * j
        · subst h2
          rw [mr_n _ _ _ (by omega), mr_s]
          unfold dBec va_cpy
          by_cases hb : b < 8
          · rw [if_pos (by omega), mu_n _ _ _ _ (by omega), mu_n _ _ _ _ (by omega), mu_n _ _ _ _ (by omega), mu_n _ _ _ _ (by omega), if_neg (by omega), if_pos ⟨rfl, hb⟩]
            simp
          · rw [if_neg (by omega), mu_n _ _ _ _ (by omega), mu_n _ _ _ _ (by omega), mu_n _ _ _ _ (by omega), mu_n _ _ _ _ (by omega), if_neg (by omega), if_neg (by omega), if_neg (by omega)]
        · by_cases h3 : a = 64 + 3 * j
          · subst h3
            rw [mr_s]
            unfold dBec va_cpy
            by_cases hb : b < 8
            · rw [if_pos (by omega), mr_n _ _ _ (by omega), mu_n _ _ _ _ (by omega), mu_n _ _ _ _ (by omega), mu_n _ _ _ _ (by omega), mu_n _ _ _ _ (by omega), if_neg (by omega), if_neg (by omega), if_pos ⟨rfl, hb⟩]
              simp
            · rw [if_neg (by omega), mr_n _ _ _ (by omega), mu_n _ _ _ _ (by omega), mu_n _ _ _ _ (by omega), mu_n _ _ _ _ (by omega), mu_n _ _ _ _ (by omega), if_neg (by omega), if_neg (by omega), if_neg (by omega)]
          · rw [mr_n _ _ _ h3, mr_n _ _ _ h2, mu_n _ _ _ _ h1, mu_n _ _ _ _ h1, mu_n _ _ _ _ h1, mu_n _ _ _ _ h1]
            unfold dBec
            rw [if_neg (by omega), if_neg (by omega), if_neg (by omega)]⟩

