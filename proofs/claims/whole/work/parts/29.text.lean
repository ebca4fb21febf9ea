/-! TEXT CONSTANTS: what stands of them outside the world, and the members that are called on them -/
def aN : Nat → Prop := fun _ => False
/-- the statics that they read -/
def stS (v : Value) (U : State) (H : Heap) : Prop := va_Z "java/lang/String" "COMPACT_STRINGS" "Z" (.int 1) aN U H ∧ va_Z "jdk/internal/util/Preconditions" "SIOOBE_FORMATTER" "Ljava/util/function/BiFunction;" v aN U H
/-- a text at q, its bytes at a -/
def stT (q a N : Nat) (f : Nat → Value) (U : State) (H : Heap) : Prop := va_O "java/lang/String" q aN U H ∧ va_OF "java/lang/String" "coder" "B" (.int 0) q aN U H ∧ va_OF "java/lang/String" "value" "[B" (.ref a) q aN U H ∧ va_T .byte a N f aN U H
section XTXT
variable {κ : XK} {own : String} {cc : ByteArray} {n d : Nat} {w : XW} {M : MM} {pc : Nat} {L : List (Nat × Value)} {st : List Value}
theorem x_ldcS (C : XC κ own cc n d) (E : XE κ w) {index q : Nat} {tx : String} (hX : ∀ U H, xX w U H → vk_R own index tx q U) (hd : decode cc pc = .ok (.ldc index, 2)) (k : XV κ (xP w M) (pc + 2) L (.ref q :: st)) : XV κ (xP w M) pc L st := by
  obtain ⟨p, l, e, R, s, m, args, below, meth, c, Q, A, nL, cells, slots⟩ := κ
  intro H locs ls hI hS hl
  exact va_ldcS C.1 C.2.1 C.2.2.2.1 (hX s H (E.2.2.2.1 s H locs (State.WarmedH.refl s) hS)) hd (k H locs ls hI hS hl)
theorem x_gets (C : XC κ own cc n d) (E : XE κ w) {index : Nat} {o f D : String} {v : Value} (hX : ∀ U H, xX w U H → va_Z o f D v aN U H) (hlink : Cond.fieldLink own index o f D ∈ wsL_law) (hd : decode cc pc = .ok (.getstatic index, 3)) (k : XV κ (xP w M) (pc + 3) L (v :: st)) : XV κ (xP w M) pc L st := by
  obtain ⟨p, l, e, R, s, m, args, below, meth, c, Q, A, nL, cells, slots⟩ := κ
  intro H locs ls hI hS hl
  obtain ⟨cf, kf, fi, f, a, cell, h1, h2, h3, h4, h5, h6, h7, h8⟩ := hX s H (E.2.2.2.1 s H locs (State.WarmedH.refl s) hS)
  exact W.gets C.1 C.2.1 C.2.2.2.1 (C.2.2.2.2.1 _ hlink) h1 h2 h3 h4 h5 (fun e => by rw [e] at h6; cases h6) h7 rfl hd (k H locs ls hI hS hl)
theorem x_getX (C : XC κ own cc n d) (E : XE κ w) {index q : Nat} {o f D : String} {v : Value} (hX : ∀ U H, xX w U H → va_OF o f D v q aN U H) (hlink : Cond.fieldLink own index o f D ∈ wsL_law) (hd : decode cc pc = .ok (.getfield index, 3)) (k : XV κ (xP w M) (pc + 3) L (v :: st)) : XV κ (xP w M) pc L (.ref q :: st) := by
  obtain ⟨p, l, e, R, s, m, args, below, meth, c, Q, A, nL, cells, slots⟩ := κ
  intro H locs ls hI hS hl
  obtain ⟨cf, kf, fi, f, cell, h1, h2, h3, h4, h5, h6⟩ := hX s H (E.2.2.2.1 s H locs (State.WarmedH.refl s) hS)
  exact W.getf C.1 C.2.1 C.2.2.2.1 (C.2.2.2.2.1 _ hlink) h1 h2 h3 h4 (v := v) h5 rfl rfl hd (k H locs ls hI hS hl)
theorem x_tb (C : XC κ own cc n d) (E : XE κ w) {a N x0 : Nat} {f : Nat → Value} (hX : ∀ U H, xX w U H → va_T .byte a N f aN U H) (hx : x0 < N) (hN : N < 2 ^ 31) (hd : decode cc pc = .ok (.baload, 1)) (k : XV κ (xP w M) (pc + 1) L (f x0 :: st)) : XV κ (xP w M) pc L (.int (nI x0) :: .ref a :: st) := by
  obtain ⟨p, l, e, R, s, m, args, below, meth, c, Q, A, nL, cells, slots⟩ := κ
  intro H locs ls hI hS hl
  obtain ⟨cell, h1, h2, h3, h4, h5, h6, h7⟩ := hX s H (E.2.2.2.1 s H locs (State.WarmedH.refl s) hS)
  have hc : (nI x0).toNatClampNeg = x0 := nI_clamp (by omega)
  have hin : ¬ (nI x0 < 0 ∨ cell.slots.size ≤ (nI x0).toNatClampNeg) := by
    intro q
    rcases q with q | q
    · exact nI_pos (by omega) q
    · omega
  exact W.bald (v := f x0) C.1 C.2.1 h1 h2 h3 hin (by rw [hc, h6 _ hx]) rfl rfl hd (k H locs ls hI hS hl)
theorem x_tlen (C : XC κ own cc n d) (E : XE κ w) {a N : Nat} {f : Nat → Value} (hX : ∀ U H, xX w U H → va_T .byte a N f aN U H) (hd : decode cc pc = .ok (.arraylength, 1)) (k : XV κ (xP w M) (pc + 1) L (.int (nI N) :: st)) : XV κ (xP w M) pc L (.ref a :: st) := by
  obtain ⟨p, l, e, R, s, m, args, below, meth, c, Q, A, nL, cells, slots⟩ := κ
  intro H locs ls hI hS hl
  obtain ⟨cell, h1, h2, h3, h4, h5, h6, h7⟩ := hX s H (E.2.2.2.1 s H locs (State.WarmedH.refl s) hS)
  exact W.alen (n := Int32.ofNat N) C.1 C.2.1 h1 h2 h5 rfl rfl hd (k H locs ls hI hS hl)
/-- a method of an object outside the world -/
theorem x_callVX (C : XC κ own cc n d) (E : XE κ w) {y : MethodName} {cy : ByteArray} {ny d' np index q : Nat} {ry : Option FieldType} {φ : XF} (As rest : List Value) (hM : XMet w y cy ny ry d' (.ref q :: As) M φ) (hy : xIM y cy ny ry np) (hl0 : Cond.methodLink own index y ∈ wsL_law) (ho : ∀ U H, xX w U H → va_O y.cls q aN U H) (hnp : As.length = np) (hdd : d' < d) (hst : (rest.map fun v => v.category).sum ≤ 8) (hd : decode cc pc = .ok (.invokevirtual index, 3)) {st : List Value} (hs : As.reverse ++ .ref q :: rest = st)
    (k : ∀ (r : Option Value) (M' : MM), φ r M' → XV κ (xP w M') (pc + 3) L (r.toList ++ rest)) : XV κ (xP w M) pc L st := by
  obtain ⟨p, l, e, R, s, m, args, below, meth, c, Q, A, nL, cells, slots⟩ := κ
  intro H locs ls hI hS hl
  subst hs
  obtain ⟨q1, q2, q3, q4, q5, q6⟩ := hy
  have hts := C.2.2.2.2.1
  obtain ⟨cell, o1, o2, o3, o4⟩ := ho s H (E.2.2.2.1 s H locs (State.WarmedH.refl s) hS)
  refine x_after E (va_runV (bytes := cy) (maxL := ny) (ret := ry) (As := As) (rest := rest) (C := y.cls) (own := own) (index := index) (n := np) (Ts := wsL_law) ⟨C.1, C.2.1, C.2.2.1, C.2.2.2.1, hts⟩ (hM l) ?_ ⟨xPre_blind, ⟨cell, o1, o2, o3⟩, fun U hU hW => ⟨rfl, x_pre E hI hS hU hW⟩⟩ rfl hnp hl.1 rfl (lv_room hst) hd ⟨C.2.2.2.2.2.2.2.1, C.2.2.2.2.2.2.2.2.1⟩) hS hl k
  refine cwV np hts (fun q hq => ?_) rfl rfl rfl ⟨rfl, q5⟩ (x_cwR hdd C.2.2.2.2.2.1 C.2.2.2.2.2.2.1 q6)
  rcases List.mem_append.mp hq with h | h
  · simp only [List.mem_cons, List.not_mem_nil, or_false] at h
    rcases h with rfl | rfl | rfl | rfl
    · exact x_good hl0
    · exact x_good q1
    · exact x_good q2
    · exact x_good q3
  · exact x_goodW q4 q h
end XTXT
theorem m_J0_length_8abf5 : xIM yJ0_length_8abf5 cJ0_length_8abf5 1 (some .int) 0 := ⟨q5_19, q5_20, q5_21, q5_22, by decide +kernel, by decide⟩
theorem m_J0_charAt_5068e : xIM yJ0_charAt_5068e cJ0_charAt_5068e 2 (some .char) 1 := ⟨q6_7, q6_8, q5_21, q6_9, by decide +kernel, by decide⟩
theorem m_J0_coder_7d493 : xIM yJ0_coder_7d493 cJ0_coder_7d493 1 (some .byte) 0 := ⟨q6_1, q6_2, q5_21, q6_3, by decide +kernel, by decide⟩
theorem m_J0_isLatin1_aae02 : xIM yJ0_isLatin1_aae02 cJ0_isLatin1_aae02 1 (some .boolean) 0 := ⟨q6_11, q6_12, q5_21, q6_13, by decide +kernel, by decide⟩
theorem m_J1_charAt_3b067 : xSM yJ1_charAt_3b067 cJ1_charAt_3b067 2 (some .char) 2 := ⟨q6_15, q6_16, q6_17, by decide +kernel, by decide⟩
theorem m_J0_checkIndex_df160 : xSM yJ0_checkIndex_df160 cJ0_checkIndex_df160 2 none 2 := ⟨q6_19, q5_21, q6_20, by decide +kernel, by decide⟩
theorem m_J3_checkIndex_8e157 : xSM yJ3_checkIndex_8e157 cJ3_checkIndex_8e157 3 (some .int) 3 := ⟨q6_23, q7_0, q7_1, by decide +kernel, by decide⟩
section TXT
variable {w : XW} {v : Value} {q a N : Nat} {f : Nat → Value} {M : MM}
theorem c_J0_coder (hS : ∀ U H, xX w U H → stS v U H) (hT : ∀ U H, xX w U H → stT q a N f U H) : XMet w yJ0_coder_7d493 cJ0_coder_7d493 1 (some .byte) 1 [.ref q] M (rI 0 M) := by
  refine x_met RJ0 (by decide) rfl (Nat.le_of_ble_eq_true rfl) (fun κ C X E => ?_)
  refine x_L (L' := [(0, .ref q)]) rfl ?_
  refine x_gets (pc := 0) C E (fun U H h => (hS U H h).1) q6_4 dJ0_coder_7d493_0 ?_
  refine x_if_eq_f (pc := 3) C 13 dJ0_coder_7d493_3 (by decide) (by decide) ?_
  refine x_aload_n (pc := 6) C 0 dJ0_coder_7d493_6 rfl ?_
  refine x_getX (pc := 7) C E (fun U H h => (hT U H h).2.1) q6_5 dJ0_coder_7d493_7 ?_
  refine x_goto (pc := 10) C 14 dJ0_coder_7d493_10 (by decide) ?_
  exact x_zret (pc := 14) C X rfl dJ0_coder_7d493_14 ⟨rfl, rfl⟩
theorem c_J0_isLatin1 (hS : ∀ U H, xX w U H → stS v U H) (hT : ∀ U H, xX w U H → stT q a N f U H) : XMet w yJ0_isLatin1_aae02 cJ0_isLatin1_aae02 1 (some .boolean) 1 [.ref q] M (rI 1 M) := by
  refine x_met RJ0 (by decide) rfl (Nat.le_of_ble_eq_true rfl) (fun κ C X E => ?_)
  refine x_L (L' := [(0, .ref q)]) rfl ?_
  refine x_gets (pc := 0) C E (fun U H h => (hS U H h).1) q6_4 dJ0_isLatin1_aae02_0 ?_
  refine x_if_eq_f (pc := 3) C 17 dJ0_isLatin1_aae02_3 (by decide) (by decide) ?_
  refine x_aload_n (pc := 6) C 0 dJ0_isLatin1_aae02_6 rfl ?_
  refine x_getX (pc := 7) C E (fun U H h => (hT U H h).2.1) q6_5 dJ0_isLatin1_aae02_7 ?_
  refine x_if_ne_f (pc := 10) C 17 dJ0_isLatin1_aae02_10 (by decide) rfl ?_
  refine x_iconst (pc := 13) (v := 1) C dJ0_isLatin1_aae02_13 rfl ?_
  refine x_goto (pc := 14) C 18 dJ0_isLatin1_aae02_14 (by decide) ?_
  exact x_zret (pc := 18) C X rfl dJ0_isLatin1_aae02_18 ⟨rfl, rfl⟩
theorem c_J0_length (hS : ∀ U H, xX w U H → stS v U H) (hT : ∀ U H, xX w U H → stT q a N f U H) (hN : nI N >>> ((0 : Int32) &&& 31) = nI N) : XMet w yJ0_length_8abf5 cJ0_length_8abf5 1 (some .int) 2 [.ref q] M (rI (nI N) M) := by
  refine x_met RJ0 (by decide) rfl (Nat.le_of_ble_eq_true rfl) (fun κ C X E => ?_)
  refine x_L (L' := [(0, .ref q)]) rfl ?_
  refine x_aload_n (pc := 0) C 0 dJ0_length_8abf5_0 rfl ?_
  refine x_getX (pc := 1) C E (fun U H h => (hT U H h).2.2.1) q5_23 dJ0_length_8abf5_1 ?_
  refine x_tlen (pc := 4) C E (fun U H h => (hT U H h).2.2.2) dJ0_length_8abf5_4 ?_
  refine x_aload_n (pc := 5) C 0 dJ0_length_8abf5_5 rfl ?_
  refine x_callVX (pc := 6) C E [] [.int (nI N)] (c_J0_coder hS hT) m_J0_coder_7d493 q6_0 (fun U H h => (hT U H h).1) rfl (by decide) (Nat.le_of_ble_eq_true rfl) dJ0_length_8abf5_6 rfl (k_I ?_)
  refine x_ishr (pc := 9) C dJ0_length_8abf5_9 ?_
  refine x_eq hN ?_
  exact x_iret (pc := 10) C X dJ0_length_8abf5_10 ⟨rfl, rfl⟩
theorem c_J3_checkIndex {k : Nat} (hk : k < N) (hN : N < 2 ^ 31) (hv : v = .null ∨ ∃ z, v = .ref z) : XMet w yJ3_checkIndex_8e157 cJ3_checkIndex_8e157 3 (some .int) 1 [.int (nI k), .int (nI N), v] M (rI (nI k) M) := by
  rcases hv with rfl | ⟨z, rfl⟩
  all_goals
    refine x_met RJ3 (by decide) rfl (Nat.le_of_ble_eq_true rfl) (fun κ C X E => ?_)
    refine x_L (L' := [(0, .int (nI k)), (1, .int (nI N)), (2, _)]) rfl ?_
    refine x_iload_n (pc := 0) C 0 dJ3_checkIndex_8e157_0 rfl ?_
    refine x_if_lt_f (pc := 1) C 9 dJ3_checkIndex_8e157_1 (by decide) (nI_pos (by omega)) ?_
    refine x_iload_n (pc := 4) C 0 dJ3_checkIndex_8e157_4 rfl ?_
    refine x_iload_n (pc := 5) C 1 dJ3_checkIndex_8e157_5 rfl ?_
    refine x_icmp_lt_t (pc := 6) C 16 dJ3_checkIndex_8e157_6 (by decide) (nI_lt hk hN) ?_
    refine x_iload_n (pc := 16) C 0 dJ3_checkIndex_8e157_16 rfl ?_
    exact x_iret (pc := 17) C X dJ3_checkIndex_8e157_17 ⟨rfl, rfl⟩
theorem c_J0_checkIndex (hS : ∀ U H, xX w U H → stS v U H) {k : Nat} (hk : k < N) (hN : N < 2 ^ 31) (hv : v = .null ∨ ∃ z, v = .ref z) : XMet w yJ0_checkIndex_df160 cJ0_checkIndex_df160 2 none 2 [.int (nI k), .int (nI N)] M (rU M) := by
  refine x_met RJ0 (by decide) rfl (Nat.le_of_ble_eq_true rfl) (fun κ C X E => ?_)
  refine x_L (L' := [(0, .int (nI k)), (1, .int (nI N))]) rfl ?_
  refine x_iload_n (pc := 0) C 0 dJ0_checkIndex_df160_0 rfl ?_
  refine x_iload_n (pc := 1) C 1 dJ0_checkIndex_df160_1 rfl ?_
  refine x_gets (pc := 2) C E (fun U H h => (hS U H h).2) q6_21 dJ0_checkIndex_df160_2 ?_
  refine x_callS (pc := 5) C E [.int (nI k), .int (nI N), v] [] (c_J3_checkIndex hk hN hv) m_J3_checkIndex_8e157 q6_22 rfl (by decide) (Nat.le_of_ble_eq_true rfl) dJ0_checkIndex_df160_5 rfl (k_I ?_)
  refine x_pop (pc := 8) C dJ0_checkIndex_df160_8 rfl ?_
  exact x_vret (pc := 9) C X dJ0_checkIndex_df160_9 ⟨rfl, rfl⟩
theorem c_J1_charAt (hS : ∀ U H, xX w U H → stS v U H) (hT : ∀ U H, xX w U H → stT q a N f U H) {k : Nat} (hk : k < N) (hN : N < 2 ^ 31) (hv : v = .null ∨ ∃ z, v = .ref z) {b : Int32} (hb : f k = .int b) (hb2 : ((b &&& 255).toUInt32 % 65536).toInt32 = b) (hb3 : narrow .char (.int b) = .int b) : XMet w yJ1_charAt_3b067 cJ1_charAt_3b067 2 (some .char) 3 [.ref a, .int (nI k)] M (rI b M) := by
  refine x_met RJ1 (by decide) rfl (Nat.le_of_ble_eq_true rfl) (fun κ C X E => ?_)
  refine x_L (L' := [(0, .ref a), (1, .int (nI k))]) rfl ?_
  refine x_iload_n (pc := 0) C 1 dJ1_charAt_3b067_0 rfl ?_
  refine x_aload_n (pc := 1) C 0 dJ1_charAt_3b067_1 rfl ?_
  refine x_tlen (pc := 2) C E (fun U H h => (hT U H h).2.2.2) dJ1_charAt_3b067_2 ?_
  refine x_callS (pc := 3) C E [.int (nI k), .int (nI N)] [] (c_J0_checkIndex hS hk hN hv) m_J0_checkIndex_df160 q6_18 rfl (by decide) (Nat.le_of_ble_eq_true rfl) dJ1_charAt_3b067_3 rfl (k_U ?_)
  refine x_aload_n (pc := 6) C 0 dJ1_charAt_3b067_6 rfl ?_
  refine x_iload_n (pc := 7) C 1 dJ1_charAt_3b067_7 rfl ?_
  refine x_tb (pc := 8) C E (fun U H h => (hT U H h).2.2.2) hk hN dJ1_charAt_3b067_8 ?_
  rw [hb]
  refine x_sipush (pc := 9) (v := 255) C dJ1_charAt_3b067_9 rfl ?_
  refine x_iand (pc := 12) C dJ1_charAt_3b067_12 ?_
  refine x_i2c (pc := 13) C dJ1_charAt_3b067_13 ?_
  refine x_eq hb2 ?_
  exact x_zret (pc := 14) C X hb3 dJ1_charAt_3b067_14 ⟨rfl, rfl⟩
theorem c_J0_charAt (hS : ∀ U H, xX w U H → stS v U H) (hT : ∀ U H, xX w U H → stT q a N f U H) {k : Nat} (hk : k < N) (hN : N < 2 ^ 31) (hv : v = .null ∨ ∃ z, v = .ref z) {b : Int32} (hb : f k = .int b) (hb2 : ((b &&& 255).toUInt32 % 65536).toInt32 = b) (hb3 : narrow .char (.int b) = .int b) : XMet w yJ0_charAt_5068e cJ0_charAt_5068e 2 (some .char) 4 [.ref q, .int (nI k)] M (rI b M) := by
  refine x_met RJ0 (by decide) rfl (Nat.le_of_ble_eq_true rfl) (fun κ C X E => ?_)
  refine x_L (L' := [(0, .ref q), (1, .int (nI k))]) rfl ?_
  refine x_aload_n (pc := 0) C 0 dJ0_charAt_5068e_0 rfl ?_
  refine x_callVX (pc := 1) C E [] [] (c_J0_isLatin1 hS hT) m_J0_isLatin1_aae02 q6_10 (fun U H h => (hT U H h).1) rfl (by decide) (Nat.le_of_ble_eq_true rfl) dJ0_charAt_5068e_1 rfl (k_I ?_)
  refine x_if_eq_f (pc := 4) C 16 dJ0_charAt_5068e_4 (by decide) (by decide) ?_
  refine x_aload_n (pc := 7) C 0 dJ0_charAt_5068e_7 rfl ?_
  refine x_getX (pc := 8) C E (fun U H h => (hT U H h).2.2.1) q5_23 dJ0_charAt_5068e_8 ?_
  refine x_iload_n (pc := 11) C 1 dJ0_charAt_5068e_11 rfl ?_
  refine x_callS (pc := 12) C E [.ref a, .int (nI k)] [] (c_J1_charAt hS hT hk hN hv hb hb2 hb3) m_J1_charAt_3b067 q6_14 rfl (by decide) (Nat.le_of_ble_eq_true rfl) dJ0_charAt_5068e_12 rfl (k_I ?_)
  exact x_zret (pc := 15) C X hb3 dJ0_charAt_5068e_15 ⟨rfl, rfl⟩
end TXT
/-- the two texts, and what reading them needs -/
def wtF (i : Nat) : Value := .int (wbB i)
def frL : List Int32 := [116, 97, 107, 101, 115, 32, 104, 101, 114, 101, 32, 60, 32, 116, 104, 101, 114, 101, 32, 59, 32, 103, 111, 101, 115, 32, 53, 32, 59, 32, 119, 111, 114, 116, 104, 32, 49, 32, 43, 32, 102, 105, 108, 101, 32, 59]
def frB (i : Nat) : Int32 := frL.getD i 0
def frF (i : Nat) : Value := .int (frB i)
def txW (v : Value) (q a : Nat) (U : State) (H : Heap) : Prop := stS v U H ∧ stT q a 60 wtF U H ∧ vk_R RX9 85 "takes goes worth or and not here there same number file day " q U
theorem wb_ok : ∀ k, k < 60 → ((wbB k &&& 255).toUInt32 % 65536).toInt32 = wbB k := by decide +kernel
theorem wb_nar : ∀ k, k < 60 → narrow .char (.int (wbB k)) = .int (wbB k) := by decide +kernel
theorem fr_ok : ∀ k, k < 46 → ((frB k &&& 255).toUInt32 % 65536).toInt32 = frB k := by decide +kernel
theorem fr_nar : ∀ k, k < 46 → narrow .char (.int (frB k)) = .int (frB k) := by decide +kernel

