set_option maxRecDepth 100000 in
set_option maxHeartbeats 800000 in
theorem c_X12_in (t : CT) (M : MM) (x : Int32) {a b : Int64} {A B : Int} (ha : a.toInt = A) (hb : b.toInt = B) : XMet (wR t) yX12_in cX12_in 6 (some .boolean) 1 [.long (Int32.toInt64 x), .long a, .long b] M (rI (b2i (decide (A ≤ x.toInt ∧ x.toInt ≤ B))) M) := by
  refine x_met RX12 (by decide) rfl (Nat.le_of_ble_eq_true rfl) (fun κ C X E => ?_)
  refine x_L (L' := [(0, .long (Int32.toInt64 x)), (2, .long a), (4, .long b)]) rfl ?_
  refine x_lload_n (pc := 0) C 0 dX12_in_0 rfl ?_
  refine x_lload_n (pc := 1) C 1 dX12_in_1 rfl ?_
  refine x_lcmp (pc := 2) C dX12_in_2 ?_
  refine x_if_lt (pc := 3) C 17 dX12_in_3 (by decide) (fun h3 => ?_) (fun h3 => ?_)
  · refine x_iconst (pc := 17) (v := (nI 0)) C dX12_in_17 (by decide) ?_
    exact x_bret (pc := 18) C X (b := false) rfl dX12_in_18 (rI_b (Eq.symm (by exact decide_eq_false (by simp only [lg_cmp_lt, lg_cmp_gt, Int64.lt_iff_toInt_lt, ha, hb, Int32.toInt_toInt64] at h3 ⊢; omega))))
  · refine x_lload_n (pc := 6) C 0 dX12_in_6 rfl ?_
    refine x_lload (pc := 7) C 2 dX12_in_7 rfl ?_
    refine x_lcmp (pc := 9) C dX12_in_9 ?_
    refine x_if_gt (pc := 10) C 17 dX12_in_10 (by decide) (fun h10 => ?_) (fun h10 => ?_)
    · refine x_iconst (pc := 17) (v := (nI 0)) C dX12_in_17 (by decide) ?_
      exact x_bret (pc := 18) C X (b := false) rfl dX12_in_18 (rI_b (Eq.symm (by exact decide_eq_false (by simp only [lg_cmp_lt, lg_cmp_gt, Int64.lt_iff_toInt_lt, ha, hb, Int32.toInt_toInt64] at h3 h10 ⊢; omega))))
    · refine x_iconst (pc := 13) (v := (nI 1)) C dX12_in_13 (by decide) ?_
      refine x_goto (pc := 14) C 18 dX12_in_14 (by decide) ?_
      exact x_bret (pc := 18) C X (b := true) rfl dX12_in_18 (rI_b (Eq.symm (by exact decide_eq_true (by simp only [lg_cmp_lt, lg_cmp_gt, Int64.lt_iff_toInt_lt, ha, hb, Int32.toInt_toInt64] at h3 h10 ⊢; omega))))

theorem c_X12_inB (t : CT) (M : MM) (x : Int32) {a b : Int64} {n : Nat} (ha : a.toInt = 0) (hb : b.toInt = (n : Int) - 1) : XMet (wR t) yX12_in cX12_in 6 (some .boolean) 1 [.long (Int32.toInt64 x), .long a, .long b] M (rI (b2i (inB x n)) M) := by
  rw [← in_B]
  exact c_X12_in t M x ha hb
set_option maxRecDepth 100000 in
set_option maxHeartbeats 800000 in
theorem c_X12_isDisk (t : CT) {σ : SV} {M : MM} (h : RR σ M) (x : Int32) : XMet (wR t) yX12_isDisk cX12_isDisk 2 (some .boolean) 2 [.ref (t.1 0), .int x] M (rI (b2i (inB x (vN (sV σ)))) M) := by
  refine x_met RX12 (by decide) rfl (Nat.le_of_ble_eq_true rfl) (fun κ C X E => ?_)
  refine x_L (L' := [(0, .ref (t.1 0)), (1, .int x)]) rfl ?_
  have hn6 := rr_n6 h
  refine x_iload_n (pc := 0) C 1 dX12_isDisk_0 rfl ?_
  refine x_i2l (pc := 1) C dX12_isDisk_1 ?_
  refine x_lconst (pc := 2) (v := 0) C dX12_isDisk_2 rfl ?_
  refine x_aload_n (pc := 3) C 0 dX12_isDisk_3 rfl ?_
  refine g_M_many (pc := 4) C E q13_13 dX12_isDisk_4 ?_
  refine x_eq (show M 0 12 = nI (vN (sV (σ))) from (rr_size h)) ?_
  refine x_iconst (pc := 7) (v := (nI 1)) C dX12_isDisk_7 (by decide) ?_
  refine x_isub (pc := 8) C dX12_isDisk_8 ?_
  refine x_i2l (pc := 9) C dX12_isDisk_9 ?_
  refine x_callS (pc := 10) C E [.long (Int32.toInt64 x), .long 0, .long (Int32.toInt64 ((nI (vN (sV (σ)))) - (nI 1)))] [] (c_X12_inB t _ x (n := vN (sV σ)) (by decide) (by rw [Int32.toInt_toInt64, nsub_toInt (by omega) (by decide), nI_toInt (by decide)]; rfl)) m_X12_in q13_6 rfl (by decide) (Nat.le_of_ble_eq_true rfl) dX12_isDisk_10 rfl (k_I ?_)
  exact x_bret (pc := 13) C X (b := (inB x (vN (sV σ)))) rfl dX12_isDisk_13 (rI_b rfl)

set_option maxRecDepth 100000 in
set_option maxHeartbeats 800000 in
theorem c_X12_isFile (t : CT) (M : MM) (x : Int32) : XMet (wR t) yX12_isFile cX12_isFile 1 (some .boolean) 2 [.int x] M (rI (b2i (inB x 8)) M) := by
  refine x_met RX12 (by decide) rfl (Nat.le_of_ble_eq_true rfl) (fun κ C X E => ?_)
  refine x_L (L' := [(0, .int x)]) rfl ?_
  refine x_iload_n (pc := 0) C 0 dX12_isFile_0 rfl ?_
  refine x_i2l (pc := 1) C dX12_isFile_1 ?_
  refine x_lconst (pc := 2) (v := 0) C dX12_isFile_2 rfl ?_
  refine x_ldc2 (pc := 3) (v := 7) C q26_1 dX12_isFile_3 ?_
  refine x_callS (pc := 6) C E [.long (Int32.toInt64 x), .long 0, .long 7] [] (c_X12_inB t _ x (n := 8) (by decide) (by decide)) m_X12_in q13_6 rfl (by decide) (Nat.le_of_ble_eq_true rfl) dX12_isFile_6 rfl (k_I ?_)
  exact x_bret (pc := 9) C X (b := (inB x 8)) rfl dX12_isFile_9 (rI_b rfl)

set_option maxRecDepth 100000 in
set_option maxHeartbeats 800000 in
theorem c_X12_isSheet (t : CT) (M : MM) (x : Int32) : XMet (wR t) yX12_isSheet cX12_isSheet 1 (some .boolean) 2 [.int x] M (rI (b2i (inB x 4)) M) := by
  refine x_met RX12 (by decide) rfl (Nat.le_of_ble_eq_true rfl) (fun κ C X E => ?_)
  refine x_L (L' := [(0, .int x)]) rfl ?_
  refine x_iload_n (pc := 0) C 0 dX12_isSheet_0 rfl ?_
  refine x_i2l (pc := 1) C dX12_isSheet_1 ?_
  refine x_lconst (pc := 2) (v := 0) C dX12_isSheet_2 rfl ?_
  refine x_ldc2 (pc := 3) (v := 3) C q40_21 dX12_isSheet_3 ?_
  refine x_callS (pc := 6) C E [.long (Int32.toInt64 x), .long 0, .long 3] [] (c_X12_inB t _ x (n := 4) (by decide) (by decide)) m_X12_in q13_6 rfl (by decide) (Nat.le_of_ble_eq_true rfl) dX12_isSheet_6 rfl (k_I ?_)
  exact x_bret (pc := 9) C X (b := (inB x 4)) rfl dX12_isSheet_9 (rI_b rfl)

set_option maxRecDepth 100000 in
set_option maxHeartbeats 800000 in
theorem c_X12_reads (t : CT) {σ : SV} {M : MM} (h : RR σ M) {d : Nat} (hd : d < vN (sV σ))  : XMet (wR t) yX12_reads cX12_reads 5 (some .boolean) 1 [.ref (t.1 0), .int (nI d)] M (rI (b2i (vRd (sV σ) d)) M) := by
  refine x_met RX12 (by decide) rfl (Nat.le_of_ble_eq_true rfl) (fun κ C X E => ?_)
  refine x_L (L' := [(0, .ref (t.1 0)), (1, .int (nI d))]) rfl ?_
  have hn6 := rr_n6 h
  have hk6 := rr_k6 h hd
  refine x_aload_n (pc := 0) C 0 dX12_reads_0 rfl ?_
  refine g_M_kinds (pc := 1) C E q11_15 dX12_reads_1 ?_
  refine x_iload_n (pc := 4) C 1 dX12_reads_4 rfl ?_
  refine l_Rkinds (pc := 5) C E (by omega) dX12_reads_5 ?_
  refine x_eq (show M 4 d = nI (vK (sV (σ)) d) from (rr_kd h (by omega))) ?_
  rcases (by omega : vK (sV σ) d = 0 ∨ vK (sV σ) d = 1 ∨ vK (sV σ) d = 2 ∨ vK (sV σ) d = 3 ∨ vK (sV σ) d = 4 ∨ vK (sV σ) d = 5) with hk | hk | hk | hk | hk | hk
  · refine x_eq (show nI (vK (sV σ) d) = nI 0 from by rw [hk]) ?_
    refine x_istore_n (pc := 6) (L' := [(2, .int (nI 0)), (0, .ref (t.1 0)), (1, .int (nI d))]) C dX12_reads_6 (by decide) rfl ?_
    refine x_aload_n (pc := 7) C 1 dX12_reads_7 rfl ?_
    refine g_M_rows (pc := 8) C E q11_16 dX12_reads_8 ?_
    refine x_iconst (pc := 11) (v := (nI 2)) C dX12_reads_11 (by decide) ?_
    refine x_iload_n (pc := 12) C 2 dX12_reads_12 rfl ?_
    refine x_imul (pc := 13) C dX12_reads_13 ?_
    refine x_eq (show (nI 2) * (nI d) = nI (2 * d) from pk_mul _ _) ?_
    refine l_Rrows (pc := 14) C E (by omega) dX12_reads_14 ?_
    refine x_eq (show M 5 (2 * d) = vU (sV (σ)) d from (rr_num h (by omega))) ?_
    refine x_istore_n (pc := 15) (L' := [(3, .int (vU (sV (σ)) d)), (2, .int (nI 0)), (0, .ref (t.1 0)), (1, .int (nI d))]) C dX12_reads_15 (by decide) rfl ?_
    refine x_aload_n (pc := 16) C 2 dX12_reads_16 rfl ?_
    refine g_M_dayNow (pc := 17) C E q13_19 dX12_reads_17 ?_
    refine x_eq (show M 0 7 = vD (sV (σ)) from (rr_day h)) ?_
    refine x_aload_n (pc := 20) C 2 dX12_reads_20 rfl ?_
    refine g_M_rows (pc := 21) C E q11_16 dX12_reads_21 ?_
    refine x_iconst (pc := 24) (v := (nI 2)) C dX12_reads_24 (by decide) ?_
    refine x_iload_n (pc := 25) C 3 dX12_reads_25 rfl ?_
    refine x_imul (pc := 26) C dX12_reads_26 ?_
    refine x_eq (show (nI 2) * (nI d) = nI (2 * d) from pk_mul _ _) ?_
    refine x_iconst (pc := 27) (v := (nI 1)) C dX12_reads_27 (by decide) ?_
    refine x_iadd (pc := 28) C dX12_reads_28 ?_
    refine x_eq (show (nI (2 * d)) + (nI 1) = nI (2 * d + 1) from nI_add _ _) ?_
    refine l_Rrows (pc := 29) C E (by omega) dX12_reads_29 ?_
    refine x_eq (show M 5 (2 * d + 1) = vS (sV (σ)) d from (rr_since h (by omega))) ?_
    refine x_isub (pc := 30) C dX12_reads_30 ?_
    refine x_istore (pc := 31) (L' := [(4, .int ((vD (sV (σ))) - (vS (sV (σ)) d))), (3, .int (vU (sV (σ)) d)), (2, .int (nI 0)), (0, .ref (t.1 0)), (1, .int (nI d))]) C dX12_reads_31 (by decide) rfl ?_
    refine x_iload_n (pc := 33) C 2 dX12_reads_33 rfl ?_
    refine x_if_ne_f (pc := 34) C 51 dX12_reads_34 (by decide) (by decide) ?_
    refine x_iload (pc := 37) C 0 dX12_reads_37 rfl ?_
    refine x_sipush (pc := 39) (v := 300) C dX12_reads_39 rfl ?_
    refine x_icmp_gt (pc := 42) C 49 dX12_reads_42 (by decide) (fun h42 => ?_) (fun h42 => ?_)
    · refine x_iconst (pc := 49) (v := (nI 0)) C dX12_reads_49 (by decide) ?_
      exact x_bret (pc := 50) C X (b := false) rfl dX12_reads_50 (rI_b (Eq.symm (by unfold vRd; rw [hk]; simp [kReads, Int32.not_le.mpr h42])))
    · refine x_iconst (pc := 45) (v := (nI 1)) C dX12_reads_45 (by decide) ?_
      refine x_goto (pc := 46) C 50 dX12_reads_46 (by decide) ?_
      exact x_bret (pc := 50) C X (b := true) rfl dX12_reads_50 (rI_b (Eq.symm (by unfold vRd; rw [hk]; simp [kReads, Int32.not_lt.mp h42])))
  · refine x_eq (show nI (vK (sV σ) d) = nI 1 from by rw [hk]) ?_
    refine x_istore_n (pc := 6) (L' := [(2, .int (nI 1)), (0, .ref (t.1 0)), (1, .int (nI d))]) C dX12_reads_6 (by decide) rfl ?_
    refine x_aload_n (pc := 7) C 1 dX12_reads_7 rfl ?_
    refine g_M_rows (pc := 8) C E q11_16 dX12_reads_8 ?_
    refine x_iconst (pc := 11) (v := (nI 2)) C dX12_reads_11 (by decide) ?_
    refine x_iload_n (pc := 12) C 2 dX12_reads_12 rfl ?_
    refine x_imul (pc := 13) C dX12_reads_13 ?_
    refine x_eq (show (nI 2) * (nI d) = nI (2 * d) from pk_mul _ _) ?_
    refine l_Rrows (pc := 14) C E (by omega) dX12_reads_14 ?_
    refine x_eq (show M 5 (2 * d) = vU (sV (σ)) d from (rr_num h (by omega))) ?_
    refine x_istore_n (pc := 15) (L' := [(3, .int (vU (sV (σ)) d)), (2, .int (nI 1)), (0, .ref (t.1 0)), (1, .int (nI d))]) C dX12_reads_15 (by decide) rfl ?_
    refine x_aload_n (pc := 16) C 2 dX12_reads_16 rfl ?_
    refine g_M_dayNow (pc := 17) C E q13_19 dX12_reads_17 ?_
    refine x_eq (show M 0 7 = vD (sV (σ)) from (rr_day h)) ?_
    refine x_aload_n (pc := 20) C 2 dX12_reads_20 rfl ?_
    refine g_M_rows (pc := 21) C E q11_16 dX12_reads_21 ?_
    refine x_iconst (pc := 24) (v := (nI 2)) C dX12_reads_24 (by decide) ?_
    refine x_iload_n (pc := 25) C 3 dX12_reads_25 rfl ?_
    refine x_imul (pc := 26) C dX12_reads_26 ?_
    refine x_eq (show (nI 2) * (nI d) = nI (2 * d) from pk_mul _ _) ?_
    refine x_iconst (pc := 27) (v := (nI 1)) C dX12_reads_27 (by decide) ?_
    refine x_iadd (pc := 28) C dX12_reads_28 ?_
    refine x_eq (show (nI (2 * d)) + (nI 1) = nI (2 * d + 1) from nI_add _ _) ?_
    refine l_Rrows (pc := 29) C E (by omega) dX12_reads_29 ?_
    refine x_eq (show M 5 (2 * d + 1) = vS (sV (σ)) d from (rr_since h (by omega))) ?_
    refine x_isub (pc := 30) C dX12_reads_30 ?_
    refine x_istore (pc := 31) (L' := [(4, .int ((vD (sV (σ))) - (vS (sV (σ)) d))), (3, .int (vU (sV (σ)) d)), (2, .int (nI 1)), (0, .ref (t.1 0)), (1, .int (nI d))]) C dX12_reads_31 (by decide) rfl ?_
    refine x_iload_n (pc := 33) C 2 dX12_reads_33 rfl ?_
    refine x_if_ne_t (pc := 34) C 51 dX12_reads_34 (by decide) (by decide) ?_
    refine x_iload_n (pc := 51) C 2 dX12_reads_51 rfl ?_
    refine x_iconst (pc := 52) (v := (nI 1)) C dX12_reads_52 (by decide) ?_
    refine x_icmp_eq_t (pc := 53) C 61 dX12_reads_53 (by decide) (by decide) ?_
    refine x_iload (pc := 61) C 0 dX12_reads_61 rfl ?_
    refine x_bipush (pc := 63) (v := 20) C dX12_reads_63 rfl ?_
    refine x_iload_n (pc := 65) C 1 dX12_reads_65 rfl ?_
    refine x_imul (pc := 66) C dX12_reads_66 ?_
    refine x_bipush (pc := 67) (v := 20) C dX12_reads_67 rfl ?_
    refine x_iadd (pc := 69) C dX12_reads_69 ?_
    refine x_icmp_gt (pc := 70) C 89 dX12_reads_70 (by decide) (fun h70 => ?_) (fun h70 => ?_)
    · refine x_iconst (pc := 89) (v := (nI 0)) C dX12_reads_89 (by decide) ?_
      exact x_bret (pc := 90) C X (b := false) rfl dX12_reads_90 (rI_b (Eq.symm (by unfold vRd; rw [hk]; simp [kReads, Int32.not_le.mpr h70])))
    · refine x_iload_n (pc := 73) C 2 dX12_reads_73 rfl ?_
      refine x_iconst (pc := 74) (v := (nI 1)) C dX12_reads_74 (by decide) ?_
      refine x_icmp_eq_t (pc := 75) C 85 dX12_reads_75 (by decide) (by decide) ?_
      refine x_iconst (pc := 85) (v := (nI 1)) C dX12_reads_85 (by decide) ?_
      refine x_goto (pc := 86) C 90 dX12_reads_86 (by decide) ?_
      exact x_bret (pc := 90) C X (b := true) rfl dX12_reads_90 (rI_b (Eq.symm (by unfold vRd; rw [hk]; simp [kReads, Int32.not_lt.mp h70])))
  · refine x_eq (show nI (vK (sV σ) d) = nI 2 from by rw [hk]) ?_
    refine x_istore_n (pc := 6) (L' := [(2, .int (nI 2)), (0, .ref (t.1 0)), (1, .int (nI d))]) C dX12_reads_6 (by decide) rfl ?_
    refine x_aload_n (pc := 7) C 1 dX12_reads_7 rfl ?_
    refine g_M_rows (pc := 8) C E q11_16 dX12_reads_8 ?_
    refine x_iconst (pc := 11) (v := (nI 2)) C dX12_reads_11 (by decide) ?_
    refine x_iload_n (pc := 12) C 2 dX12_reads_12 rfl ?_
    refine x_imul (pc := 13) C dX12_reads_13 ?_
    refine x_eq (show (nI 2) * (nI d) = nI (2 * d) from pk_mul _ _) ?_
    refine l_Rrows (pc := 14) C E (by omega) dX12_reads_14 ?_
    refine x_eq (show M 5 (2 * d) = vU (sV (σ)) d from (rr_num h (by omega))) ?_
    refine x_istore_n (pc := 15) (L' := [(3, .int (vU (sV (σ)) d)), (2, .int (nI 2)), (0, .ref (t.1 0)), (1, .int (nI d))]) C dX12_reads_15 (by decide) rfl ?_
    refine x_aload_n (pc := 16) C 2 dX12_reads_16 rfl ?_
    refine g_M_dayNow (pc := 17) C E q13_19 dX12_reads_17 ?_
    refine x_eq (show M 0 7 = vD (sV (σ)) from (rr_day h)) ?_
    refine x_aload_n (pc := 20) C 2 dX12_reads_20 rfl ?_
    refine g_M_rows (pc := 21) C E q11_16 dX12_reads_21 ?_
    refine x_iconst (pc := 24) (v := (nI 2)) C dX12_reads_24 (by decide) ?_
    refine x_iload_n (pc := 25) C 3 dX12_reads_25 rfl ?_
    refine x_imul (pc := 26) C dX12_reads_26 ?_
    refine x_eq (show (nI 2) * (nI d) = nI (2 * d) from pk_mul _ _) ?_
    refine x_iconst (pc := 27) (v := (nI 1)) C dX12_reads_27 (by decide) ?_
    refine x_iadd (pc := 28) C dX12_reads_28 ?_
    refine x_eq (show (nI (2 * d)) + (nI 1) = nI (2 * d + 1) from nI_add _ _) ?_
    refine l_Rrows (pc := 29) C E (by omega) dX12_reads_29 ?_
    refine x_eq (show M 5 (2 * d + 1) = vS (sV (σ)) d from (rr_since h (by omega))) ?_
    refine x_isub (pc := 30) C dX12_reads_30 ?_
    refine x_istore (pc := 31) (L' := [(4, .int ((vD (sV (σ))) - (vS (sV (σ)) d))), (3, .int (vU (sV (σ)) d)), (2, .int (nI 2)), (0, .ref (t.1 0)), (1, .int (nI d))]) C dX12_reads_31 (by decide) rfl ?_
    refine x_iload_n (pc := 33) C 2 dX12_reads_33 rfl ?_
    refine x_if_ne_t (pc := 34) C 51 dX12_reads_34 (by decide) (by decide) ?_
    refine x_iload_n (pc := 51) C 2 dX12_reads_51 rfl ?_
    refine x_iconst (pc := 52) (v := (nI 1)) C dX12_reads_52 (by decide) ?_
    refine x_icmp_eq_f (pc := 53) C 61 dX12_reads_53 (by decide) (by decide) ?_
    refine x_iload_n (pc := 56) C 2 dX12_reads_56 rfl ?_
    refine x_iconst (pc := 57) (v := (nI 3)) C dX12_reads_57 (by decide) ?_
    refine x_icmp_ne_t (pc := 58) C 91 dX12_reads_58 (by decide) (by decide) ?_
    refine x_iload_n (pc := 91) C 2 dX12_reads_91 rfl ?_
    refine x_iconst (pc := 92) (v := (nI 4)) C dX12_reads_92 (by decide) ?_
    refine x_icmp_ne_t (pc := 93) C 107 dX12_reads_93 (by decide) (by decide) ?_
    refine x_iconst (pc := 107) (v := (nI 1)) C dX12_reads_107 (by decide) ?_
    refine x_goto (pc := 108) C 112 dX12_reads_108 (by decide) ?_
    exact x_bret (pc := 112) C X (b := true) rfl dX12_reads_112 (rI_b (Eq.symm (by unfold vRd; rw [hk]; rfl)))
  · refine x_eq (show nI (vK (sV σ) d) = nI 3 from by rw [hk]) ?_
    refine x_istore_n (pc := 6) (L' := [(2, .int (nI 3)), (0, .ref (t.1 0)), (1, .int (nI d))]) C dX12_reads_6 (by decide) rfl ?_
    refine x_aload_n (pc := 7) C 1 dX12_reads_7 rfl ?_
    refine g_M_rows (pc := 8) C E q11_16 dX12_reads_8 ?_
    refine x_iconst (pc := 11) (v := (nI 2)) C dX12_reads_11 (by decide) ?_
    refine x_iload_n (pc := 12) C 2 dX12_reads_12 rfl ?_
    refine x_imul (pc := 13) C dX12_reads_13 ?_
    refine x_eq (show (nI 2) * (nI d) = nI (2 * d) from pk_mul _ _) ?_
    refine l_Rrows (pc := 14) C E (by omega) dX12_reads_14 ?_
    refine x_eq (show M 5 (2 * d) = vU (sV (σ)) d from (rr_num h (by omega))) ?_
    refine x_istore_n (pc := 15) (L' := [(3, .int (vU (sV (σ)) d)), (2, .int (nI 3)), (0, .ref (t.1 0)), (1, .int (nI d))]) C dX12_reads_15 (by decide) rfl ?_
    refine x_aload_n (pc := 16) C 2 dX12_reads_16 rfl ?_
    refine g_M_dayNow (pc := 17) C E q13_19 dX12_reads_17 ?_
    refine x_eq (show M 0 7 = vD (sV (σ)) from (rr_day h)) ?_
    refine x_aload_n (pc := 20) C 2 dX12_reads_20 rfl ?_
    refine g_M_rows (pc := 21) C E q11_16 dX12_reads_21 ?_
    refine x_iconst (pc := 24) (v := (nI 2)) C dX12_reads_24 (by decide) ?_
    refine x_iload_n (pc := 25) C 3 dX12_reads_25 rfl ?_
    refine x_imul (pc := 26) C dX12_reads_26 ?_
    refine x_eq (show (nI 2) * (nI d) = nI (2 * d) from pk_mul _ _) ?_
    refine x_iconst (pc := 27) (v := (nI 1)) C dX12_reads_27 (by decide) ?_
    refine x_iadd (pc := 28) C dX12_reads_28 ?_
    refine x_eq (show (nI (2 * d)) + (nI 1) = nI (2 * d + 1) from nI_add _ _) ?_
    refine l_Rrows (pc := 29) C E (by omega) dX12_reads_29 ?_
    refine x_eq (show M 5 (2 * d + 1) = vS (sV (σ)) d from (rr_since h (by omega))) ?_
    refine x_isub (pc := 30) C dX12_reads_30 ?_
    refine x_istore (pc := 31) (L' := [(4, .int ((vD (sV (σ))) - (vS (sV (σ)) d))), (3, .int (vU (sV (σ)) d)), (2, .int (nI 3)), (0, .ref (t.1 0)), (1, .int (nI d))]) C dX12_reads_31 (by decide) rfl ?_
    refine x_iload_n (pc := 33) C 2 dX12_reads_33 rfl ?_
    refine x_if_ne_t (pc := 34) C 51 dX12_reads_34 (by decide) (by decide) ?_
    refine x_iload_n (pc := 51) C 2 dX12_reads_51 rfl ?_
    refine x_iconst (pc := 52) (v := (nI 1)) C dX12_reads_52 (by decide) ?_
    refine x_icmp_eq_f (pc := 53) C 61 dX12_reads_53 (by decide) (by decide) ?_
    refine x_iload_n (pc := 56) C 2 dX12_reads_56 rfl ?_
    refine x_iconst (pc := 57) (v := (nI 3)) C dX12_reads_57 (by decide) ?_
    refine x_icmp_ne_f (pc := 58) C 91 dX12_reads_58 (by decide) (by decide) ?_
    refine x_iload (pc := 61) C 0 dX12_reads_61 rfl ?_
    refine x_bipush (pc := 63) (v := 20) C dX12_reads_63 rfl ?_
    refine x_iload_n (pc := 65) C 1 dX12_reads_65 rfl ?_
    refine x_imul (pc := 66) C dX12_reads_66 ?_
    refine x_bipush (pc := 67) (v := 20) C dX12_reads_67 rfl ?_
    refine x_iadd (pc := 69) C dX12_reads_69 ?_
    refine x_icmp_gt (pc := 70) C 89 dX12_reads_70 (by decide) (fun h70 => ?_) (fun h70 => ?_)
    · refine x_iconst (pc := 89) (v := (nI 0)) C dX12_reads_89 (by decide) ?_
      exact x_bret (pc := 90) C X (b := false) rfl dX12_reads_90 (rI_b (Eq.symm (by unfold vRd; rw [hk]; simp [kReads, Int32.not_le.mpr h70])))
    · refine x_iload_n (pc := 73) C 2 dX12_reads_73 rfl ?_
      refine x_iconst (pc := 74) (v := (nI 1)) C dX12_reads_74 (by decide) ?_
      refine x_icmp_eq_f (pc := 75) C 85 dX12_reads_75 (by decide) (by decide) ?_
      refine x_iload (pc := 78) C 0 dX12_reads_78 rfl ?_
      refine x_iconst (pc := 80) (v := 2) C dX12_reads_80 rfl ?_
      refine x_irem (pc := 81) C dX12_reads_81 (by decide) ?_
      refine x_if_ne (pc := 82) C 89 dX12_reads_82 (by decide) (fun h82 => ?_) (fun h82 => ?_)
      · refine x_iconst (pc := 89) (v := (nI 0)) C dX12_reads_89 (by decide) ?_
        exact x_bret (pc := 90) C X (b := false) rfl dX12_reads_90 (rI_b (Eq.symm (by unfold vRd; rw [hk]; simp [kReads, Int32.not_lt.mp h70, h82])))
      · refine x_iconst (pc := 85) (v := (nI 1)) C dX12_reads_85 (by decide) ?_
        refine x_goto (pc := 86) C 90 dX12_reads_86 (by decide) ?_
        exact x_bret (pc := 90) C X (b := true) rfl dX12_reads_90 (rI_b (Eq.symm (by unfold vRd; rw [hk]; simp [kReads, Int32.not_lt.mp h70, h82])))
  · refine x_eq (show nI (vK (sV σ) d) = nI 4 from by rw [hk]) ?_
    refine x_istore_n (pc := 6) (L' := [(2, .int (nI 4)), (0, .ref (t.1 0)), (1, .int (nI d))]) C dX12_reads_6 (by decide) rfl ?_
    refine x_aload_n (pc := 7) C 1 dX12_reads_7 rfl ?_
    refine g_M_rows (pc := 8) C E q11_16 dX12_reads_8 ?_
    refine x_iconst (pc := 11) (v := (nI 2)) C dX12_reads_11 (by decide) ?_
    refine x_iload_n (pc := 12) C 2 dX12_reads_12 rfl ?_
    refine x_imul (pc := 13) C dX12_reads_13 ?_
    refine x_eq (show (nI 2) * (nI d) = nI (2 * d) from pk_mul _ _) ?_
    refine l_Rrows (pc := 14) C E (by omega) dX12_reads_14 ?_
    refine x_eq (show M 5 (2 * d) = vU (sV (σ)) d from (rr_num h (by omega))) ?_
    refine x_istore_n (pc := 15) (L' := [(3, .int (vU (sV (σ)) d)), (2, .int (nI 4)), (0, .ref (t.1 0)), (1, .int (nI d))]) C dX12_reads_15 (by decide) rfl ?_
    refine x_aload_n (pc := 16) C 2 dX12_reads_16 rfl ?_
    refine g_M_dayNow (pc := 17) C E q13_19 dX12_reads_17 ?_
    refine x_eq (show M 0 7 = vD (sV (σ)) from (rr_day h)) ?_
    refine x_aload_n (pc := 20) C 2 dX12_reads_20 rfl ?_
    refine g_M_rows (pc := 21) C E q11_16 dX12_reads_21 ?_
    refine x_iconst (pc := 24) (v := (nI 2)) C dX12_reads_24 (by decide) ?_
    refine x_iload_n (pc := 25) C 3 dX12_reads_25 rfl ?_
    refine x_imul (pc := 26) C dX12_reads_26 ?_
    refine x_eq (show (nI 2) * (nI d) = nI (2 * d) from pk_mul _ _) ?_
    refine x_iconst (pc := 27) (v := (nI 1)) C dX12_reads_27 (by decide) ?_
    refine x_iadd (pc := 28) C dX12_reads_28 ?_
    refine x_eq (show (nI (2 * d)) + (nI 1) = nI (2 * d + 1) from nI_add _ _) ?_
    refine l_Rrows (pc := 29) C E (by omega) dX12_reads_29 ?_
    refine x_eq (show M 5 (2 * d + 1) = vS (sV (σ)) d from (rr_since h (by omega))) ?_
    refine x_isub (pc := 30) C dX12_reads_30 ?_
    refine x_istore (pc := 31) (L' := [(4, .int ((vD (sV (σ))) - (vS (sV (σ)) d))), (3, .int (vU (sV (σ)) d)), (2, .int (nI 4)), (0, .ref (t.1 0)), (1, .int (nI d))]) C dX12_reads_31 (by decide) rfl ?_
    refine x_iload_n (pc := 33) C 2 dX12_reads_33 rfl ?_
    refine x_if_ne_t (pc := 34) C 51 dX12_reads_34 (by decide) (by decide) ?_
    refine x_iload_n (pc := 51) C 2 dX12_reads_51 rfl ?_
    refine x_iconst (pc := 52) (v := (nI 1)) C dX12_reads_52 (by decide) ?_
    refine x_icmp_eq_f (pc := 53) C 61 dX12_reads_53 (by decide) (by decide) ?_
    refine x_iload_n (pc := 56) C 2 dX12_reads_56 rfl ?_
    refine x_iconst (pc := 57) (v := (nI 3)) C dX12_reads_57 (by decide) ?_
    refine x_icmp_ne_t (pc := 58) C 91 dX12_reads_58 (by decide) (by decide) ?_
    refine x_iload_n (pc := 91) C 2 dX12_reads_91 rfl ?_
    refine x_iconst (pc := 92) (v := (nI 4)) C dX12_reads_92 (by decide) ?_
    refine x_icmp_ne_f (pc := 93) C 107 dX12_reads_93 (by decide) (by decide) ?_
    refine x_aload_n (pc := 96) C 3 dX12_reads_96 rfl ?_
    refine g_M_dayNow (pc := 97) C E q13_19 dX12_reads_97 ?_
    refine x_eq (show M 0 7 = vD (sV (σ)) from (rr_day h)) ?_
    refine x_bipush (pc := 100) (v := 7) C dX12_reads_100 rfl ?_
    refine x_irem (pc := 102) C dX12_reads_102 (by decide) ?_
    refine x_iload_n (pc := 103) C 1 dX12_reads_103 rfl ?_
    refine x_icmp_eq (pc := 104) C 111 dX12_reads_104 (by decide) (fun h104 => ?_) (fun h104 => ?_)
    · refine x_iconst (pc := 111) (v := (nI 0)) C dX12_reads_111 (by decide) ?_
      exact x_bret (pc := 112) C X (b := false) rfl dX12_reads_112 (rI_b (Eq.symm (by unfold vRd; rw [hk]; simp [kReads, h104])))
    · refine x_iconst (pc := 107) (v := (nI 1)) C dX12_reads_107 (by decide) ?_
      refine x_goto (pc := 108) C 112 dX12_reads_108 (by decide) ?_
      exact x_bret (pc := 112) C X (b := true) rfl dX12_reads_112 (rI_b (Eq.symm (by unfold vRd; rw [hk]; simp [kReads, h104])))
  · refine x_eq (show nI (vK (sV σ) d) = nI 5 from by rw [hk]) ?_
    refine x_istore_n (pc := 6) (L' := [(2, .int (nI 5)), (0, .ref (t.1 0)), (1, .int (nI d))]) C dX12_reads_6 (by decide) rfl ?_
    refine x_aload_n (pc := 7) C 1 dX12_reads_7 rfl ?_
    refine g_M_rows (pc := 8) C E q11_16 dX12_reads_8 ?_
    refine x_iconst (pc := 11) (v := (nI 2)) C dX12_reads_11 (by decide) ?_
    refine x_iload_n (pc := 12) C 2 dX12_reads_12 rfl ?_
    refine x_imul (pc := 13) C dX12_reads_13 ?_
    refine x_eq (show (nI 2) * (nI d) = nI (2 * d) from pk_mul _ _) ?_
    refine l_Rrows (pc := 14) C E (by omega) dX12_reads_14 ?_
    refine x_eq (show M 5 (2 * d) = vU (sV (σ)) d from (rr_num h (by omega))) ?_
    refine x_istore_n (pc := 15) (L' := [(3, .int (vU (sV (σ)) d)), (2, .int (nI 5)), (0, .ref (t.1 0)), (1, .int (nI d))]) C dX12_reads_15 (by decide) rfl ?_
    refine x_aload_n (pc := 16) C 2 dX12_reads_16 rfl ?_
    refine g_M_dayNow (pc := 17) C E q13_19 dX12_reads_17 ?_
    refine x_eq (show M 0 7 = vD (sV (σ)) from (rr_day h)) ?_
    refine x_aload_n (pc := 20) C 2 dX12_reads_20 rfl ?_
    refine g_M_rows (pc := 21) C E q11_16 dX12_reads_21 ?_
    refine x_iconst (pc := 24) (v := (nI 2)) C dX12_reads_24 (by decide) ?_
    refine x_iload_n (pc := 25) C 3 dX12_reads_25 rfl ?_
    refine x_imul (pc := 26) C dX12_reads_26 ?_
    refine x_eq (show (nI 2) * (nI d) = nI (2 * d) from pk_mul _ _) ?_
    refine x_iconst (pc := 27) (v := (nI 1)) C dX12_reads_27 (by decide) ?_
    refine x_iadd (pc := 28) C dX12_reads_28 ?_
    refine x_eq (show (nI (2 * d)) + (nI 1) = nI (2 * d + 1) from nI_add _ _) ?_
    refine l_Rrows (pc := 29) C E (by omega) dX12_reads_29 ?_
    refine x_eq (show M 5 (2 * d + 1) = vS (sV (σ)) d from (rr_since h (by omega))) ?_
    refine x_isub (pc := 30) C dX12_reads_30 ?_
    refine x_istore (pc := 31) (L' := [(4, .int ((vD (sV (σ))) - (vS (sV (σ)) d))), (3, .int (vU (sV (σ)) d)), (2, .int (nI 5)), (0, .ref (t.1 0)), (1, .int (nI d))]) C dX12_reads_31 (by decide) rfl ?_
    refine x_iload_n (pc := 33) C 2 dX12_reads_33 rfl ?_
    refine x_if_ne_t (pc := 34) C 51 dX12_reads_34 (by decide) (by decide) ?_
    refine x_iload_n (pc := 51) C 2 dX12_reads_51 rfl ?_
    refine x_iconst (pc := 52) (v := (nI 1)) C dX12_reads_52 (by decide) ?_
    refine x_icmp_eq_f (pc := 53) C 61 dX12_reads_53 (by decide) (by decide) ?_
    refine x_iload_n (pc := 56) C 2 dX12_reads_56 rfl ?_
    refine x_iconst (pc := 57) (v := (nI 3)) C dX12_reads_57 (by decide) ?_
    refine x_icmp_ne_t (pc := 58) C 91 dX12_reads_58 (by decide) (by decide) ?_
    refine x_iload_n (pc := 91) C 2 dX12_reads_91 rfl ?_
    refine x_iconst (pc := 92) (v := (nI 4)) C dX12_reads_92 (by decide) ?_
    refine x_icmp_ne_t (pc := 93) C 107 dX12_reads_93 (by decide) (by decide) ?_
    refine x_iconst (pc := 107) (v := (nI 1)) C dX12_reads_107 (by decide) ?_
    refine x_goto (pc := 108) C 112 dX12_reads_108 (by decide) ?_
    exact x_bret (pc := 112) C X (b := true) rfl dX12_reads_112 (rI_b (Eq.symm (by unfold vRd; rw [hk]; rfl)))
  

set_option maxRecDepth 100000 in
set_option maxHeartbeats 800000 in
theorem c_X12_stampsOf (t : CT) {σ : SV} {M : MM} (h : RR σ M) {d : Nat} (hd : d < vN (sV σ))  : XMet (wR t) yX12_stampsOf cX12_stampsOf 4 (some .int) 1 [.ref (t.1 0), .int (nI d)] M (rI (kStamp (vK (sV σ) d) (vD (sV σ)) (vU (sV σ) d)) M) := by
  refine x_met RX12 (by decide) rfl (Nat.le_of_ble_eq_true rfl) (fun κ C X E => ?_)
  refine x_L (L' := [(0, .ref (t.1 0)), (1, .int (nI d))]) rfl ?_
  have hn6 := rr_n6 h
  have hk6 := rr_k6 h hd
  refine x_aload_n (pc := 0) C 0 dX12_stampsOf_0 rfl ?_
  refine g_M_kinds (pc := 1) C E q11_15 dX12_stampsOf_1 ?_
  refine x_iload_n (pc := 4) C 1 dX12_stampsOf_4 rfl ?_
  refine l_Rkinds (pc := 5) C E (by omega) dX12_stampsOf_5 ?_
  refine x_eq (show M 4 d = nI (vK (sV (σ)) d) from (rr_kd h (by omega))) ?_
  rcases (by omega : vK (sV σ) d = 0 ∨ vK (sV σ) d = 1 ∨ vK (sV σ) d = 2 ∨ vK (sV σ) d = 3 ∨ vK (sV σ) d = 4 ∨ vK (sV σ) d = 5) with hk | hk | hk | hk | hk | hk
  · refine x_eq (show nI (vK (sV σ) d) = nI 0 from by rw [hk]) ?_
    refine x_istore_n (pc := 6) (L' := [(2, .int (nI 0)), (0, .ref (t.1 0)), (1, .int (nI d))]) C dX12_stampsOf_6 (by decide) rfl ?_
    refine x_aload_n (pc := 7) C 1 dX12_stampsOf_7 rfl ?_
    refine g_M_dayNow (pc := 8) C E q13_19 dX12_stampsOf_8 ?_
    refine x_eq (show M 0 7 = vD (sV (σ)) from (rr_day h)) ?_
    refine x_aload_n (pc := 11) C 1 dX12_stampsOf_11 rfl ?_
    refine g_M_rows (pc := 12) C E q11_16 dX12_stampsOf_12 ?_
    refine x_iconst (pc := 15) (v := (nI 2)) C dX12_stampsOf_15 (by decide) ?_
    refine x_iload_n (pc := 16) C 2 dX12_stampsOf_16 rfl ?_
    refine x_imul (pc := 17) C dX12_stampsOf_17 ?_
    refine x_eq (show (nI 2) * (nI d) = nI (2 * d) from pk_mul _ _) ?_
    refine l_Rrows (pc := 18) C E (by omega) dX12_stampsOf_18 ?_
    refine x_eq (show M 5 (2 * d) = vU (sV (σ)) d from (rr_num h (by omega))) ?_
    refine x_isub (pc := 19) C dX12_stampsOf_19 ?_
    refine x_istore_n (pc := 20) (L' := [(3, .int ((vD (sV (σ))) - (vU (sV (σ)) d))), (2, .int (nI 0)), (0, .ref (t.1 0)), (1, .int (nI d))]) C dX12_stampsOf_20 (by decide) rfl ?_
    refine x_iload_n (pc := 21) C 1 dX12_stampsOf_21 rfl ?_
    refine x_iconst (pc := 22) (v := (nI 1)) C dX12_stampsOf_22 (by decide) ?_
    refine x_icmp_ne_t (pc := 23) C 30 dX12_stampsOf_23 (by decide) (by decide) ?_
    refine x_iload_n (pc := 30) C 1 dX12_stampsOf_30 rfl ?_
    refine x_iconst (pc := 31) (v := (nI 3)) C dX12_stampsOf_31 (by decide) ?_
    refine x_icmp_ne_t (pc := 32) C 41 dX12_stampsOf_32 (by decide) (by decide) ?_
    refine x_iload_n (pc := 41) C 1 dX12_stampsOf_41 rfl ?_
    refine x_iconst (pc := 42) (v := (nI 4)) C dX12_stampsOf_42 (by decide) ?_
    refine x_icmp_ne_t (pc := 43) C 55 dX12_stampsOf_43 (by decide) (by decide) ?_
    refine x_iload_n (pc := 55) C 1 dX12_stampsOf_55 rfl ?_
    refine x_iconst (pc := 56) (v := (nI 5)) C dX12_stampsOf_56 (by decide) ?_
    refine x_icmp_ne_t (pc := 57) C 64 dX12_stampsOf_57 (by decide) (by decide) ?_
    refine x_aload_n (pc := 64) C 2 dX12_stampsOf_64 rfl ?_
    refine g_M_dayNow (pc := 65) C E q13_19 dX12_stampsOf_65 ?_
    refine x_eq (show M 0 7 = vD (sV (σ)) from (rr_day h)) ?_
    exact x_iret (pc := 68) C X dX12_stampsOf_68 (rI_i (by rw [hk]; rfl))
  · refine x_eq (show nI (vK (sV σ) d) = nI 1 from by rw [hk]) ?_
    refine x_istore_n (pc := 6) (L' := [(2, .int (nI 1)), (0, .ref (t.1 0)), (1, .int (nI d))]) C dX12_stampsOf_6 (by decide) rfl ?_
    refine x_aload_n (pc := 7) C 1 dX12_stampsOf_7 rfl ?_
    refine g_M_dayNow (pc := 8) C E q13_19 dX12_stampsOf_8 ?_
    refine x_eq (show M 0 7 = vD (sV (σ)) from (rr_day h)) ?_
    refine x_aload_n (pc := 11) C 1 dX12_stampsOf_11 rfl ?_
    refine g_M_rows (pc := 12) C E q11_16 dX12_stampsOf_12 ?_
    refine x_iconst (pc := 15) (v := (nI 2)) C dX12_stampsOf_15 (by decide) ?_
    refine x_iload_n (pc := 16) C 2 dX12_stampsOf_16 rfl ?_
    refine x_imul (pc := 17) C dX12_stampsOf_17 ?_
    refine x_eq (show (nI 2) * (nI d) = nI (2 * d) from pk_mul _ _) ?_
    refine l_Rrows (pc := 18) C E (by omega) dX12_stampsOf_18 ?_
    refine x_eq (show M 5 (2 * d) = vU (sV (σ)) d from (rr_num h (by omega))) ?_
    refine x_isub (pc := 19) C dX12_stampsOf_19 ?_
    refine x_istore_n (pc := 20) (L' := [(3, .int ((vD (sV (σ))) - (vU (sV (σ)) d))), (2, .int (nI 1)), (0, .ref (t.1 0)), (1, .int (nI d))]) C dX12_stampsOf_20 (by decide) rfl ?_
    refine x_iload_n (pc := 21) C 1 dX12_stampsOf_21 rfl ?_
    refine x_iconst (pc := 22) (v := (nI 1)) C dX12_stampsOf_22 (by decide) ?_
    refine x_icmp_ne_f (pc := 23) C 30 dX12_stampsOf_23 (by decide) (by decide) ?_
    refine x_iload_n (pc := 26) C 0 dX12_stampsOf_26 rfl ?_
    refine x_goto (pc := 27) C 68 dX12_stampsOf_27 (by decide) ?_
    exact x_iret (pc := 68) C X dX12_stampsOf_68 (rI_i (by rw [hk]; rfl))
  · refine x_eq (show nI (vK (sV σ) d) = nI 2 from by rw [hk]) ?_
    refine x_istore_n (pc := 6) (L' := [(2, .int (nI 2)), (0, .ref (t.1 0)), (1, .int (nI d))]) C dX12_stampsOf_6 (by decide) rfl ?_
    refine x_aload_n (pc := 7) C 1 dX12_stampsOf_7 rfl ?_
    refine g_M_dayNow (pc := 8) C E q13_19 dX12_stampsOf_8 ?_
    refine x_eq (show M 0 7 = vD (sV (σ)) from (rr_day h)) ?_
    refine x_aload_n (pc := 11) C 1 dX12_stampsOf_11 rfl ?_
    refine g_M_rows (pc := 12) C E q11_16 dX12_stampsOf_12 ?_
    refine x_iconst (pc := 15) (v := (nI 2)) C dX12_stampsOf_15 (by decide) ?_
    refine x_iload_n (pc := 16) C 2 dX12_stampsOf_16 rfl ?_
    refine x_imul (pc := 17) C dX12_stampsOf_17 ?_
    refine x_eq (show (nI 2) * (nI d) = nI (2 * d) from pk_mul _ _) ?_
    refine l_Rrows (pc := 18) C E (by omega) dX12_stampsOf_18 ?_
    refine x_eq (show M 5 (2 * d) = vU (sV (σ)) d from (rr_num h (by omega))) ?_
    refine x_isub (pc := 19) C dX12_stampsOf_19 ?_
    refine x_istore_n (pc := 20) (L' := [(3, .int ((vD (sV (σ))) - (vU (sV (σ)) d))), (2, .int (nI 2)), (0, .ref (t.1 0)), (1, .int (nI d))]) C dX12_stampsOf_20 (by decide) rfl ?_
    refine x_iload_n (pc := 21) C 1 dX12_stampsOf_21 rfl ?_
    refine x_iconst (pc := 22) (v := (nI 1)) C dX12_stampsOf_22 (by decide) ?_
    refine x_icmp_ne_t (pc := 23) C 30 dX12_stampsOf_23 (by decide) (by decide) ?_
    refine x_iload_n (pc := 30) C 1 dX12_stampsOf_30 rfl ?_
    refine x_iconst (pc := 31) (v := (nI 3)) C dX12_stampsOf_31 (by decide) ?_
    refine x_icmp_ne_t (pc := 32) C 41 dX12_stampsOf_32 (by decide) (by decide) ?_
    refine x_iload_n (pc := 41) C 1 dX12_stampsOf_41 rfl ?_
    refine x_iconst (pc := 42) (v := (nI 4)) C dX12_stampsOf_42 (by decide) ?_
    refine x_icmp_ne_t (pc := 43) C 55 dX12_stampsOf_43 (by decide) (by decide) ?_
    refine x_iload_n (pc := 55) C 1 dX12_stampsOf_55 rfl ?_
    refine x_iconst (pc := 56) (v := (nI 5)) C dX12_stampsOf_56 (by decide) ?_
    refine x_icmp_ne_t (pc := 57) C 64 dX12_stampsOf_57 (by decide) (by decide) ?_
    refine x_aload_n (pc := 64) C 2 dX12_stampsOf_64 rfl ?_
    refine g_M_dayNow (pc := 65) C E q13_19 dX12_stampsOf_65 ?_
    refine x_eq (show M 0 7 = vD (sV (σ)) from (rr_day h)) ?_
    exact x_iret (pc := 68) C X dX12_stampsOf_68 (rI_i (by rw [hk]; rfl))
  · refine x_eq (show nI (vK (sV σ) d) = nI 3 from by rw [hk]) ?_
    refine x_istore_n (pc := 6) (L' := [(2, .int (nI 3)), (0, .ref (t.1 0)), (1, .int (nI d))]) C dX12_stampsOf_6 (by decide) rfl ?_
    refine x_aload_n (pc := 7) C 1 dX12_stampsOf_7 rfl ?_
    refine g_M_dayNow (pc := 8) C E q13_19 dX12_stampsOf_8 ?_
    refine x_eq (show M 0 7 = vD (sV (σ)) from (rr_day h)) ?_
    refine x_aload_n (pc := 11) C 1 dX12_stampsOf_11 rfl ?_
    refine g_M_rows (pc := 12) C E q11_16 dX12_stampsOf_12 ?_
    refine x_iconst (pc := 15) (v := (nI 2)) C dX12_stampsOf_15 (by decide) ?_
    refine x_iload_n (pc := 16) C 2 dX12_stampsOf_16 rfl ?_
    refine x_imul (pc := 17) C dX12_stampsOf_17 ?_
    refine x_eq (show (nI 2) * (nI d) = nI (2 * d) from pk_mul _ _) ?_
    refine l_Rrows (pc := 18) C E (by omega) dX12_stampsOf_18 ?_
    refine x_eq (show M 5 (2 * d) = vU (sV (σ)) d from (rr_num h (by omega))) ?_
    refine x_isub (pc := 19) C dX12_stampsOf_19 ?_
    refine x_istore_n (pc := 20) (L' := [(3, .int ((vD (sV (σ))) - (vU (sV (σ)) d))), (2, .int (nI 3)), (0, .ref (t.1 0)), (1, .int (nI d))]) C dX12_stampsOf_20 (by decide) rfl ?_
    refine x_iload_n (pc := 21) C 1 dX12_stampsOf_21 rfl ?_
    refine x_iconst (pc := 22) (v := (nI 1)) C dX12_stampsOf_22 (by decide) ?_
    refine x_icmp_ne_t (pc := 23) C 30 dX12_stampsOf_23 (by decide) (by decide) ?_
    refine x_iload_n (pc := 30) C 1 dX12_stampsOf_30 rfl ?_
    refine x_iconst (pc := 31) (v := (nI 3)) C dX12_stampsOf_31 (by decide) ?_
    refine x_icmp_ne_f (pc := 32) C 41 dX12_stampsOf_32 (by decide) (by decide) ?_
    refine x_iload_n (pc := 35) C 0 dX12_stampsOf_35 rfl ?_
    refine x_iconst (pc := 36) (v := 2) C dX12_stampsOf_36 rfl ?_
    refine x_idiv (pc := 37) C dX12_stampsOf_37 (by decide) ?_
    refine x_goto (pc := 38) C 68 dX12_stampsOf_38 (by decide) ?_
    exact x_iret (pc := 68) C X dX12_stampsOf_68 (rI_i (by rw [hk]; rfl))
  · refine x_eq (show nI (vK (sV σ) d) = nI 4 from by rw [hk]) ?_
    refine x_istore_n (pc := 6) (L' := [(2, .int (nI 4)), (0, .ref (t.1 0)), (1, .int (nI d))]) C dX12_stampsOf_6 (by decide) rfl ?_
    refine x_aload_n (pc := 7) C 1 dX12_stampsOf_7 rfl ?_
    refine g_M_dayNow (pc := 8) C E q13_19 dX12_stampsOf_8 ?_
    refine x_eq (show M 0 7 = vD (sV (σ)) from (rr_day h)) ?_
    refine x_aload_n (pc := 11) C 1 dX12_stampsOf_11 rfl ?_
    refine g_M_rows (pc := 12) C E q11_16 dX12_stampsOf_12 ?_
    refine x_iconst (pc := 15) (v := (nI 2)) C dX12_stampsOf_15 (by decide) ?_
    refine x_iload_n (pc := 16) C 2 dX12_stampsOf_16 rfl ?_
    refine x_imul (pc := 17) C dX12_stampsOf_17 ?_
    refine x_eq (show (nI 2) * (nI d) = nI (2 * d) from pk_mul _ _) ?_
    refine l_Rrows (pc := 18) C E (by omega) dX12_stampsOf_18 ?_
    refine x_eq (show M 5 (2 * d) = vU (sV (σ)) d from (rr_num h (by omega))) ?_
    refine x_isub (pc := 19) C dX12_stampsOf_19 ?_
    refine x_istore_n (pc := 20) (L' := [(3, .int ((vD (sV (σ))) - (vU (sV (σ)) d))), (2, .int (nI 4)), (0, .ref (t.1 0)), (1, .int (nI d))]) C dX12_stampsOf_20 (by decide) rfl ?_
    refine x_iload_n (pc := 21) C 1 dX12_stampsOf_21 rfl ?_
    refine x_iconst (pc := 22) (v := (nI 1)) C dX12_stampsOf_22 (by decide) ?_
    refine x_icmp_ne_t (pc := 23) C 30 dX12_stampsOf_23 (by decide) (by decide) ?_
    refine x_iload_n (pc := 30) C 1 dX12_stampsOf_30 rfl ?_
    refine x_iconst (pc := 31) (v := (nI 3)) C dX12_stampsOf_31 (by decide) ?_
    refine x_icmp_ne_t (pc := 32) C 41 dX12_stampsOf_32 (by decide) (by decide) ?_
    refine x_iload_n (pc := 41) C 1 dX12_stampsOf_41 rfl ?_
    refine x_iconst (pc := 42) (v := (nI 4)) C dX12_stampsOf_42 (by decide) ?_
    refine x_icmp_ne_f (pc := 43) C 55 dX12_stampsOf_43 (by decide) (by decide) ?_
    refine x_aload_n (pc := 46) C 2 dX12_stampsOf_46 rfl ?_
    refine g_M_dayNow (pc := 47) C E q13_19 dX12_stampsOf_47 ?_
    refine x_eq (show M 0 7 = vD (sV (σ)) from (rr_day h)) ?_
    refine x_iconst (pc := 50) (v := 1) C dX12_stampsOf_50 rfl ?_
    refine x_iadd (pc := 51) C dX12_stampsOf_51 ?_
    refine x_goto (pc := 52) C 68 dX12_stampsOf_52 (by decide) ?_
    exact x_iret (pc := 68) C X dX12_stampsOf_68 (rI_i (by rw [hk]; rfl))
  · refine x_eq (show nI (vK (sV σ) d) = nI 5 from by rw [hk]) ?_
    refine x_istore_n (pc := 6) (L' := [(2, .int (nI 5)), (0, .ref (t.1 0)), (1, .int (nI d))]) C dX12_stampsOf_6 (by decide) rfl ?_
    refine x_aload_n (pc := 7) C 1 dX12_stampsOf_7 rfl ?_
    refine g_M_dayNow (pc := 8) C E q13_19 dX12_stampsOf_8 ?_
    refine x_eq (show M 0 7 = vD (sV (σ)) from (rr_day h)) ?_
    refine x_aload_n (pc := 11) C 1 dX12_stampsOf_11 rfl ?_
    refine g_M_rows (pc := 12) C E q11_16 dX12_stampsOf_12 ?_
    refine x_iconst (pc := 15) (v := (nI 2)) C dX12_stampsOf_15 (by decide) ?_
    refine x_iload_n (pc := 16) C 2 dX12_stampsOf_16 rfl ?_
    refine x_imul (pc := 17) C dX12_stampsOf_17 ?_
    refine x_eq (show (nI 2) * (nI d) = nI (2 * d) from pk_mul _ _) ?_
    refine l_Rrows (pc := 18) C E (by omega) dX12_stampsOf_18 ?_
    refine x_eq (show M 5 (2 * d) = vU (sV (σ)) d from (rr_num h (by omega))) ?_
    refine x_isub (pc := 19) C dX12_stampsOf_19 ?_
    refine x_istore_n (pc := 20) (L' := [(3, .int ((vD (sV (σ))) - (vU (sV (σ)) d))), (2, .int (nI 5)), (0, .ref (t.1 0)), (1, .int (nI d))]) C dX12_stampsOf_20 (by decide) rfl ?_
    refine x_iload_n (pc := 21) C 1 dX12_stampsOf_21 rfl ?_
    refine x_iconst (pc := 22) (v := (nI 1)) C dX12_stampsOf_22 (by decide) ?_
    refine x_icmp_ne_t (pc := 23) C 30 dX12_stampsOf_23 (by decide) (by decide) ?_
    refine x_iload_n (pc := 30) C 1 dX12_stampsOf_30 rfl ?_
    refine x_iconst (pc := 31) (v := (nI 3)) C dX12_stampsOf_31 (by decide) ?_
    refine x_icmp_ne_t (pc := 32) C 41 dX12_stampsOf_32 (by decide) (by decide) ?_
    refine x_iload_n (pc := 41) C 1 dX12_stampsOf_41 rfl ?_
    refine x_iconst (pc := 42) (v := (nI 4)) C dX12_stampsOf_42 (by decide) ?_
    refine x_icmp_ne_t (pc := 43) C 55 dX12_stampsOf_43 (by decide) (by decide) ?_
    refine x_iload_n (pc := 55) C 1 dX12_stampsOf_55 rfl ?_
    refine x_iconst (pc := 56) (v := (nI 5)) C dX12_stampsOf_56 (by decide) ?_
    refine x_icmp_ne_f (pc := 57) C 64 dX12_stampsOf_57 (by decide) (by decide) ?_
    refine x_iconst (pc := 60) (v := 0) C dX12_stampsOf_60 rfl ?_
    refine x_goto (pc := 61) C 68 dX12_stampsOf_61 (by decide) ?_
    exact x_iret (pc := 68) C X dX12_stampsOf_68 (rI_i (by rw [hk]; rfl))
  

set_option maxRecDepth 100000 in
set_option maxHeartbeats 800000 in
theorem c_X12_keepsOf (t : CT) {σ : SV} {M : MM} (h : RR σ M) {d : Nat} (hd : d < vN (sV σ)) (c : Int32) : XMet (wR t) yX12_keepsOf cX12_keepsOf 3 (some .int) 1 [.ref (t.1 0), .int (nI d), .int c] M (rI (kKeeps (vK (sV σ) d) c) M) := by
  refine x_met RX12 (by decide) rfl (Nat.le_of_ble_eq_true rfl) (fun κ C X E => ?_)
  refine x_L (L' := [(0, .ref (t.1 0)), (1, .int (nI d)), (2, .int c)]) rfl ?_
  have hn6 := rr_n6 h
  have hk6 := rr_k6 h hd
  refine x_aload_n (pc := 0) C 0 dX12_keepsOf_0 rfl ?_
  refine g_M_kinds (pc := 1) C E q11_15 dX12_keepsOf_1 ?_
  refine x_iload_n (pc := 4) C 1 dX12_keepsOf_4 rfl ?_
  refine l_Rkinds (pc := 5) C E (by omega) dX12_keepsOf_5 ?_
  refine x_eq (show M 4 d = nI (vK (sV (σ)) d) from (rr_kd h (by omega))) ?_
  rcases (by omega : vK (sV σ) d = 0 ∨ vK (sV σ) d = 1 ∨ vK (sV σ) d = 2 ∨ vK (sV σ) d = 3 ∨ vK (sV σ) d = 4 ∨ vK (sV σ) d = 5) with hk | hk | hk | hk | hk | hk
  · refine x_eq (show nI (vK (sV σ) d) = nI 0 from by rw [hk]) ?_
    refine x_iconst (pc := 6) (v := (nI 3)) C dX12_keepsOf_6 (by decide) ?_
    refine x_icmp_ne_t (pc := 7) C 23 dX12_keepsOf_7 (by decide) (by decide) ?_
    refine x_aload_n (pc := 23) C 0 dX12_keepsOf_23 rfl ?_
    refine g_M_kinds (pc := 24) C E q11_15 dX12_keepsOf_24 ?_
    refine x_iload_n (pc := 27) C 1 dX12_keepsOf_27 rfl ?_
    refine l_Rkinds (pc := 28) C E (by omega) dX12_keepsOf_28 ?_
    refine x_eq (show M 4 d = nI (vK (sV (σ)) d) from (rr_kd h (by omega))) ?_
    refine x_eq (show nI (vK (sV (σ)) d) = nI 0 from (by rw [hk])) ?_
    refine x_iconst (pc := 29) (v := (nI 5)) C dX12_keepsOf_29 (by decide) ?_
    refine x_icmp_ne_t (pc := 30) C 42 dX12_keepsOf_30 (by decide) (by decide) ?_
    refine x_iload_n (pc := 42) C 2 dX12_keepsOf_42 rfl ?_
    exact x_iret (pc := 43) C X dX12_keepsOf_43 (rI_i (by rw [hk]; rfl))
  · refine x_eq (show nI (vK (sV σ) d) = nI 1 from by rw [hk]) ?_
    refine x_iconst (pc := 6) (v := (nI 3)) C dX12_keepsOf_6 (by decide) ?_
    refine x_icmp_ne_t (pc := 7) C 23 dX12_keepsOf_7 (by decide) (by decide) ?_
    refine x_aload_n (pc := 23) C 0 dX12_keepsOf_23 rfl ?_
    refine g_M_kinds (pc := 24) C E q11_15 dX12_keepsOf_24 ?_
    refine x_iload_n (pc := 27) C 1 dX12_keepsOf_27 rfl ?_
    refine l_Rkinds (pc := 28) C E (by omega) dX12_keepsOf_28 ?_
    refine x_eq (show M 4 d = nI (vK (sV (σ)) d) from (rr_kd h (by omega))) ?_
    refine x_eq (show nI (vK (sV (σ)) d) = nI 1 from (by rw [hk])) ?_
    refine x_iconst (pc := 29) (v := (nI 5)) C dX12_keepsOf_29 (by decide) ?_
    refine x_icmp_ne_t (pc := 30) C 42 dX12_keepsOf_30 (by decide) (by decide) ?_
    refine x_iload_n (pc := 42) C 2 dX12_keepsOf_42 rfl ?_
    exact x_iret (pc := 43) C X dX12_keepsOf_43 (rI_i (by rw [hk]; rfl))
  · refine x_eq (show nI (vK (sV σ) d) = nI 2 from by rw [hk]) ?_
    refine x_iconst (pc := 6) (v := (nI 3)) C dX12_keepsOf_6 (by decide) ?_
    refine x_icmp_ne_t (pc := 7) C 23 dX12_keepsOf_7 (by decide) (by decide) ?_
    refine x_aload_n (pc := 23) C 0 dX12_keepsOf_23 rfl ?_
    refine g_M_kinds (pc := 24) C E q11_15 dX12_keepsOf_24 ?_
    refine x_iload_n (pc := 27) C 1 dX12_keepsOf_27 rfl ?_
    refine l_Rkinds (pc := 28) C E (by omega) dX12_keepsOf_28 ?_
    refine x_eq (show M 4 d = nI (vK (sV (σ)) d) from (rr_kd h (by omega))) ?_
    refine x_eq (show nI (vK (sV (σ)) d) = nI 2 from (by rw [hk])) ?_
    refine x_iconst (pc := 29) (v := (nI 5)) C dX12_keepsOf_29 (by decide) ?_
    refine x_icmp_ne_t (pc := 30) C 42 dX12_keepsOf_30 (by decide) (by decide) ?_
    refine x_iload_n (pc := 42) C 2 dX12_keepsOf_42 rfl ?_
    exact x_iret (pc := 43) C X dX12_keepsOf_43 (rI_i (by rw [hk]; rfl))
  · refine x_eq (show nI (vK (sV σ) d) = nI 3 from by rw [hk]) ?_
    refine x_iconst (pc := 6) (v := (nI 3)) C dX12_keepsOf_6 (by decide) ?_
    refine x_icmp_ne_f (pc := 7) C 23 dX12_keepsOf_7 (by decide) (by decide) ?_
    refine x_iload_n (pc := 10) C 2 dX12_keepsOf_10 rfl ?_
    refine x_sipush (pc := 11) (v := 899) C dX12_keepsOf_11 rfl ?_
    refine x_icmp_le (pc := 14) C 23 dX12_keepsOf_14 (by decide) (fun h14 => ?_) (fun h14 => ?_)
    · refine x_aload_n (pc := 23) C 0 dX12_keepsOf_23 rfl ?_
      refine g_M_kinds (pc := 24) C E q11_15 dX12_keepsOf_24 ?_
      refine x_iload_n (pc := 27) C 1 dX12_keepsOf_27 rfl ?_
      refine l_Rkinds (pc := 28) C E (by omega) dX12_keepsOf_28 ?_
      refine x_eq (show M 4 d = nI (vK (sV (σ)) d) from (rr_kd h (by omega))) ?_
      refine x_eq (show nI (vK (sV (σ)) d) = nI 3 from (by rw [hk])) ?_
      refine x_iconst (pc := 29) (v := (nI 5)) C dX12_keepsOf_29 (by decide) ?_
      refine x_icmp_ne_t (pc := 30) C 42 dX12_keepsOf_30 (by decide) (by decide) ?_
      refine x_iload_n (pc := 42) C 2 dX12_keepsOf_42 rfl ?_
      exact x_iret (pc := 43) C X dX12_keepsOf_43 (rI_i (by rw [hk]; exact (if_neg (by rw [i_lt]; rw [i_le] at h14; omega)).symm))
    · refine x_sipush (pc := 17) (v := 899) C dX12_keepsOf_17 rfl ?_
      refine x_goto (pc := 20) C 43 dX12_keepsOf_20 (by decide) ?_
      exact x_iret (pc := 43) C X dX12_keepsOf_43 (rI_i (by rw [hk]; exact (if_pos (by rw [i_lt]; rw [i_le] at h14; omega)).symm))
  · refine x_eq (show nI (vK (sV σ) d) = nI 4 from by rw [hk]) ?_
    refine x_iconst (pc := 6) (v := (nI 3)) C dX12_keepsOf_6 (by decide) ?_
    refine x_icmp_ne_t (pc := 7) C 23 dX12_keepsOf_7 (by decide) (by decide) ?_
    refine x_aload_n (pc := 23) C 0 dX12_keepsOf_23 rfl ?_
    refine g_M_kinds (pc := 24) C E q11_15 dX12_keepsOf_24 ?_
    refine x_iload_n (pc := 27) C 1 dX12_keepsOf_27 rfl ?_
    refine l_Rkinds (pc := 28) C E (by omega) dX12_keepsOf_28 ?_
    refine x_eq (show M 4 d = nI (vK (sV (σ)) d) from (rr_kd h (by omega))) ?_
    refine x_eq (show nI (vK (sV (σ)) d) = nI 4 from (by rw [hk])) ?_
    refine x_iconst (pc := 29) (v := (nI 5)) C dX12_keepsOf_29 (by decide) ?_
    refine x_icmp_ne_t (pc := 30) C 42 dX12_keepsOf_30 (by decide) (by decide) ?_
    refine x_iload_n (pc := 42) C 2 dX12_keepsOf_42 rfl ?_
    exact x_iret (pc := 43) C X dX12_keepsOf_43 (rI_i (by rw [hk]; rfl))
  · refine x_eq (show nI (vK (sV σ) d) = nI 5 from by rw [hk]) ?_
    refine x_iconst (pc := 6) (v := (nI 3)) C dX12_keepsOf_6 (by decide) ?_
    refine x_icmp_ne_t (pc := 7) C 23 dX12_keepsOf_7 (by decide) (by decide) ?_
    refine x_aload_n (pc := 23) C 0 dX12_keepsOf_23 rfl ?_
    refine g_M_kinds (pc := 24) C E q11_15 dX12_keepsOf_24 ?_
    refine x_iload_n (pc := 27) C 1 dX12_keepsOf_27 rfl ?_
    refine l_Rkinds (pc := 28) C E (by omega) dX12_keepsOf_28 ?_
    refine x_eq (show M 4 d = nI (vK (sV (σ)) d) from (rr_kd h (by omega))) ?_
    refine x_eq (show nI (vK (sV (σ)) d) = nI 5 from (by rw [hk])) ?_
    refine x_iconst (pc := 29) (v := (nI 5)) C dX12_keepsOf_29 (by decide) ?_
    refine x_icmp_ne_f (pc := 30) C 42 dX12_keepsOf_30 (by decide) (by decide) ?_
    refine x_iload_n (pc := 33) C 2 dX12_keepsOf_33 rfl ?_
    refine x_iload_n (pc := 34) C 2 dX12_keepsOf_34 rfl ?_
    refine x_bipush (pc := 35) (v := 10) C dX12_keepsOf_35 rfl ?_
    refine x_irem (pc := 37) C dX12_keepsOf_37 (by decide) ?_
    refine x_isub (pc := 38) C dX12_keepsOf_38 ?_
    refine x_goto (pc := 39) C 43 dX12_keepsOf_39 (by decide) ?_
    exact x_iret (pc := 43) C X dX12_keepsOf_43 (rI_i (by rw [hk]; rfl))
  

set_option maxRecDepth 100000 in
set_option maxHeartbeats 800000 in
theorem c_X12_roomOf (t : CT) {σ : SV} {M : MM} (h : RR σ M) {d : Nat} (hd : d < vN (sV σ))  : XMet (wR t) yX12_roomOf cX12_roomOf 3 (some .int) 1 [.ref (t.1 0), .int (nI d)] M (rI (kRoom (vK (sV σ) d) (vU (sV σ) d)) M) := by
  refine x_met RX12 (by decide) rfl (Nat.le_of_ble_eq_true rfl) (fun κ C X E => ?_)
  refine x_L (L' := [(0, .ref (t.1 0)), (1, .int (nI d))]) rfl ?_
  have hn6 := rr_n6 h
  have hk6 := rr_k6 h hd
  refine x_aload_n (pc := 0) C 0 dX12_roomOf_0 rfl ?_
  refine g_M_kinds (pc := 1) C E q11_15 dX12_roomOf_1 ?_
  refine x_iload_n (pc := 4) C 1 dX12_roomOf_4 rfl ?_
  refine l_Rkinds (pc := 5) C E (by omega) dX12_roomOf_5 ?_
  refine x_eq (show M 4 d = nI (vK (sV (σ)) d) from (rr_kd h (by omega))) ?_
  rcases (by omega : vK (sV σ) d = 0 ∨ vK (sV σ) d = 1 ∨ vK (sV σ) d = 2 ∨ vK (sV σ) d = 3 ∨ vK (sV σ) d = 4 ∨ vK (sV σ) d = 5) with hk | hk | hk | hk | hk | hk
  · refine x_eq (show nI (vK (sV σ) d) = nI 0 from by rw [hk]) ?_
    refine x_istore_n (pc := 6) (L' := [(2, .int (nI 0)), (0, .ref (t.1 0)), (1, .int (nI d))]) C dX12_roomOf_6 (by decide) rfl ?_
    refine x_iload_n (pc := 7) C 0 dX12_roomOf_7 rfl ?_
    refine x_iconst (pc := 8) (v := (nI 1)) C dX12_roomOf_8 (by decide) ?_
    refine x_icmp_eq_f (pc := 9) C 17 dX12_roomOf_9 (by decide) (by decide) ?_
    refine x_iload_n (pc := 12) C 0 dX12_roomOf_12 rfl ?_
    refine x_iconst (pc := 13) (v := (nI 3)) C dX12_roomOf_13 (by decide) ?_
    refine x_icmp_ne_t (pc := 14) C 32 dX12_roomOf_14 (by decide) (by decide) ?_
    refine x_iload_n (pc := 32) C 0 dX12_roomOf_32 rfl ?_
    refine x_iconst (pc := 33) (v := (nI 5)) C dX12_roomOf_33 (by decide) ?_
    refine x_icmp_ne_t (pc := 34) C 48 dX12_roomOf_34 (by decide) (by decide) ?_
    refine x_bipush (pc := 48) (v := 8) C dX12_roomOf_48 rfl ?_
    exact x_iret (pc := 50) C X dX12_roomOf_50 (rI_i (by rw [hk]; rfl))
  · refine x_eq (show nI (vK (sV σ) d) = nI 1 from by rw [hk]) ?_
    refine x_istore_n (pc := 6) (L' := [(2, .int (nI 1)), (0, .ref (t.1 0)), (1, .int (nI d))]) C dX12_roomOf_6 (by decide) rfl ?_
    refine x_iload_n (pc := 7) C 0 dX12_roomOf_7 rfl ?_
    refine x_iconst (pc := 8) (v := (nI 1)) C dX12_roomOf_8 (by decide) ?_
    refine x_icmp_eq_t (pc := 9) C 17 dX12_roomOf_9 (by decide) (by decide) ?_
    refine x_iconst (pc := 17) (v := 1) C dX12_roomOf_17 rfl ?_
    refine x_aload_n (pc := 18) C 1 dX12_roomOf_18 rfl ?_
    refine g_M_rows (pc := 19) C E q11_16 dX12_roomOf_19 ?_
    refine x_iconst (pc := 22) (v := (nI 2)) C dX12_roomOf_22 (by decide) ?_
    refine x_iload_n (pc := 23) C 2 dX12_roomOf_23 rfl ?_
    refine x_imul (pc := 24) C dX12_roomOf_24 ?_
    refine x_eq (show (nI 2) * (nI d) = nI (2 * d) from pk_mul _ _) ?_
    refine l_Rrows (pc := 25) C E (by omega) dX12_roomOf_25 ?_
    refine x_eq (show M 5 (2 * d) = vU (sV (σ)) d from (rr_num h (by omega))) ?_
    refine x_iconst (pc := 26) (v := 2) C dX12_roomOf_26 rfl ?_
    refine x_idiv (pc := 27) C dX12_roomOf_27 (by decide) ?_
    refine x_iadd (pc := 28) C dX12_roomOf_28 ?_
    refine x_goto (pc := 29) C 50 dX12_roomOf_29 (by decide) ?_
    exact x_iret (pc := 50) C X dX12_roomOf_50 (rI_i (by rw [hk]; rfl))
  · refine x_eq (show nI (vK (sV σ) d) = nI 2 from by rw [hk]) ?_
    refine x_istore_n (pc := 6) (L' := [(2, .int (nI 2)), (0, .ref (t.1 0)), (1, .int (nI d))]) C dX12_roomOf_6 (by decide) rfl ?_
    refine x_iload_n (pc := 7) C 0 dX12_roomOf_7 rfl ?_
    refine x_iconst (pc := 8) (v := (nI 1)) C dX12_roomOf_8 (by decide) ?_
    refine x_icmp_eq_f (pc := 9) C 17 dX12_roomOf_9 (by decide) (by decide) ?_
    refine x_iload_n (pc := 12) C 0 dX12_roomOf_12 rfl ?_
    refine x_iconst (pc := 13) (v := (nI 3)) C dX12_roomOf_13 (by decide) ?_
    refine x_icmp_ne_t (pc := 14) C 32 dX12_roomOf_14 (by decide) (by decide) ?_
    refine x_iload_n (pc := 32) C 0 dX12_roomOf_32 rfl ?_
    refine x_iconst (pc := 33) (v := (nI 5)) C dX12_roomOf_33 (by decide) ?_
    refine x_icmp_ne_t (pc := 34) C 48 dX12_roomOf_34 (by decide) (by decide) ?_
    refine x_bipush (pc := 48) (v := 8) C dX12_roomOf_48 rfl ?_
    exact x_iret (pc := 50) C X dX12_roomOf_50 (rI_i (by rw [hk]; rfl))
  · refine x_eq (show nI (vK (sV σ) d) = nI 3 from by rw [hk]) ?_
    refine x_istore_n (pc := 6) (L' := [(2, .int (nI 3)), (0, .ref (t.1 0)), (1, .int (nI d))]) C dX12_roomOf_6 (by decide) rfl ?_
    refine x_iload_n (pc := 7) C 0 dX12_roomOf_7 rfl ?_
    refine x_iconst (pc := 8) (v := (nI 1)) C dX12_roomOf_8 (by decide) ?_
    refine x_icmp_eq_f (pc := 9) C 17 dX12_roomOf_9 (by decide) (by decide) ?_
    refine x_iload_n (pc := 12) C 0 dX12_roomOf_12 rfl ?_
    refine x_iconst (pc := 13) (v := (nI 3)) C dX12_roomOf_13 (by decide) ?_
    refine x_icmp_ne_f (pc := 14) C 32 dX12_roomOf_14 (by decide) (by decide) ?_
    refine x_iconst (pc := 17) (v := 1) C dX12_roomOf_17 rfl ?_
    refine x_aload_n (pc := 18) C 1 dX12_roomOf_18 rfl ?_
    refine g_M_rows (pc := 19) C E q11_16 dX12_roomOf_19 ?_
    refine x_iconst (pc := 22) (v := (nI 2)) C dX12_roomOf_22 (by decide) ?_
    refine x_iload_n (pc := 23) C 2 dX12_roomOf_23 rfl ?_
    refine x_imul (pc := 24) C dX12_roomOf_24 ?_
    refine x_eq (show (nI 2) * (nI d) = nI (2 * d) from pk_mul _ _) ?_
    refine l_Rrows (pc := 25) C E (by omega) dX12_roomOf_25 ?_
    refine x_eq (show M 5 (2 * d) = vU (sV (σ)) d from (rr_num h (by omega))) ?_
    refine x_iconst (pc := 26) (v := 2) C dX12_roomOf_26 rfl ?_
    refine x_idiv (pc := 27) C dX12_roomOf_27 (by decide) ?_
    refine x_iadd (pc := 28) C dX12_roomOf_28 ?_
    refine x_goto (pc := 29) C 50 dX12_roomOf_29 (by decide) ?_
    exact x_iret (pc := 50) C X dX12_roomOf_50 (rI_i (by rw [hk]; rfl))
  · refine x_eq (show nI (vK (sV σ) d) = nI 4 from by rw [hk]) ?_
    refine x_istore_n (pc := 6) (L' := [(2, .int (nI 4)), (0, .ref (t.1 0)), (1, .int (nI d))]) C dX12_roomOf_6 (by decide) rfl ?_
    refine x_iload_n (pc := 7) C 0 dX12_roomOf_7 rfl ?_
    refine x_iconst (pc := 8) (v := (nI 1)) C dX12_roomOf_8 (by decide) ?_
    refine x_icmp_eq_f (pc := 9) C 17 dX12_roomOf_9 (by decide) (by decide) ?_
    refine x_iload_n (pc := 12) C 0 dX12_roomOf_12 rfl ?_
    refine x_iconst (pc := 13) (v := (nI 3)) C dX12_roomOf_13 (by decide) ?_
    refine x_icmp_ne_t (pc := 14) C 32 dX12_roomOf_14 (by decide) (by decide) ?_
    refine x_iload_n (pc := 32) C 0 dX12_roomOf_32 rfl ?_
    refine x_iconst (pc := 33) (v := (nI 5)) C dX12_roomOf_33 (by decide) ?_
    refine x_icmp_ne_t (pc := 34) C 48 dX12_roomOf_34 (by decide) (by decide) ?_
    refine x_bipush (pc := 48) (v := 8) C dX12_roomOf_48 rfl ?_
    exact x_iret (pc := 50) C X dX12_roomOf_50 (rI_i (by rw [hk]; rfl))
  · refine x_eq (show nI (vK (sV σ) d) = nI 5 from by rw [hk]) ?_
    refine x_istore_n (pc := 6) (L' := [(2, .int (nI 5)), (0, .ref (t.1 0)), (1, .int (nI d))]) C dX12_roomOf_6 (by decide) rfl ?_
    refine x_iload_n (pc := 7) C 0 dX12_roomOf_7 rfl ?_
    refine x_iconst (pc := 8) (v := (nI 1)) C dX12_roomOf_8 (by decide) ?_
    refine x_icmp_eq_f (pc := 9) C 17 dX12_roomOf_9 (by decide) (by decide) ?_
    refine x_iload_n (pc := 12) C 0 dX12_roomOf_12 rfl ?_
    refine x_iconst (pc := 13) (v := (nI 3)) C dX12_roomOf_13 (by decide) ?_
    refine x_icmp_ne_t (pc := 14) C 32 dX12_roomOf_14 (by decide) (by decide) ?_
    refine x_iload_n (pc := 32) C 0 dX12_roomOf_32 rfl ?_
    refine x_iconst (pc := 33) (v := (nI 5)) C dX12_roomOf_33 (by decide) ?_
    refine x_icmp_ne_f (pc := 34) C 48 dX12_roomOf_34 (by decide) (by decide) ?_
    refine x_aload_n (pc := 37) C 1 dX12_roomOf_37 rfl ?_
    refine g_M_rows (pc := 38) C E q11_16 dX12_roomOf_38 ?_
    refine x_iconst (pc := 41) (v := (nI 2)) C dX12_roomOf_41 (by decide) ?_
    refine x_iload_n (pc := 42) C 2 dX12_roomOf_42 rfl ?_
    refine x_imul (pc := 43) C dX12_roomOf_43 ?_
    refine x_eq (show (nI 2) * (nI d) = nI (2 * d) from pk_mul _ _) ?_
    refine l_Rrows (pc := 44) C E (by omega) dX12_roomOf_44 ?_
    refine x_eq (show M 5 (2 * d) = vU (sV (σ)) d from (rr_num h (by omega))) ?_
    refine x_goto (pc := 45) C 50 dX12_roomOf_45 (by decide) ?_
    exact x_iret (pc := 50) C X dX12_roomOf_50 (rI_i (by rw [hk]; rfl))
  

set_option maxRecDepth 100000 in
set_option maxHeartbeats 800000 in
theorem c_X12_hasOf (t : CT) {σ : SV} {M : MM} (h : RR σ M) {d : Nat} (hd : d < vN (sV σ))  : XMet (wR t) yX12_hasOf cX12_hasOf 4 (some .int) 1 [.ref (t.1 0), .int (nI d)] M (rI (nI (vCn (sV σ) d)) M) := by
  refine x_met RX12 (by decide) rfl (Nat.le_of_ble_eq_true rfl) (fun κ C X E => ?_)
  refine x_L (L' := [(0, .ref (t.1 0)), (1, .int (nI d))]) rfl ?_
  have hn6 := rr_n6 h
  refine x_iconst (pc := 0) (v := (nI 0)) C dX12_hasOf_0 (by decide) ?_
  refine x_istore_n (pc := 1) (L' := [(2, .int (nI 0)), (0, .ref (t.1 0)), (1, .int (nI d))]) C dX12_hasOf_1 (by decide) rfl ?_
  refine x_iconst (pc := 2) (v := (nI 0)) C dX12_hasOf_2 (by decide) ?_
  refine x_istore_n (pc := 3) (L' := [(3, .int (nI 0)), (2, .int (nI 0)), (0, .ref (t.1 0)), (1, .int (nI d))]) C dX12_hasOf_3 (by decide) rfl ?_
  have loop4 : ∀ (k f : Nat) (x : Int32) (y : Int32) , f + k = 8 → x = nI (cnt (vHas (sV σ) d) f) → y = nI f → XV κ (xP (wR t) M) 4 [(3, .int y), (2, .int x), (0, .ref (t.1 0)), (1, .int (nI d))] [] := by
    intro k
    induction k with
      | zero =>
        intro f x y  hcnt ex ey
        subst ex
        subst ey
        obtain rfl : 8 = f := by omega
        refine x_iload_n (pc := 4) C 0 dX12_hasOf_4 rfl ?_
        refine x_bipush (pc := 5) (v := (nI 8)) C dX12_hasOf_5 (by decide) ?_
        refine x_icmp_ge_t (pc := 7) C 39 dX12_hasOf_7 (by decide) (nI_le (by omega) (by decide)) ?_
        refine x_iload_n (pc := 39) C 1 dX12_hasOf_39 rfl ?_
        exact x_iret (pc := 40) C X dX12_hasOf_40 (rI_i rfl)
      | succ k ih =>
        intro f x y  hcnt ex ey
        subst ex
        subst ey
        have hi4 : f < 8 := by omega
        refine x_iload_n (pc := 4) C 0 dX12_hasOf_4 rfl ?_
        refine x_bipush (pc := 5) (v := (nI 8)) C dX12_hasOf_5 (by decide) ?_
        refine x_icmp_ge_f (pc := 7) C 39 dX12_hasOf_7 (by decide) (nI_ge (by omega) (by decide)) ?_
        refine x_iload_n (pc := 10) C 1 dX12_hasOf_10 rfl ?_
        refine x_aload_n (pc := 11) C 2 dX12_hasOf_11 rfl ?_
        refine g_M_contents (pc := 12) C E q11_17 dX12_hasOf_12 ?_
        refine x_bipush (pc := 15) (v := (nI 8)) C dX12_hasOf_15 (by decide) ?_
        refine x_iload_n (pc := 17) C 3 dX12_hasOf_17 rfl ?_
        refine x_imul (pc := 18) C dX12_hasOf_18 ?_
        refine x_eq (show (nI 8) * (nI d) = nI (8 * d) from pk_mul _ _) ?_
        refine x_iload_n (pc := 19) C 0 dX12_hasOf_19 rfl ?_
        refine x_iadd (pc := 20) C dX12_hasOf_20 ?_
        refine x_eq (show (nI (8 * d)) + (nI f) = nI (8 * d + f) from nI_add _ _) ?_
        refine l_Rcontents (pc := 21) C E (by omega) dX12_hasOf_21 ?_
        refine x_eq (show M 6 (8 * d + f) = vC (sV (σ)) d f from (rr_ct h (by omega) (by omega))) ?_
        refine x_iconst (pc := 22) (v := (-1)) C dX12_hasOf_22 rfl ?_
        refine x_icmp_ne (pc := 23) C 30 dX12_hasOf_23 (by decide) (fun h23 => ?_) (fun h23 => ?_)
        · refine x_iconst (pc := 30) (v := (nI 1)) C dX12_hasOf_30 (by decide) ?_
          refine x_iadd (pc := 31) C dX12_hasOf_31 ?_
          refine x_eq (show (nI (cnt (vHas (sV σ) d) f)) + (nI 1) = nI (cnt (vHas (sV σ) d) f + 1) from nI_add _ _) ?_
          refine x_istore_n (pc := 32) (L' := [(2, .int (nI (cnt (vHas (sV σ) d) f + 1))), (3, .int (nI f)), (0, .ref (t.1 0)), (1, .int (nI d))]) C dX12_hasOf_32 (by decide) rfl ?_
          refine x_iinc (pc := 33) (v := nI (f + 1)) (L' := [(3, .int (nI (f + 1))), (2, .int (nI (cnt (vHas (sV σ) d) f + 1))), (0, .ref (t.1 0)), (1, .int (nI d))]) C 1 dX12_hasOf_33 rfl (nI_1 _) (by decide) rfl ?_
          refine x_goto (pc := 36) C 4 dX12_hasOf_36 (by decide) ?_
          refine x_sub [0, 1, 2, 3] rfl ?_
          exact ih (f + 1) _ _ (by omega) (by rw [cnt_S]; unfold vHas; rw [decide_eq_false h23]; rfl) rfl
        · refine x_iconst (pc := 26) (v := (nI 0)) C dX12_hasOf_26 (by decide) ?_
          refine x_goto (pc := 27) C 31 dX12_hasOf_27 (by decide) ?_
          refine x_iadd (pc := 31) C dX12_hasOf_31 ?_
          refine x_eq (show (nI (cnt (vHas (sV σ) d) f)) + (nI 0) = nI (cnt (vHas (sV σ) d) f + 0) from nI_add _ _) ?_
          refine x_istore_n (pc := 32) (L' := [(2, .int (nI (cnt (vHas (sV σ) d) f + 0))), (3, .int (nI f)), (0, .ref (t.1 0)), (1, .int (nI d))]) C dX12_hasOf_32 (by decide) rfl ?_
          refine x_iinc (pc := 33) (v := nI (f + 1)) (L' := [(3, .int (nI (f + 1))), (2, .int (nI (cnt (vHas (sV σ) d) f + 0))), (0, .ref (t.1 0)), (1, .int (nI d))]) C 1 dX12_hasOf_33 rfl (nI_1 _) (by decide) rfl ?_
          refine x_goto (pc := 36) C 4 dX12_hasOf_36 (by decide) ?_
          refine x_sub [0, 1, 2, 3] rfl ?_
          exact ih (f + 1) _ _ (by omega) (by rw [cnt_S]; unfold vHas; rw [decide_eq_true h23]; rfl) rfl
  refine x_sub [0, 1, 2, 3] rfl ?_
  exact loop4 8 0 _ _ (by omega) rfl rfl

set_option maxRecDepth 100000 in
set_option maxHeartbeats 800000 in
theorem c_X12_hasRoom (t : CT) {σ : SV} {M : MM} (h : RR σ M) {d : Nat} (hd : d < vN (sV σ)) {f : Nat} (hf : f < 8)  : XMet (wR t) yX12_hasRoom cX12_hasRoom 3 (some .boolean) 2 [.ref (t.1 0), .int (nI d), .int (nI f)] M (rI (b2i (vTi (sV σ) d f)) M) := by
  refine x_met RX12 (by decide) rfl (Nat.le_of_ble_eq_true rfl) (fun κ C X E => ?_)
  refine x_L (L' := [(0, .ref (t.1 0)), (1, .int (nI d)), (2, .int (nI f))]) rfl ?_
  have hn6 := rr_n6 h
  refine x_aload_n (pc := 0) C 0 dX12_hasRoom_0 rfl ?_
  refine g_M_contents (pc := 1) C E q11_17 dX12_hasRoom_1 ?_
  refine x_bipush (pc := 4) (v := (nI 8)) C dX12_hasRoom_4 (by decide) ?_
  refine x_iload_n (pc := 6) C 1 dX12_hasRoom_6 rfl ?_
  refine x_imul (pc := 7) C dX12_hasRoom_7 ?_
  refine x_eq (show (nI 8) * (nI d) = nI (8 * d) from pk_mul _ _) ?_
  refine x_iload_n (pc := 8) C 2 dX12_hasRoom_8 rfl ?_
  refine x_iadd (pc := 9) C dX12_hasRoom_9 ?_
  refine x_eq (show (nI (8 * d)) + (nI f) = nI (8 * d + f) from nI_add _ _) ?_
  refine l_Rcontents (pc := 10) C E (by omega) dX12_hasRoom_10 ?_
  refine x_eq (show M 6 (8 * d + f) = vC (sV (σ)) d f from (rr_ct h (by omega) (by omega))) ?_
  refine x_iconst (pc := 11) (v := (-1)) C dX12_hasRoom_11 rfl ?_
  refine x_icmp_ne (pc := 12) C 28 dX12_hasRoom_12 (by decide) (fun h12 => ?_) (fun h12 => ?_)
  · refine x_iconst (pc := 28) (v := (nI 1)) C dX12_hasRoom_28 (by decide) ?_
    refine x_goto (pc := 29) C 33 dX12_hasRoom_29 (by decide) ?_
    exact x_bret (pc := 33) C X (b := true) rfl dX12_hasRoom_33 (rI_b (Eq.symm (by unfold vTi vHas; rw [decide_eq_false h12]; rfl)))
  · refine x_aload_n (pc := 15) C 0 dX12_hasRoom_15 rfl ?_
    refine x_iload_n (pc := 16) C 1 dX12_hasRoom_16 rfl ?_
    refine x_callV (pc := 17) C E [.int (nI d)] [] ( c_X12_hasOf t h (d := d) (by omega)) m_X12_hasOf q14_8 xo_M rfl (by decide) (Nat.le_of_ble_eq_true rfl) dX12_hasRoom_17 rfl (k_I ?_)
    refine x_aload_n (pc := 20) C 0 dX12_hasRoom_20 rfl ?_
    refine x_iload_n (pc := 21) C 1 dX12_hasRoom_21 rfl ?_
    refine x_callV (pc := 22) C E [.int (nI d)] [.int (nI (vCn (sV (σ)) d))] ( c_X12_roomOf t h (d := d) (by omega)) m_X12_roomOf q14_4 xo_M rfl (by decide) (Nat.le_of_ble_eq_true rfl) dX12_hasRoom_22 rfl (k_I ?_)
    refine x_icmp_ge (pc := 25) C 32 dX12_hasRoom_25 (by decide) (fun h25 => ?_) (fun h25 => ?_)
    · refine x_iconst (pc := 32) (v := (nI 0)) C dX12_hasRoom_32 (by decide) ?_
      exact x_bret (pc := 33) C X (b := false) rfl dX12_hasRoom_33 (rI_b (Eq.symm (by unfold vTi vHas; rw [decide_eq_true h12, decide_eq_false (Int32.not_lt.mpr h25)]; rfl)))
    · refine x_iconst (pc := 28) (v := (nI 1)) C dX12_hasRoom_28 (by decide) ?_
      refine x_goto (pc := 29) C 33 dX12_hasRoom_29 (by decide) ?_
      exact x_bret (pc := 33) C X (b := true) rfl dX12_hasRoom_33 (rI_b (Eq.symm (by unfold vTi vHas; rw [decide_eq_true h12, decide_eq_true (Int32.not_le.mp h25)]; rfl)))

