theorem sWs_cg {σ : SV} {p q : Nat → Bool} : ∀ n, (∀ f, f < n → p f = q f) → sWs σ p n = sWs σ q n := by
  intro n
  induction n with
  | zero => intro _; rfl
  | succ n ih =>
    intro h
    rw [sWs, sWs, ih (fun f hf => h f (by omega)), h n (by omega)]
theorem wo_or {v : WV} {gn S : Int32} (hn : vN v ≤ 6) (hS : ∀ d, d < vN v → bt S d = (vRd v d && !bt gn d)) {f : Nat} (hf : f < 8) : woP v gn f = bt (vOr v (bt S)) f := by
  unfold vOr
  rw [bt_mk _ 8 (by decide) f (by omega), decide_eq_true hf, Bool.true_and]
  unfold woP
  refine anyN_congr fun d hd => ?_
  rw [hS d hd]
  unfold vOnG vOn
  cases vHas v d f <;> cases vRd v d <;> cases bt gn d <;> rfl
theorem sRs_bt {σ : SV} (hn : vN (sV σ) ≤ 6) {d : Nat} (hd : d < vN (sV σ)) : bt (sRs σ) d = vRd (sV σ) d := by
  unfold sRs
  rw [bt_mk _ _ (by omega) d (by omega), decide_eq_true hd, Bool.true_and]
theorem wo_all {σ : SV} (hn : vN (sV σ) ≤ 6) : sWs σ (woP (sV σ) 0) 8 = sWs σ (bt (vOr (sV σ) (bt (sRs σ)))) 8 :=
  sWs_cg 8 fun f hf => wo_or hn (fun d hd => by rw [sRs_bt hn hd, b_0]; exact (Bool.and_true _).symm) hf
theorem told_0 (σ : SV) (x : Int32) : a_told σ x 0 = vD (sV σ) := by unfold a_told; rw [if_pos rfl]
theorem told_k {σ : SV} {d : Nat} (hn : vN (sV σ) ≤ 6) (hd : d < vN (sV σ)) : a_told σ (nI d) 1 = vU (sV σ) d ∧ a_told σ (nI d) 2 = vS (sV σ) d ∧ a_told σ (nI d) 3 = nI (vK (sV σ) d) := by
  have hb := inB_nI hd (by omega)
  have ho := oN_nI (n := d) (by omega)
  unfold a_told
  rw [ho, hb]
  exact ⟨by rfl, by rfl, by rfl⟩
set_option maxRecDepth 100000 in
set_option maxHeartbeats 800000 in
theorem c_X12_file (t : CT) {σ : SV} {M : MM} (h : RR σ M) (hg : M 0 28 = 0) (x1 x2 x3 : Int32)  : XMet (wR t) yX12_file cX12_file 4 (some .int) 3 [.ref (t.1 0), .int x1, .int x2, .int x3] M (oQ (σ, a_file σ x1 x2 x3)) := by
  refine x_met RX12 (by decide) rfl (Nat.le_of_ble_eq_true rfl) (fun κ C X E => ?_)
  refine x_L (L' := [(0, .ref (t.1 0)), (1, .int x1), (2, .int x2), (3, .int x3)]) rfl ?_
  have hn6 := rr_n6 h
  have hN6 := h.1.1
  have hq := rr_q h
  have hB := h.1.2.1
  refine x_aload_n (pc := 0) C 0 dX12_file_0 rfl ?_
  refine x_iload_n (pc := 1) C 1 dX12_file_1 rfl ?_
  refine x_callV (pc := 2) C E [.int x1] [] ( c_X12_isDisk t h _) m_X12_isDisk q13_9 xo_M rfl (by decide) (Nat.le_of_ble_eq_true rfl) dX12_file_2 rfl (k_I ?_)
  refine x_ifb_eq (pc := 5) C 25 dX12_file_5 (by decide) (fun h5 => ?_) (fun h5 => ?_)
  · refine x_bipush (pc := 25) (v := (-2)) C dX12_file_25 rfl ?_
    exact x_iret (pc := 27) C X dX12_file_27 (faq (by
          unfold a_file
          repeat (first | with_reducible rfl | (refine (if_pos ?_).trans ?_; ((try simp only [inB_t, inB_f, i_lt, i_le, i_eq, ne_eq, Bool.not_eq_true, Bool.not_eq_false, hpB, decide_eq_true_eq, decide_eq_false_iff_not, li_0, li_1, li_2, li_3, li_4, li_5, li_6, li_7, li_8, li_9, li_10, li_20, li_40, li_99, li_100, li_255, li_899, li_999, li_m1, li_m2, li_m3, li_m4, li_m11, li_m12, li_m13, li_m14, li_m100] at h5 ⊢) <;> omega)) | (refine (if_neg ?_).trans ?_; ((try simp only [inB_t, inB_f, i_lt, i_le, i_eq, ne_eq, Bool.not_eq_true, Bool.not_eq_false, hpB, decide_eq_true_eq, decide_eq_false_iff_not, li_0, li_1, li_2, li_3, li_4, li_5, li_6, li_7, li_8, li_9, li_10, li_20, li_40, li_99, li_100, li_255, li_899, li_999, li_m1, li_m2, li_m3, li_m4, li_m11, li_m12, li_m13, li_m14, li_m100] at h5 ⊢) <;> omega)) | fail)
          all_goals (first | with_reducible rfl | (exfalso; ((try simp only [inB_t, inB_f, i_lt, i_le, i_eq, ne_eq, Bool.not_eq_true, Bool.not_eq_false, hpB, decide_eq_true_eq, decide_eq_false_iff_not, li_0, li_1, li_2, li_3, li_4, li_5, li_6, li_7, li_8, li_9, li_10, li_20, li_40, li_99, li_100, li_255, li_899, li_999, li_m1, li_m2, li_m3, li_m4, li_m11, li_m12, li_m13, li_m14, li_m100] at h5 ⊢) <;> omega)))) h hg)
  · refine x_iload_n (pc := 8) C 2 dX12_file_8 rfl ?_
    refine x_callS (pc := 9) C E [.int x2] [] (c_X12_isFile t _ _) m_X12_isFile q25_22 rfl (by decide) (Nat.le_of_ble_eq_true rfl) dX12_file_9 rfl (k_I ?_)
    refine x_ifb_eq (pc := 12) C 25 dX12_file_12 (by decide) (fun h12 => ?_) (fun h12 => ?_)
    · refine x_bipush (pc := 25) (v := (-2)) C dX12_file_25 rfl ?_
      exact x_iret (pc := 27) C X dX12_file_27 (faq (by
            unfold a_file
            repeat (first | with_reducible rfl | (refine (if_pos ?_).trans ?_; ((try simp only [inB_t, inB_f, i_lt, i_le, i_eq, ne_eq, Bool.not_eq_true, Bool.not_eq_false, hpB, decide_eq_true_eq, decide_eq_false_iff_not, li_0, li_1, li_2, li_3, li_4, li_5, li_6, li_7, li_8, li_9, li_10, li_20, li_40, li_99, li_100, li_255, li_899, li_999, li_m1, li_m2, li_m3, li_m4, li_m11, li_m12, li_m13, li_m14, li_m100] at h5 h12 ⊢) <;> omega)) | (refine (if_neg ?_).trans ?_; ((try simp only [inB_t, inB_f, i_lt, i_le, i_eq, ne_eq, Bool.not_eq_true, Bool.not_eq_false, hpB, decide_eq_true_eq, decide_eq_false_iff_not, li_0, li_1, li_2, li_3, li_4, li_5, li_6, li_7, li_8, li_9, li_10, li_20, li_40, li_99, li_100, li_255, li_899, li_999, li_m1, li_m2, li_m3, li_m4, li_m11, li_m12, li_m13, li_m14, li_m100] at h5 h12 ⊢) <;> omega)) | fail)
            all_goals (first | with_reducible rfl | (exfalso; ((try simp only [inB_t, inB_f, i_lt, i_le, i_eq, ne_eq, Bool.not_eq_true, Bool.not_eq_false, hpB, decide_eq_true_eq, decide_eq_false_iff_not, li_0, li_1, li_2, li_3, li_4, li_5, li_6, li_7, li_8, li_9, li_10, li_20, li_40, li_99, li_100, li_255, li_899, li_999, li_m1, li_m2, li_m3, li_m4, li_m11, li_m12, li_m13, li_m14, li_m100] at h5 h12 ⊢) <;> omega)))) h hg)
    · refine x_iload_n (pc := 15) C 3 dX12_file_15 rfl ?_
      refine x_i2l (pc := 16) C dX12_file_16 ?_
      refine x_lconst (pc := 17) (v := 0) C dX12_file_17 rfl ?_
      refine x_lconst (pc := 18) (v := 1) C dX12_file_18 rfl ?_
      refine x_callS (pc := 19) C E [.long (Int32.toInt64 x3), .long 0, .long 1] [] (c_X12_inB t _ x3 (n := 2) (by decide) (by decide)) m_X12_in q13_6 rfl (by decide) (Nat.le_of_ble_eq_true rfl) dX12_file_19 rfl (k_I ?_)
      refine x_ifb_ne (pc := 22) C 28 dX12_file_22 (by decide) (fun h22 => ?_) (fun h22 => ?_)
      · obtain ⟨d, hd, ed⟩ := inB_of h5 (by omega)
        have htd := nI_toInt (n := d) (by omega)
        have hod := oN_nI (n := d) (by omega)
        subst ed
        obtain ⟨f, hf, ef⟩ := inB_of h12 (by omega)
        have htf := nI_toInt (n := f) (by omega)
        have hof := oN_nI (n := f) (by omega)
        subst ef
        refine x_iload_n (pc := 28) C 3 dX12_file_28 rfl ?_
        refine x_if_ne (pc := 29) C 46 dX12_file_29 (by decide) (fun h29 => ?_) (fun h29 => ?_)
        · refine x_aload_n (pc := 46) C 0 dX12_file_46 rfl ?_
          refine g_M_stamps (pc := 47) C E q11_18 dX12_file_47 ?_
          refine x_bipush (pc := 50) (v := (nI 8)) C dX12_file_50 (by decide) ?_
          refine x_iload_n (pc := 52) C 1 dX12_file_52 rfl ?_
          refine x_imul (pc := 53) C dX12_file_53 ?_
          refine x_eq (show (nI 8) * (nI d) = nI (8 * d) from pk_mul _ _) ?_
          refine x_iload_n (pc := 54) C 2 dX12_file_54 rfl ?_
          refine x_iadd (pc := 55) C dX12_file_55 ?_
          refine x_eq (show (nI (8 * d)) + (nI f) = nI (8 * d + f) from nI_add _ _) ?_
          refine l_Rstamps (pc := 56) C E (by omega) dX12_file_56 ?_
          refine x_eq (show M 7 (8 * d + f) = vT (sV (σ)) d f from (rr_st h (by omega) (by omega))) ?_
          exact x_iret (pc := 57) C X dX12_file_57 (faq (by
                unfold a_file
                simp only [hod, hof]
                repeat (first | with_reducible rfl | (refine (if_pos ?_).trans ?_; ((try simp only [inB_t, inB_f, i_lt, i_le, i_eq, ne_eq, Bool.not_eq_true, Bool.not_eq_false, hpB, decide_eq_true_eq, decide_eq_false_iff_not, li_0, li_1, li_2, li_3, li_4, li_5, li_6, li_7, li_8, li_9, li_10, li_20, li_40, li_99, li_100, li_255, li_899, li_999, li_m1, li_m2, li_m3, li_m4, li_m11, li_m12, li_m13, li_m14, li_m100] at h5 h12 h22 htd htf h29 ⊢) <;> omega)) | (refine (if_neg ?_).trans ?_; ((try simp only [inB_t, inB_f, i_lt, i_le, i_eq, ne_eq, Bool.not_eq_true, Bool.not_eq_false, hpB, decide_eq_true_eq, decide_eq_false_iff_not, li_0, li_1, li_2, li_3, li_4, li_5, li_6, li_7, li_8, li_9, li_10, li_20, li_40, li_99, li_100, li_255, li_899, li_999, li_m1, li_m2, li_m3, li_m4, li_m11, li_m12, li_m13, li_m14, li_m100] at h5 h12 h22 htd htf h29 ⊢) <;> omega)) | fail)
                all_goals (first | with_reducible rfl | (exfalso; ((try simp only [inB_t, inB_f, i_lt, i_le, i_eq, ne_eq, Bool.not_eq_true, Bool.not_eq_false, hpB, decide_eq_true_eq, decide_eq_false_iff_not, li_0, li_1, li_2, li_3, li_4, li_5, li_6, li_7, li_8, li_9, li_10, li_20, li_40, li_99, li_100, li_255, li_899, li_999, li_m1, li_m2, li_m3, li_m4, li_m11, li_m12, li_m13, li_m14, li_m100] at h5 h12 h22 htd htf h29 ⊢) <;> omega)))) h hg)
        · refine x_aload_n (pc := 32) C 0 dX12_file_32 rfl ?_
          refine g_M_contents (pc := 33) C E q11_17 dX12_file_33 ?_
          refine x_bipush (pc := 36) (v := (nI 8)) C dX12_file_36 (by decide) ?_
          refine x_iload_n (pc := 38) C 1 dX12_file_38 rfl ?_
          refine x_imul (pc := 39) C dX12_file_39 ?_
          refine x_eq (show (nI 8) * (nI d) = nI (8 * d) from pk_mul _ _) ?_
          refine x_iload_n (pc := 40) C 2 dX12_file_40 rfl ?_
          refine x_iadd (pc := 41) C dX12_file_41 ?_
          refine x_eq (show (nI (8 * d)) + (nI f) = nI (8 * d + f) from nI_add _ _) ?_
          refine l_Rcontents (pc := 42) C E (by omega) dX12_file_42 ?_
          refine x_eq (show M 6 (8 * d + f) = vC (sV (σ)) d f from (rr_ct h (by omega) (by omega))) ?_
          refine x_goto (pc := 43) C 57 dX12_file_43 (by decide) ?_
          exact x_iret (pc := 57) C X dX12_file_57 (faq (by
                unfold a_file
                simp only [hod, hof]
                repeat (first | with_reducible rfl | (refine (if_pos ?_).trans ?_; ((try simp only [inB_t, inB_f, i_lt, i_le, i_eq, ne_eq, Bool.not_eq_true, Bool.not_eq_false, hpB, decide_eq_true_eq, decide_eq_false_iff_not, li_0, li_1, li_2, li_3, li_4, li_5, li_6, li_7, li_8, li_9, li_10, li_20, li_40, li_99, li_100, li_255, li_899, li_999, li_m1, li_m2, li_m3, li_m4, li_m11, li_m12, li_m13, li_m14, li_m100] at h5 h12 h22 htd htf h29 ⊢) <;> omega)) | (refine (if_neg ?_).trans ?_; ((try simp only [inB_t, inB_f, i_lt, i_le, i_eq, ne_eq, Bool.not_eq_true, Bool.not_eq_false, hpB, decide_eq_true_eq, decide_eq_false_iff_not, li_0, li_1, li_2, li_3, li_4, li_5, li_6, li_7, li_8, li_9, li_10, li_20, li_40, li_99, li_100, li_255, li_899, li_999, li_m1, li_m2, li_m3, li_m4, li_m11, li_m12, li_m13, li_m14, li_m100] at h5 h12 h22 htd htf h29 ⊢) <;> omega)) | fail)
                all_goals (first | with_reducible rfl | (exfalso; ((try simp only [inB_t, inB_f, i_lt, i_le, i_eq, ne_eq, Bool.not_eq_true, Bool.not_eq_false, hpB, decide_eq_true_eq, decide_eq_false_iff_not, li_0, li_1, li_2, li_3, li_4, li_5, li_6, li_7, li_8, li_9, li_10, li_20, li_40, li_99, li_100, li_255, li_899, li_999, li_m1, li_m2, li_m3, li_m4, li_m11, li_m12, li_m13, li_m14, li_m100] at h5 h12 h22 htd htf h29 ⊢) <;> omega)))) h hg)
      · refine x_bipush (pc := 25) (v := (-2)) C dX12_file_25 rfl ?_
        exact x_iret (pc := 27) C X dX12_file_27 (faq (by
              unfold a_file
              repeat (first | with_reducible rfl | (refine (if_pos ?_).trans ?_; ((try simp only [inB_t, inB_f, i_lt, i_le, i_eq, ne_eq, Bool.not_eq_true, Bool.not_eq_false, hpB, decide_eq_true_eq, decide_eq_false_iff_not, li_0, li_1, li_2, li_3, li_4, li_5, li_6, li_7, li_8, li_9, li_10, li_20, li_40, li_99, li_100, li_255, li_899, li_999, li_m1, li_m2, li_m3, li_m4, li_m11, li_m12, li_m13, li_m14, li_m100] at h5 h12 h22 ⊢) <;> omega)) | (refine (if_neg ?_).trans ?_; ((try simp only [inB_t, inB_f, i_lt, i_le, i_eq, ne_eq, Bool.not_eq_true, Bool.not_eq_false, hpB, decide_eq_true_eq, decide_eq_false_iff_not, li_0, li_1, li_2, li_3, li_4, li_5, li_6, li_7, li_8, li_9, li_10, li_20, li_40, li_99, li_100, li_255, li_899, li_999, li_m1, li_m2, li_m3, li_m4, li_m11, li_m12, li_m13, li_m14, li_m100] at h5 h12 h22 ⊢) <;> omega)) | fail)
              all_goals (first | with_reducible rfl | (exfalso; ((try simp only [inB_t, inB_f, i_lt, i_le, i_eq, ne_eq, Bool.not_eq_true, Bool.not_eq_false, hpB, decide_eq_true_eq, decide_eq_false_iff_not, li_0, li_1, li_2, li_3, li_4, li_5, li_6, li_7, li_8, li_9, li_10, li_20, li_40, li_99, li_100, li_255, li_899, li_999, li_m1, li_m2, li_m3, li_m4, li_m11, li_m12, li_m13, li_m14, li_m100] at h5 h12 h22 ⊢) <;> omega)))) h hg)

set_option maxRecDepth 100000 in
set_option maxHeartbeats 800000 in
theorem c_X12_told (t : CT) {σ : SV} {M : MM} (h : RR σ M) (hg : M 0 28 = 0) (x1 x2 : Int32)  : XMet (wR t) yX12_told cX12_told 3 (some .int) 65 [.ref (t.1 0), .int x1, .int x2] M (sQ M (a_told σ x1 x2)) := by
  refine x_met RX12 (by decide) rfl (Nat.le_of_ble_eq_true rfl) (fun κ C X E => ?_)
  refine x_L (L' := [(0, .ref (t.1 0)), (1, .int x1), (2, .int x2)]) rfl ?_
  have hn6 := rr_n6 h
  have hN6 := h.1.1
  have hq := rr_q h
  have hB := h.1.2.1
  refine x_iload_n (pc := 0) C 2 dX12_told_0 rfl ?_
  refine x_i2l (pc := 1) C dX12_told_1 ?_
  refine x_lconst (pc := 2) (v := 0) C dX12_told_2 rfl ?_
  refine x_ldc2 (pc := 3) (v := 8) C q13_18 dX12_told_3 ?_
  refine x_callS (pc := 6) C E [.long (Int32.toInt64 x2), .long 0, .long 8] [] (c_X12_inB t _ x2 (n := 9) (by decide) (by decide)) m_X12_in q13_6 rfl (by decide) (Nat.le_of_ble_eq_true rfl) dX12_told_6 rfl (k_I ?_)
  refine x_ifb_eq (pc := 9) C 24 dX12_told_9 (by decide) (fun h9 => ?_) (fun h9 => ?_)
  · refine x_bipush (pc := 24) (v := (-2)) C dX12_told_24 rfl ?_
    exact x_iret (pc := 26) C X dX12_told_26 (fsq (by
          unfold a_told
          repeat (first | with_reducible rfl | (refine (if_pos ?_).trans ?_; ((try simp only [inB_t, inB_f, i_lt, i_le, i_eq, ne_eq, Bool.not_eq_true, Bool.not_eq_false, hpB, decide_eq_true_eq, decide_eq_false_iff_not, li_0, li_1, li_2, li_3, li_4, li_5, li_6, li_7, li_8, li_9, li_10, li_20, li_40, li_99, li_100, li_255, li_899, li_999, li_m1, li_m2, li_m3, li_m4, li_m11, li_m12, li_m13, li_m14, li_m100] at h9 ⊢) <;> omega)) | (refine (if_neg ?_).trans ?_; ((try simp only [inB_t, inB_f, i_lt, i_le, i_eq, ne_eq, Bool.not_eq_true, Bool.not_eq_false, hpB, decide_eq_true_eq, decide_eq_false_iff_not, li_0, li_1, li_2, li_3, li_4, li_5, li_6, li_7, li_8, li_9, li_10, li_20, li_40, li_99, li_100, li_255, li_899, li_999, li_m1, li_m2, li_m3, li_m4, li_m11, li_m12, li_m13, li_m14, li_m100] at h9 ⊢) <;> omega)) | fail)
          all_goals (first | with_reducible rfl | (exfalso; ((try simp only [inB_t, inB_f, i_lt, i_le, i_eq, ne_eq, Bool.not_eq_true, Bool.not_eq_false, hpB, decide_eq_true_eq, decide_eq_false_iff_not, li_0, li_1, li_2, li_3, li_4, li_5, li_6, li_7, li_8, li_9, li_10, li_20, li_40, li_99, li_100, li_255, li_899, li_999, li_m1, li_m2, li_m3, li_m4, li_m11, li_m12, li_m13, li_m14, li_m100] at h9 ⊢) <;> omega)))) Sc.rf)
  · refine x_iload_n (pc := 12) C 2 dX12_told_12 rfl ?_
    refine x_if_le (pc := 13) C 27 dX12_told_13 (by decide) (fun h13 => ?_) (fun h13 => ?_)
    · obtain rfl : x2 = 0 := i_eq.mpr (by ((try simp only [inB_t, inB_f, i_lt, i_le, i_eq, ne_eq, Bool.not_eq_true, Bool.not_eq_false, hpB, decide_eq_true_eq, decide_eq_false_iff_not, li_0, li_1, li_2, li_3, li_4, li_5, li_6, li_7, li_8, li_9, li_10, li_20, li_40, li_99, li_100, li_255, li_899, li_999, li_m1, li_m2, li_m3, li_m4, li_m11, li_m12, li_m13, li_m14, li_m100] at h9 h13 ⊢) <;> omega))
      refine x_iload_n (pc := 27) C 2 dX12_told_27 rfl ?_
      refine x_iconst (pc := 28) (v := 4) C dX12_told_28 rfl ?_
      refine x_icmp_ge_f (pc := 29) C 70 dX12_told_29 (by decide) (by decide) ?_
      refine x_iload_n (pc := 32) C 2 dX12_told_32 rfl ?_
      refine x_if_ne_f (pc := 33) C 43 dX12_told_33 (by decide) (by decide) ?_
      refine x_aload_n (pc := 36) C 0 dX12_told_36 rfl ?_
      refine g_M_dayNow (pc := 37) C E q13_19 dX12_told_37 ?_
      refine x_eq (show M 0 7 = vD (sV (σ)) from (rr_day h)) ?_
      refine x_goto (pc := 40) C 69 dX12_told_40 (by decide) ?_
      exact x_iret (pc := 69) C X dX12_told_69 (fsq (by
            unfold a_told
            repeat (first | with_reducible rfl | (refine (if_pos ?_).trans ?_; ((try simp only [inB_t, inB_f, i_lt, i_le, i_eq, ne_eq, Bool.not_eq_true, Bool.not_eq_false, hpB, decide_eq_true_eq, decide_eq_false_iff_not, li_0, li_1, li_2, li_3, li_4, li_5, li_6, li_7, li_8, li_9, li_10, li_20, li_40, li_99, li_100, li_255, li_899, li_999, li_m1, li_m2, li_m3, li_m4, li_m11, li_m12, li_m13, li_m14, li_m100] at h9 h13 ⊢) <;> omega)) | (refine (if_neg ?_).trans ?_; ((try simp only [inB_t, inB_f, i_lt, i_le, i_eq, ne_eq, Bool.not_eq_true, Bool.not_eq_false, hpB, decide_eq_true_eq, decide_eq_false_iff_not, li_0, li_1, li_2, li_3, li_4, li_5, li_6, li_7, li_8, li_9, li_10, li_20, li_40, li_99, li_100, li_255, li_899, li_999, li_m1, li_m2, li_m3, li_m4, li_m11, li_m12, li_m13, li_m14, li_m100] at h9 h13 ⊢) <;> omega)) | fail)
            all_goals (first | with_reducible rfl | (exfalso; ((try simp only [inB_t, inB_f, i_lt, i_le, i_eq, ne_eq, Bool.not_eq_true, Bool.not_eq_false, hpB, decide_eq_true_eq, decide_eq_false_iff_not, li_0, li_1, li_2, li_3, li_4, li_5, li_6, li_7, li_8, li_9, li_10, li_20, li_40, li_99, li_100, li_255, li_899, li_999, li_m1, li_m2, li_m3, li_m4, li_m11, li_m12, li_m13, li_m14, li_m100] at h9 h13 ⊢) <;> omega)))) Sc.rf)
      
    · refine x_aload_n (pc := 16) C 0 dX12_told_16 rfl ?_
      refine x_iload_n (pc := 17) C 1 dX12_told_17 rfl ?_
      refine x_callV (pc := 18) C E [.int x1] [] ( c_X12_isDisk t h _) m_X12_isDisk q13_9 xo_M rfl (by decide) (Nat.le_of_ble_eq_true rfl) dX12_told_18 rfl (k_I ?_)
      refine x_ifb_ne (pc := 21) C 27 dX12_told_21 (by decide) (fun h21 => ?_) (fun h21 => ?_)
      · obtain ⟨d, hd, ed⟩ := inB_of h21 (by omega)
        have htd := nI_toInt (n := d) (by omega)
        have hod := oN_nI (n := d) (by omega)
        subst ed
        have hk9 : x2.toInt = 1 ∨ x2.toInt = 2 ∨ x2.toInt = 3 ∨ x2.toInt = 4 ∨ x2.toInt = 5 ∨ x2.toInt = 6 ∨ x2.toInt = 7 ∨ x2.toInt = 8 := (by ((try simp only [inB_t, inB_f, i_lt, i_le, i_eq, ne_eq, Bool.not_eq_true, Bool.not_eq_false, hpB, decide_eq_true_eq, decide_eq_false_iff_not, li_0, li_1, li_2, li_3, li_4, li_5, li_6, li_7, li_8, li_9, li_10, li_20, li_40, li_99, li_100, li_255, li_899, li_999, li_m1, li_m2, li_m3, li_m4, li_m11, li_m12, li_m13, li_m14, li_m100] at h9 h13 h21 htd ⊢) <;> omega))
        rcases hk9 with hk9 | hk9 | hk9 | hk9 | hk9 | hk9 | hk9 | hk9
        · obtain rfl : x2 = 1 := i_eq.mpr hk9
          refine x_iload_n (pc := 27) C 2 dX12_told_27 rfl ?_
          refine x_iconst (pc := 28) (v := 4) C dX12_told_28 rfl ?_
          refine x_icmp_ge_f (pc := 29) C 70 dX12_told_29 (by decide) (by decide) ?_
          refine x_iload_n (pc := 32) C 2 dX12_told_32 rfl ?_
          refine x_if_ne_t (pc := 33) C 43 dX12_told_33 (by decide) (by decide) ?_
          refine x_iload_n (pc := 43) C 2 dX12_told_43 rfl ?_
          refine x_iconst (pc := 44) (v := 3) C dX12_told_44 rfl ?_
          refine x_icmp_ge_f (pc := 45) C 63 dX12_told_45 (by decide) (by decide) ?_
          refine x_aload_n (pc := 48) C 0 dX12_told_48 rfl ?_
          refine g_M_rows (pc := 49) C E q11_16 dX12_told_49 ?_
          refine x_iconst (pc := 52) (v := (nI 2)) C dX12_told_52 (by decide) ?_
          refine x_iload_n (pc := 53) C 1 dX12_told_53 rfl ?_
          refine x_imul (pc := 54) C dX12_told_54 ?_
          refine x_eq (show (nI 2) * (nI d) = nI (2 * d) from pk_mul _ _) ?_
          refine x_iload_n (pc := 55) C 2 dX12_told_55 rfl ?_
          refine x_iadd (pc := 56) C dX12_told_56 ?_
          refine x_eq (show (nI (2 * d)) + 1 = nI (2 * d + 1) from nI_1 _) ?_
          refine x_iconst (pc := 57) (v := (nI 1)) C dX12_told_57 (by decide) ?_
          refine x_isub (pc := 58) C dX12_told_58 ?_
          refine x_eq (show (nI (2 * d + 1)) - (nI 1) = nI (2 * d) from pk_sub (b := 1) (by omega)) ?_
          refine l_Rrows (pc := 59) C E (by omega) dX12_told_59 ?_
          refine x_eq (show M 5 (2 * d) = vU (sV (σ)) d from (rr_num h (by omega))) ?_
          refine x_goto (pc := 60) C 69 dX12_told_60 (by decide) ?_
          exact x_iret (pc := 69) C X dX12_told_69 (fsq (by
                unfold a_told
                simp only [hod]
                repeat (first | with_reducible rfl | (refine (if_pos ?_).trans ?_; ((try simp only [inB_t, inB_f, i_lt, i_le, i_eq, ne_eq, Bool.not_eq_true, Bool.not_eq_false, hpB, decide_eq_true_eq, decide_eq_false_iff_not, li_0, li_1, li_2, li_3, li_4, li_5, li_6, li_7, li_8, li_9, li_10, li_20, li_40, li_99, li_100, li_255, li_899, li_999, li_m1, li_m2, li_m3, li_m4, li_m11, li_m12, li_m13, li_m14, li_m100] at h9 h13 h21 htd ⊢) <;> omega)) | (refine (if_neg ?_).trans ?_; ((try simp only [inB_t, inB_f, i_lt, i_le, i_eq, ne_eq, Bool.not_eq_true, Bool.not_eq_false, hpB, decide_eq_true_eq, decide_eq_false_iff_not, li_0, li_1, li_2, li_3, li_4, li_5, li_6, li_7, li_8, li_9, li_10, li_20, li_40, li_99, li_100, li_255, li_899, li_999, li_m1, li_m2, li_m3, li_m4, li_m11, li_m12, li_m13, li_m14, li_m100] at h9 h13 h21 htd ⊢) <;> omega)) | fail)
                all_goals (first | with_reducible rfl | (exfalso; ((try simp only [inB_t, inB_f, i_lt, i_le, i_eq, ne_eq, Bool.not_eq_true, Bool.not_eq_false, hpB, decide_eq_true_eq, decide_eq_false_iff_not, li_0, li_1, li_2, li_3, li_4, li_5, li_6, li_7, li_8, li_9, li_10, li_20, li_40, li_99, li_100, li_255, li_899, li_999, li_m1, li_m2, li_m3, li_m4, li_m11, li_m12, li_m13, li_m14, li_m100] at h9 h13 h21 htd ⊢) <;> omega)))) Sc.rf)
        · obtain rfl : x2 = 2 := i_eq.mpr hk9
          refine x_iload_n (pc := 27) C 2 dX12_told_27 rfl ?_
          refine x_iconst (pc := 28) (v := 4) C dX12_told_28 rfl ?_
          refine x_icmp_ge_f (pc := 29) C 70 dX12_told_29 (by decide) (by decide) ?_
          refine x_iload_n (pc := 32) C 2 dX12_told_32 rfl ?_
          refine x_if_ne_t (pc := 33) C 43 dX12_told_33 (by decide) (by decide) ?_
          refine x_iload_n (pc := 43) C 2 dX12_told_43 rfl ?_
          refine x_iconst (pc := 44) (v := 3) C dX12_told_44 rfl ?_
          refine x_icmp_ge_f (pc := 45) C 63 dX12_told_45 (by decide) (by decide) ?_
          refine x_aload_n (pc := 48) C 0 dX12_told_48 rfl ?_
          refine g_M_rows (pc := 49) C E q11_16 dX12_told_49 ?_
          refine x_iconst (pc := 52) (v := (nI 2)) C dX12_told_52 (by decide) ?_
          refine x_iload_n (pc := 53) C 1 dX12_told_53 rfl ?_
          refine x_imul (pc := 54) C dX12_told_54 ?_
          refine x_eq (show (nI 2) * (nI d) = nI (2 * d) from pk_mul _ _) ?_
          refine x_iload_n (pc := 55) C 2 dX12_told_55 rfl ?_
          refine x_iadd (pc := 56) C dX12_told_56 ?_
          refine x_eq (show (nI (2 * d)) + 2 = nI (2 * d + 2) from nI_add _ 2) ?_
          refine x_iconst (pc := 57) (v := (nI 1)) C dX12_told_57 (by decide) ?_
          refine x_isub (pc := 58) C dX12_told_58 ?_
          refine x_eq (show (nI (2 * d + 2)) - (nI 1) = nI (2 * d + 1) from pk_sub (b := 1) (by omega)) ?_
          refine l_Rrows (pc := 59) C E (by omega) dX12_told_59 ?_
          refine x_eq (show M 5 (2 * d + 1) = vS (sV (σ)) d from (rr_since h (by omega))) ?_
          refine x_goto (pc := 60) C 69 dX12_told_60 (by decide) ?_
          exact x_iret (pc := 69) C X dX12_told_69 (fsq (by
                unfold a_told
                simp only [hod]
                repeat (first | with_reducible rfl | (refine (if_pos ?_).trans ?_; ((try simp only [inB_t, inB_f, i_lt, i_le, i_eq, ne_eq, Bool.not_eq_true, Bool.not_eq_false, hpB, decide_eq_true_eq, decide_eq_false_iff_not, li_0, li_1, li_2, li_3, li_4, li_5, li_6, li_7, li_8, li_9, li_10, li_20, li_40, li_99, li_100, li_255, li_899, li_999, li_m1, li_m2, li_m3, li_m4, li_m11, li_m12, li_m13, li_m14, li_m100] at h9 h13 h21 htd ⊢) <;> omega)) | (refine (if_neg ?_).trans ?_; ((try simp only [inB_t, inB_f, i_lt, i_le, i_eq, ne_eq, Bool.not_eq_true, Bool.not_eq_false, hpB, decide_eq_true_eq, decide_eq_false_iff_not, li_0, li_1, li_2, li_3, li_4, li_5, li_6, li_7, li_8, li_9, li_10, li_20, li_40, li_99, li_100, li_255, li_899, li_999, li_m1, li_m2, li_m3, li_m4, li_m11, li_m12, li_m13, li_m14, li_m100] at h9 h13 h21 htd ⊢) <;> omega)) | fail)
                all_goals (first | with_reducible rfl | (exfalso; ((try simp only [inB_t, inB_f, i_lt, i_le, i_eq, ne_eq, Bool.not_eq_true, Bool.not_eq_false, hpB, decide_eq_true_eq, decide_eq_false_iff_not, li_0, li_1, li_2, li_3, li_4, li_5, li_6, li_7, li_8, li_9, li_10, li_20, li_40, li_99, li_100, li_255, li_899, li_999, li_m1, li_m2, li_m3, li_m4, li_m11, li_m12, li_m13, li_m14, li_m100] at h9 h13 h21 htd ⊢) <;> omega)))) Sc.rf)
        · obtain rfl : x2 = 3 := i_eq.mpr hk9
          refine x_iload_n (pc := 27) C 2 dX12_told_27 rfl ?_
          refine x_iconst (pc := 28) (v := 4) C dX12_told_28 rfl ?_
          refine x_icmp_ge_f (pc := 29) C 70 dX12_told_29 (by decide) (by decide) ?_
          refine x_iload_n (pc := 32) C 2 dX12_told_32 rfl ?_
          refine x_if_ne_t (pc := 33) C 43 dX12_told_33 (by decide) (by decide) ?_
          refine x_iload_n (pc := 43) C 2 dX12_told_43 rfl ?_
          refine x_iconst (pc := 44) (v := 3) C dX12_told_44 rfl ?_
          refine x_icmp_ge_t (pc := 45) C 63 dX12_told_45 (by decide) (by decide) ?_
          refine x_aload_n (pc := 63) C 0 dX12_told_63 rfl ?_
          refine g_M_kinds (pc := 64) C E q11_15 dX12_told_64 ?_
          refine x_iload_n (pc := 67) C 1 dX12_told_67 rfl ?_
          refine l_Rkinds (pc := 68) C E (by omega) dX12_told_68 ?_
          refine x_eq (show M 4 d = nI (vK (sV (σ)) d) from (rr_kd h (by omega))) ?_
          exact x_iret (pc := 69) C X dX12_told_69 (fsq (by
                unfold a_told
                simp only [hod]
                repeat (first | with_reducible rfl | (refine (if_pos ?_).trans ?_; ((try simp only [inB_t, inB_f, i_lt, i_le, i_eq, ne_eq, Bool.not_eq_true, Bool.not_eq_false, hpB, decide_eq_true_eq, decide_eq_false_iff_not, li_0, li_1, li_2, li_3, li_4, li_5, li_6, li_7, li_8, li_9, li_10, li_20, li_40, li_99, li_100, li_255, li_899, li_999, li_m1, li_m2, li_m3, li_m4, li_m11, li_m12, li_m13, li_m14, li_m100] at h9 h13 h21 htd ⊢) <;> omega)) | (refine (if_neg ?_).trans ?_; ((try simp only [inB_t, inB_f, i_lt, i_le, i_eq, ne_eq, Bool.not_eq_true, Bool.not_eq_false, hpB, decide_eq_true_eq, decide_eq_false_iff_not, li_0, li_1, li_2, li_3, li_4, li_5, li_6, li_7, li_8, li_9, li_10, li_20, li_40, li_99, li_100, li_255, li_899, li_999, li_m1, li_m2, li_m3, li_m4, li_m11, li_m12, li_m13, li_m14, li_m100] at h9 h13 h21 htd ⊢) <;> omega)) | fail)
                all_goals (first | with_reducible rfl | (exfalso; ((try simp only [inB_t, inB_f, i_lt, i_le, i_eq, ne_eq, Bool.not_eq_true, Bool.not_eq_false, hpB, decide_eq_true_eq, decide_eq_false_iff_not, li_0, li_1, li_2, li_3, li_4, li_5, li_6, li_7, li_8, li_9, li_10, li_20, li_40, li_99, li_100, li_255, li_899, li_999, li_m1, li_m2, li_m3, li_m4, li_m11, li_m12, li_m13, li_m14, li_m100] at h9 h13 h21 htd ⊢) <;> omega)))) Sc.rf)
        · obtain rfl : x2 = 4 := i_eq.mpr hk9
          refine x_iload_n (pc := 27) C 2 dX12_told_27 rfl ?_
          refine x_iconst (pc := 28) (v := 4) C dX12_told_28 rfl ?_
          refine x_icmp_ge_t (pc := 29) C 70 dX12_told_29 (by decide) (by decide) ?_
          refine x_iload_n (pc := 70) C 2 dX12_told_70 rfl ?_
          refine x_iconst (pc := 71) (v := 4) C dX12_told_71 rfl ?_
          refine x_icmp_ne_f (pc := 72) C 91 dX12_told_72 (by decide) (by decide) ?_
          refine x_aload_n (pc := 75) C 0 dX12_told_75 rfl ?_
          refine x_iload_n (pc := 76) C 1 dX12_told_76 rfl ?_
          refine x_callV (pc := 77) C E [.int (nI d)] [] ( c_X12_reads t h (d := d) (by omega)) m_X12_reads q13_20 xo_M rfl (by decide) (Nat.le_of_ble_eq_true rfl) dX12_told_77 rfl (k_I ?_)
          refine x_ifb_eq (pc := 80) C 87 dX12_told_80 (by decide) (fun h80 => ?_) (fun h80 => ?_)
          · refine x_iconst (pc := 87) (v := 0) C dX12_told_87 rfl ?_
            refine x_goto (pc := 88) C 137 dX12_told_88 (by decide) ?_
            exact x_iret (pc := 137) C X dX12_told_137 (fsq (by
                  unfold a_told
                  simp only [hod, h80, b2i_f]
                  repeat (first | with_reducible rfl | (refine (if_pos ?_).trans ?_; ((try simp only [inB_t, inB_f, i_lt, i_le, i_eq, ne_eq, Bool.not_eq_true, Bool.not_eq_false, hpB, decide_eq_true_eq, decide_eq_false_iff_not, li_0, li_1, li_2, li_3, li_4, li_5, li_6, li_7, li_8, li_9, li_10, li_20, li_40, li_99, li_100, li_255, li_899, li_999, li_m1, li_m2, li_m3, li_m4, li_m11, li_m12, li_m13, li_m14, li_m100] at h9 h13 h21 htd h80 ⊢) <;> omega)) | (refine (if_neg ?_).trans ?_; ((try simp only [inB_t, inB_f, i_lt, i_le, i_eq, ne_eq, Bool.not_eq_true, Bool.not_eq_false, hpB, decide_eq_true_eq, decide_eq_false_iff_not, li_0, li_1, li_2, li_3, li_4, li_5, li_6, li_7, li_8, li_9, li_10, li_20, li_40, li_99, li_100, li_255, li_899, li_999, li_m1, li_m2, li_m3, li_m4, li_m11, li_m12, li_m13, li_m14, li_m100] at h9 h13 h21 htd h80 ⊢) <;> omega)) | fail)
                  all_goals (first | with_reducible rfl | (exfalso; ((try simp only [inB_t, inB_f, i_lt, i_le, i_eq, ne_eq, Bool.not_eq_true, Bool.not_eq_false, hpB, decide_eq_true_eq, decide_eq_false_iff_not, li_0, li_1, li_2, li_3, li_4, li_5, li_6, li_7, li_8, li_9, li_10, li_20, li_40, li_99, li_100, li_255, li_899, li_999, li_m1, li_m2, li_m3, li_m4, li_m11, li_m12, li_m13, li_m14, li_m100] at h9 h13 h21 htd h80 ⊢) <;> omega)))) Sc.rf)
          · refine x_iconst (pc := 83) (v := 1) C dX12_told_83 rfl ?_
            refine x_goto (pc := 84) C 137 dX12_told_84 (by decide) ?_
            exact x_iret (pc := 137) C X dX12_told_137 (fsq (by
                  unfold a_told
                  simp only [hod, h80, b2i_t]
                  repeat (first | with_reducible rfl | (refine (if_pos ?_).trans ?_; ((try simp only [inB_t, inB_f, i_lt, i_le, i_eq, ne_eq, Bool.not_eq_true, Bool.not_eq_false, hpB, decide_eq_true_eq, decide_eq_false_iff_not, li_0, li_1, li_2, li_3, li_4, li_5, li_6, li_7, li_8, li_9, li_10, li_20, li_40, li_99, li_100, li_255, li_899, li_999, li_m1, li_m2, li_m3, li_m4, li_m11, li_m12, li_m13, li_m14, li_m100] at h9 h13 h21 htd h80 ⊢) <;> omega)) | (refine (if_neg ?_).trans ?_; ((try simp only [inB_t, inB_f, i_lt, i_le, i_eq, ne_eq, Bool.not_eq_true, Bool.not_eq_false, hpB, decide_eq_true_eq, decide_eq_false_iff_not, li_0, li_1, li_2, li_3, li_4, li_5, li_6, li_7, li_8, li_9, li_10, li_20, li_40, li_99, li_100, li_255, li_899, li_999, li_m1, li_m2, li_m3, li_m4, li_m11, li_m12, li_m13, li_m14, li_m100] at h9 h13 h21 htd h80 ⊢) <;> omega)) | fail)
                  all_goals (first | with_reducible rfl | (exfalso; ((try simp only [inB_t, inB_f, i_lt, i_le, i_eq, ne_eq, Bool.not_eq_true, Bool.not_eq_false, hpB, decide_eq_true_eq, decide_eq_false_iff_not, li_0, li_1, li_2, li_3, li_4, li_5, li_6, li_7, li_8, li_9, li_10, li_20, li_40, li_99, li_100, li_255, li_899, li_999, li_m1, li_m2, li_m3, li_m4, li_m11, li_m12, li_m13, li_m14, li_m100] at h9 h13 h21 htd h80 ⊢) <;> omega)))) Sc.rf)
        · obtain rfl : x2 = 5 := i_eq.mpr hk9
          refine x_iload_n (pc := 27) C 2 dX12_told_27 rfl ?_
          refine x_iconst (pc := 28) (v := 4) C dX12_told_28 rfl ?_
          refine x_icmp_ge_t (pc := 29) C 70 dX12_told_29 (by decide) (by decide) ?_
          refine x_iload_n (pc := 70) C 2 dX12_told_70 rfl ?_
          refine x_iconst (pc := 71) (v := 4) C dX12_told_71 rfl ?_
          refine x_icmp_ne_t (pc := 72) C 91 dX12_told_72 (by decide) (by decide) ?_
          refine x_iload_n (pc := 91) C 2 dX12_told_91 rfl ?_
          refine x_iconst (pc := 92) (v := 5) C dX12_told_92 rfl ?_
          refine x_icmp_ne_f (pc := 93) C 104 dX12_told_93 (by decide) (by decide) ?_
          refine x_aload_n (pc := 96) C 0 dX12_told_96 rfl ?_
          refine x_iload_n (pc := 97) C 1 dX12_told_97 rfl ?_
          refine x_callV (pc := 98) C E [.int (nI d)] [] ( c_X12_stampsOf t h (d := d) (by omega)) m_X12_stampsOf q14_0 xo_M rfl (by decide) (Nat.le_of_ble_eq_true rfl) dX12_told_98 rfl (k_I ?_)
          refine x_goto (pc := 101) C 137 dX12_told_101 (by decide) ?_
          exact x_iret (pc := 137) C X dX12_told_137 (fsq (by
                unfold a_told
                simp only [hod]
                repeat (first | with_reducible rfl | (refine (if_pos ?_).trans ?_; ((try simp only [inB_t, inB_f, i_lt, i_le, i_eq, ne_eq, Bool.not_eq_true, Bool.not_eq_false, hpB, decide_eq_true_eq, decide_eq_false_iff_not, li_0, li_1, li_2, li_3, li_4, li_5, li_6, li_7, li_8, li_9, li_10, li_20, li_40, li_99, li_100, li_255, li_899, li_999, li_m1, li_m2, li_m3, li_m4, li_m11, li_m12, li_m13, li_m14, li_m100] at h9 h13 h21 htd ⊢) <;> omega)) | (refine (if_neg ?_).trans ?_; ((try simp only [inB_t, inB_f, i_lt, i_le, i_eq, ne_eq, Bool.not_eq_true, Bool.not_eq_false, hpB, decide_eq_true_eq, decide_eq_false_iff_not, li_0, li_1, li_2, li_3, li_4, li_5, li_6, li_7, li_8, li_9, li_10, li_20, li_40, li_99, li_100, li_255, li_899, li_999, li_m1, li_m2, li_m3, li_m4, li_m11, li_m12, li_m13, li_m14, li_m100] at h9 h13 h21 htd ⊢) <;> omega)) | fail)
                all_goals (first | with_reducible rfl | (exfalso; ((try simp only [inB_t, inB_f, i_lt, i_le, i_eq, ne_eq, Bool.not_eq_true, Bool.not_eq_false, hpB, decide_eq_true_eq, decide_eq_false_iff_not, li_0, li_1, li_2, li_3, li_4, li_5, li_6, li_7, li_8, li_9, li_10, li_20, li_40, li_99, li_100, li_255, li_899, li_999, li_m1, li_m2, li_m3, li_m4, li_m11, li_m12, li_m13, li_m14, li_m100] at h9 h13 h21 htd ⊢) <;> omega)))) Sc.rf)
        · obtain rfl : x2 = 6 := i_eq.mpr hk9
          refine x_iload_n (pc := 27) C 2 dX12_told_27 rfl ?_
          refine x_iconst (pc := 28) (v := 4) C dX12_told_28 rfl ?_
          refine x_icmp_ge_t (pc := 29) C 70 dX12_told_29 (by decide) (by decide) ?_
          refine x_iload_n (pc := 70) C 2 dX12_told_70 rfl ?_
          refine x_iconst (pc := 71) (v := 4) C dX12_told_71 rfl ?_
          refine x_icmp_ne_t (pc := 72) C 91 dX12_told_72 (by decide) (by decide) ?_
          refine x_iload_n (pc := 91) C 2 dX12_told_91 rfl ?_
          refine x_iconst (pc := 92) (v := 5) C dX12_told_92 rfl ?_
          refine x_icmp_ne_t (pc := 93) C 104 dX12_told_93 (by decide) (by decide) ?_
          refine x_iload_n (pc := 104) C 2 dX12_told_104 rfl ?_
          refine x_bipush (pc := 105) (v := 6) C dX12_told_105 rfl ?_
          refine x_icmp_ne_f (pc := 107) C 118 dX12_told_107 (by decide) (by decide) ?_
          refine x_aload_n (pc := 110) C 0 dX12_told_110 rfl ?_
          refine x_iload_n (pc := 111) C 1 dX12_told_111 rfl ?_
          refine x_callV (pc := 112) C E [.int (nI d)] [] ( c_X12_roomOf t h (d := d) (by omega)) m_X12_roomOf q14_4 xo_M rfl (by decide) (Nat.le_of_ble_eq_true rfl) dX12_told_112 rfl (k_I ?_)
          refine x_goto (pc := 115) C 137 dX12_told_115 (by decide) ?_
          exact x_iret (pc := 137) C X dX12_told_137 (fsq (by
                unfold a_told
                simp only [hod]
                repeat (first | with_reducible rfl | (refine (if_pos ?_).trans ?_; ((try simp only [inB_t, inB_f, i_lt, i_le, i_eq, ne_eq, Bool.not_eq_true, Bool.not_eq_false, hpB, decide_eq_true_eq, decide_eq_false_iff_not, li_0, li_1, li_2, li_3, li_4, li_5, li_6, li_7, li_8, li_9, li_10, li_20, li_40, li_99, li_100, li_255, li_899, li_999, li_m1, li_m2, li_m3, li_m4, li_m11, li_m12, li_m13, li_m14, li_m100] at h9 h13 h21 htd ⊢) <;> omega)) | (refine (if_neg ?_).trans ?_; ((try simp only [inB_t, inB_f, i_lt, i_le, i_eq, ne_eq, Bool.not_eq_true, Bool.not_eq_false, hpB, decide_eq_true_eq, decide_eq_false_iff_not, li_0, li_1, li_2, li_3, li_4, li_5, li_6, li_7, li_8, li_9, li_10, li_20, li_40, li_99, li_100, li_255, li_899, li_999, li_m1, li_m2, li_m3, li_m4, li_m11, li_m12, li_m13, li_m14, li_m100] at h9 h13 h21 htd ⊢) <;> omega)) | fail)
                all_goals (first | with_reducible rfl | (exfalso; ((try simp only [inB_t, inB_f, i_lt, i_le, i_eq, ne_eq, Bool.not_eq_true, Bool.not_eq_false, hpB, decide_eq_true_eq, decide_eq_false_iff_not, li_0, li_1, li_2, li_3, li_4, li_5, li_6, li_7, li_8, li_9, li_10, li_20, li_40, li_99, li_100, li_255, li_899, li_999, li_m1, li_m2, li_m3, li_m4, li_m11, li_m12, li_m13, li_m14, li_m100] at h9 h13 h21 htd ⊢) <;> omega)))) Sc.rf)
        · obtain rfl : x2 = 7 := i_eq.mpr hk9
          refine x_iload_n (pc := 27) C 2 dX12_told_27 rfl ?_
          refine x_iconst (pc := 28) (v := 4) C dX12_told_28 rfl ?_
          refine x_icmp_ge_t (pc := 29) C 70 dX12_told_29 (by decide) (by decide) ?_
          refine x_iload_n (pc := 70) C 2 dX12_told_70 rfl ?_
          refine x_iconst (pc := 71) (v := 4) C dX12_told_71 rfl ?_
          refine x_icmp_ne_t (pc := 72) C 91 dX12_told_72 (by decide) (by decide) ?_
          refine x_iload_n (pc := 91) C 2 dX12_told_91 rfl ?_
          refine x_iconst (pc := 92) (v := 5) C dX12_told_92 rfl ?_
          refine x_icmp_ne_t (pc := 93) C 104 dX12_told_93 (by decide) (by decide) ?_
          refine x_iload_n (pc := 104) C 2 dX12_told_104 rfl ?_
          refine x_bipush (pc := 105) (v := 6) C dX12_told_105 rfl ?_
          refine x_icmp_ne_t (pc := 107) C 118 dX12_told_107 (by decide) (by decide) ?_
          refine x_iload_n (pc := 118) C 2 dX12_told_118 rfl ?_
          refine x_bipush (pc := 119) (v := 7) C dX12_told_119 rfl ?_
          refine x_icmp_ne_f (pc := 121) C 132 dX12_told_121 (by decide) (by decide) ?_
          refine x_aload_n (pc := 124) C 0 dX12_told_124 rfl ?_
          refine x_iload_n (pc := 125) C 1 dX12_told_125 rfl ?_
          refine x_callV (pc := 126) C E [.int (nI d)] [] ( c_X12_hasOf t h (d := d) (by omega)) m_X12_hasOf q14_8 xo_M rfl (by decide) (Nat.le_of_ble_eq_true rfl) dX12_told_126 rfl (k_I ?_)
          refine x_goto (pc := 129) C 137 dX12_told_129 (by decide) ?_
          exact x_iret (pc := 137) C X dX12_told_137 (fsq (by
                unfold a_told
                simp only [hod]
                repeat (first | with_reducible rfl | (refine (if_pos ?_).trans ?_; ((try simp only [inB_t, inB_f, i_lt, i_le, i_eq, ne_eq, Bool.not_eq_true, Bool.not_eq_false, hpB, decide_eq_true_eq, decide_eq_false_iff_not, li_0, li_1, li_2, li_3, li_4, li_5, li_6, li_7, li_8, li_9, li_10, li_20, li_40, li_99, li_100, li_255, li_899, li_999, li_m1, li_m2, li_m3, li_m4, li_m11, li_m12, li_m13, li_m14, li_m100] at h9 h13 h21 htd ⊢) <;> omega)) | (refine (if_neg ?_).trans ?_; ((try simp only [inB_t, inB_f, i_lt, i_le, i_eq, ne_eq, Bool.not_eq_true, Bool.not_eq_false, hpB, decide_eq_true_eq, decide_eq_false_iff_not, li_0, li_1, li_2, li_3, li_4, li_5, li_6, li_7, li_8, li_9, li_10, li_20, li_40, li_99, li_100, li_255, li_899, li_999, li_m1, li_m2, li_m3, li_m4, li_m11, li_m12, li_m13, li_m14, li_m100] at h9 h13 h21 htd ⊢) <;> omega)) | fail)
                all_goals (first | with_reducible rfl | (exfalso; ((try simp only [inB_t, inB_f, i_lt, i_le, i_eq, ne_eq, Bool.not_eq_true, Bool.not_eq_false, hpB, decide_eq_true_eq, decide_eq_false_iff_not, li_0, li_1, li_2, li_3, li_4, li_5, li_6, li_7, li_8, li_9, li_10, li_20, li_40, li_99, li_100, li_255, li_899, li_999, li_m1, li_m2, li_m3, li_m4, li_m11, li_m12, li_m13, li_m14, li_m100] at h9 h13 h21 htd ⊢) <;> omega)))) Sc.rf)
        · obtain rfl : x2 = 8 := i_eq.mpr hk9
          refine x_iload_n (pc := 27) C 2 dX12_told_27 rfl ?_
          refine x_iconst (pc := 28) (v := 4) C dX12_told_28 rfl ?_
          refine x_icmp_ge_t (pc := 29) C 70 dX12_told_29 (by decide) (by decide) ?_
          refine x_iload_n (pc := 70) C 2 dX12_told_70 rfl ?_
          refine x_iconst (pc := 71) (v := 4) C dX12_told_71 rfl ?_
          refine x_icmp_ne_t (pc := 72) C 91 dX12_told_72 (by decide) (by decide) ?_
          refine x_iload_n (pc := 91) C 2 dX12_told_91 rfl ?_
          refine x_iconst (pc := 92) (v := 5) C dX12_told_92 rfl ?_
          refine x_icmp_ne_t (pc := 93) C 104 dX12_told_93 (by decide) (by decide) ?_
          refine x_iload_n (pc := 104) C 2 dX12_told_104 rfl ?_
          refine x_bipush (pc := 105) (v := 6) C dX12_told_105 rfl ?_
          refine x_icmp_ne_t (pc := 107) C 118 dX12_told_107 (by decide) (by decide) ?_
          refine x_iload_n (pc := 118) C 2 dX12_told_118 rfl ?_
          refine x_bipush (pc := 119) (v := 7) C dX12_told_119 rfl ?_
          refine x_icmp_ne_t (pc := 121) C 132 dX12_told_121 (by decide) (by decide) ?_
          refine x_aload_n (pc := 132) C 0 dX12_told_132 rfl ?_
          refine x_iload_n (pc := 133) C 1 dX12_told_133 rfl ?_
          refine x_callV (pc := 134) C E [.int (nI d)] [] (c_X12_goesOf t h (d := d) (by omega)) m_X12_goesOf q14_12 xo_M rfl (by first | decide | omega) (Nat.le_of_ble_eq_true rfl) dX12_told_134 rfl (fun r M134 hc134 => ?_)
          obtain ⟨rfl, hS134⟩ := hc134
          show XV κ (xP (wR t) M134) 137 _ [.int (sLi (σ) (vR (sV (σ))) (vU (sV (σ)) d))]
          exact x_iret (pc := 137) C X dX12_told_137 (fsq (by
                unfold a_told
                simp only [hod]
                repeat (first | with_reducible rfl | (refine (if_pos ?_).trans ?_; ((try simp only [inB_t, inB_f, i_lt, i_le, i_eq, ne_eq, Bool.not_eq_true, Bool.not_eq_false, hpB, decide_eq_true_eq, decide_eq_false_iff_not, li_0, li_1, li_2, li_3, li_4, li_5, li_6, li_7, li_8, li_9, li_10, li_20, li_40, li_99, li_100, li_255, li_899, li_999, li_m1, li_m2, li_m3, li_m4, li_m11, li_m12, li_m13, li_m14, li_m100] at h9 h13 h21 htd ⊢) <;> omega)) | (refine (if_neg ?_).trans ?_; ((try simp only [inB_t, inB_f, i_lt, i_le, i_eq, ne_eq, Bool.not_eq_true, Bool.not_eq_false, hpB, decide_eq_true_eq, decide_eq_false_iff_not, li_0, li_1, li_2, li_3, li_4, li_5, li_6, li_7, li_8, li_9, li_10, li_20, li_40, li_99, li_100, li_255, li_899, li_999, li_m1, li_m2, li_m3, li_m4, li_m11, li_m12, li_m13, li_m14, li_m100] at h9 h13 h21 htd ⊢) <;> omega)) | fail)
                all_goals (first | with_reducible rfl | (exfalso; ((try simp only [inB_t, inB_f, i_lt, i_le, i_eq, ne_eq, Bool.not_eq_true, Bool.not_eq_false, hpB, decide_eq_true_eq, decide_eq_false_iff_not, li_0, li_1, li_2, li_3, li_4, li_5, li_6, li_7, li_8, li_9, li_10, li_20, li_40, li_99, li_100, li_255, li_899, li_999, li_m1, li_m2, li_m3, li_m4, li_m11, li_m12, li_m13, li_m14, li_m100] at h9 h13 h21 htd ⊢) <;> omega)))) hS134)
        
      · refine x_bipush (pc := 24) (v := (-2)) C dX12_told_24 rfl ?_
        exact x_iret (pc := 26) C X dX12_told_26 (fsq (by
              unfold a_told
              repeat (first | with_reducible rfl | (refine (if_pos ?_).trans ?_; ((try simp only [inB_t, inB_f, i_lt, i_le, i_eq, ne_eq, Bool.not_eq_true, Bool.not_eq_false, hpB, decide_eq_true_eq, decide_eq_false_iff_not, li_0, li_1, li_2, li_3, li_4, li_5, li_6, li_7, li_8, li_9, li_10, li_20, li_40, li_99, li_100, li_255, li_899, li_999, li_m1, li_m2, li_m3, li_m4, li_m11, li_m12, li_m13, li_m14, li_m100] at h9 h13 h21 ⊢) <;> omega)) | (refine (if_neg ?_).trans ?_; ((try simp only [inB_t, inB_f, i_lt, i_le, i_eq, ne_eq, Bool.not_eq_true, Bool.not_eq_false, hpB, decide_eq_true_eq, decide_eq_false_iff_not, li_0, li_1, li_2, li_3, li_4, li_5, li_6, li_7, li_8, li_9, li_10, li_20, li_40, li_99, li_100, li_255, li_899, li_999, li_m1, li_m2, li_m3, li_m4, li_m11, li_m12, li_m13, li_m14, li_m100] at h9 h13 h21 ⊢) <;> omega)) | fail)
              all_goals (first | with_reducible rfl | (exfalso; ((try simp only [inB_t, inB_f, i_lt, i_le, i_eq, ne_eq, Bool.not_eq_true, Bool.not_eq_false, hpB, decide_eq_true_eq, decide_eq_false_iff_not, li_0, li_1, li_2, li_3, li_4, li_5, li_6, li_7, li_8, li_9, li_10, li_20, li_40, li_99, li_100, li_255, li_899, li_999, li_m1, li_m2, li_m3, li_m4, li_m11, li_m12, li_m13, li_m14, li_m100] at h9 h13 h21 ⊢) <;> omega)))) Sc.rf)

set_option maxRecDepth 100000 in
set_option maxHeartbeats 800000 in
theorem c_X12_lays0 (t : CT) (M : MM) (x2 v : Int32) : XMet (wR t) yX12_lays cX12_lays 4 none 1 [.ref (t.1 0), .int 0, .int x2, .int v] M (rU (mu M 0 7 v)) := by
  refine x_met RX12 (by decide) rfl (Nat.le_of_ble_eq_true rfl) (fun κ C X E => ?_)
  refine x_L (L' := [(0, .ref (t.1 0)), (1, .int 0), (2, .int x2), (3, .int v)]) rfl ?_
  refine x_iload_n (pc := 0) C 1 dX12_lays_0 rfl ?_
  refine x_if_ne_f (pc := 1) C 12 dX12_lays_1 (by decide) (by decide) ?_
  refine x_aload_n (pc := 4) C 0 dX12_lays_4 rfl ?_
  refine x_iload_n (pc := 5) C 3 dX12_lays_5 rfl ?_
  refine p_M_dayNow (pc := 6) C E q13_19 dX12_lays_6 ?_
  refine x_goto (pc := 9) C 53 dX12_lays_9 (by decide) ?_
  exact x_vret (pc := 53) C X dX12_lays_53 ⟨rfl, rfl⟩

set_option maxRecDepth 100000 in
set_option maxHeartbeats 800000 in
theorem c_X12_lays1 (t : CT) (M : MM) {d : Nat} (hd : d < 6) (v : Int32) : XMet (wR t) yX12_lays cX12_lays 4 none 1 [.ref (t.1 0), .int 1, .int (nI d), .int v] M (rU (mu M 5 (2 * d) v)) := by
  refine x_met RX12 (by decide) rfl (Nat.le_of_ble_eq_true rfl) (fun κ C X E => ?_)
  refine x_L (L' := [(0, .ref (t.1 0)), (1, .int 1), (2, .int (nI d)), (3, .int v)]) rfl ?_
  refine x_iload_n (pc := 0) C 1 dX12_lays_0 rfl ?_
  refine x_if_ne_t (pc := 1) C 12 dX12_lays_1 (by decide) (by decide) ?_
  refine x_iload_n (pc := 12) C 1 dX12_lays_12 rfl ?_
  refine x_iconst (pc := 13) (v := 3) C dX12_lays_13 rfl ?_
  refine x_icmp_ge_f (pc := 14) C 33 dX12_lays_14 (by decide) (by decide) ?_
  refine x_aload_n (pc := 17) C 0 dX12_lays_17 rfl ?_
  refine g_M_rows (pc := 18) C E q11_16 dX12_lays_18 ?_
  refine x_iconst (pc := 21) (v := (nI 2)) C dX12_lays_21 (by decide) ?_
  refine x_iload_n (pc := 22) C 2 dX12_lays_22 rfl ?_
  refine x_imul (pc := 23) C dX12_lays_23 ?_
  refine x_eq (show (nI 2) * (nI d) = nI (2 * d) from pk_mul _ _) ?_
  refine x_iload_n (pc := 24) C 1 dX12_lays_24 rfl ?_
  refine x_iadd (pc := 25) C dX12_lays_25 ?_
  refine x_eq (show (nI (2 * d)) + 1 = nI (2 * d + 1) from nI_1 _) ?_
  refine x_iconst (pc := 26) (v := (nI 1)) C dX12_lays_26 (by decide) ?_
  refine x_isub (pc := 27) C dX12_lays_27 ?_
  refine x_eq (show (nI (2 * d + 1)) - (nI 1) = nI (2 * d) from pk_sub (b := 1) (by omega)) ?_
  refine x_iload_n (pc := 28) C 3 dX12_lays_28 rfl ?_
  refine s_Rrows (pc := 29) C E (by omega) dX12_lays_29 ?_
  refine x_goto (pc := 30) C 53 dX12_lays_30 (by decide) ?_
  exact x_vret (pc := 53) C X dX12_lays_53 ⟨rfl, rfl⟩

set_option maxRecDepth 100000 in
set_option maxHeartbeats 800000 in
theorem c_X12_lays2 (t : CT) (M : MM) {d : Nat} (hd : d < 6) (v : Int32) : XMet (wR t) yX12_lays cX12_lays 4 none 1 [.ref (t.1 0), .int 2, .int (nI d), .int v] M (rU (mu M 5 (2 * d + 1) v)) := by
  refine x_met RX12 (by decide) rfl (Nat.le_of_ble_eq_true rfl) (fun κ C X E => ?_)
  refine x_L (L' := [(0, .ref (t.1 0)), (1, .int 2), (2, .int (nI d)), (3, .int v)]) rfl ?_
  refine x_iload_n (pc := 0) C 1 dX12_lays_0 rfl ?_
  refine x_if_ne_t (pc := 1) C 12 dX12_lays_1 (by decide) (by decide) ?_
  refine x_iload_n (pc := 12) C 1 dX12_lays_12 rfl ?_
  refine x_iconst (pc := 13) (v := 3) C dX12_lays_13 rfl ?_
  refine x_icmp_ge_f (pc := 14) C 33 dX12_lays_14 (by decide) (by decide) ?_
  refine x_aload_n (pc := 17) C 0 dX12_lays_17 rfl ?_
  refine g_M_rows (pc := 18) C E q11_16 dX12_lays_18 ?_
  refine x_iconst (pc := 21) (v := (nI 2)) C dX12_lays_21 (by decide) ?_
  refine x_iload_n (pc := 22) C 2 dX12_lays_22 rfl ?_
  refine x_imul (pc := 23) C dX12_lays_23 ?_
  refine x_eq (show (nI 2) * (nI d) = nI (2 * d) from pk_mul _ _) ?_
  refine x_iload_n (pc := 24) C 1 dX12_lays_24 rfl ?_
  refine x_iadd (pc := 25) C dX12_lays_25 ?_
  refine x_eq (show (nI (2 * d)) + 2 = nI (2 * d + 2) from nI_add _ 2) ?_
  refine x_iconst (pc := 26) (v := (nI 1)) C dX12_lays_26 (by decide) ?_
  refine x_isub (pc := 27) C dX12_lays_27 ?_
  refine x_eq (show (nI (2 * d + 2)) - (nI 1) = nI (2 * d + 1) from pk_sub (b := 1) (by omega)) ?_
  refine x_iload_n (pc := 28) C 3 dX12_lays_28 rfl ?_
  refine s_Rrows (pc := 29) C E (by omega) dX12_lays_29 ?_
  refine x_goto (pc := 30) C 53 dX12_lays_30 (by decide) ?_
  exact x_vret (pc := 53) C X dX12_lays_53 ⟨rfl, rfl⟩

set_option maxRecDepth 100000 in
set_option maxHeartbeats 800000 in
theorem c_X12_lays3 (t : CT) (M : MM) {d : Nat} (hd : d < 6) (v : Int32) : XMet (wR t) yX12_lays cX12_lays 4 none 1 [.ref (t.1 0), .int 3, .int (nI d), .int v] M (rU (mu M 4 d v)) := by
  refine x_met RX12 (by decide) rfl (Nat.le_of_ble_eq_true rfl) (fun κ C X E => ?_)
  refine x_L (L' := [(0, .ref (t.1 0)), (1, .int 3), (2, .int (nI d)), (3, .int v)]) rfl ?_
  refine x_iload_n (pc := 0) C 1 dX12_lays_0 rfl ?_
  refine x_if_ne_t (pc := 1) C 12 dX12_lays_1 (by decide) (by decide) ?_
  refine x_iload_n (pc := 12) C 1 dX12_lays_12 rfl ?_
  refine x_iconst (pc := 13) (v := 3) C dX12_lays_13 rfl ?_
  refine x_icmp_ge_t (pc := 14) C 33 dX12_lays_14 (by decide) (by decide) ?_
  refine x_iload_n (pc := 33) C 1 dX12_lays_33 rfl ?_
  refine x_iconst (pc := 34) (v := 3) C dX12_lays_34 rfl ?_
  refine x_icmp_ne_f (pc := 35) C 48 dX12_lays_35 (by decide) (by decide) ?_
  refine x_aload_n (pc := 38) C 0 dX12_lays_38 rfl ?_
  refine g_M_kinds (pc := 39) C E q11_15 dX12_lays_39 ?_
  refine x_iload_n (pc := 42) C 2 dX12_lays_42 rfl ?_
  refine x_iload_n (pc := 43) C 3 dX12_lays_43 rfl ?_
  refine s_Rkinds (pc := 44) C E (by omega) dX12_lays_44 ?_
  refine x_goto (pc := 45) C 53 dX12_lays_45 (by decide) ?_
  exact x_vret (pc := 53) C X dX12_lays_53 ⟨rfl, rfl⟩

set_option maxRecDepth 100000 in
set_option maxHeartbeats 800000 in
theorem c_X12_lays4 (t : CT) (M : MM) (x2 v : Int32) : XMet (wR t) yX12_lays cX12_lays 4 none 1 [.ref (t.1 0), .int 4, .int x2, .int v] M (rU (mu M 0 4 v)) := by
  refine x_met RX12 (by decide) rfl (Nat.le_of_ble_eq_true rfl) (fun κ C X E => ?_)
  refine x_L (L' := [(0, .ref (t.1 0)), (1, .int 4), (2, .int x2), (3, .int v)]) rfl ?_
  refine x_iload_n (pc := 0) C 1 dX12_lays_0 rfl ?_
  refine x_if_ne_t (pc := 1) C 12 dX12_lays_1 (by decide) (by decide) ?_
  refine x_iload_n (pc := 12) C 1 dX12_lays_12 rfl ?_
  refine x_iconst (pc := 13) (v := 3) C dX12_lays_13 rfl ?_
  refine x_icmp_ge_t (pc := 14) C 33 dX12_lays_14 (by decide) (by decide) ?_
  refine x_iload_n (pc := 33) C 1 dX12_lays_33 rfl ?_
  refine x_iconst (pc := 34) (v := 3) C dX12_lays_34 rfl ?_
  refine x_icmp_ne_t (pc := 35) C 48 dX12_lays_35 (by decide) (by decide) ?_
  refine x_aload_n (pc := 48) C 0 dX12_lays_48 rfl ?_
  refine x_iload_n (pc := 49) C 3 dX12_lays_49 rfl ?_
  refine p_M_rule (pc := 50) C E q15_2 dX12_lays_50 ?_
  exact x_vret (pc := 53) C X dX12_lays_53 ⟨rfl, rfl⟩

section RRW
variable {σ : SV} {M : MM}
theorem rr_day_ (h : RR σ M) {x : Int32} (hx : inB x 1000 = true) : RR (setV σ (vDay (sV σ) x)) (mu M 0 7 x) := by
  obtain ⟨D, hD, rfl⟩ := inB_of hx (by decide)
  refine rr_V (v' := vDay (sV σ) (nI D)) h ⟨h.2.1.1, mu_s _ _ _ _, ?_, ?_, fun d hd => ?_⟩ (fun a b hr g0 _ _ _ _ => by rw [mu_at, if_neg (by omega)]) ⟨h.1.2.2.1.1, h.1.2.2.1.2.1, D, by omega, rfl⟩ (kOk_same h.1.2.2.2.1 rfl rfl)
  · rw [mu_k _ _ _ _ (by decide)]; exact rr_rule h
  · rw [mu_k _ _ _ _ (by decide)]; exact rr_size h
  · rw [mu_n _ _ _ _ (by decide), mu_n _ _ _ _ (by decide), mu_n _ _ _ _ (by decide), mu_n _ _ _ _ (by decide)]; exact h.2.1.2.2.2.2 d hd
theorem rr_rul_ (h : RR σ M) {q : Nat} (hq : q < sN σ) : RR (setV σ (vRul (sV σ) q)) (mu M 0 4 (nI q)) := by
  refine rr_V (v' := vRul (sV σ) q) h ⟨h.2.1.1, ?_, mu_s _ _ _ _, ?_, fun d hd => ?_⟩ (fun a b hr g0 _ _ _ _ => by rw [mu_at, if_neg (by omega)]) ⟨h.1.2.2.1.1, hq, h.1.2.2.1.2.2⟩ (kOk_same h.1.2.2.2.1 rfl rfl)
  · rw [mu_k _ _ _ _ (by decide)]; exact rr_day h
  · rw [mu_k _ _ _ _ (by decide)]; exact rr_size h
  · rw [mu_n _ _ _ _ (by decide), mu_n _ _ _ _ (by decide), mu_n _ _ _ _ (by decide), mu_n _ _ _ _ (by decide)]; exact h.2.1.2.2.2.2 d hd
theorem rr_num_ (h : RR σ M) {d : Nat} (hd : d < vN (sV σ)) (x : Int32) : RR (setV σ (vNum (sV σ) d x)) (mu M 5 (2 * d) x) := by
  refine rr_V (v' := vNum (sV σ) d x) h ⟨h.2.1.1, (congrFun (mu_n _ _ _ _ (by decide)) _).trans (rr_day h), (congrFun (mu_n _ _ _ _ (by decide)) _).trans (rr_rule h), (congrFun (mu_n _ _ _ _ (by decide)) _).trans (rr_size h), fun y hy => ?_⟩ (fun a b hr g0 _ g5 _ _ => by rw [mu_n _ _ _ _ g5]) h.1.2.2.1 (kOk_same h.1.2.2.2.1 rfl rfl)
  obtain ⟨a1, a2, a3, a4, a5⟩ := h.2.1.2.2.2.2 y hy
  refine ⟨a1, a2, ?_, by rw [mu_k _ _ _ _ (by omega)]; exact a4, a5⟩
  show _ = if y = d then x else vU (sV σ) y
  by_cases g : y = d
  · subst g; rw [mu_s, if_pos rfl]
  · rw [mu_k _ _ _ _ (by omega), if_neg g]; exact a3
theorem rr_sin_ (h : RR σ M) {d : Nat} (hd : d < vN (sV σ)) (x : Int32) : RR (setV σ (vSin (sV σ) d x)) (mu M 5 (2 * d + 1) x) := by
  refine rr_V (v' := vSin (sV σ) d x) h ⟨h.2.1.1, (congrFun (mu_n _ _ _ _ (by decide)) _).trans (rr_day h), (congrFun (mu_n _ _ _ _ (by decide)) _).trans (rr_rule h), (congrFun (mu_n _ _ _ _ (by decide)) _).trans (rr_size h), fun y hy => ?_⟩ (fun a b hr g0 _ g5 _ _ => by rw [mu_n _ _ _ _ g5]) h.1.2.2.1 (kOk_same h.1.2.2.2.1 rfl rfl)
  obtain ⟨a1, a2, a3, a4, a5⟩ := h.2.1.2.2.2.2 y hy
  refine ⟨a1, a2, by rw [mu_k _ _ _ _ (by omega)]; exact a3, ?_, a5⟩
  show _ = if y = d then x else vS (sV σ) y
  by_cases g : y = d
  · subst g; rw [mu_s, if_pos rfl]
  · rw [mu_k _ _ _ _ (by omega), if_neg g]; exact a4
end RRW
set_option maxRecDepth 100000 in
set_option maxHeartbeats 800000 in
theorem c_X12_set (t : CT) {σ : SV} {M : MM} (h : RR σ M) (hg : M 0 28 = 0) (x1 x2 x3 : Int32)  : XMet (wR t) yX12_set cX12_set 5 (some .int) 66 [.ref (t.1 0), .int x1, .int x2, .int x3] M (oQ (o_set σ x1 x2 x3)) := by
  refine x_met RX12 (by decide) rfl (Nat.le_of_ble_eq_true rfl) (fun κ C X E => ?_)
  refine x_L (L' := [(0, .ref (t.1 0)), (1, .int x1), (2, .int x2), (3, .int x3)]) rfl ?_
  have hn6 := rr_n6 h
  have hN6 := h.1.1
  have hq := rr_q h
  have hB := h.1.2.1
  refine x_iload_n (pc := 0) C 1 dX12_set_0 rfl ?_
  refine x_i2l (pc := 1) C dX12_set_1 ?_
  refine x_lconst (pc := 2) (v := 0) C dX12_set_2 rfl ?_
  refine x_ldc2 (pc := 3) (v := 2) C q13_3 dX12_set_3 ?_
  refine x_callS (pc := 6) C E [.long (Int32.toInt64 x1), .long 0, .long 2] [] (c_X12_inB t _ x1 (n := 3) (by decide) (by decide)) m_X12_in q13_6 rfl (by decide) (Nat.le_of_ble_eq_true rfl) dX12_set_6 rfl (k_I ?_)
  refine x_ifb_eq (pc := 9) C 47 dX12_set_9 (by decide) (fun h9 => ?_) (fun h9 => ?_)
  · refine x_bipush (pc := 47) (v := (-2)) C dX12_set_47 rfl ?_
    exact x_iret (pc := 49) C X dX12_set_49 (foq (by
          unfold o_set
          repeat (first | with_reducible rfl | (refine (if_pos ?_).trans ?_; ((try simp only [inB_t, inB_f, i_lt, i_le, i_eq, ne_eq, Bool.not_eq_true, Bool.not_eq_false, hpB, decide_eq_true_eq, decide_eq_false_iff_not, li_0, li_1, li_2, li_3, li_4, li_5, li_6, li_7, li_8, li_9, li_10, li_20, li_40, li_99, li_100, li_255, li_899, li_999, li_m1, li_m2, li_m3, li_m4, li_m11, li_m12, li_m13, li_m14, li_m100] at h9 ⊢) <;> omega)) | (refine (if_neg ?_).trans ?_; ((try simp only [inB_t, inB_f, i_lt, i_le, i_eq, ne_eq, Bool.not_eq_true, Bool.not_eq_false, hpB, decide_eq_true_eq, decide_eq_false_iff_not, li_0, li_1, li_2, li_3, li_4, li_5, li_6, li_7, li_8, li_9, li_10, li_20, li_40, li_99, li_100, li_255, li_899, li_999, li_m1, li_m2, li_m3, li_m4, li_m11, li_m12, li_m13, li_m14, li_m100] at h9 ⊢) <;> omega)) | fail)
          all_goals (first | with_reducible rfl | (exfalso; ((try simp only [inB_t, inB_f, i_lt, i_le, i_eq, ne_eq, Bool.not_eq_true, Bool.not_eq_false, hpB, decide_eq_true_eq, decide_eq_false_iff_not, li_0, li_1, li_2, li_3, li_4, li_5, li_6, li_7, li_8, li_9, li_10, li_20, li_40, li_99, li_100, li_255, li_899, li_999, li_m1, li_m2, li_m3, li_m4, li_m11, li_m12, li_m13, li_m14, li_m100] at h9 ⊢) <;> omega)))) h hg)
  · refine x_iload_n (pc := 12) C 1 dX12_set_12 rfl ?_
    refine x_if_le (pc := 13) C 24 dX12_set_13 (by decide) (fun h13 => ?_) (fun h13 => ?_)
    · refine x_iload_n (pc := 24) C 3 dX12_set_24 rfl ?_
      refine x_i2l (pc := 25) C dX12_set_25 ?_
      refine x_lconst (pc := 26) (v := 0) C dX12_set_26 rfl ?_
      refine x_iload_n (pc := 27) C 1 dX12_set_27 rfl ?_
      refine x_iconst (pc := 28) (v := 1) C dX12_set_28 rfl ?_
      refine x_icmp_ne (pc := 29) C 38 dX12_set_29 (by decide) (fun h29 => ?_) (fun h29 => ?_)
      · refine x_ldc2 (pc := 38) (v := 999) C q13_5 dX12_set_38 ?_
        refine x_callS (pc := 41) C E [.long (Int32.toInt64 x3), .long 0, .long 999] [] (c_X12_inB t _ x3 (n := 1000) (by decide) (by decide)) m_X12_in q13_6 rfl (by decide) (Nat.le_of_ble_eq_true rfl) dX12_set_41 rfl (k_I ?_)
        refine x_ifb_ne (pc := 44) C 50 dX12_set_44 (by decide) (fun h44 => ?_) (fun h44 => ?_)
        · obtain rfl : x1 = 0 := i_eq.mpr (by ((try simp only [inB_t, inB_f, i_lt, i_le, i_eq, ne_eq, Bool.not_eq_true, Bool.not_eq_false, hpB, decide_eq_true_eq, decide_eq_false_iff_not, li_0, li_1, li_2, li_3, li_4, li_5, li_6, li_7, li_8, li_9, li_10, li_20, li_40, li_99, li_100, li_255, li_899, li_999, li_m1, li_m2, li_m3, li_m4, li_m11, li_m12, li_m13, li_m14, li_m100] at h9 h13 h29 h44 ⊢) <;> omega))
          refine x_aload_n (pc := 50) C 0 dX12_set_50 rfl ?_
          refine x_iload_n (pc := 51) C 2 dX12_set_51 rfl ?_
          refine x_iload_n (pc := 52) C 1 dX12_set_52 rfl ?_
          refine x_callV (pc := 53) C E [.int x2, .int 0] [] (c_X12_told t h hg x2 0) m_X12_told q13_14 xo_M rfl (by first | decide | omega) (Nat.le_of_ble_eq_true rfl) dX12_set_53 rfl (fun r M53 hc53 => ?_)
          obtain ⟨rfl, hS53⟩ := hc53
          show XV κ (xP (wR t) M53) 56 _ [.int (a_told (σ) x2 0)]
          refine x_eq (show a_told (σ) x2 0 = vD (sV (σ)) from told_0 _ _) ?_
          refine x_istore (pc := 56) (L' := [(4, .int (vD (sV (σ)))), (0, .ref (t.1 0)), (1, .int 0), (2, .int x2), (3, .int x3)]) C dX12_set_56 (by decide) rfl ?_
          refine x_aload_n (pc := 58) C 1 dX12_set_58 rfl ?_
          refine x_iload_n (pc := 59) C 2 dX12_set_59 rfl ?_
          refine x_iload_n (pc := 60) C 3 dX12_set_60 rfl ?_
          refine x_iload_n (pc := 61) C 4 dX12_set_61 rfl ?_
          refine x_callV (pc := 62) C E [.int 0, .int x2, .int x3] [] (c_X12_lays0 t _ x2 x3) m_X12_lays q18_14 xo_M rfl (by first | decide | omega) (Nat.le_of_ble_eq_true rfl) dX12_set_62 rfl (k_U ?_)
          refine x_iload (pc := 65) C 0 dX12_set_65 rfl ?_
          exact x_iret (pc := 67) C X dX12_set_67 (foq (by
                unfold o_set
                simp only [ne_eq, eq_self, not_true_eq_false, false_and, true_and, false_or]
                repeat (first | with_reducible rfl | (refine (if_pos ?_).trans ?_; ((try simp only [inB_t, inB_f, i_lt, i_le, i_eq, ne_eq, Bool.not_eq_true, Bool.not_eq_false, hpB, decide_eq_true_eq, decide_eq_false_iff_not, li_0, li_1, li_2, li_3, li_4, li_5, li_6, li_7, li_8, li_9, li_10, li_20, li_40, li_99, li_100, li_255, li_899, li_999, li_m1, li_m2, li_m3, li_m4, li_m11, li_m12, li_m13, li_m14, li_m100] at h9 h13 h29 h44 ⊢) <;> omega)) | (refine (if_neg ?_).trans ?_; ((try simp only [inB_t, inB_f, i_lt, i_le, i_eq, ne_eq, Bool.not_eq_true, Bool.not_eq_false, hpB, decide_eq_true_eq, decide_eq_false_iff_not, li_0, li_1, li_2, li_3, li_4, li_5, li_6, li_7, li_8, li_9, li_10, li_20, li_40, li_99, li_100, li_255, li_899, li_999, li_m1, li_m2, li_m3, li_m4, li_m11, li_m12, li_m13, li_m14, li_m100] at h9 h13 h29 h44 ⊢) <;> omega)) | fail)
                all_goals (first | with_reducible rfl | (exfalso; ((try simp only [inB_t, inB_f, i_lt, i_le, i_eq, ne_eq, Bool.not_eq_true, Bool.not_eq_false, hpB, decide_eq_true_eq, decide_eq_false_iff_not, li_0, li_1, li_2, li_3, li_4, li_5, li_6, li_7, li_8, li_9, li_10, li_20, li_40, li_99, li_100, li_255, li_899, li_999, li_m1, li_m2, li_m3, li_m4, li_m11, li_m12, li_m13, li_m14, li_m100] at h9 h13 h29 h44 ⊢) <;> omega)))) (rr_day_ (rr_Sc h hS53) (by ((try simp only [inB_t, inB_f, i_lt, i_le, i_eq, ne_eq, Bool.not_eq_true, Bool.not_eq_false, hpB, decide_eq_true_eq, decide_eq_false_iff_not, li_0, li_1, li_2, li_3, li_4, li_5, li_6, li_7, li_8, li_9, li_10, li_20, li_40, li_99, li_100, li_255, li_899, li_999, li_m1, li_m2, li_m3, li_m4, li_m11, li_m12, li_m13, li_m14, li_m100] at h9 h13 h29 h44 ⊢) <;> omega))) ((mu_k _ _ _ _ (by decide)).trans ((hS53 _ _ (by omega)).trans hg)))
          
        · refine x_bipush (pc := 47) (v := (-2)) C dX12_set_47 rfl ?_
          exact x_iret (pc := 49) C X dX12_set_49 (foq (by
                unfold o_set
                repeat (first | with_reducible rfl | (refine (if_pos ?_).trans ?_; ((try simp only [inB_t, inB_f, i_lt, i_le, i_eq, ne_eq, Bool.not_eq_true, Bool.not_eq_false, hpB, decide_eq_true_eq, decide_eq_false_iff_not, li_0, li_1, li_2, li_3, li_4, li_5, li_6, li_7, li_8, li_9, li_10, li_20, li_40, li_99, li_100, li_255, li_899, li_999, li_m1, li_m2, li_m3, li_m4, li_m11, li_m12, li_m13, li_m14, li_m100] at h9 h13 h29 h44 ⊢) <;> omega)) | (refine (if_neg ?_).trans ?_; ((try simp only [inB_t, inB_f, i_lt, i_le, i_eq, ne_eq, Bool.not_eq_true, Bool.not_eq_false, hpB, decide_eq_true_eq, decide_eq_false_iff_not, li_0, li_1, li_2, li_3, li_4, li_5, li_6, li_7, li_8, li_9, li_10, li_20, li_40, li_99, li_100, li_255, li_899, li_999, li_m1, li_m2, li_m3, li_m4, li_m11, li_m12, li_m13, li_m14, li_m100] at h9 h13 h29 h44 ⊢) <;> omega)) | fail)
                all_goals (first | with_reducible rfl | (exfalso; ((try simp only [inB_t, inB_f, i_lt, i_le, i_eq, ne_eq, Bool.not_eq_true, Bool.not_eq_false, hpB, decide_eq_true_eq, decide_eq_false_iff_not, li_0, li_1, li_2, li_3, li_4, li_5, li_6, li_7, li_8, li_9, li_10, li_20, li_40, li_99, li_100, li_255, li_899, li_999, li_m1, li_m2, li_m3, li_m4, li_m11, li_m12, li_m13, li_m14, li_m100] at h9 h13 h29 h44 ⊢) <;> omega)))) h hg)
      · refine x_ldc2 (pc := 32) (v := 9) C q13_4 dX12_set_32 ?_
        refine x_goto (pc := 35) C 41 dX12_set_35 (by decide) ?_
        refine x_callS (pc := 41) C E [.long (Int32.toInt64 x3), .long 0, .long 9] [] (c_X12_inB t _ x3 (n := 10) (by decide) (by decide)) m_X12_in q13_6 rfl (by decide) (Nat.le_of_ble_eq_true rfl) dX12_set_41 rfl (k_I ?_)
        refine x_ifb_ne (pc := 44) C 50 dX12_set_44 (by decide) (fun h44 => ?_) (fun h44 => ?_)
        · obtain rfl : x1 = 0 := i_eq.mpr (by ((try simp only [inB_t, inB_f, i_lt, i_le, i_eq, ne_eq, Bool.not_eq_true, Bool.not_eq_false, hpB, decide_eq_true_eq, decide_eq_false_iff_not, li_0, li_1, li_2, li_3, li_4, li_5, li_6, li_7, li_8, li_9, li_10, li_20, li_40, li_99, li_100, li_255, li_899, li_999, li_m1, li_m2, li_m3, li_m4, li_m11, li_m12, li_m13, li_m14, li_m100] at h9 h13 h29 h44 ⊢) <;> omega))
          exact absurd h29 (by decide)
          
        · refine x_bipush (pc := 47) (v := (-2)) C dX12_set_47 rfl ?_
          exact x_iret (pc := 49) C X dX12_set_49 (foq (by
                unfold o_set
                repeat (first | with_reducible rfl | (refine (if_pos ?_).trans ?_; ((try simp only [inB_t, inB_f, i_lt, i_le, i_eq, ne_eq, Bool.not_eq_true, Bool.not_eq_false, hpB, decide_eq_true_eq, decide_eq_false_iff_not, li_0, li_1, li_2, li_3, li_4, li_5, li_6, li_7, li_8, li_9, li_10, li_20, li_40, li_99, li_100, li_255, li_899, li_999, li_m1, li_m2, li_m3, li_m4, li_m11, li_m12, li_m13, li_m14, li_m100] at h9 h13 h29 h44 ⊢) <;> omega)) | (refine (if_neg ?_).trans ?_; ((try simp only [inB_t, inB_f, i_lt, i_le, i_eq, ne_eq, Bool.not_eq_true, Bool.not_eq_false, hpB, decide_eq_true_eq, decide_eq_false_iff_not, li_0, li_1, li_2, li_3, li_4, li_5, li_6, li_7, li_8, li_9, li_10, li_20, li_40, li_99, li_100, li_255, li_899, li_999, li_m1, li_m2, li_m3, li_m4, li_m11, li_m12, li_m13, li_m14, li_m100] at h9 h13 h29 h44 ⊢) <;> omega)) | fail)
                all_goals (first | with_reducible rfl | (exfalso; ((try simp only [inB_t, inB_f, i_lt, i_le, i_eq, ne_eq, Bool.not_eq_true, Bool.not_eq_false, hpB, decide_eq_true_eq, decide_eq_false_iff_not, li_0, li_1, li_2, li_3, li_4, li_5, li_6, li_7, li_8, li_9, li_10, li_20, li_40, li_99, li_100, li_255, li_899, li_999, li_m1, li_m2, li_m3, li_m4, li_m11, li_m12, li_m13, li_m14, li_m100] at h9 h13 h29 h44 ⊢) <;> omega)))) h hg)
    · refine x_aload_n (pc := 16) C 0 dX12_set_16 rfl ?_
      refine x_iload_n (pc := 17) C 2 dX12_set_17 rfl ?_
      refine x_callV (pc := 18) C E [.int x2] [] ( c_X12_isDisk t h _) m_X12_isDisk q13_9 xo_M rfl (by decide) (Nat.le_of_ble_eq_true rfl) dX12_set_18 rfl (k_I ?_)
      refine x_ifb_eq (pc := 21) C 47 dX12_set_21 (by decide) (fun h21 => ?_) (fun h21 => ?_)
      · refine x_bipush (pc := 47) (v := (-2)) C dX12_set_47 rfl ?_
        exact x_iret (pc := 49) C X dX12_set_49 (foq (by
              unfold o_set
              repeat (first | with_reducible rfl | (refine (if_pos ?_).trans ?_; ((try simp only [inB_t, inB_f, i_lt, i_le, i_eq, ne_eq, Bool.not_eq_true, Bool.not_eq_false, hpB, decide_eq_true_eq, decide_eq_false_iff_not, li_0, li_1, li_2, li_3, li_4, li_5, li_6, li_7, li_8, li_9, li_10, li_20, li_40, li_99, li_100, li_255, li_899, li_999, li_m1, li_m2, li_m3, li_m4, li_m11, li_m12, li_m13, li_m14, li_m100] at h9 h13 h21 ⊢) <;> omega)) | (refine (if_neg ?_).trans ?_; ((try simp only [inB_t, inB_f, i_lt, i_le, i_eq, ne_eq, Bool.not_eq_true, Bool.not_eq_false, hpB, decide_eq_true_eq, decide_eq_false_iff_not, li_0, li_1, li_2, li_3, li_4, li_5, li_6, li_7, li_8, li_9, li_10, li_20, li_40, li_99, li_100, li_255, li_899, li_999, li_m1, li_m2, li_m3, li_m4, li_m11, li_m12, li_m13, li_m14, li_m100] at h9 h13 h21 ⊢) <;> omega)) | fail)
              all_goals (first | with_reducible rfl | (exfalso; ((try simp only [inB_t, inB_f, i_lt, i_le, i_eq, ne_eq, Bool.not_eq_true, Bool.not_eq_false, hpB, decide_eq_true_eq, decide_eq_false_iff_not, li_0, li_1, li_2, li_3, li_4, li_5, li_6, li_7, li_8, li_9, li_10, li_20, li_40, li_99, li_100, li_255, li_899, li_999, li_m1, li_m2, li_m3, li_m4, li_m11, li_m12, li_m13, li_m14, li_m100] at h9 h13 h21 ⊢) <;> omega)))) h hg)
      · refine x_iload_n (pc := 24) C 3 dX12_set_24 rfl ?_
        refine x_i2l (pc := 25) C dX12_set_25 ?_
        refine x_lconst (pc := 26) (v := 0) C dX12_set_26 rfl ?_
        refine x_iload_n (pc := 27) C 1 dX12_set_27 rfl ?_
        refine x_iconst (pc := 28) (v := 1) C dX12_set_28 rfl ?_
        refine x_icmp_ne (pc := 29) C 38 dX12_set_29 (by decide) (fun h29 => ?_) (fun h29 => ?_)
        · refine x_ldc2 (pc := 38) (v := 999) C q13_5 dX12_set_38 ?_
          refine x_callS (pc := 41) C E [.long (Int32.toInt64 x3), .long 0, .long 999] [] (c_X12_inB t _ x3 (n := 1000) (by decide) (by decide)) m_X12_in q13_6 rfl (by decide) (Nat.le_of_ble_eq_true rfl) dX12_set_41 rfl (k_I ?_)
          refine x_ifb_ne (pc := 44) C 50 dX12_set_44 (by decide) (fun h44 => ?_) (fun h44 => ?_)
          · obtain ⟨d, hd, ed⟩ := inB_of h21 (by omega)
            have htd := nI_toInt (n := d) (by omega)
            have hod := oN_nI (n := d) (by omega)
            subst ed
            have hk9 : x1.toInt = 1 ∨ x1.toInt = 2 := (by ((try simp only [inB_t, inB_f, i_lt, i_le, i_eq, ne_eq, Bool.not_eq_true, Bool.not_eq_false, hpB, decide_eq_true_eq, decide_eq_false_iff_not, li_0, li_1, li_2, li_3, li_4, li_5, li_6, li_7, li_8, li_9, li_10, li_20, li_40, li_99, li_100, li_255, li_899, li_999, li_m1, li_m2, li_m3, li_m4, li_m11, li_m12, li_m13, li_m14, li_m100] at h9 h13 h21 h29 h44 htd ⊢) <;> omega))
            rcases hk9 with hk9 | hk9
            · exact absurd (i_eq.mpr hk9) h29
            · obtain rfl : x1 = 2 := i_eq.mpr hk9
              refine x_aload_n (pc := 50) C 0 dX12_set_50 rfl ?_
              refine x_iload_n (pc := 51) C 2 dX12_set_51 rfl ?_
              refine x_iload_n (pc := 52) C 1 dX12_set_52 rfl ?_
              refine x_callV (pc := 53) C E [.int (nI d), .int 2] [] (c_X12_told t h hg (nI d) 2) m_X12_told q13_14 xo_M rfl (by first | decide | omega) (Nat.le_of_ble_eq_true rfl) dX12_set_53 rfl (fun r M53 hc53 => ?_)
              obtain ⟨rfl, hS53⟩ := hc53
              show XV κ (xP (wR t) M53) 56 _ [.int (a_told (σ) (nI d) 2)]
              refine x_eq (show a_told (σ) (nI d) 2 = vS (sV (σ)) d from (told_k (by omega) (by omega)).2.1) ?_
              refine x_istore (pc := 56) (L' := [(4, .int (vS (sV (σ)) d)), (0, .ref (t.1 0)), (1, .int 2), (2, .int (nI d)), (3, .int x3)]) C dX12_set_56 (by decide) rfl ?_
              refine x_aload_n (pc := 58) C 1 dX12_set_58 rfl ?_
              refine x_iload_n (pc := 59) C 2 dX12_set_59 rfl ?_
              refine x_iload_n (pc := 60) C 3 dX12_set_60 rfl ?_
              refine x_iload_n (pc := 61) C 4 dX12_set_61 rfl ?_
              refine x_callV (pc := 62) C E [.int 2, .int (nI d), .int x3] [] (c_X12_lays2 t _ (d := d) (by omega) x3) m_X12_lays q18_14 xo_M rfl (by first | decide | omega) (Nat.le_of_ble_eq_true rfl) dX12_set_62 rfl (k_U ?_)
              refine x_iload (pc := 65) C 0 dX12_set_65 rfl ?_
              exact x_iret (pc := 67) C X dX12_set_67 (foq (by
                    unfold o_set
                    simp only [hod, ne_eq, eq_self, not_true_eq_false, false_and, true_and, false_or]
                    repeat (first | with_reducible rfl | (refine (if_pos ?_).trans ?_; ((try simp only [inB_t, inB_f, i_lt, i_le, i_eq, ne_eq, Bool.not_eq_true, Bool.not_eq_false, hpB, decide_eq_true_eq, decide_eq_false_iff_not, li_0, li_1, li_2, li_3, li_4, li_5, li_6, li_7, li_8, li_9, li_10, li_20, li_40, li_99, li_100, li_255, li_899, li_999, li_m1, li_m2, li_m3, li_m4, li_m11, li_m12, li_m13, li_m14, li_m100] at h9 h13 h21 h29 h44 htd ⊢) <;> omega)) | (refine (if_neg ?_).trans ?_; ((try simp only [inB_t, inB_f, i_lt, i_le, i_eq, ne_eq, Bool.not_eq_true, Bool.not_eq_false, hpB, decide_eq_true_eq, decide_eq_false_iff_not, li_0, li_1, li_2, li_3, li_4, li_5, li_6, li_7, li_8, li_9, li_10, li_20, li_40, li_99, li_100, li_255, li_899, li_999, li_m1, li_m2, li_m3, li_m4, li_m11, li_m12, li_m13, li_m14, li_m100] at h9 h13 h21 h29 h44 htd ⊢) <;> omega)) | fail)
                    all_goals (first | with_reducible rfl | (exfalso; ((try simp only [inB_t, inB_f, i_lt, i_le, i_eq, ne_eq, Bool.not_eq_true, Bool.not_eq_false, hpB, decide_eq_true_eq, decide_eq_false_iff_not, li_0, li_1, li_2, li_3, li_4, li_5, li_6, li_7, li_8, li_9, li_10, li_20, li_40, li_99, li_100, li_255, li_899, li_999, li_m1, li_m2, li_m3, li_m4, li_m11, li_m12, li_m13, li_m14, li_m100] at h9 h13 h21 h29 h44 htd ⊢) <;> omega)))) (rr_sin_ (rr_Sc h hS53) hd x3) ((congrFun (mu_n _ _ _ _ (by decide)) _).trans ((hS53 _ _ (by omega)).trans hg)))
            
          · refine x_bipush (pc := 47) (v := (-2)) C dX12_set_47 rfl ?_
            exact x_iret (pc := 49) C X dX12_set_49 (foq (by
                  unfold o_set
                  repeat (first | with_reducible rfl | (refine (if_pos ?_).trans ?_; ((try simp only [inB_t, inB_f, i_lt, i_le, i_eq, ne_eq, Bool.not_eq_true, Bool.not_eq_false, hpB, decide_eq_true_eq, decide_eq_false_iff_not, li_0, li_1, li_2, li_3, li_4, li_5, li_6, li_7, li_8, li_9, li_10, li_20, li_40, li_99, li_100, li_255, li_899, li_999, li_m1, li_m2, li_m3, li_m4, li_m11, li_m12, li_m13, li_m14, li_m100] at h9 h13 h21 h29 h44 ⊢) <;> omega)) | (refine (if_neg ?_).trans ?_; ((try simp only [inB_t, inB_f, i_lt, i_le, i_eq, ne_eq, Bool.not_eq_true, Bool.not_eq_false, hpB, decide_eq_true_eq, decide_eq_false_iff_not, li_0, li_1, li_2, li_3, li_4, li_5, li_6, li_7, li_8, li_9, li_10, li_20, li_40, li_99, li_100, li_255, li_899, li_999, li_m1, li_m2, li_m3, li_m4, li_m11, li_m12, li_m13, li_m14, li_m100] at h9 h13 h21 h29 h44 ⊢) <;> omega)) | fail)
                  all_goals (first | with_reducible rfl | (exfalso; ((try simp only [inB_t, inB_f, i_lt, i_le, i_eq, ne_eq, Bool.not_eq_true, Bool.not_eq_false, hpB, decide_eq_true_eq, decide_eq_false_iff_not, li_0, li_1, li_2, li_3, li_4, li_5, li_6, li_7, li_8, li_9, li_10, li_20, li_40, li_99, li_100, li_255, li_899, li_999, li_m1, li_m2, li_m3, li_m4, li_m11, li_m12, li_m13, li_m14, li_m100] at h9 h13 h21 h29 h44 ⊢) <;> omega)))) h hg)
        · refine x_ldc2 (pc := 32) (v := 9) C q13_4 dX12_set_32 ?_
          refine x_goto (pc := 35) C 41 dX12_set_35 (by decide) ?_
          refine x_callS (pc := 41) C E [.long (Int32.toInt64 x3), .long 0, .long 9] [] (c_X12_inB t _ x3 (n := 10) (by decide) (by decide)) m_X12_in q13_6 rfl (by decide) (Nat.le_of_ble_eq_true rfl) dX12_set_41 rfl (k_I ?_)
          refine x_ifb_ne (pc := 44) C 50 dX12_set_44 (by decide) (fun h44 => ?_) (fun h44 => ?_)
          · obtain ⟨d, hd, ed⟩ := inB_of h21 (by omega)
            have htd := nI_toInt (n := d) (by omega)
            have hod := oN_nI (n := d) (by omega)
            subst ed
            have hk9 : x1.toInt = 1 ∨ x1.toInt = 2 := (by ((try simp only [inB_t, inB_f, i_lt, i_le, i_eq, ne_eq, Bool.not_eq_true, Bool.not_eq_false, hpB, decide_eq_true_eq, decide_eq_false_iff_not, li_0, li_1, li_2, li_3, li_4, li_5, li_6, li_7, li_8, li_9, li_10, li_20, li_40, li_99, li_100, li_255, li_899, li_999, li_m1, li_m2, li_m3, li_m4, li_m11, li_m12, li_m13, li_m14, li_m100] at h9 h13 h21 h29 h44 htd ⊢) <;> omega))
            rcases hk9 with hk9 | hk9
            · obtain rfl : x1 = 1 := i_eq.mpr hk9
              refine x_aload_n (pc := 50) C 0 dX12_set_50 rfl ?_
              refine x_iload_n (pc := 51) C 2 dX12_set_51 rfl ?_
              refine x_iload_n (pc := 52) C 1 dX12_set_52 rfl ?_
              refine x_callV (pc := 53) C E [.int (nI d), .int 1] [] (c_X12_told t h hg (nI d) 1) m_X12_told q13_14 xo_M rfl (by first | decide | omega) (Nat.le_of_ble_eq_true rfl) dX12_set_53 rfl (fun r M53 hc53 => ?_)
              obtain ⟨rfl, hS53⟩ := hc53
              show XV κ (xP (wR t) M53) 56 _ [.int (a_told (σ) (nI d) 1)]
              refine x_eq (show a_told (σ) (nI d) 1 = vU (sV (σ)) d from (told_k (by omega) (by omega)).1) ?_
              refine x_istore (pc := 56) (L' := [(4, .int (vU (sV (σ)) d)), (0, .ref (t.1 0)), (1, .int 1), (2, .int (nI d)), (3, .int x3)]) C dX12_set_56 (by decide) rfl ?_
              refine x_aload_n (pc := 58) C 1 dX12_set_58 rfl ?_
              refine x_iload_n (pc := 59) C 2 dX12_set_59 rfl ?_
              refine x_iload_n (pc := 60) C 3 dX12_set_60 rfl ?_
              refine x_iload_n (pc := 61) C 4 dX12_set_61 rfl ?_
              refine x_callV (pc := 62) C E [.int 1, .int (nI d), .int x3] [] (c_X12_lays1 t _ (d := d) (by omega) x3) m_X12_lays q18_14 xo_M rfl (by first | decide | omega) (Nat.le_of_ble_eq_true rfl) dX12_set_62 rfl (k_U ?_)
              refine x_iload (pc := 65) C 0 dX12_set_65 rfl ?_
              exact x_iret (pc := 67) C X dX12_set_67 (foq (by
                    unfold o_set
                    simp only [hod, ne_eq, eq_self, not_true_eq_false, false_and, true_and, false_or]
                    repeat (first | with_reducible rfl | (refine (if_pos ?_).trans ?_; ((try simp only [inB_t, inB_f, i_lt, i_le, i_eq, ne_eq, Bool.not_eq_true, Bool.not_eq_false, hpB, decide_eq_true_eq, decide_eq_false_iff_not, li_0, li_1, li_2, li_3, li_4, li_5, li_6, li_7, li_8, li_9, li_10, li_20, li_40, li_99, li_100, li_255, li_899, li_999, li_m1, li_m2, li_m3, li_m4, li_m11, li_m12, li_m13, li_m14, li_m100] at h9 h13 h21 h29 h44 htd ⊢) <;> omega)) | (refine (if_neg ?_).trans ?_; ((try simp only [inB_t, inB_f, i_lt, i_le, i_eq, ne_eq, Bool.not_eq_true, Bool.not_eq_false, hpB, decide_eq_true_eq, decide_eq_false_iff_not, li_0, li_1, li_2, li_3, li_4, li_5, li_6, li_7, li_8, li_9, li_10, li_20, li_40, li_99, li_100, li_255, li_899, li_999, li_m1, li_m2, li_m3, li_m4, li_m11, li_m12, li_m13, li_m14, li_m100] at h9 h13 h21 h29 h44 htd ⊢) <;> omega)) | fail)
                    all_goals (first | with_reducible rfl | (exfalso; ((try simp only [inB_t, inB_f, i_lt, i_le, i_eq, ne_eq, Bool.not_eq_true, Bool.not_eq_false, hpB, decide_eq_true_eq, decide_eq_false_iff_not, li_0, li_1, li_2, li_3, li_4, li_5, li_6, li_7, li_8, li_9, li_10, li_20, li_40, li_99, li_100, li_255, li_899, li_999, li_m1, li_m2, li_m3, li_m4, li_m11, li_m12, li_m13, li_m14, li_m100] at h9 h13 h21 h29 h44 htd ⊢) <;> omega)))) (rr_num_ (rr_Sc h hS53) hd x3) ((congrFun (mu_n _ _ _ _ (by decide)) _).trans ((hS53 _ _ (by omega)).trans hg)))
            · exact absurd (hk9.symm.trans (by rw [h29])) (by decide)
            
          · refine x_bipush (pc := 47) (v := (-2)) C dX12_set_47 rfl ?_
            exact x_iret (pc := 49) C X dX12_set_49 (foq (by
                  unfold o_set
                  repeat (first | with_reducible rfl | (refine (if_pos ?_).trans ?_; ((try simp only [inB_t, inB_f, i_lt, i_le, i_eq, ne_eq, Bool.not_eq_true, Bool.not_eq_false, hpB, decide_eq_true_eq, decide_eq_false_iff_not, li_0, li_1, li_2, li_3, li_4, li_5, li_6, li_7, li_8, li_9, li_10, li_20, li_40, li_99, li_100, li_255, li_899, li_999, li_m1, li_m2, li_m3, li_m4, li_m11, li_m12, li_m13, li_m14, li_m100] at h9 h13 h21 h29 h44 ⊢) <;> omega)) | (refine (if_neg ?_).trans ?_; ((try simp only [inB_t, inB_f, i_lt, i_le, i_eq, ne_eq, Bool.not_eq_true, Bool.not_eq_false, hpB, decide_eq_true_eq, decide_eq_false_iff_not, li_0, li_1, li_2, li_3, li_4, li_5, li_6, li_7, li_8, li_9, li_10, li_20, li_40, li_99, li_100, li_255, li_899, li_999, li_m1, li_m2, li_m3, li_m4, li_m11, li_m12, li_m13, li_m14, li_m100] at h9 h13 h21 h29 h44 ⊢) <;> omega)) | fail)
                  all_goals (first | with_reducible rfl | (exfalso; ((try simp only [inB_t, inB_f, i_lt, i_le, i_eq, ne_eq, Bool.not_eq_true, Bool.not_eq_false, hpB, decide_eq_true_eq, decide_eq_false_iff_not, li_0, li_1, li_2, li_3, li_4, li_5, li_6, li_7, li_8, li_9, li_10, li_20, li_40, li_99, li_100, li_255, li_899, li_999, li_m1, li_m2, li_m3, li_m4, li_m11, li_m12, li_m13, li_m14, li_m100] at h9 h13 h21 h29 h44 ⊢) <;> omega)))) h hg)

set_option maxRecDepth 100000 in
set_option maxHeartbeats 800000 in
theorem c_X12_force (t : CT) {σ : SV} {M : MM} (h : RR σ M) (hg : M 0 28 = 0) (x1 : Int32)  : XMet (wR t) yX12_force cX12_force 3 (some .int) 2 [.ref (t.1 0), .int x1] M (oQ (o_force σ x1)) := by
  refine x_met RX12 (by decide) rfl (Nat.le_of_ble_eq_true rfl) (fun κ C X E => ?_)
  refine x_L (L' := [(0, .ref (t.1 0)), (1, .int x1)]) rfl ?_
  have hn6 := rr_n6 h
  have hN6 := h.1.1
  have hq := rr_q h
  have hB := h.1.2.1
  refine x_iload_n (pc := 0) C 1 dX12_force_0 rfl ?_
  refine x_i2l (pc := 1) C dX12_force_1 ?_
  refine x_lconst (pc := 2) (v := 0) C dX12_force_2 rfl ?_
  refine x_aload_n (pc := 3) C 0 dX12_force_3 rfl ?_
  refine g_M_textCount (pc := 4) C E q12_5 dX12_force_4 ?_
  refine x_eq (show M 0 3 = nI (sN (σ)) from (rr_tc h)) ?_
  refine x_iconst (pc := 7) (v := 1) C dX12_force_7 rfl ?_
  refine x_isub (pc := 8) C dX12_force_8 ?_
  refine x_i2l (pc := 9) C dX12_force_9 ?_
  refine x_callS (pc := 10) C E [.long (Int32.toInt64 x1), .long 0, .long (Int32.toInt64 ((nI (sN (σ))) - 1))] [] (c_X12_inB t _ x1 (n := sN σ) (by decide) (by rw [Int32.toInt_toInt64, nsub_toInt (by omega) (by decide)]; rfl)) m_X12_in q13_6 rfl (by decide) (Nat.le_of_ble_eq_true rfl) dX12_force_10 rfl (k_I ?_)
  refine x_ifb_ne (pc := 13) C 19 dX12_force_13 (by decide) (fun h13 => ?_) (fun h13 => ?_)
  · obtain ⟨k, hk, ek⟩ := inB_of h13 (by omega)
    have htk := nI_toInt (n := k) (by omega)
    have hok := oN_nI (n := k) (by omega)
    subst ek
    refine x_aload_n (pc := 19) C 0 dX12_force_19 rfl ?_
    refine g_M_rule (pc := 20) C E q15_2 dX12_force_20 ?_
    refine x_eq (show M 0 4 = nI (vR (sV (σ))) from (rr_rule h)) ?_
    refine x_istore_n (pc := 23) (L' := [(2, .int (nI (vR (sV (σ))))), (0, .ref (t.1 0)), (1, .int (nI k))]) C dX12_force_23 (by decide) rfl ?_
    refine x_aload_n (pc := 24) C 1 dX12_force_24 rfl ?_
    refine x_iload_n (pc := 25) C 2 dX12_force_25 rfl ?_
    refine p_M_rule (pc := 26) C E q15_2 dX12_force_26 ?_
    refine x_iload_n (pc := 29) C 0 dX12_force_29 rfl ?_
    exact x_iret (pc := 30) C X dX12_force_30 (foq (by
          unfold o_force
          simp only [hok]
          repeat (first | with_reducible rfl | (refine (if_pos ?_).trans ?_; ((try simp only [inB_t, inB_f, i_lt, i_le, i_eq, ne_eq, Bool.not_eq_true, Bool.not_eq_false, hpB, decide_eq_true_eq, decide_eq_false_iff_not, li_0, li_1, li_2, li_3, li_4, li_5, li_6, li_7, li_8, li_9, li_10, li_20, li_40, li_99, li_100, li_255, li_899, li_999, li_m1, li_m2, li_m3, li_m4, li_m11, li_m12, li_m13, li_m14, li_m100] at h13 htk ⊢) <;> omega)) | (refine (if_neg ?_).trans ?_; ((try simp only [inB_t, inB_f, i_lt, i_le, i_eq, ne_eq, Bool.not_eq_true, Bool.not_eq_false, hpB, decide_eq_true_eq, decide_eq_false_iff_not, li_0, li_1, li_2, li_3, li_4, li_5, li_6, li_7, li_8, li_9, li_10, li_20, li_40, li_99, li_100, li_255, li_899, li_999, li_m1, li_m2, li_m3, li_m4, li_m11, li_m12, li_m13, li_m14, li_m100] at h13 htk ⊢) <;> omega)) | fail)
          all_goals (first | with_reducible rfl | (exfalso; ((try simp only [inB_t, inB_f, i_lt, i_le, i_eq, ne_eq, Bool.not_eq_true, Bool.not_eq_false, hpB, decide_eq_true_eq, decide_eq_false_iff_not, li_0, li_1, li_2, li_3, li_4, li_5, li_6, li_7, li_8, li_9, li_10, li_20, li_40, li_99, li_100, li_255, li_899, li_999, li_m1, li_m2, li_m3, li_m4, li_m11, li_m12, li_m13, li_m14, li_m100] at h13 htk ⊢) <;> omega)))) (rr_rul_ h hk) ((mu_k _ _ _ _ (by decide)).trans hg))
  · refine x_bipush (pc := 16) (v := (-2)) C dX12_force_16 rfl ?_
    exact x_iret (pc := 18) C X dX12_force_18 (foq (by
          unfold o_force
          repeat (first | with_reducible rfl | (refine (if_pos ?_).trans ?_; ((try simp only [inB_t, inB_f, i_lt, i_le, i_eq, ne_eq, Bool.not_eq_true, Bool.not_eq_false, hpB, decide_eq_true_eq, decide_eq_false_iff_not, li_0, li_1, li_2, li_3, li_4, li_5, li_6, li_7, li_8, li_9, li_10, li_20, li_40, li_99, li_100, li_255, li_899, li_999, li_m1, li_m2, li_m3, li_m4, li_m11, li_m12, li_m13, li_m14, li_m100] at h13 ⊢) <;> omega)) | (refine (if_neg ?_).trans ?_; ((try simp only [inB_t, inB_f, i_lt, i_le, i_eq, ne_eq, Bool.not_eq_true, Bool.not_eq_false, hpB, decide_eq_true_eq, decide_eq_false_iff_not, li_0, li_1, li_2, li_3, li_4, li_5, li_6, li_7, li_8, li_9, li_10, li_20, li_40, li_99, li_100, li_255, li_899, li_999, li_m1, li_m2, li_m3, li_m4, li_m11, li_m12, li_m13, li_m14, li_m100] at h13 ⊢) <;> omega)) | fail)
          all_goals (first | with_reducible rfl | (exfalso; ((try simp only [inB_t, inB_f, i_lt, i_le, i_eq, ne_eq, Bool.not_eq_true, Bool.not_eq_false, hpB, decide_eq_true_eq, decide_eq_false_iff_not, li_0, li_1, li_2, li_3, li_4, li_5, li_6, li_7, li_8, li_9, li_10, li_20, li_40, li_99, li_100, li_255, li_899, li_999, li_m1, li_m2, li_m3, li_m4, li_m11, li_m12, li_m13, li_m14, li_m100] at h13 ⊢) <;> omega)))) h hg)

set_option maxRecDepth 100000 in
set_option maxHeartbeats 800000 in
theorem c_X12_on (t : CT) {σ : SV} {M : MM} (h : RR σ M) (hg : M 0 28 = 0) (x1 : Int32)  : XMet (wR t) yX12_on cX12_on 2 (some .int) 3 [.ref (t.1 0), .int x1] M (oQ (σ, a_on σ x1)) := by
  refine x_met RX12 (by decide) rfl (Nat.le_of_ble_eq_true rfl) (fun κ C X E => ?_)
  refine x_L (L' := [(0, .ref (t.1 0)), (1, .int x1)]) rfl ?_
  have hn6 := rr_n6 h
  have hN6 := h.1.1
  have hq := rr_q h
  have hB := h.1.2.1
  refine x_iload_n (pc := 0) C 1 dX12_on_0 rfl ?_
  refine x_callS (pc := 1) C E [.int x1] [] (c_X12_isFile t _ _) m_X12_isFile q25_22 rfl (by decide) (Nat.le_of_ble_eq_true rfl) dX12_on_1 rfl (k_I ?_)
  refine x_ifb_eq (pc := 4) C 15 dX12_on_4 (by decide) (fun h4 => ?_) (fun h4 => ?_)
  · refine x_bipush (pc := 15) (v := (-2)) C dX12_on_15 rfl ?_
    exact x_iret (pc := 17) C X dX12_on_17 (faq (by
          unfold a_on
          repeat (first | with_reducible rfl | (refine (if_pos ?_).trans ?_; ((try simp only [inB_t, inB_f, i_lt, i_le, i_eq, ne_eq, Bool.not_eq_true, Bool.not_eq_false, hpB, decide_eq_true_eq, decide_eq_false_iff_not, li_0, li_1, li_2, li_3, li_4, li_5, li_6, li_7, li_8, li_9, li_10, li_20, li_40, li_99, li_100, li_255, li_899, li_999, li_m1, li_m2, li_m3, li_m4, li_m11, li_m12, li_m13, li_m14, li_m100] at h4 ⊢) <;> omega)) | (refine (if_neg ?_).trans ?_; ((try simp only [inB_t, inB_f, i_lt, i_le, i_eq, ne_eq, Bool.not_eq_true, Bool.not_eq_false, hpB, decide_eq_true_eq, decide_eq_false_iff_not, li_0, li_1, li_2, li_3, li_4, li_5, li_6, li_7, li_8, li_9, li_10, li_20, li_40, li_99, li_100, li_255, li_899, li_999, li_m1, li_m2, li_m3, li_m4, li_m11, li_m12, li_m13, li_m14, li_m100] at h4 ⊢) <;> omega)) | fail)
          all_goals (first | with_reducible rfl | (exfalso; ((try simp only [inB_t, inB_f, i_lt, i_le, i_eq, ne_eq, Bool.not_eq_true, Bool.not_eq_false, hpB, decide_eq_true_eq, decide_eq_false_iff_not, li_0, li_1, li_2, li_3, li_4, li_5, li_6, li_7, li_8, li_9, li_10, li_20, li_40, li_99, li_100, li_255, li_899, li_999, li_m1, li_m2, li_m3, li_m4, li_m11, li_m12, li_m13, li_m14, li_m100] at h4 ⊢) <;> omega)))) h hg)
  · obtain ⟨f, hf, ef⟩ := inB_of h4 (by omega)
    have htf := nI_toInt (n := f) (by omega)
    have hof := oN_nI (n := f) (by omega)
    subst ef
    refine x_aload_n (pc := 7) C 0 dX12_on_7 rfl ?_
    refine x_iload_n (pc := 8) C 1 dX12_on_8 rfl ?_
    refine x_callV (pc := 9) C E [.int (nI f)] [] (c_X12_onOf t h (gn := 0) hg (f := f) (by omega)) m_X12_onOf q32_4 xo_M rfl (by first | decide | omega) (Nat.le_of_ble_eq_true rfl) dX12_on_9 rfl (k_I ?_)
    refine x_eq (show _ = mk (vOn (sV (σ)) f) (vN (sV (σ))) from mk_congr (fun d _ => vOnG_0 _ _ d)) ?_
    refine x_goto (pc := 12) C 17 dX12_on_12 (by decide) ?_
    exact x_iret (pc := 17) C X dX12_on_17 (faq (by
          unfold a_on
          simp only [hof]
          repeat (first | with_reducible rfl | (refine (if_pos ?_).trans ?_; ((try simp only [inB_t, inB_f, i_lt, i_le, i_eq, ne_eq, Bool.not_eq_true, Bool.not_eq_false, hpB, decide_eq_true_eq, decide_eq_false_iff_not, li_0, li_1, li_2, li_3, li_4, li_5, li_6, li_7, li_8, li_9, li_10, li_20, li_40, li_99, li_100, li_255, li_899, li_999, li_m1, li_m2, li_m3, li_m4, li_m11, li_m12, li_m13, li_m14, li_m100] at h4 htf ⊢) <;> omega)) | (refine (if_neg ?_).trans ?_; ((try simp only [inB_t, inB_f, i_lt, i_le, i_eq, ne_eq, Bool.not_eq_true, Bool.not_eq_false, hpB, decide_eq_true_eq, decide_eq_false_iff_not, li_0, li_1, li_2, li_3, li_4, li_5, li_6, li_7, li_8, li_9, li_10, li_20, li_40, li_99, li_100, li_255, li_899, li_999, li_m1, li_m2, li_m3, li_m4, li_m11, li_m12, li_m13, li_m14, li_m100] at h4 htf ⊢) <;> omega)) | fail)
          all_goals (first | with_reducible rfl | (exfalso; ((try simp only [inB_t, inB_f, i_lt, i_le, i_eq, ne_eq, Bool.not_eq_true, Bool.not_eq_false, hpB, decide_eq_true_eq, decide_eq_false_iff_not, li_0, li_1, li_2, li_3, li_4, li_5, li_6, li_7, li_8, li_9, li_10, li_20, li_40, li_99, li_100, li_255, li_899, li_999, li_m1, li_m2, li_m3, li_m4, li_m11, li_m12, li_m13, li_m14, li_m100] at h4 htf ⊢) <;> omega)))) h hg)

