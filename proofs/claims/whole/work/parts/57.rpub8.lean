def TxR (σ : SV) (i : Nat) (A B : MM) : Prop := (∀ k, k < i → B 1 (160 * sN σ + k) = sY σ k) ∧ ∀ a b, (a ≠ 1 ∨ b < 160 * sN σ ∨ 160 * sN σ + 160 ≤ b) → B a b = A a b
theorem TxR_S {σ : SV} {i : Nat} {M B : MM} (h : RR σ M) (hi : i < sB σ) (e : TxR σ i M B) : TxR σ (i + 1) M (mu B 1 (160 * sN σ + i) (B 3 i)) := by
  have hB := h.1.2.1
  refine ⟨fun k hk => ?_, fun a b g => ?_⟩
  · by_cases q : k = i
    · subst q; rw [mu_s, e.2 _ _ (by omega)]; exact rr_ty h hi
    · rw [mu_k _ _ _ _ (by omega)]; exact e.1 k (by omega)
  · rw [mu_at, if_neg (by omega)]; exact e.2 a b g
theorem tx_laid {σ : SV} {M B : MM} (h : RR σ M) (hn : sN σ < 6) (e : TxR σ (sB σ) M B) : RR (setB σ 0 (sY σ)) (mu (mu B 2 (sN σ) (nI (sB σ))) 0 6 0) := rr_laid h hn (fun a b h0 h1 h2 _ => by
  rw [mu_at, if_neg (by omega), mu_at, if_neg (by omega)]
  exact e.2 a b h1) (mu_s _ _ _ _)
set_option maxRecDepth 100000 in
set_option maxHeartbeats 800000 in
theorem c_X12_text (t : CT) {σ : SV} {M : MM} (h : RR σ M) (hg : M 0 28 = 0)  : XMet (wR t) yX12_text cX12_text 2 (some .int) 63 [.ref (t.1 0)] M (oQ (o_text σ)) := by
  refine x_met RX12 (by decide) rfl (Nat.le_of_ble_eq_true rfl) (fun κ C X E => ?_)
  refine x_L (L' := [(0, .ref (t.1 0))]) rfl ?_
  have hn6 := rr_n6 h
  have hN6 := h.1.1
  have hq := rr_q h
  have hB := h.1.2.1
  refine x_aload_n (pc := 0) C 0 dX12_text_0 rfl ?_
  refine g_M_textCount (pc := 1) C E q12_5 dX12_text_1 ?_
  refine x_eq (show M 0 3 = nI (sN (σ)) from (rr_tc h)) ?_
  refine x_bipush (pc := 4) (v := 6) C dX12_text_4 rfl ?_
  refine x_icmp_ne (pc := 6) C 12 dX12_text_6 (by decide) (fun h6 => ?_) (fun h6 => ?_)
  · have hn5 : sN σ < 6 := Nat.lt_of_le_of_ne hN6 (fun e => h6 (by rw [e]; rfl))
    refine x_iconst (pc := 12) (v := 0) C dX12_text_12 rfl ?_
    refine x_istore_n (pc := 13) (L' := [(1, .int 0), (0, .ref (t.1 0))]) C dX12_text_13 (by decide) rfl ?_
    have loop14 : ∀ (k i : Nat) (y : Int32) (Mx : MM) , i + k = sB σ → y = nI i → TxR σ i M Mx → XV κ (xP (wR t) Mx) 14 [(1, .int y), (0, .ref (t.1 0))] [] := by
      intro k
      induction k with
        | zero =>
          intro i y Mx  hcnt ey eMx
          subst ey
          obtain rfl : sB σ = i := by omega
          refine x_iload_n (pc := 14) C 0 dX12_text_14 rfl ?_
          refine x_aload_n (pc := 15) C 1 dX12_text_15 rfl ?_
          refine g_M_taped (pc := 16) C E q26_12 dX12_text_16 ?_
          refine x_eq (show Mx 0 6 = nI (sB σ) from ((eMx.2 _ _ (by omega)).trans (rr_tb h))) ?_
          refine x_icmp_ge_t (pc := 19) C 49 dX12_text_19 (by decide) (nI_le (by omega) (by omega)) ?_
          refine x_aload_n (pc := 49) C 1 dX12_text_49 rfl ?_
          refine g_M_textSize (pc := 50) C E q11_13 dX12_text_50 ?_
          refine x_aload_n (pc := 53) C 1 dX12_text_53 rfl ?_
          refine g_M_textCount (pc := 54) C E q12_5 dX12_text_54 ?_
          refine x_eq (show Mx 0 3 = nI (sN σ) from ((eMx.2 _ _ (by omega)).trans (rr_tc h))) ?_
          refine x_aload_n (pc := 57) C 1 dX12_text_57 rfl ?_
          refine g_M_taped (pc := 58) C E q26_12 dX12_text_58 ?_
          refine x_eq (show Mx 0 6 = nI (sB σ) from ((eMx.2 _ _ (by omega)).trans (rr_tb h))) ?_
          refine s_RtextSize (pc := 61) C E (by omega) dX12_text_61 ?_
          refine x_aload_n (pc := 62) C 1 dX12_text_62 rfl ?_
          refine x_iconst (pc := 63) (v := 0) C dX12_text_63 rfl ?_
          refine p_M_taped (pc := 64) C E q26_12 dX12_text_64 ?_
          refine x_aload_n (pc := 67) C 1 dX12_text_67 rfl ?_
          refine x_aload_n (pc := 68) C 1 dX12_text_68 rfl ?_
          refine g_M_textCount (pc := 69) C E q12_5 dX12_text_69 ?_
          refine x_eq (show (mu (mu Mx 2 (sN σ) (nI (sB σ))) 0 6 0) 0 3 = nI (sN σ) from ((mu_k _ _ _ _ (by decide)).trans ((congrFun (mu_n _ _ _ _ (by decide)) _).trans ((eMx.2 _ _ (by omega)).trans (rr_tc h))))) ?_
          refine x_iconst (pc := 72) (v := (nI 0)) C dX12_text_72 (by decide) ?_
          have hL := tx_laid h hn5 eMx
          refine x_callV (pc := 73) C E [.int (nI (sN σ)), .int (nI 0)] [] (c_X12_read0 t (q := sN σ) (n := sB σ) (Y := sY σ) hB (by omega) ((congrFun (mu_n _ _ _ _ (by decide)) _).trans (mu_s _ _ _ _)) (fun k hk => by rw [mu_n _ _ _ _ (by decide), mu_n _ _ _ _ (by decide)]; exact eMx.1 k hk) (fun k hk => rr_tn h hk)) m_X12_read q15_3 xo_M rfl (by first | decide | omega) (Nat.le_of_ble_eq_true rfl) dX12_text_73 rfl (fun r M73 hc73 => ?_)
          obtain ⟨w73, rfl, hS73, hv1, hv2⟩ := hc73
          have hR73 := rr_Sc hL hS73
          by_cases hok : pRd (sY σ) (sB σ) 0 3 = -1
          · show XV κ (xP (wR t) M73) 76 _ [.int w73]
            refine x_istore_n (pc := 76) (L' := [(1, .int w73), (0, .ref (t.1 0))]) C dX12_text_76 (by decide) rfl ?_
            refine x_aload_n (pc := 77) C 1 dX12_text_77 rfl ?_
            refine g_M_bad (pc := 78) C E q15_11 dX12_text_78 ?_
            refine x_eq (show M73 0 26 = 0 from (hv1 hok).1) ?_
            refine x_if_eq_t (pc := 81) C 92 dX12_text_81 (by decide) (by decide) ?_
            refine x_aload_n (pc := 92) C 1 dX12_text_92 rfl ?_
            refine x_dup (pc := 93) C dX12_text_93 rfl ?_
            refine g_M_textCount (pc := 94) C E q12_5 dX12_text_94 ?_
            refine x_eq (show M73 0 3 = nI (sN σ) from (hR73.2.2.1)) ?_
            refine x_iconst (pc := 97) (v := 1) C dX12_text_97 rfl ?_
            refine x_iadd (pc := 98) C dX12_text_98 ?_
            refine x_eq (show (nI (sN σ)) + 1 = nI (sN σ + 1) from nI_1 _) ?_
            refine p_M_textCount (pc := 99) C E q12_5 dX12_text_99 ?_
            refine x_aload_n (pc := 102) C 1 dX12_text_102 rfl ?_
            refine g_M_textCount (pc := 103) C E q12_5 dX12_text_103 ?_
            refine x_eq (show (mu M73 0 3 (nI (sN σ + 1))) 0 3 = nI (sN σ + 1) from (mu_s _ _ _ _)) ?_
            refine x_iconst (pc := 106) (v := 1) C dX12_text_106 rfl ?_
            refine x_isub (pc := 107) C dX12_text_107 ?_
            refine x_eq (show (nI (sN σ + 1)) - 1 = nI (sN σ) from (pk_sub (b := 1) (by omega))) ?_
            exact x_iret (pc := 108) C X dX12_text_108 (foq (by unfold o_text; rw [if_neg (by omega), if_pos hok]) (rr_addT hR73 hn5 ⟨sB σ, sY σ, hB, (hS73 _ _ (by omega)).trans ((congrFun (mu_n _ _ _ _ (by decide)) _).trans (mu_s _ _ _ _)), fun k hk => ⟨(hS73 _ _ (by omega)).trans (by rw [mu_n _ _ _ _ (by decide), mu_n _ _ _ _ (by decide)]; exact eMx.1 k hk), rr_tn h hk⟩, hok, fun _ _ => rfl⟩) ((mu_k _ _ _ _ (by decide)).trans ((hS73 _ _ (by omega)).trans ((mu_k _ _ _ _ (by decide)).trans ((congrFun (mu_n _ _ _ _ (by decide)) _).trans ((eMx.2 _ _ (by omega)).trans hg))))))
          · show XV κ (xP (wR t) M73) 76 _ [.int w73]
            refine x_istore_n (pc := 76) (L' := [(1, .int w73), (0, .ref (t.1 0))]) C dX12_text_76 (by decide) rfl ?_
            refine x_aload_n (pc := 77) C 1 dX12_text_77 rfl ?_
            refine g_M_bad (pc := 78) C E q15_11 dX12_text_78 ?_
            refine x_eq (show M73 0 26 = 1 from (hv2 hok).1) ?_
            refine x_if_eq_f (pc := 81) C 92 dX12_text_81 (by decide) (by decide) ?_
            refine x_bipush (pc := 84) (v := (-100)) C dX12_text_84 rfl ?_
            refine x_aload_n (pc := 86) C 1 dX12_text_86 rfl ?_
            refine g_M_fault (pc := 87) C E q16_20 dX12_text_87 ?_
            refine x_eq (show M73 0 27 = pRd (sY σ) (sB σ) 0 3 from (hv2 hok).2) ?_
            refine x_isub (pc := 90) C dX12_text_90 ?_
            exact x_iret (pc := 91) C X dX12_text_91 (foq (by unfold o_text; rw [if_neg (by omega), if_neg hok]) hR73 ((hS73 _ _ (by omega)).trans ((mu_k _ _ _ _ (by decide)).trans ((congrFun (mu_n _ _ _ _ (by decide)) _).trans ((eMx.2 _ _ (by omega)).trans hg)))))
        | succ k ih =>
          intro i y Mx  hcnt ey eMx
          subst ey
          have hi14 : i < sB σ := by omega
          refine x_iload_n (pc := 14) C 0 dX12_text_14 rfl ?_
          refine x_aload_n (pc := 15) C 1 dX12_text_15 rfl ?_
          refine g_M_taped (pc := 16) C E q26_12 dX12_text_16 ?_
          refine x_eq (show Mx 0 6 = nI (sB σ) from ((eMx.2 _ _ (by omega)).trans (rr_tb h))) ?_
          refine x_icmp_ge_f (pc := 19) C 49 dX12_text_19 (by decide) (nI_ge (by omega) (by omega)) ?_
          refine x_aload_n (pc := 22) C 1 dX12_text_22 rfl ?_
          refine g_M_texts (pc := 23) C E q11_12 dX12_text_23 ?_
          refine x_sipush (pc := 26) (v := (nI 160)) C dX12_text_26 (by decide) ?_
          refine x_aload_n (pc := 29) C 1 dX12_text_29 rfl ?_
          refine g_M_textCount (pc := 30) C E q12_5 dX12_text_30 ?_
          refine x_eq (show Mx 0 3 = nI (sN σ) from ((eMx.2 _ _ (by omega)).trans (rr_tc h))) ?_
          refine x_imul (pc := 33) C dX12_text_33 ?_
          refine x_eq (show (nI 160) * (nI (sN σ)) = nI (160 * (sN σ)) from pk_mul _ _) ?_
          refine x_iload_n (pc := 34) C 0 dX12_text_34 rfl ?_
          refine x_iadd (pc := 35) C dX12_text_35 ?_
          refine x_eq (show (nI (160 * (sN σ))) + (nI i) = nI (160 * (sN σ) + i) from nI_add _ _) ?_
          refine x_aload_n (pc := 36) C 1 dX12_text_36 rfl ?_
          refine g_M_tape (pc := 37) C E q11_14 dX12_text_37 ?_
          refine x_iload_n (pc := 40) C 0 dX12_text_40 rfl ?_
          refine l_Rtape (pc := 41) C E (by omega) dX12_text_41 ?_
          refine s_Rtexts (pc := 42) C E (by omega) dX12_text_42 ?_
          refine x_iinc (pc := 43) (v := nI (i + 1)) (L' := [(1, .int (nI (i + 1))), (0, .ref (t.1 0))]) C 0 dX12_text_43 rfl (nI_1 _) (by decide) rfl ?_
          refine x_goto (pc := 46) C 14 dX12_text_46 (by decide) ?_
          refine x_sub [0, 1] rfl ?_
          exact ih (i + 1) _ _ (by omega) rfl (TxR_S h (by omega) eMx)
    refine x_sub [0, 1] rfl ?_
    exact loop14 (sB σ) 0 _ M (by omega) rfl ⟨fun k hk => absurd hk (Nat.not_lt_zero _), fun _ _ _ => rfl⟩
  · have hn7 : sN σ = 6 := (nI_eq (b := 6) (by omega) (by decide)).mp h6
    refine x_bipush (pc := 9) (v := (-4)) C dX12_text_9 rfl ?_
    exact x_iret (pc := 11) C X dX12_text_11 (foq (by
          unfold o_text
          repeat (first | with_reducible rfl | (refine (if_pos ?_).trans ?_; ((try simp only [inB_t, inB_f, i_lt, i_le, i_eq, ne_eq, Bool.not_eq_true, Bool.not_eq_false, hpB, decide_eq_true_eq, decide_eq_false_iff_not, li_0, li_1, li_2, li_3, li_4, li_5, li_6, li_7, li_8, li_9, li_10, li_20, li_40, li_99, li_100, li_255, li_899, li_999, li_m1, li_m2, li_m3, li_m4, li_m11, li_m12, li_m13, li_m14, li_m100] at h6 ⊢) <;> omega)) | (refine (if_neg ?_).trans ?_; ((try simp only [inB_t, inB_f, i_lt, i_le, i_eq, ne_eq, Bool.not_eq_true, Bool.not_eq_false, hpB, decide_eq_true_eq, decide_eq_false_iff_not, li_0, li_1, li_2, li_3, li_4, li_5, li_6, li_7, li_8, li_9, li_10, li_20, li_40, li_99, li_100, li_255, li_899, li_999, li_m1, li_m2, li_m3, li_m4, li_m11, li_m12, li_m13, li_m14, li_m100] at h6 ⊢) <;> omega)) | fail)
          all_goals (first | with_reducible rfl | (exfalso; ((try simp only [inB_t, inB_f, i_lt, i_le, i_eq, ne_eq, Bool.not_eq_true, Bool.not_eq_false, hpB, decide_eq_true_eq, decide_eq_false_iff_not, li_0, li_1, li_2, li_3, li_4, li_5, li_6, li_7, li_8, li_9, li_10, li_20, li_40, li_99, li_100, li_255, li_899, li_999, li_m1, li_m2, li_m3, li_m4, li_m11, li_m12, li_m13, li_m14, li_m100] at h6 ⊢) <;> omega)))) h hg)

theorem dk_z {m q : Nat} (hm : m ≤ 40) (hq : q ≤ 6) : (nI m - nI (2 * q) - 2).toInt = (m : Int) - 2 * q - 2 := by
  have h1 : (nI m - nI (2 * q)).toInt = (m : Int) - 2 * q := by rw [nsub_toInt (by omega) (by rw [nI_toInt (by omega)]; omega), nI_toInt (by omega)]; omega
  rw [Int32.toInt_sub, h1]
  exact Int.bmod_eq_of_le (by show _ ≤ (m : Int) - 2 * q - 2; omega) (by show (m : Int) - 2 * q - 2 < _; omega)
theorem dk_H (τ : SV) (x y : Int32) : sH (o_disk τ x y).1 = sH τ := by
  unfold o_disk
  split
  · rfl
  · split <;> rfl
theorem dk_p {x p : Int32} {q : Nat} (h : (q = 0 ∧ p = x) ∨ (0 ≤ x.toInt ∧ x.toInt + 2 * q ≤ 40 ∧ p.toInt = x.toInt + 2 * q)) (h0 : 0 ≤ x.toInt) : p.toInt = x.toInt + 2 * q := by
  rcases h with ⟨h1, h2⟩ | h
  · subst h1; rw [h2]; omega
  · exact h.2.2
theorem dk_2 {p : Int32} (h0 : 0 ≤ p.toInt) (h : p.toInt ≤ 1000) : (p + 2).toInt = p.toInt + 2 := by
  rw [Int32.toInt_add]
  exact Int.bmod_eq_of_le (by show _ ≤ p.toInt + 2; omega) (by show p.toInt + 2 < _; omega)
set_option maxRecDepth 100000 in
set_option maxHeartbeats 800000 in
theorem c_X12_disks (t : CT) {σ : SV} {M : MM} (h : RR σ M) (hg : M 0 28 = 0) (x1 x2 x3 x4 : Int32)  : XMet (wR t) yX12_disks cX12_disks 8 (some .int) 4 [.ref (t.1 0), .int x1, .int x2, .int x3, .int x4] M (oQ (o_disks σ x1 x2 x3 x4)) := by
  refine x_met RX12 (by decide) rfl (Nat.le_of_ble_eq_true rfl) (fun κ C X E => ?_)
  refine x_L (L' := [(0, .ref (t.1 0)), (1, .int x1), (2, .int x2), (3, .int x3), (4, .int x4)]) rfl ?_
  have hn6 := rr_n6 h
  have hN6 := h.1.1
  have hq := rr_q h
  have hB := h.1.2.1
  refine x_iload_n (pc := 0) C 1 dX12_disks_0 rfl ?_
  refine x_callS (pc := 1) C E [.int x1] [] (c_X12_isSheet t _ _) m_X12_isSheet q40_18 rfl (by decide) (Nat.le_of_ble_eq_true rfl) dX12_disks_1 rfl (k_I ?_)
  refine x_ifb_eq (pc := 4) C 32 dX12_disks_4 (by decide) (fun h4 => ?_) (fun h4 => ?_)
  · refine x_bipush (pc := 32) (v := (-2)) C dX12_disks_32 rfl ?_
    exact x_iret (pc := 34) C X dX12_disks_34 (foq (by
          unfold o_disks
          repeat (first | with_reducible rfl | (refine (if_pos ?_).trans ?_; ((try simp only [inB_t, inB_f, i_lt, i_le, i_eq, ne_eq, Bool.not_eq_true, Bool.not_eq_false, hpB, decide_eq_true_eq, decide_eq_false_iff_not, li_0, li_1, li_2, li_3, li_4, li_5, li_6, li_7, li_8, li_9, li_10, li_20, li_40, li_99, li_100, li_255, li_899, li_999, li_m1, li_m2, li_m3, li_m4, li_m11, li_m12, li_m13, li_m14, li_m100] at h4 ⊢) <;> omega)) | (refine (if_neg ?_).trans ?_; ((try simp only [inB_t, inB_f, i_lt, i_le, i_eq, ne_eq, Bool.not_eq_true, Bool.not_eq_false, hpB, decide_eq_true_eq, decide_eq_false_iff_not, li_0, li_1, li_2, li_3, li_4, li_5, li_6, li_7, li_8, li_9, li_10, li_20, li_40, li_99, li_100, li_255, li_899, li_999, li_m1, li_m2, li_m3, li_m4, li_m11, li_m12, li_m13, li_m14, li_m100] at h4 ⊢) <;> omega)) | fail)
          all_goals (first | with_reducible rfl | (exfalso; ((try simp only [inB_t, inB_f, i_lt, i_le, i_eq, ne_eq, Bool.not_eq_true, Bool.not_eq_false, hpB, decide_eq_true_eq, decide_eq_false_iff_not, li_0, li_1, li_2, li_3, li_4, li_5, li_6, li_7, li_8, li_9, li_10, li_20, li_40, li_99, li_100, li_255, li_899, li_999, li_m1, li_m2, li_m3, li_m4, li_m11, li_m12, li_m13, li_m14, li_m100] at h4 ⊢) <;> omega)))) h hg)
  · obtain ⟨s, hs, es⟩ := inB_of h4 (by omega)
    have hts := nI_toInt (n := s) (by omega)
    have hos := oN_nI (n := s) (by omega)
    subst es
    refine x_iload_n (pc := 7) C 2 dX12_disks_7 rfl ?_
    refine x_i2l (pc := 8) C dX12_disks_8 ?_
    refine x_lconst (pc := 9) (v := 0) C dX12_disks_9 rfl ?_
    refine x_ldc2 (pc := 10) (v := 2) C q13_3 dX12_disks_10 ?_
    refine x_callS (pc := 13) C E [.long (Int32.toInt64 x2), .long 0, .long 2] [] (c_X12_inB t _ x2 (n := 3) (by decide) (by decide)) m_X12_in q13_6 rfl (by decide) (Nat.le_of_ble_eq_true rfl) dX12_disks_13 rfl (k_I ?_)
    refine x_ifb_eq (pc := 16) C 32 dX12_disks_16 (by decide) (fun h16 => ?_) (fun h16 => ?_)
    · refine x_bipush (pc := 32) (v := (-2)) C dX12_disks_32 rfl ?_
      exact x_iret (pc := 34) C X dX12_disks_34 (foq (by
            unfold o_disks
            simp only [hos]
            repeat (first | with_reducible rfl | (refine (if_pos ?_).trans ?_; ((try simp only [inB_t, inB_f, i_lt, i_le, i_eq, ne_eq, Bool.not_eq_true, Bool.not_eq_false, hpB, decide_eq_true_eq, decide_eq_false_iff_not, li_0, li_1, li_2, li_3, li_4, li_5, li_6, li_7, li_8, li_9, li_10, li_20, li_40, li_99, li_100, li_255, li_899, li_999, li_m1, li_m2, li_m3, li_m4, li_m11, li_m12, li_m13, li_m14, li_m100] at h4 hts h16 ⊢) <;> omega)) | (refine (if_neg ?_).trans ?_; ((try simp only [inB_t, inB_f, i_lt, i_le, i_eq, ne_eq, Bool.not_eq_true, Bool.not_eq_false, hpB, decide_eq_true_eq, decide_eq_false_iff_not, li_0, li_1, li_2, li_3, li_4, li_5, li_6, li_7, li_8, li_9, li_10, li_20, li_40, li_99, li_100, li_255, li_899, li_999, li_m1, li_m2, li_m3, li_m4, li_m11, li_m12, li_m13, li_m14, li_m100] at h4 hts h16 ⊢) <;> omega)) | fail)
            all_goals (first | with_reducible rfl | (exfalso; ((try simp only [inB_t, inB_f, i_lt, i_le, i_eq, ne_eq, Bool.not_eq_true, Bool.not_eq_false, hpB, decide_eq_true_eq, decide_eq_false_iff_not, li_0, li_1, li_2, li_3, li_4, li_5, li_6, li_7, li_8, li_9, li_10, li_20, li_40, li_99, li_100, li_255, li_899, li_999, li_m1, li_m2, li_m3, li_m4, li_m11, li_m12, li_m13, li_m14, li_m100] at h4 hts h16 ⊢) <;> omega)))) h hg)
    · refine x_iload (pc := 19) C 4 dX12_disks_19 rfl ?_
      refine x_i2l (pc := 21) C dX12_disks_21 ?_
      refine x_lconst (pc := 22) (v := 0) C dX12_disks_22 rfl ?_
      refine x_ldc2 (pc := 23) (v := 6) C q36_18 dX12_disks_23 ?_
      refine x_callS (pc := 26) C E [.long (Int32.toInt64 x4), .long 0, .long 6] [] (c_X12_inB t _ x4 (n := 7) (by decide) (by decide)) m_X12_in q13_6 rfl (by decide) (Nat.le_of_ble_eq_true rfl) dX12_disks_26 rfl (k_I ?_)
      refine x_ifb_ne (pc := 29) C 35 dX12_disks_29 (by decide) (fun h29 => ?_) (fun h29 => ?_)
      · refine x_aload_n (pc := 35) C 0 dX12_disks_35 rfl ?_
        refine g_M_isThere (pc := 36) C E q12_1 dX12_disks_36 ?_
        refine x_iload_n (pc := 39) C 1 dX12_disks_39 rfl ?_
        refine l_RisThere (pc := 40) C E (by omega) dX12_disks_40 ?_
        refine x_eq (show M 12 s = b2i (!decide ((sH (σ) s).1 = -1)) from (rr_si h (by omega))) ?_
        refine x_ifb_eq (pc := 41) C 57 dX12_disks_41 (by decide) (fun h41 => ?_) (fun h41 => ?_)
        · have hns : (sH σ s).1 = -1 := (by
            by_cases e : (sH σ s).1 = -1
            · exact e
            · rw [decide_eq_false e] at h41; exact absurd h41 (by decide))
          refine x_aload_n (pc := 57) C 0 dX12_disks_57 rfl ?_
          refine g_M_isThere (pc := 58) C E q12_1 dX12_disks_58 ?_
          refine x_iload_n (pc := 61) C 1 dX12_disks_61 rfl ?_
          refine l_RisThere (pc := 62) C E (by omega) dX12_disks_62 ?_
          refine x_eq (show M 12 s = b2i (!decide ((sH (σ) s).1 = -1)) from (rr_si h (by omega))) ?_
          refine x_if_ne_f (pc := 63) C 69 dX12_disks_63 (by decide) (by rw [h41]; decide) ?_
          refine x_bipush (pc := 66) (v := (-11)) C dX12_disks_66 rfl ?_
          exact x_iret (pc := 68) C X dX12_disks_68 (foq (by
                unfold o_disks
                simp only [hos, hos, hns]
                repeat (first | with_reducible rfl | (refine (if_pos ?_).trans ?_; ((try simp only [inB_t, inB_f, i_lt, i_le, i_eq, ne_eq, Bool.not_eq_true, Bool.not_eq_false, hpB, decide_eq_true_eq, decide_eq_false_iff_not, li_0, li_1, li_2, li_3, li_4, li_5, li_6, li_7, li_8, li_9, li_10, li_20, li_40, li_99, li_100, li_255, li_899, li_999, li_m1, li_m2, li_m3, li_m4, li_m11, li_m12, li_m13, li_m14, li_m100] at h4 hts h16 h29 h41 ⊢) <;> omega)) | (refine (if_neg ?_).trans ?_; ((try simp only [inB_t, inB_f, i_lt, i_le, i_eq, ne_eq, Bool.not_eq_true, Bool.not_eq_false, hpB, decide_eq_true_eq, decide_eq_false_iff_not, li_0, li_1, li_2, li_3, li_4, li_5, li_6, li_7, li_8, li_9, li_10, li_20, li_40, li_99, li_100, li_255, li_899, li_999, li_m1, li_m2, li_m3, li_m4, li_m11, li_m12, li_m13, li_m14, li_m100] at h4 hts h16 h29 h41 ⊢) <;> omega)) | fail)
                all_goals (first | with_reducible rfl | (exfalso; ((try simp only [inB_t, inB_f, i_lt, i_le, i_eq, ne_eq, Bool.not_eq_true, Bool.not_eq_false, hpB, decide_eq_true_eq, decide_eq_false_iff_not, li_0, li_1, li_2, li_3, li_4, li_5, li_6, li_7, li_8, li_9, li_10, li_20, li_40, li_99, li_100, li_255, li_899, li_999, li_m1, li_m2, li_m3, li_m4, li_m11, li_m12, li_m13, li_m14, li_m100] at h4 hts h16 h29 h41 ⊢) <;> omega)))) h hg)
        · have hss : (sH σ s).1 ≠ -1 := fun e => by rw [decide_eq_true e] at h41; exact absurd h41 (by decide)
          have h40s := (h.1.2.2.2.2 s hs).1
          refine x_aload_n (pc := 44) C 0 dX12_disks_44 rfl ?_
          refine g_M_sorts (pc := 45) C E q12_2 dX12_disks_45 ?_
          refine x_iload_n (pc := 48) C 1 dX12_disks_48 rfl ?_
          refine l_Rsorts (pc := 49) C E (by omega) dX12_disks_49 ?_
          refine x_eq (show M 13 s = (sH (σ) s).1 from (rr_so h (by omega) hss)) ?_
          refine x_iload_n (pc := 50) C 2 dX12_disks_50 rfl ?_
          refine x_icmp_eq (pc := 51) C 57 dX12_disks_51 (by decide) (fun h51 => ?_) (fun h51 => ?_)
          · refine x_aload_n (pc := 57) C 0 dX12_disks_57 rfl ?_
            refine g_M_isThere (pc := 58) C E q12_1 dX12_disks_58 ?_
            refine x_iload_n (pc := 61) C 1 dX12_disks_61 rfl ?_
            refine l_RisThere (pc := 62) C E (by omega) dX12_disks_62 ?_
            refine x_eq (show M 12 s = b2i (!decide ((sH (σ) s).1 = -1)) from (rr_si h (by omega))) ?_
            refine x_if_ne_t (pc := 63) C 69 dX12_disks_63 (by decide) (by rw [h41]; decide) ?_
            obtain ⟨nn, hnn, enn⟩ := inB_of h29 (by omega)
            have htnn := nI_toInt (n := nn) (by omega)
            have honn := oN_nI (n := nn) (by omega)
            subst enn
            refine x_iconst (pc := 69) (v := 0) C dX12_disks_69 rfl ?_
            refine x_istore (pc := 70) (L' := [(5, .int 0), (0, .ref (t.1 0)), (1, .int (nI s)), (2, .int x2), (3, .int x3), (4, .int (nI nn))]) C dX12_disks_70 (by decide) rfl ?_
            refine x_iconst (pc := 72) (v := 0) C dX12_disks_72 rfl ?_
            refine x_istore (pc := 73) (L' := [(6, .int 0), (5, .int 0), (0, .ref (t.1 0)), (1, .int (nI s)), (2, .int x2), (3, .int x3), (4, .int (nI nn))]) C dX12_disks_73 (by decide) rfl ?_
            have loop75 : ∀ (k q : Nat) (y : Int32) (Mx : MM) (τ : SV) (c p : Int32) , q + k = nn → y = nI q → (RR τ Mx ∧ Mx 0 28 = 0) → dkF τ s p c k = o_disks σ (nI s) x2 x3 (nI nn) → sH τ = sH σ → ((q = 0 ∧ p = x3) ∨ (0 ≤ x3.toInt ∧ x3.toInt + 2 * q ≤ 40 ∧ p.toInt = x3.toInt + 2 * q)) → XV κ (xP (wR t) Mx) 75 [(6, .int y), (5, .int c), (0, .ref (t.1 0)), (1, .int (nI s)), (2, .int x2), (3, .int x3), (4, .int (nI nn))] [] := by
              intro k
              induction k with
                | zero =>
                  intro q y Mx τ c p hcnt ey eMx hl hst hp
                  subst ey
                  obtain rfl : nn = q := by omega
                  refine x_iload (pc := 75) C 0 dX12_disks_75 rfl ?_
                  refine x_iload (pc := 77) C 6 dX12_disks_77 rfl ?_
                  refine x_icmp_ge_t (pc := 79) C 158 dX12_disks_79 (by decide) (nI_le (by omega) (by omega)) ?_
                  refine x_iload (pc := 158) C 1 dX12_disks_158 rfl ?_
                  exact x_iret (pc := 160) C X dX12_disks_160 (foq hl.symm eMx.1 eMx.2)
                | succ k ih =>
                  intro q y Mx τ c p hcnt ey eMx hl hst hp
                  subst ey
                  have hi75 : q < nn := by omega
                  have hss0 := hss
                  have hss : (sH τ s).1 ≠ -1 := by rw [hst]; exact hss0
                  refine x_iload (pc := 75) C 0 dX12_disks_75 rfl ?_
                  refine x_iload (pc := 77) C 6 dX12_disks_77 rfl ?_
                  refine x_icmp_ge_f (pc := 79) C 158 dX12_disks_79 (by decide) (nI_ge (by omega) (by omega)) ?_
                  refine x_iload_n (pc := 82) C 5 dX12_disks_82 rfl ?_
                  refine x_if_lt (pc := 83) C 103 dX12_disks_83 (by decide) (fun h83 => ?_) (fun h83 => ?_)
                  · have hpf : hpB p 2 (sH τ s).2.1 = false := (by
                      refine decide_eq_false (fun e => ?_)
                      have hz := dk_z (m := (sH τ s).2.1) (q := q) (by rw [hst]; omega) (by omega)
                      have e1 : 0 ≤ p.toInt := e.2.1
                      have e2 : p.toInt + 2 ≤ (sH τ s).2.1 := e.2.2
                      have e3 : p.toInt = x3.toInt + 2 * q := hp.elim (fun g => by have := g.1; rw [g.2]; omega) (fun g => g.2.2)
                      have e4 : 0 ≤ x3.toInt := hp.elim (fun g => by rw [g.2] at e1; exact e1) (fun g => g.1)
                      ((try simp only [inB_t, inB_f, i_lt, i_le, i_eq, ne_eq, Bool.not_eq_true, Bool.not_eq_false, hpB, decide_eq_true_eq, decide_eq_false_iff_not, li_0, li_1, li_2, li_3, li_4, li_5, li_6, li_7, li_8, li_9, li_10, li_20, li_40, li_99, li_100, li_255, li_899, li_999, li_m1, li_m2, li_m3, li_m4, li_m11, li_m12, li_m13, li_m14, li_m100] at h4 hts h16 h29 h41 hss h51 htnn h83 ⊢) <;> omega))
                    refine x_bipush (pc := 103) (v := (-12)) C dX12_disks_103 rfl ?_
                    exact x_iret (pc := 105) C X dX12_disks_105 (foq (hl.symm.trans (by rw [dkF, if_pos hpf])) eMx.1 eMx.2)
                  · refine x_iload_n (pc := 86) C 5 dX12_disks_86 rfl ?_
                    refine x_aload_n (pc := 87) C 2 dX12_disks_87 rfl ?_
                    refine g_M_sheetSize (pc := 88) C E q12_3 dX12_disks_88 ?_
                    refine x_iload_n (pc := 91) C 3 dX12_disks_91 rfl ?_
                    refine l_RsheetSize (pc := 92) C E (by omega) dX12_disks_92 ?_
                    refine x_eq (show Mx 14 s = nI (sH (τ) s).2.1 from (rr_sz eMx.1 (by omega) hss)) ?_
                    refine x_iconst (pc := 93) (v := (nI 2)) C dX12_disks_93 (by decide) ?_
                    refine x_iload (pc := 94) C 0 dX12_disks_94 rfl ?_
                    refine x_imul (pc := 96) C dX12_disks_96 ?_
                    refine x_eq (show (nI 2) * (nI q) = nI (2 * q) from pk_mul _ _) ?_
                    refine x_isub (pc := 97) C dX12_disks_97 ?_
                    refine x_iconst (pc := 98) (v := 2) C dX12_disks_98 rfl ?_
                    refine x_isub (pc := 99) C dX12_disks_99 ?_
                    refine x_icmp_le (pc := 100) C 106 dX12_disks_100 (by decide) (fun h100 => ?_) (fun h100 => ?_)
                    · have hz := dk_z (m := (sH τ s).2.1) (q := q) (by rw [hst]; omega) (by omega)
                      have hx3 : 0 ≤ x3.toInt ∧ x3.toInt + 2 * q + 2 ≤ (sH τ s).2.1 := ⟨(by ((try simp only [inB_t, inB_f, i_lt, i_le, i_eq, ne_eq, Bool.not_eq_true, Bool.not_eq_false, hpB, decide_eq_true_eq, decide_eq_false_iff_not, li_0, li_1, li_2, li_3, li_4, li_5, li_6, li_7, li_8, li_9, li_10, li_20, li_40, li_99, li_100, li_255, li_899, li_999, li_m1, li_m2, li_m3, li_m4, li_m11, li_m12, li_m13, li_m14, li_m100] at h4 hts h16 h29 h41 hss h51 htnn h83 h100 ⊢) <;> omega)), (by ((try simp only [inB_t, inB_f, i_lt, i_le, i_eq, ne_eq, Bool.not_eq_true, Bool.not_eq_false, hpB, decide_eq_true_eq, decide_eq_false_iff_not, li_0, li_1, li_2, li_3, li_4, li_5, li_6, li_7, li_8, li_9, li_10, li_20, li_40, li_99, li_100, li_255, li_899, li_999, li_m1, li_m2, li_m3, li_m4, li_m11, li_m12, li_m13, li_m14, li_m100] at h4 hts h16 h29 h41 hss h51 htnn h83 h100 ⊢) <;> omega))⟩
                      have hm40 : (sH τ s).2.1 ≤ 40 := (by rw [hst]; omega)
                      have hpx := dk_p hp hx3.1
                      have hpb : hpB p 2 (sH τ s).2.1 = true := decide_eq_true ⟨by decide, by omega, by show p.toInt + 2 ≤ _; omega⟩
                      obtain ⟨aa, haa, eaa⟩ := inB_of (x := x3) (n := 41) (inB_t.mpr ⟨hx3.1, by omega⟩) (by decide)
                      have haa2 : x3.toInt = aa := by rw [eaa, nI_toInt (by omega)]
                      have hpe : p = nI (aa + 2 * q) := Int32.toInt_inj.mp (by rw [hpx, haa2, nI_toInt (by omega)]; omega)
                      have hop : oN p = aa + 2 * q := by rw [hpe, oN_nI (by omega)]
                      refine x_bipush (pc := 106) (v := (nI 40)) C dX12_disks_106 (by decide) ?_
                      refine x_iload_n (pc := 108) C 3 dX12_disks_108 rfl ?_
                      refine x_imul (pc := 109) C dX12_disks_109 ?_
                      refine x_eq (show (nI 40) * (nI s) = nI (40 * s) from pk_mul _ _) ?_
                      refine x_iload_n (pc := 110) C 5 dX12_disks_110 rfl ?_
                      refine x_iadd (pc := 111) C dX12_disks_111 ?_
                      refine x_iconst (pc := 112) (v := (nI 2)) C dX12_disks_112 (by decide) ?_
                      refine x_iload (pc := 113) C 0 dX12_disks_113 rfl ?_
                      refine x_imul (pc := 115) C dX12_disks_115 ?_
                      refine x_eq (show (nI 2) * (nI q) = nI (2 * q) from pk_mul _ _) ?_
                      refine x_iadd (pc := 116) C dX12_disks_116 ?_
                      refine x_eq (show ((nI (40 * s)) + x3) + (nI (2 * q)) = nI (40 * s + (aa + 2 * q)) from (by rw [eaa, nI_add, nI_add, Nat.add_assoc])) ?_
                      refine x_istore (pc := 117) (L' := [(7, .int (nI (40 * s + (aa + 2 * q)))), (6, .int (nI q)), (5, .int c), (0, .ref (t.1 0)), (1, .int (nI s)), (2, .int x2), (3, .int x3), (4, .int (nI nn))]) C dX12_disks_117 (by decide) rfl ?_
                      refine x_iload (pc := 119) C 2 dX12_disks_119 rfl ?_
                      refine x_aload_n (pc := 121) C 3 dX12_disks_121 rfl ?_
                      refine x_aload_n (pc := 122) C 3 dX12_disks_122 rfl ?_
                      refine g_M_items (pc := 123) C E q12_4 dX12_disks_123 ?_
                      refine x_iload (pc := 126) C 0 dX12_disks_126 rfl ?_
                      refine l_Ritems (pc := 128) C E (by omega) dX12_disks_128 ?_
                      refine x_eq (show Mx 15 (40 * s + (aa + 2 * q)) = (sH (τ) s).2.2 (aa + 2 * q) from (rr_it eMx.1 (by omega) hss (by omega))) ?_
                      refine x_aload_n (pc := 129) C 3 dX12_disks_129 rfl ?_
                      refine g_M_items (pc := 130) C E q12_4 dX12_disks_130 ?_
                      refine x_iload (pc := 133) C 0 dX12_disks_133 rfl ?_
                      refine x_iconst (pc := 135) (v := 1) C dX12_disks_135 rfl ?_
                      refine x_iadd (pc := 136) C dX12_disks_136 ?_
                      refine x_eq (show (nI (40 * s + (aa + 2 * q))) + 1 = nI (40 * s + (aa + 2 * q + 1)) from nI_1 _) ?_
                      refine l_Ritems (pc := 137) C E (by omega) dX12_disks_137 ?_
                      refine x_eq (show Mx 15 (40 * s + (aa + 2 * q + 1)) = (sH (τ) s).2.2 (aa + 2 * q + 1) from (rr_it eMx.1 (by omega) hss (by omega))) ?_
                      refine x_callV (pc := 138) C E [.int ((sH (τ) s).2.2 (aa + 2 * q)), .int ((sH (τ) s).2.2 (aa + 2 * q + 1))] [.int c] (c_X12_disk t eMx.1 eMx.2 ((sH (τ) s).2.2 (aa + 2 * q)) ((sH (τ) s).2.2 (aa + 2 * q + 1))) m_X12_disk q48_1 xo_M rfl (by first | decide | omega) (Nat.le_of_ble_eq_true rfl) dX12_disks_138 rfl (fun r M138 hc138 => ?_)
                      obtain ⟨rfl, hR138, hg138⟩ := hc138
                      show XV κ (xP (wR t) M138) 141 _ [.int ((o_disk τ ((sH (τ) s).2.2 (aa + 2 * q)) ((sH (τ) s).2.2 (aa + 2 * q + 1))).2), .int c]
                      refine x_if_lt (pc := 141) C 148 dX12_disks_141 (by decide) (fun h141 => ?_) (fun h141 => ?_)
                      · refine x_iconst (pc := 148) (v := 0) C dX12_disks_148 rfl ?_
                        refine x_iadd (pc := 149) C dX12_disks_149 ?_
                        refine x_istore (pc := 150) (L' := [(5, .int (c + 0)), (7, .int (nI (40 * s + (aa + 2 * q)))), (6, .int (nI q)), (0, .ref (t.1 0)), (1, .int (nI s)), (2, .int x2), (3, .int x3), (4, .int (nI nn))]) C dX12_disks_150 (by decide) rfl ?_
                        refine x_iinc (pc := 152) (v := nI (q + 1)) (L' := [(6, .int (nI (q + 1))), (5, .int (c + 0)), (7, .int (nI (40 * s + (aa + 2 * q)))), (0, .ref (t.1 0)), (1, .int (nI s)), (2, .int x2), (3, .int x3), (4, .int (nI nn))]) C 2 dX12_disks_152 rfl (nI_1 _) (by decide) rfl ?_
                        refine x_goto (pc := 155) C 75 dX12_disks_155 (by decide) ?_
                        refine x_sub [0, 1, 3, 4, 5, 6, 7] rfl ?_
                        exact ih (q + 1) _ _ _ _ (p + 2) (by omega) rfl ⟨hR138, hg138⟩ (by rw [← hl, dkF, if_neg (by rw [hpb]; decide), hop, if_pos h141]; rw [Int32.add_zero]) (by rw [dk_H]; exact hst) (Or.inr ⟨hx3.1, by omega, by rw [dk_2 (by omega) (by omega)]; omega⟩)
                      · refine x_iconst (pc := 144) (v := 1) C dX12_disks_144 rfl ?_
                        refine x_goto (pc := 145) C 149 dX12_disks_145 (by decide) ?_
                        refine x_iadd (pc := 149) C dX12_disks_149 ?_
                        refine x_istore (pc := 150) (L' := [(5, .int (c + 1)), (7, .int (nI (40 * s + (aa + 2 * q)))), (6, .int (nI q)), (0, .ref (t.1 0)), (1, .int (nI s)), (2, .int x2), (3, .int x3), (4, .int (nI nn))]) C dX12_disks_150 (by decide) rfl ?_
                        refine x_iinc (pc := 152) (v := nI (q + 1)) (L' := [(6, .int (nI (q + 1))), (5, .int (c + 1)), (7, .int (nI (40 * s + (aa + 2 * q)))), (0, .ref (t.1 0)), (1, .int (nI s)), (2, .int x2), (3, .int x3), (4, .int (nI nn))]) C 2 dX12_disks_152 rfl (nI_1 _) (by decide) rfl ?_
                        refine x_goto (pc := 155) C 75 dX12_disks_155 (by decide) ?_
                        refine x_sub [0, 1, 3, 4, 5, 6, 7] rfl ?_
                        exact ih (q + 1) _ _ _ _ (p + 2) (by omega) rfl ⟨hR138, hg138⟩ (by rw [← hl, dkF, if_neg (by rw [hpb]; decide), hop, if_neg h141]) (by rw [dk_H]; exact hst) (Or.inr ⟨hx3.1, by omega, by rw [dk_2 (by omega) (by omega)]; omega⟩)
                    · have hpf : hpB p 2 (sH τ s).2.1 = false := (by
                        refine decide_eq_false (fun e => ?_)
                        have hz := dk_z (m := (sH τ s).2.1) (q := q) (by rw [hst]; omega) (by omega)
                        have e1 : 0 ≤ p.toInt := e.2.1
                        have e2 : p.toInt + 2 ≤ (sH τ s).2.1 := e.2.2
                        have e3 : p.toInt = x3.toInt + 2 * q := hp.elim (fun g => by have := g.1; rw [g.2]; omega) (fun g => g.2.2)
                        have e4 : 0 ≤ x3.toInt := hp.elim (fun g => by rw [g.2] at e1; exact e1) (fun g => g.1)
                        ((try simp only [inB_t, inB_f, i_lt, i_le, i_eq, ne_eq, Bool.not_eq_true, Bool.not_eq_false, hpB, decide_eq_true_eq, decide_eq_false_iff_not, li_0, li_1, li_2, li_3, li_4, li_5, li_6, li_7, li_8, li_9, li_10, li_20, li_40, li_99, li_100, li_255, li_899, li_999, li_m1, li_m2, li_m3, li_m4, li_m11, li_m12, li_m13, li_m14, li_m100] at h4 hts h16 h29 h41 hss h51 htnn h83 h100 ⊢) <;> omega))
                      refine x_bipush (pc := 103) (v := (-12)) C dX12_disks_103 rfl ?_
                      exact x_iret (pc := 105) C X dX12_disks_105 (foq (hl.symm.trans (by rw [dkF, if_pos hpf])) eMx.1 eMx.2)
            refine x_sub [0, 1, 2, 3, 4, 5, 6] rfl ?_
            exact loop75 nn 0 _ M σ 0 x3 (by omega) rfl ⟨h, hg⟩ (by unfold o_disks; rw [hos, honn, if_neg (by rw [h4, h16, h29]; decide), if_neg hss, if_neg (fun e => e h51)]) rfl (Or.inl ⟨rfl, rfl⟩)
          · refine x_bipush (pc := 54) (v := (-13)) C dX12_disks_54 rfl ?_
            exact x_iret (pc := 56) C X dX12_disks_56 (foq (by
                  unfold o_disks
                  simp only [hos, hos]
                  repeat (first | with_reducible rfl | (refine (if_pos ?_).trans ?_; ((try simp only [inB_t, inB_f, i_lt, i_le, i_eq, ne_eq, Bool.not_eq_true, Bool.not_eq_false, hpB, decide_eq_true_eq, decide_eq_false_iff_not, li_0, li_1, li_2, li_3, li_4, li_5, li_6, li_7, li_8, li_9, li_10, li_20, li_40, li_99, li_100, li_255, li_899, li_999, li_m1, li_m2, li_m3, li_m4, li_m11, li_m12, li_m13, li_m14, li_m100] at h4 hts h16 h29 h41 hss h51 ⊢) <;> omega)) | (refine (if_neg ?_).trans ?_; ((try simp only [inB_t, inB_f, i_lt, i_le, i_eq, ne_eq, Bool.not_eq_true, Bool.not_eq_false, hpB, decide_eq_true_eq, decide_eq_false_iff_not, li_0, li_1, li_2, li_3, li_4, li_5, li_6, li_7, li_8, li_9, li_10, li_20, li_40, li_99, li_100, li_255, li_899, li_999, li_m1, li_m2, li_m3, li_m4, li_m11, li_m12, li_m13, li_m14, li_m100] at h4 hts h16 h29 h41 hss h51 ⊢) <;> omega)) | fail)
                  all_goals (first | with_reducible rfl | (exfalso; ((try simp only [inB_t, inB_f, i_lt, i_le, i_eq, ne_eq, Bool.not_eq_true, Bool.not_eq_false, hpB, decide_eq_true_eq, decide_eq_false_iff_not, li_0, li_1, li_2, li_3, li_4, li_5, li_6, li_7, li_8, li_9, li_10, li_20, li_40, li_99, li_100, li_255, li_899, li_999, li_m1, li_m2, li_m3, li_m4, li_m11, li_m12, li_m13, li_m14, li_m100] at h4 hts h16 h29 h41 hss h51 ⊢) <;> omega)))) h hg)
      · refine x_bipush (pc := 32) (v := (-2)) C dX12_disks_32 rfl ?_
        exact x_iret (pc := 34) C X dX12_disks_34 (foq (by
              unfold o_disks
              simp only [hos]
              repeat (first | with_reducible rfl | (refine (if_pos ?_).trans ?_; ((try simp only [inB_t, inB_f, i_lt, i_le, i_eq, ne_eq, Bool.not_eq_true, Bool.not_eq_false, hpB, decide_eq_true_eq, decide_eq_false_iff_not, li_0, li_1, li_2, li_3, li_4, li_5, li_6, li_7, li_8, li_9, li_10, li_20, li_40, li_99, li_100, li_255, li_899, li_999, li_m1, li_m2, li_m3, li_m4, li_m11, li_m12, li_m13, li_m14, li_m100] at h4 hts h16 h29 ⊢) <;> omega)) | (refine (if_neg ?_).trans ?_; ((try simp only [inB_t, inB_f, i_lt, i_le, i_eq, ne_eq, Bool.not_eq_true, Bool.not_eq_false, hpB, decide_eq_true_eq, decide_eq_false_iff_not, li_0, li_1, li_2, li_3, li_4, li_5, li_6, li_7, li_8, li_9, li_10, li_20, li_40, li_99, li_100, li_255, li_899, li_999, li_m1, li_m2, li_m3, li_m4, li_m11, li_m12, li_m13, li_m14, li_m100] at h4 hts h16 h29 ⊢) <;> omega)) | fail)
              all_goals (first | with_reducible rfl | (exfalso; ((try simp only [inB_t, inB_f, i_lt, i_le, i_eq, ne_eq, Bool.not_eq_true, Bool.not_eq_false, hpB, decide_eq_true_eq, decide_eq_false_iff_not, li_0, li_1, li_2, li_3, li_4, li_5, li_6, li_7, li_8, li_9, li_10, li_20, li_40, li_99, li_100, li_255, li_899, li_999, li_m1, li_m2, li_m3, li_m4, li_m11, li_m12, li_m13, li_m14, li_m100] at h4 hts h16 h29 ⊢) <;> omega)))) h hg)

