theorem w_isMissing (t : CT) {σ : SV} {M : MM} (h : RC σ M) {s : Nat} (hs : s < 4) : XMet (wC t) yX8_isMissing cX8_isMissing 1 (some .boolean) 1 [.ref (t.1 (54 + 2 * s))] M (rI (b2i (decide ((sH σ s).1 = -1))) M) := by
  rw [← rc_ss h hs]
  exact c_X8_isMissing t M hs
theorem shB_o (M : MM) (s : Nat) (x y : Int32) {a b : Nat} (h : a ≠ 54 + 2 * s) (h2 : a ≠ 55 + 2 * s) : shB M s x y a b = M a b := by
  unfold shB fM
  rw [mr_n _ _ _ h2, mu_n _ _ _ _ h, mu_n _ _ _ _ h]
theorem shB_s (M : MM) (s n : Nat) (x : Int32) (h : n ≤ 40) : ShC (shB M s x (nI n)) s (x, n, fun _ => 0) := by
  refine ⟨?_, fun _ => ⟨?_, fun k hk => ?_⟩⟩
  · unfold shB fM
    rw [mr_n _ _ _ (by omega), mu_k _ _ _ _ (by decide), mu_s]
  · unfold shB fM
    rw [mr_n _ _ _ (by omega), mu_s]
  · have hk' : k < n := hk
    unfold shB fM
    rw [mr_s, if_pos (by omega)]
theorem rc_shB (t : CT) {σ : SV} {M : MM} (h : RC σ M) {s n : Nat} (hs : s < 4) {x : Int32} (hx : -1 ≤ x.toInt ∧ x.toInt ≤ 2) (hn : n ≤ 40) : RC (setH σ s (x, n, fun _ => 0)) (shB M s x (nI n)) :=
  rc_sheet_ h hs (fun a b h1 h2 => shB_o M s x _ h1 h2) (shB_s M s n x hn) ⟨hn, hx⟩
theorem rc_put1 {σ : SV} {M : MM} (h : RC σ M) {s i : Nat} (hs : s < 4) (hm : (sH σ s).1 ≠ -1) (hi : i < (sH σ s).2.1) (x : Int32) : RC (setH σ s ((sH σ s).1, (sH σ s).2.1, fun k => if k = i then shV (sH σ s).1 x else (sH σ s).2.2 k)) (mu M (55 + 2 * s) i (shV (M (54 + 2 * s) 1) x)) := by
  obtain ⟨h1, h2⟩ := rc_sh h hs
  obtain ⟨h3, h4⟩ := h2 hm
  refine rc_sheet_ h hs (fun a b g1 g2 => by rw [mu_n _ _ _ _ g2]) ⟨?_, fun _ => ⟨?_, fun k hk => ?_⟩⟩ (h.1.2.2.2.2 s hs)
  · rw [mu_n _ _ _ _ (by omega)]; exact h1
  · rw [mu_n _ _ _ _ (by omega)]; exact h3
  · show _ = if k = i then _ else _
    by_cases g : k = i
    · rw [if_pos g, g, mu_s, h1]
    · rw [if_neg g, mu_k _ _ _ _ g]; exact h4 k hk
theorem o_sheet_s0 (σ : SV) (s : Nat) (n : Int32) (hs : s < 4) : True := trivial
set_option maxRecDepth 100000 in
set_option maxHeartbeats 800000 in
theorem c_X11_sheet (t : CT) {σ : SV} {M : MM} (h : RC σ M)(x1 x2 x3 : Int32) : XMet (wC t) yX11_sheet cX11_sheet 4 (some .int) 3 [.ref (t.1 0), .int x1, .int x2, .int x3] M (oR (o_sheet σ x1 x2 x3)) := by
  refine x_met RX11 (by decide) rfl (Nat.le_of_ble_eq_true rfl) (fun κ C X E => ?_)
  refine x_L (L' := [(0, .ref (t.1 0)), (1, .int x1), (2, .int x2), (3, .int x3)]) rfl ?_
  have hn6 := rc_n6 h
  have hq6 := rc_q6 h
  have hq := rc_q h
  have hN6 := h.1.1
  have hB := h.1.2.1
  refine x_iload_n (pc := 0) C 1 dX11_sheet_0 rfl ?_
  refine x_callS (pc := 1) C E [.int x1] [] (c_X11_isSheet t _ _) m_X11_isSheet q39_22 rfl (by decide) (Nat.le_of_ble_eq_true rfl) dX11_sheet_1 rfl (k_I ?_)
  refine x_ifb_eq (pc := 4) C 17 dX11_sheet_4 (by decide) (fun h4 => ?_) (fun h4 => ?_)
  · refine x_bipush (pc := 17) (v := (-2)) C dX11_sheet_17 rfl ?_
    exact x_iret (pc := 19) C X dX11_sheet_19 (fin (by
          unfold o_sheet
          repeat (first | with_reducible rfl | (refine (if_pos ?_).trans ?_; ((try simp only [inB_t, inB_f, i_lt, i_le, i_eq, ne_eq, Bool.not_eq_true, Bool.not_eq_false, hpB, decide_eq_true_eq, decide_eq_false_iff_not, li_0, li_1, li_2, li_3, li_4, li_5, li_6, li_7, li_8, li_9, li_10, li_20, li_40, li_99, li_100, li_255, li_899, li_999, li_m1, li_m2, li_m3, li_m4, li_m11, li_m12, li_m13, li_m14, li_m100] at h4 ⊢) <;> omega)) | (refine (if_neg ?_).trans ?_; ((try simp only [inB_t, inB_f, i_lt, i_le, i_eq, ne_eq, Bool.not_eq_true, Bool.not_eq_false, hpB, decide_eq_true_eq, decide_eq_false_iff_not, li_0, li_1, li_2, li_3, li_4, li_5, li_6, li_7, li_8, li_9, li_10, li_20, li_40, li_99, li_100, li_255, li_899, li_999, li_m1, li_m2, li_m3, li_m4, li_m11, li_m12, li_m13, li_m14, li_m100] at h4 ⊢) <;> omega)) | fail)
          all_goals (first | with_reducible rfl | (exfalso; ((try simp only [inB_t, inB_f, i_lt, i_le, i_eq, ne_eq, Bool.not_eq_true, Bool.not_eq_false, hpB, decide_eq_true_eq, decide_eq_false_iff_not, li_0, li_1, li_2, li_3, li_4, li_5, li_6, li_7, li_8, li_9, li_10, li_20, li_40, li_99, li_100, li_255, li_899, li_999, li_m1, li_m2, li_m3, li_m4, li_m11, li_m12, li_m13, li_m14, li_m100] at h4 ⊢) <;> omega)))) h)
  · obtain ⟨s, hs, es⟩ := inB_of h4 (by omega)
    have hts := nI_toInt (n := s) (by omega)
    have hos := oN_nI (n := s) (by omega)
    subst es
    refine x_iload_n (pc := 7) C 2 dX11_sheet_7 rfl ?_
    refine x_iconst (pc := 8) (v := (-1)) C dX11_sheet_8 rfl ?_
    refine x_icmp_lt (pc := 9) C 17 dX11_sheet_9 (by decide) (fun h9 => ?_) (fun h9 => ?_)
    · refine x_bipush (pc := 17) (v := (-2)) C dX11_sheet_17 rfl ?_
      exact x_iret (pc := 19) C X dX11_sheet_19 (fin (by
            unfold o_sheet
            simp only [hos]
            repeat (first | with_reducible rfl | (refine (if_pos ?_).trans ?_; ((try simp only [inB_t, inB_f, i_lt, i_le, i_eq, ne_eq, Bool.not_eq_true, Bool.not_eq_false, hpB, decide_eq_true_eq, decide_eq_false_iff_not, li_0, li_1, li_2, li_3, li_4, li_5, li_6, li_7, li_8, li_9, li_10, li_20, li_40, li_99, li_100, li_255, li_899, li_999, li_m1, li_m2, li_m3, li_m4, li_m11, li_m12, li_m13, li_m14, li_m100] at h4 hts h9 ⊢) <;> omega)) | (refine (if_neg ?_).trans ?_; ((try simp only [inB_t, inB_f, i_lt, i_le, i_eq, ne_eq, Bool.not_eq_true, Bool.not_eq_false, hpB, decide_eq_true_eq, decide_eq_false_iff_not, li_0, li_1, li_2, li_3, li_4, li_5, li_6, li_7, li_8, li_9, li_10, li_20, li_40, li_99, li_100, li_255, li_899, li_999, li_m1, li_m2, li_m3, li_m4, li_m11, li_m12, li_m13, li_m14, li_m100] at h4 hts h9 ⊢) <;> omega)) | fail)
            all_goals (first | with_reducible rfl | (exfalso; ((try simp only [inB_t, inB_f, i_lt, i_le, i_eq, ne_eq, Bool.not_eq_true, Bool.not_eq_false, hpB, decide_eq_true_eq, decide_eq_false_iff_not, li_0, li_1, li_2, li_3, li_4, li_5, li_6, li_7, li_8, li_9, li_10, li_20, li_40, li_99, li_100, li_255, li_899, li_999, li_m1, li_m2, li_m3, li_m4, li_m11, li_m12, li_m13, li_m14, li_m100] at h4 hts h9 ⊢) <;> omega)))) h)
    · refine x_iload_n (pc := 12) C 2 dX11_sheet_12 rfl ?_
      refine x_iconst (pc := 13) (v := 2) C dX11_sheet_13 rfl ?_
      refine x_icmp_le (pc := 14) C 20 dX11_sheet_14 (by decide) (fun h14 => ?_) (fun h14 => ?_)
      · refine x_iload_n (pc := 20) C 2 dX11_sheet_20 rfl ?_
        refine x_iconst (pc := 21) (v := (-1)) C dX11_sheet_21 rfl ?_
        refine x_icmp_ne (pc := 22) C 38 dX11_sheet_22 (by decide) (fun h22 => ?_) (fun h22 => ?_)
        · refine x_iload_n (pc := 38) C 3 dX11_sheet_38 rfl ?_
          refine x_bipush (pc := 39) (v := 40) C dX11_sheet_39 rfl ?_
          refine x_icmp_le (pc := 41) C 47 dX11_sheet_41 (by decide) (fun h41 => ?_) (fun h41 => ?_)
          · refine x_iload_n (pc := 47) C 3 dX11_sheet_47 rfl ?_
            refine x_if_ge (pc := 48) C 54 dX11_sheet_48 (by decide) (fun h48 => ?_) (fun h48 => ?_)
            · have hx2 : -1 ≤ x2.toInt ∧ x2.toInt ≤ 2 := (by ((try simp only [inB_t, inB_f, i_lt, i_le, i_eq, ne_eq, Bool.not_eq_true, Bool.not_eq_false, hpB, decide_eq_true_eq, decide_eq_false_iff_not, li_0, li_1, li_2, li_3, li_4, li_5, li_6, li_7, li_8, li_9, li_10, li_20, li_40, li_99, li_100, li_255, li_899, li_999, li_m1, li_m2, li_m3, li_m4, li_m11, li_m12, li_m13, li_m14, li_m100] at h4 hts h9 h14 h22 h41 h48 ⊢) <;> omega))
              have hk1 : inB x3 41 = true := (by ((try simp only [inB_t, inB_f, i_lt, i_le, i_eq, ne_eq, Bool.not_eq_true, Bool.not_eq_false, hpB, decide_eq_true_eq, decide_eq_false_iff_not, li_0, li_1, li_2, li_3, li_4, li_5, li_6, li_7, li_8, li_9, li_10, li_20, li_40, li_99, li_100, li_255, li_899, li_999, li_m1, li_m2, li_m3, li_m4, li_m11, li_m12, li_m13, li_m14, li_m100] at h4 hts h9 h14 h22 h41 h48 ⊢) <;> omega))
              obtain ⟨n, hn, en⟩ := inB_of hk1 (by omega)
              have htn := nI_toInt (n := n) (by omega)
              have hon := oN_nI (n := n) (by omega)
              subst en
              have hn40 : n ≤ 40 := by omega
              refine x_aload_n (pc := 54) C 0 dX11_sheet_54 rfl ?_
              refine g_main_sheets (pc := 55) C E q1_17 dX11_sheet_55 ?_
              refine x_iload_n (pc := 58) C 1 dX11_sheet_58 rfl ?_
              refine l_sheets (pc := 59) C E (by omega) dX11_sheet_59 ?_
              refine x_iload_n (pc := 60) C 2 dX11_sheet_60 rfl ?_
              refine x_iload_n (pc := 61) C 3 dX11_sheet_61 rfl ?_
              refine x_callV (pc := 62) C E [.int x2, .int (nI n)] [] (c_X8_become t _ (by omega) _ _) m_X8_become q42_22 (xo_Sheet (by omega)) rfl (by decide) (Nat.le_of_ble_eq_true rfl) dX11_sheet_62 rfl (k_U ?_)
              refine x_iconst (pc := 65) (v := 1) C dX11_sheet_65 rfl ?_
              exact x_iret (pc := 66) C X dX11_sheet_66 (fin (by
                    unfold o_sheet
                    simp only [hos, hon]
                    repeat (first | with_reducible rfl | (refine (if_pos ?_).trans ?_; ((try simp only [inB_t, inB_f, i_lt, i_le, i_eq, ne_eq, Bool.not_eq_true, Bool.not_eq_false, hpB, decide_eq_true_eq, decide_eq_false_iff_not, li_0, li_1, li_2, li_3, li_4, li_5, li_6, li_7, li_8, li_9, li_10, li_20, li_40, li_99, li_100, li_255, li_899, li_999, li_m1, li_m2, li_m3, li_m4, li_m11, li_m12, li_m13, li_m14, li_m100] at h4 hts h9 h14 h22 h41 h48 htn ⊢) <;> omega)) | (refine (if_neg ?_).trans ?_; ((try simp only [inB_t, inB_f, i_lt, i_le, i_eq, ne_eq, Bool.not_eq_true, Bool.not_eq_false, hpB, decide_eq_true_eq, decide_eq_false_iff_not, li_0, li_1, li_2, li_3, li_4, li_5, li_6, li_7, li_8, li_9, li_10, li_20, li_40, li_99, li_100, li_255, li_899, li_999, li_m1, li_m2, li_m3, li_m4, li_m11, li_m12, li_m13, li_m14, li_m100] at h4 hts h9 h14 h22 h41 h48 htn ⊢) <;> omega)) | fail)
                    all_goals (first | with_reducible rfl | (exfalso; ((try simp only [inB_t, inB_f, i_lt, i_le, i_eq, ne_eq, Bool.not_eq_true, Bool.not_eq_false, hpB, decide_eq_true_eq, decide_eq_false_iff_not, li_0, li_1, li_2, li_3, li_4, li_5, li_6, li_7, li_8, li_9, li_10, li_20, li_40, li_99, li_100, li_255, li_899, li_999, li_m1, li_m2, li_m3, li_m4, li_m11, li_m12, li_m13, li_m14, li_m100] at h4 hts h9 h14 h22 h41 h48 htn ⊢) <;> omega)))) (rc_shB t h (n := n) hs hx2 hn40))
            · refine x_bipush (pc := 51) (v := (-14)) C dX11_sheet_51 rfl ?_
              exact x_iret (pc := 53) C X dX11_sheet_53 (fin (by
                    unfold o_sheet
                    simp only [hos]
                    repeat (first | with_reducible rfl | (refine (if_pos ?_).trans ?_; ((try simp only [inB_t, inB_f, i_lt, i_le, i_eq, ne_eq, Bool.not_eq_true, Bool.not_eq_false, hpB, decide_eq_true_eq, decide_eq_false_iff_not, li_0, li_1, li_2, li_3, li_4, li_5, li_6, li_7, li_8, li_9, li_10, li_20, li_40, li_99, li_100, li_255, li_899, li_999, li_m1, li_m2, li_m3, li_m4, li_m11, li_m12, li_m13, li_m14, li_m100] at h4 hts h9 h14 h22 h41 h48 ⊢) <;> omega)) | (refine (if_neg ?_).trans ?_; ((try simp only [inB_t, inB_f, i_lt, i_le, i_eq, ne_eq, Bool.not_eq_true, Bool.not_eq_false, hpB, decide_eq_true_eq, decide_eq_false_iff_not, li_0, li_1, li_2, li_3, li_4, li_5, li_6, li_7, li_8, li_9, li_10, li_20, li_40, li_99, li_100, li_255, li_899, li_999, li_m1, li_m2, li_m3, li_m4, li_m11, li_m12, li_m13, li_m14, li_m100] at h4 hts h9 h14 h22 h41 h48 ⊢) <;> omega)) | fail)
                    all_goals (first | with_reducible rfl | (exfalso; ((try simp only [inB_t, inB_f, i_lt, i_le, i_eq, ne_eq, Bool.not_eq_true, Bool.not_eq_false, hpB, decide_eq_true_eq, decide_eq_false_iff_not, li_0, li_1, li_2, li_3, li_4, li_5, li_6, li_7, li_8, li_9, li_10, li_20, li_40, li_99, li_100, li_255, li_899, li_999, li_m1, li_m2, li_m3, li_m4, li_m11, li_m12, li_m13, li_m14, li_m100] at h4 hts h9 h14 h22 h41 h48 ⊢) <;> omega)))) h)
          · refine x_bipush (pc := 44) (v := (-2)) C dX11_sheet_44 rfl ?_
            exact x_iret (pc := 46) C X dX11_sheet_46 (fin (by
                  unfold o_sheet
                  simp only [hos]
                  repeat (first | with_reducible rfl | (refine (if_pos ?_).trans ?_; ((try simp only [inB_t, inB_f, i_lt, i_le, i_eq, ne_eq, Bool.not_eq_true, Bool.not_eq_false, hpB, decide_eq_true_eq, decide_eq_false_iff_not, li_0, li_1, li_2, li_3, li_4, li_5, li_6, li_7, li_8, li_9, li_10, li_20, li_40, li_99, li_100, li_255, li_899, li_999, li_m1, li_m2, li_m3, li_m4, li_m11, li_m12, li_m13, li_m14, li_m100] at h4 hts h9 h14 h22 h41 ⊢) <;> omega)) | (refine (if_neg ?_).trans ?_; ((try simp only [inB_t, inB_f, i_lt, i_le, i_eq, ne_eq, Bool.not_eq_true, Bool.not_eq_false, hpB, decide_eq_true_eq, decide_eq_false_iff_not, li_0, li_1, li_2, li_3, li_4, li_5, li_6, li_7, li_8, li_9, li_10, li_20, li_40, li_99, li_100, li_255, li_899, li_999, li_m1, li_m2, li_m3, li_m4, li_m11, li_m12, li_m13, li_m14, li_m100] at h4 hts h9 h14 h22 h41 ⊢) <;> omega)) | fail)
                  all_goals (first | with_reducible rfl | (exfalso; ((try simp only [inB_t, inB_f, i_lt, i_le, i_eq, ne_eq, Bool.not_eq_true, Bool.not_eq_false, hpB, decide_eq_true_eq, decide_eq_false_iff_not, li_0, li_1, li_2, li_3, li_4, li_5, li_6, li_7, li_8, li_9, li_10, li_20, li_40, li_99, li_100, li_255, li_899, li_999, li_m1, li_m2, li_m3, li_m4, li_m11, li_m12, li_m13, li_m14, li_m100] at h4 hts h9 h14 h22 h41 ⊢) <;> omega)))) h)
        · refine x_aload_n (pc := 25) C 0 dX11_sheet_25 rfl ?_
          refine g_main_sheets (pc := 26) C E q1_17 dX11_sheet_26 ?_
          refine x_iload_n (pc := 29) C 1 dX11_sheet_29 rfl ?_
          refine l_sheets (pc := 30) C E (by omega) dX11_sheet_30 ?_
          refine x_iconst (pc := 31) (v := (-1)) C dX11_sheet_31 rfl ?_
          refine x_iconst (pc := 32) (v := 0) C dX11_sheet_32 rfl ?_
          refine x_eq (show 0 = nI 0 from rfl) ?_
          refine x_callV (pc := 33) C E [.int (-1), .int (nI 0)] [] (c_X8_become t _ (by omega) _ _) m_X8_become q42_22 (xo_Sheet (by omega)) rfl (by decide) (Nat.le_of_ble_eq_true rfl) dX11_sheet_33 rfl (k_U ?_)
          refine x_iconst (pc := 36) (v := 1) C dX11_sheet_36 rfl ?_
          exact x_iret (pc := 37) C X dX11_sheet_37 (fin (by
                unfold o_sheet
                simp only [hos]
                repeat (first | with_reducible rfl | (refine (if_pos ?_).trans ?_; ((try simp only [inB_t, inB_f, i_lt, i_le, i_eq, ne_eq, Bool.not_eq_true, Bool.not_eq_false, hpB, decide_eq_true_eq, decide_eq_false_iff_not, li_0, li_1, li_2, li_3, li_4, li_5, li_6, li_7, li_8, li_9, li_10, li_20, li_40, li_99, li_100, li_255, li_899, li_999, li_m1, li_m2, li_m3, li_m4, li_m11, li_m12, li_m13, li_m14, li_m100] at h4 hts h9 h14 h22 ⊢) <;> omega)) | (refine (if_neg ?_).trans ?_; ((try simp only [inB_t, inB_f, i_lt, i_le, i_eq, ne_eq, Bool.not_eq_true, Bool.not_eq_false, hpB, decide_eq_true_eq, decide_eq_false_iff_not, li_0, li_1, li_2, li_3, li_4, li_5, li_6, li_7, li_8, li_9, li_10, li_20, li_40, li_99, li_100, li_255, li_899, li_999, li_m1, li_m2, li_m3, li_m4, li_m11, li_m12, li_m13, li_m14, li_m100] at h4 hts h9 h14 h22 ⊢) <;> omega)) | fail)
                all_goals (first | with_reducible rfl | (exfalso; ((try simp only [inB_t, inB_f, i_lt, i_le, i_eq, ne_eq, Bool.not_eq_true, Bool.not_eq_false, hpB, decide_eq_true_eq, decide_eq_false_iff_not, li_0, li_1, li_2, li_3, li_4, li_5, li_6, li_7, li_8, li_9, li_10, li_20, li_40, li_99, li_100, li_255, li_899, li_999, li_m1, li_m2, li_m3, li_m4, li_m11, li_m12, li_m13, li_m14, li_m100] at h4 hts h9 h14 h22 ⊢) <;> omega)))) (rc_shB t h (n := 0) hs (by decide) (by decide)))
      · refine x_bipush (pc := 17) (v := (-2)) C dX11_sheet_17 rfl ?_
        exact x_iret (pc := 19) C X dX11_sheet_19 (fin (by
              unfold o_sheet
              simp only [hos]
              repeat (first | with_reducible rfl | (refine (if_pos ?_).trans ?_; ((try simp only [inB_t, inB_f, i_lt, i_le, i_eq, ne_eq, Bool.not_eq_true, Bool.not_eq_false, hpB, decide_eq_true_eq, decide_eq_false_iff_not, li_0, li_1, li_2, li_3, li_4, li_5, li_6, li_7, li_8, li_9, li_10, li_20, li_40, li_99, li_100, li_255, li_899, li_999, li_m1, li_m2, li_m3, li_m4, li_m11, li_m12, li_m13, li_m14, li_m100] at h4 hts h9 h14 ⊢) <;> omega)) | (refine (if_neg ?_).trans ?_; ((try simp only [inB_t, inB_f, i_lt, i_le, i_eq, ne_eq, Bool.not_eq_true, Bool.not_eq_false, hpB, decide_eq_true_eq, decide_eq_false_iff_not, li_0, li_1, li_2, li_3, li_4, li_5, li_6, li_7, li_8, li_9, li_10, li_20, li_40, li_99, li_100, li_255, li_899, li_999, li_m1, li_m2, li_m3, li_m4, li_m11, li_m12, li_m13, li_m14, li_m100] at h4 hts h9 h14 ⊢) <;> omega)) | fail)
              all_goals (first | with_reducible rfl | (exfalso; ((try simp only [inB_t, inB_f, i_lt, i_le, i_eq, ne_eq, Bool.not_eq_true, Bool.not_eq_false, hpB, decide_eq_true_eq, decide_eq_false_iff_not, li_0, li_1, li_2, li_3, li_4, li_5, li_6, li_7, li_8, li_9, li_10, li_20, li_40, li_99, li_100, li_255, li_899, li_999, li_m1, li_m2, li_m3, li_m4, li_m11, li_m12, li_m13, li_m14, li_m100] at h4 hts h9 h14 ⊢) <;> omega)))) h)

set_option maxRecDepth 100000 in
set_option maxHeartbeats 800000 in
theorem c_X11_cell (t : CT) {σ : SV} {M : MM} (h : RC σ M)(x1 x2 x3 : Int32) : XMet (wC t) yX11_cell cX11_cell 4 (some .int) 3 [.ref (t.1 0), .int x1, .int x2, .int x3] M (oR (o_cell σ x1 x2 x3)) := by
  refine x_met RX11 (by decide) rfl (Nat.le_of_ble_eq_true rfl) (fun κ C X E => ?_)
  refine x_L (L' := [(0, .ref (t.1 0)), (1, .int x1), (2, .int x2), (3, .int x3)]) rfl ?_
  have hn6 := rc_n6 h
  have hq6 := rc_q6 h
  have hq := rc_q h
  have hN6 := h.1.1
  have hB := h.1.2.1
  refine x_iload_n (pc := 0) C 1 dX11_cell_0 rfl ?_
  refine x_callS (pc := 1) C E [.int x1] [] (c_X11_isSheet t _ _) m_X11_isSheet q39_22 rfl (by decide) (Nat.le_of_ble_eq_true rfl) dX11_cell_1 rfl (k_I ?_)
  refine x_ifb_ne (pc := 4) C 10 dX11_cell_4 (by decide) (fun h4 => ?_) (fun h4 => ?_)
  · obtain ⟨s, hs, es⟩ := inB_of h4 (by omega)
    have hts := nI_toInt (n := s) (by omega)
    have hos := oN_nI (n := s) (by omega)
    subst es
    refine x_aload_n (pc := 10) C 0 dX11_cell_10 rfl ?_
    refine g_main_sheets (pc := 11) C E q1_17 dX11_cell_11 ?_
    refine x_iload_n (pc := 14) C 1 dX11_cell_14 rfl ?_
    refine l_sheets (pc := 15) C E (by omega) dX11_cell_15 ?_
    refine x_callV (pc := 16) C E [] [] ( w_isMissing t h (by omega)) m_X8_isMissing q40_1 (xo_Sheet (by omega)) rfl (by decide) (Nat.le_of_ble_eq_true rfl) dX11_cell_16 rfl (k_I ?_)
    refine x_ifb_eq (pc := 19) C 25 dX11_cell_19 (by decide) (fun h19 => ?_) (fun h19 => ?_)
    · have hss : (sH σ s).1 ≠ -1 := of_decide_eq_false h19
      refine x_aload_n (pc := 25) C 0 dX11_cell_25 rfl ?_
      refine g_main_sheets (pc := 26) C E q1_17 dX11_cell_26 ?_
      refine x_iload_n (pc := 29) C 1 dX11_cell_29 rfl ?_
      refine l_sheets (pc := 30) C E (by omega) dX11_cell_30 ?_
      refine x_iload_n (pc := 31) C 2 dX11_cell_31 rfl ?_
      refine x_callV (pc := 32) C E [.int x2] [] (c_X8_has t _ (by omega) ((rc_sh h (s := s) (by omega)).2 hss).1 (h.1.2.2.2.2 s (by omega)).1 _) m_X8_has q46_19 (xo_Sheet (by omega)) rfl (by decide) (Nat.le_of_ble_eq_true rfl) dX11_cell_32 rfl (k_I ?_)
      refine x_ifb_ne (pc := 35) C 41 dX11_cell_35 (by decide) (fun h35 => ?_) (fun h35 => ?_)
      · have hs40 := (h.1.2.2.2.2 s hs).1
        obtain ⟨i, hi, ei⟩ := inB_of h35 (by omega)
        have hti := nI_toInt (n := i) (by omega)
        have hoi := oN_nI (n := i) (by omega)
        subst ei
        refine x_aload_n (pc := 41) C 0 dX11_cell_41 rfl ?_
        refine g_main_sheets (pc := 42) C E q1_17 dX11_cell_42 ?_
        refine x_iload_n (pc := 45) C 1 dX11_cell_45 rfl ?_
        refine l_sheets (pc := 46) C E (by omega) dX11_cell_46 ?_
        refine x_iload_n (pc := 47) C 2 dX11_cell_47 rfl ?_
        refine x_iload_n (pc := 48) C 3 dX11_cell_48 rfl ?_
        refine x_callV (pc := 49) C E [.int (nI i), .int x3] [] (c_X8_put t _ (by omega) (by omega) _) m_X8_put q43_7 (xo_Sheet (by omega)) rfl (by decide) (Nat.le_of_ble_eq_true rfl) dX11_cell_49 rfl (k_U ?_)
        refine x_iconst (pc := 52) (v := 1) C dX11_cell_52 rfl ?_
        exact x_iret (pc := 53) C X dX11_cell_53 (fin (by
              unfold o_cell
              simp only [hos, hoi]
              repeat (first | with_reducible rfl | (refine (if_pos ?_).trans ?_; ((try simp only [inB_t, inB_f, i_lt, i_le, i_eq, ne_eq, Bool.not_eq_true, Bool.not_eq_false, hpB, decide_eq_true_eq, decide_eq_false_iff_not, li_0, li_1, li_2, li_3, li_4, li_5, li_6, li_7, li_8, li_9, li_10, li_20, li_40, li_99, li_100, li_255, li_899, li_999, li_m1, li_m2, li_m3, li_m4, li_m11, li_m12, li_m13, li_m14, li_m100] at h4 hts h19 h35 hti ⊢) <;> omega)) | (refine (if_neg ?_).trans ?_; ((try simp only [inB_t, inB_f, i_lt, i_le, i_eq, ne_eq, Bool.not_eq_true, Bool.not_eq_false, hpB, decide_eq_true_eq, decide_eq_false_iff_not, li_0, li_1, li_2, li_3, li_4, li_5, li_6, li_7, li_8, li_9, li_10, li_20, li_40, li_99, li_100, li_255, li_899, li_999, li_m1, li_m2, li_m3, li_m4, li_m11, li_m12, li_m13, li_m14, li_m100] at h4 hts h19 h35 hti ⊢) <;> omega)) | fail)
              all_goals (first | with_reducible rfl | (exfalso; ((try simp only [inB_t, inB_f, i_lt, i_le, i_eq, ne_eq, Bool.not_eq_true, Bool.not_eq_false, hpB, decide_eq_true_eq, decide_eq_false_iff_not, li_0, li_1, li_2, li_3, li_4, li_5, li_6, li_7, li_8, li_9, li_10, li_20, li_40, li_99, li_100, li_255, li_899, li_999, li_m1, li_m2, li_m3, li_m4, li_m11, li_m12, li_m13, li_m14, li_m100] at h4 hts h19 h35 hti ⊢) <;> omega)))) (rc_put1 h hs hss hi _))
      · refine x_bipush (pc := 38) (v := (-12)) C dX11_cell_38 rfl ?_
        exact x_iret (pc := 40) C X dX11_cell_40 (fin (by
              unfold o_cell
              simp only [hos]
              repeat (first | with_reducible rfl | (refine (if_pos ?_).trans ?_; ((try simp only [inB_t, inB_f, i_lt, i_le, i_eq, ne_eq, Bool.not_eq_true, Bool.not_eq_false, hpB, decide_eq_true_eq, decide_eq_false_iff_not, li_0, li_1, li_2, li_3, li_4, li_5, li_6, li_7, li_8, li_9, li_10, li_20, li_40, li_99, li_100, li_255, li_899, li_999, li_m1, li_m2, li_m3, li_m4, li_m11, li_m12, li_m13, li_m14, li_m100] at h4 hts h19 h35 ⊢) <;> omega)) | (refine (if_neg ?_).trans ?_; ((try simp only [inB_t, inB_f, i_lt, i_le, i_eq, ne_eq, Bool.not_eq_true, Bool.not_eq_false, hpB, decide_eq_true_eq, decide_eq_false_iff_not, li_0, li_1, li_2, li_3, li_4, li_5, li_6, li_7, li_8, li_9, li_10, li_20, li_40, li_99, li_100, li_255, li_899, li_999, li_m1, li_m2, li_m3, li_m4, li_m11, li_m12, li_m13, li_m14, li_m100] at h4 hts h19 h35 ⊢) <;> omega)) | fail)
              all_goals (first | with_reducible rfl | (exfalso; ((try simp only [inB_t, inB_f, i_lt, i_le, i_eq, ne_eq, Bool.not_eq_true, Bool.not_eq_false, hpB, decide_eq_true_eq, decide_eq_false_iff_not, li_0, li_1, li_2, li_3, li_4, li_5, li_6, li_7, li_8, li_9, li_10, li_20, li_40, li_99, li_100, li_255, li_899, li_999, li_m1, li_m2, li_m3, li_m4, li_m11, li_m12, li_m13, li_m14, li_m100] at h4 hts h19 h35 ⊢) <;> omega)))) h)
    · refine x_bipush (pc := 22) (v := (-11)) C dX11_cell_22 rfl ?_
      exact x_iret (pc := 24) C X dX11_cell_24 (fin (by
            unfold o_cell
            simp only [hos]
            repeat (first | with_reducible rfl | (refine (if_pos ?_).trans ?_; ((try simp only [inB_t, inB_f, i_lt, i_le, i_eq, ne_eq, Bool.not_eq_true, Bool.not_eq_false, hpB, decide_eq_true_eq, decide_eq_false_iff_not, li_0, li_1, li_2, li_3, li_4, li_5, li_6, li_7, li_8, li_9, li_10, li_20, li_40, li_99, li_100, li_255, li_899, li_999, li_m1, li_m2, li_m3, li_m4, li_m11, li_m12, li_m13, li_m14, li_m100] at h4 hts h19 ⊢) <;> omega)) | (refine (if_neg ?_).trans ?_; ((try simp only [inB_t, inB_f, i_lt, i_le, i_eq, ne_eq, Bool.not_eq_true, Bool.not_eq_false, hpB, decide_eq_true_eq, decide_eq_false_iff_not, li_0, li_1, li_2, li_3, li_4, li_5, li_6, li_7, li_8, li_9, li_10, li_20, li_40, li_99, li_100, li_255, li_899, li_999, li_m1, li_m2, li_m3, li_m4, li_m11, li_m12, li_m13, li_m14, li_m100] at h4 hts h19 ⊢) <;> omega)) | fail)
            all_goals (first | with_reducible rfl | (exfalso; ((try simp only [inB_t, inB_f, i_lt, i_le, i_eq, ne_eq, Bool.not_eq_true, Bool.not_eq_false, hpB, decide_eq_true_eq, decide_eq_false_iff_not, li_0, li_1, li_2, li_3, li_4, li_5, li_6, li_7, li_8, li_9, li_10, li_20, li_40, li_99, li_100, li_255, li_899, li_999, li_m1, li_m2, li_m3, li_m4, li_m11, li_m12, li_m13, li_m14, li_m100] at h4 hts h19 ⊢) <;> omega)))) h)
  · refine x_bipush (pc := 7) (v := (-2)) C dX11_cell_7 rfl ?_
    exact x_iret (pc := 9) C X dX11_cell_9 (fin (by
          unfold o_cell
          repeat (first | with_reducible rfl | (refine (if_pos ?_).trans ?_; ((try simp only [inB_t, inB_f, i_lt, i_le, i_eq, ne_eq, Bool.not_eq_true, Bool.not_eq_false, hpB, decide_eq_true_eq, decide_eq_false_iff_not, li_0, li_1, li_2, li_3, li_4, li_5, li_6, li_7, li_8, li_9, li_10, li_20, li_40, li_99, li_100, li_255, li_899, li_999, li_m1, li_m2, li_m3, li_m4, li_m11, li_m12, li_m13, li_m14, li_m100] at h4 ⊢) <;> omega)) | (refine (if_neg ?_).trans ?_; ((try simp only [inB_t, inB_f, i_lt, i_le, i_eq, ne_eq, Bool.not_eq_true, Bool.not_eq_false, hpB, decide_eq_true_eq, decide_eq_false_iff_not, li_0, li_1, li_2, li_3, li_4, li_5, li_6, li_7, li_8, li_9, li_10, li_20, li_40, li_99, li_100, li_255, li_899, li_999, li_m1, li_m2, li_m3, li_m4, li_m11, li_m12, li_m13, li_m14, li_m100] at h4 ⊢) <;> omega)) | fail)
          all_goals (first | with_reducible rfl | (exfalso; ((try simp only [inB_t, inB_f, i_lt, i_le, i_eq, ne_eq, Bool.not_eq_true, Bool.not_eq_false, hpB, decide_eq_true_eq, decide_eq_false_iff_not, li_0, li_1, li_2, li_3, li_4, li_5, li_6, li_7, li_8, li_9, li_10, li_20, li_40, li_99, li_100, li_255, li_899, li_999, li_m1, li_m2, li_m3, li_m4, li_m11, li_m12, li_m13, li_m14, li_m100] at h4 ⊢) <;> omega)))) h)

theorem rc_cpy {σ : SV} {M : MM} (h : RC σ M) {s z i j n : Nat} (hs : s < 4) (hz : z < 4) (hm : (sH σ s).1 ≠ -1) (hm2 : (sH σ z).1 ≠ -1) (hi : i + n ≤ (sH σ s).2.1) (hj : j + n ≤ (sH σ z).2.1) : RC (setH σ z ((sH σ z).1, (sH σ z).2.1, va_cpy (sH σ s).2.2 (sH σ z).2.2 i j n)) (mr M (55 + 2 * z) (va_cpy (M (55 + 2 * s)) (M (55 + 2 * z)) i j n)) := by
  obtain ⟨h1, h2⟩ := rc_sh h hs
  obtain ⟨h3, h4⟩ := h2 hm
  obtain ⟨g1, g2⟩ := rc_sh h hz
  obtain ⟨g3, g4⟩ := g2 hm2
  refine rc_sheet_ h hz (fun a b e1 e2 => by rw [mr_n _ _ _ e2]) ⟨?_, fun _ => ⟨?_, fun k hk => ?_⟩⟩ (h.1.2.2.2.2 z hz)
  · rw [mr_n _ _ _ (by omega)]; exact g1
  · rw [mr_n _ _ _ (by omega)]; exact g3
  · have hk' : k < (sH σ z).2.1 := hk
    rw [mr_s]
    show va_cpy _ _ i j n k = va_cpy _ _ i j n k
    unfold va_cpy
    split
    · exact h4 _ (by omega)
    · exact g4 _ hk
set_option maxRecDepth 100000 in
set_option maxHeartbeats 800000 in
theorem c_X11_copy (t : CT) {σ : SV} {M : MM} (h : RC σ M)(x1 x2 x3 x4 x5 : Int32) : XMet (wC t) yX11_copy cX11_copy 8 (some .int) 2 [.ref (t.1 0), .int x1, .int x2, .int x3, .int x4, .int x5] M (oR (o_copy σ x1 x2 x3 x4 x5)) := by
  refine x_met RX11 (by decide) rfl (Nat.le_of_ble_eq_true rfl) (fun κ C X E => ?_)
  refine x_L (L' := [(0, .ref (t.1 0)), (1, .int x1), (2, .int x2), (3, .int x3), (4, .int x4), (5, .int x5)]) rfl ?_
  have hn6 := rc_n6 h
  have hq6 := rc_q6 h
  have hq := rc_q h
  have hN6 := h.1.1
  have hB := h.1.2.1
  refine x_iload_n (pc := 0) C 1 dX11_copy_0 rfl ?_
  refine x_callS (pc := 1) C E [.int x1] [] (c_X11_isSheet t _ _) m_X11_isSheet q39_22 rfl (by decide) (Nat.le_of_ble_eq_true rfl) dX11_copy_1 rfl (k_I ?_)
  refine x_ifb_eq (pc := 4) C 14 dX11_copy_4 (by decide) (fun h4 => ?_) (fun h4 => ?_)
  · refine x_bipush (pc := 14) (v := (-2)) C dX11_copy_14 rfl ?_
    exact x_iret (pc := 16) C X dX11_copy_16 (fin (by
          unfold o_copy
          repeat (first | with_reducible rfl | (refine (if_pos ?_).trans ?_; ((try simp only [inB_t, inB_f, i_lt, i_le, i_eq, ne_eq, Bool.not_eq_true, Bool.not_eq_false, hpB, decide_eq_true_eq, decide_eq_false_iff_not, li_0, li_1, li_2, li_3, li_4, li_5, li_6, li_7, li_8, li_9, li_10, li_20, li_40, li_99, li_100, li_255, li_899, li_999, li_m1, li_m2, li_m3, li_m4, li_m11, li_m12, li_m13, li_m14, li_m100] at h4 ⊢) <;> omega)) | (refine (if_neg ?_).trans ?_; ((try simp only [inB_t, inB_f, i_lt, i_le, i_eq, ne_eq, Bool.not_eq_true, Bool.not_eq_false, hpB, decide_eq_true_eq, decide_eq_false_iff_not, li_0, li_1, li_2, li_3, li_4, li_5, li_6, li_7, li_8, li_9, li_10, li_20, li_40, li_99, li_100, li_255, li_899, li_999, li_m1, li_m2, li_m3, li_m4, li_m11, li_m12, li_m13, li_m14, li_m100] at h4 ⊢) <;> omega)) | fail)
          all_goals (first | with_reducible rfl | (exfalso; ((try simp only [inB_t, inB_f, i_lt, i_le, i_eq, ne_eq, Bool.not_eq_true, Bool.not_eq_false, hpB, decide_eq_true_eq, decide_eq_false_iff_not, li_0, li_1, li_2, li_3, li_4, li_5, li_6, li_7, li_8, li_9, li_10, li_20, li_40, li_99, li_100, li_255, li_899, li_999, li_m1, li_m2, li_m3, li_m4, li_m11, li_m12, li_m13, li_m14, li_m100] at h4 ⊢) <;> omega)))) h)
  · obtain ⟨s, hs, es⟩ := inB_of h4 (by omega)
    have hts := nI_toInt (n := s) (by omega)
    have hos := oN_nI (n := s) (by omega)
    subst es
    refine x_iload_n (pc := 7) C 3 dX11_copy_7 rfl ?_
    refine x_callS (pc := 8) C E [.int x3] [] (c_X11_isSheet t _ _) m_X11_isSheet q39_22 rfl (by decide) (Nat.le_of_ble_eq_true rfl) dX11_copy_8 rfl (k_I ?_)
    refine x_ifb_ne (pc := 11) C 17 dX11_copy_11 (by decide) (fun h11 => ?_) (fun h11 => ?_)
    · obtain ⟨z, hz, ez⟩ := inB_of h11 (by omega)
      have htz := nI_toInt (n := z) (by omega)
      have hoz := oN_nI (n := z) (by omega)
      subst ez
      refine x_aload_n (pc := 17) C 0 dX11_copy_17 rfl ?_
      refine g_main_sheets (pc := 18) C E q1_17 dX11_copy_18 ?_
      refine x_iload_n (pc := 21) C 1 dX11_copy_21 rfl ?_
      refine l_sheets (pc := 22) C E (by omega) dX11_copy_22 ?_
      refine x_astore (pc := 23) (L' := [(6, .ref (t.1 (54 + 2 * s))), (0, .ref (t.1 0)), (1, .int (nI s)), (2, .int x2), (3, .int (nI z)), (4, .int x4), (5, .int x5)]) C dX11_copy_23 (by decide) rfl ?_
      refine x_aload_n (pc := 25) C 1 dX11_copy_25 rfl ?_
      refine g_main_sheets (pc := 26) C E q1_17 dX11_copy_26 ?_
      refine x_iload_n (pc := 29) C 4 dX11_copy_29 rfl ?_
      refine l_sheets (pc := 30) C E (by omega) dX11_copy_30 ?_
      refine x_astore (pc := 31) (L' := [(7, .ref (t.1 (54 + 2 * z))), (6, .ref (t.1 (54 + 2 * s))), (0, .ref (t.1 0)), (1, .int (nI s)), (2, .int x2), (3, .int (nI z)), (4, .int x4), (5, .int x5)]) C dX11_copy_31 (by decide) rfl ?_
      refine x_aload (pc := 33) C 1 dX11_copy_33 rfl ?_
      refine x_callV (pc := 35) C E [] [] ( w_isMissing t h (by omega)) m_X8_isMissing q40_1 (xo_Sheet (by omega)) rfl (by decide) (Nat.le_of_ble_eq_true rfl) dX11_copy_35 rfl (k_I ?_)
      refine x_ifb_ne (pc := 38) C 49 dX11_copy_38 (by decide) (fun h38 => ?_) (fun h38 => ?_)
      · refine x_bipush (pc := 49) (v := (-11)) C dX11_copy_49 rfl ?_
        exact x_iret (pc := 51) C X dX11_copy_51 (fin (by
              unfold o_copy
              simp only [hos, hoz]
              repeat (first | with_reducible rfl | (refine (if_pos ?_).trans ?_; ((try simp only [inB_t, inB_f, i_lt, i_le, i_eq, ne_eq, Bool.not_eq_true, Bool.not_eq_false, hpB, decide_eq_true_eq, decide_eq_false_iff_not, li_0, li_1, li_2, li_3, li_4, li_5, li_6, li_7, li_8, li_9, li_10, li_20, li_40, li_99, li_100, li_255, li_899, li_999, li_m1, li_m2, li_m3, li_m4, li_m11, li_m12, li_m13, li_m14, li_m100] at h4 hts h11 htz h38 ⊢) <;> omega)) | (refine (if_neg ?_).trans ?_; ((try simp only [inB_t, inB_f, i_lt, i_le, i_eq, ne_eq, Bool.not_eq_true, Bool.not_eq_false, hpB, decide_eq_true_eq, decide_eq_false_iff_not, li_0, li_1, li_2, li_3, li_4, li_5, li_6, li_7, li_8, li_9, li_10, li_20, li_40, li_99, li_100, li_255, li_899, li_999, li_m1, li_m2, li_m3, li_m4, li_m11, li_m12, li_m13, li_m14, li_m100] at h4 hts h11 htz h38 ⊢) <;> omega)) | fail)
              all_goals (first | with_reducible rfl | (exfalso; ((try simp only [inB_t, inB_f, i_lt, i_le, i_eq, ne_eq, Bool.not_eq_true, Bool.not_eq_false, hpB, decide_eq_true_eq, decide_eq_false_iff_not, li_0, li_1, li_2, li_3, li_4, li_5, li_6, li_7, li_8, li_9, li_10, li_20, li_40, li_99, li_100, li_255, li_899, li_999, li_m1, li_m2, li_m3, li_m4, li_m11, li_m12, li_m13, li_m14, li_m100] at h4 hts h11 htz h38 ⊢) <;> omega)))) h)
      · refine x_aload (pc := 41) C 0 dX11_copy_41 rfl ?_
        refine x_callV (pc := 43) C E [] [] ( w_isMissing t h (by omega)) m_X8_isMissing q40_1 (xo_Sheet (by omega)) rfl (by decide) (Nat.le_of_ble_eq_true rfl) dX11_copy_43 rfl (k_I ?_)
        refine x_ifb_eq (pc := 46) C 52 dX11_copy_46 (by decide) (fun h46 => ?_) (fun h46 => ?_)
        · refine x_aload (pc := 52) C 1 dX11_copy_52 rfl ?_
          refine g_Sheet_sort (pc := 54) C E (by omega) q47_7 dX11_copy_54 ?_
          refine x_eq (show M (54 + 2 * s) 1 = (sH σ s).1 from rc_ss h (by omega)) ?_
          refine x_aload (pc := 57) C 0 dX11_copy_57 rfl ?_
          refine g_Sheet_sort (pc := 59) C E (by omega) q47_7 dX11_copy_59 ?_
          refine x_eq (show M (54 + 2 * z) 1 = (sH σ z).1 from rc_ss h (by omega)) ?_
          refine x_icmp_eq (pc := 62) C 68 dX11_copy_62 (by decide) (fun h62 => ?_) (fun h62 => ?_)
          · have hss : (sH σ s).1 ≠ -1 := of_decide_eq_false h38
            have hsz : (sH σ z).1 ≠ -1 := of_decide_eq_false h46
            refine x_aload (pc := 68) C 1 dX11_copy_68 rfl ?_
            refine x_iload_n (pc := 70) C 4 dX11_copy_70 rfl ?_
            refine x_iload (pc := 71) C 7 dX11_copy_71 rfl ?_
            refine x_callV (pc := 73) C E [.int x2, .int x5] [] (c_X8_hasPart t _ (by omega) ((rc_sh h (s := s) (by omega)).2 hss).1 (h.1.2.2.2.2 s (by omega)).1 _ _) m_X8_hasPart q47_9 (xo_Sheet (by omega)) rfl (by decide) (Nat.le_of_ble_eq_true rfl) dX11_copy_73 rfl (k_I ?_)
            refine x_ifb_eq (pc := 76) C 91 dX11_copy_76 (by decide) (fun h76 => ?_) (fun h76 => ?_)
            · refine x_bipush (pc := 91) (v := (-12)) C dX11_copy_91 rfl ?_
              exact x_iret (pc := 93) C X dX11_copy_93 (fin (by
                    unfold o_copy
                    simp only [hos, hoz]
                    repeat (first | with_reducible rfl | (refine (if_pos ?_).trans ?_; ((try simp only [inB_t, inB_f, i_lt, i_le, i_eq, ne_eq, Bool.not_eq_true, Bool.not_eq_false, hpB, decide_eq_true_eq, decide_eq_false_iff_not, li_0, li_1, li_2, li_3, li_4, li_5, li_6, li_7, li_8, li_9, li_10, li_20, li_40, li_99, li_100, li_255, li_899, li_999, li_m1, li_m2, li_m3, li_m4, li_m11, li_m12, li_m13, li_m14, li_m100] at h4 hts h11 htz h38 h46 h62 h76 ⊢) <;> omega)) | (refine (if_neg ?_).trans ?_; ((try simp only [inB_t, inB_f, i_lt, i_le, i_eq, ne_eq, Bool.not_eq_true, Bool.not_eq_false, hpB, decide_eq_true_eq, decide_eq_false_iff_not, li_0, li_1, li_2, li_3, li_4, li_5, li_6, li_7, li_8, li_9, li_10, li_20, li_40, li_99, li_100, li_255, li_899, li_999, li_m1, li_m2, li_m3, li_m4, li_m11, li_m12, li_m13, li_m14, li_m100] at h4 hts h11 htz h38 h46 h62 h76 ⊢) <;> omega)) | fail)
                    all_goals (first | with_reducible rfl | (exfalso; ((try simp only [inB_t, inB_f, i_lt, i_le, i_eq, ne_eq, Bool.not_eq_true, Bool.not_eq_false, hpB, decide_eq_true_eq, decide_eq_false_iff_not, li_0, li_1, li_2, li_3, li_4, li_5, li_6, li_7, li_8, li_9, li_10, li_20, li_40, li_99, li_100, li_255, li_899, li_999, li_m1, li_m2, li_m3, li_m4, li_m11, li_m12, li_m13, li_m14, li_m100] at h4 hts h11 htz h38 h46 h62 h76 ⊢) <;> omega)))) h)
            · refine x_aload (pc := 79) C 0 dX11_copy_79 rfl ?_
              refine x_iload (pc := 81) C 6 dX11_copy_81 rfl ?_
              refine x_iload (pc := 83) C 7 dX11_copy_83 rfl ?_
              refine x_callV (pc := 85) C E [.int x4, .int x5] [] (c_X8_hasPart t _ (by omega) ((rc_sh h (s := z) (by omega)).2 hsz).1 (h.1.2.2.2.2 z (by omega)).1 _ _) m_X8_hasPart q47_9 (xo_Sheet (by omega)) rfl (by decide) (Nat.le_of_ble_eq_true rfl) dX11_copy_85 rfl (k_I ?_)
              refine x_ifb_ne (pc := 88) C 94 dX11_copy_88 (by decide) (fun h88 => ?_) (fun h88 => ?_)
              · have hp1 := of_decide_eq_true h76
                have hp2 := of_decide_eq_true h88
                have h4s := (h.1.2.2.2.2 s hs).1
                have h4z := (h.1.2.2.2.2 z hz).1
                have ki : inB x2 41 = true := inB_t.mpr (by omega)
                have kj : inB x4 41 = true := inB_t.mpr (by omega)
                have kn : inB x5 41 = true := inB_t.mpr (by omega)
                obtain ⟨i, hi, ei⟩ := inB_of ki (by omega)
                have hti := nI_toInt (n := i) (by omega)
                have hoi := oN_nI (n := i) (by omega)
                subst ei
                obtain ⟨j, hj, ej⟩ := inB_of kj (by omega)
                have htj := nI_toInt (n := j) (by omega)
                have hoj := oN_nI (n := j) (by omega)
                subst ej
                obtain ⟨n, hn, en⟩ := inB_of kn (by omega)
                have htn := nI_toInt (n := n) (by omega)
                have hon := oN_nI (n := n) (by omega)
                subst en
                refine x_aload (pc := 94) C 1 dX11_copy_94 rfl ?_
                refine g_Sheet_row (pc := 96) C E (by omega) q40_9 dX11_copy_96 ?_
                refine x_iload_n (pc := 99) C 4 dX11_copy_99 rfl ?_
                refine x_aload (pc := 100) C 0 dX11_copy_100 rfl ?_
                refine g_Sheet_row (pc := 102) C E (by omega) q40_9 dX11_copy_102 ?_
                refine x_iload (pc := 105) C 6 dX11_copy_105 rfl ?_
                refine x_iload (pc := 107) C 7 dX11_copy_107 rfl ?_
                rw [hti, htn] at hp1
                rw [htj, htn] at hp2
                refine x_copyi (pc := 109) C E (by decide) (n0 := 55 + 2 * s) (n1 := 55 + 2 * z) 0 (by show _ < 146; omega) (cC_row (by omega)) (by show _ < 146; omega) (fun r => (cC_row (by omega))) rfl q47_8 q11_5 q11_6 q11_7 (by omega) (by omega) (by omega) (by omega) (by omega) rfl dX11_copy_109 ?_
                refine x_iload (pc := 112) C 7 dX11_copy_112 rfl ?_
                exact x_iret (pc := 114) C X dX11_copy_114 (fin (by
                      unfold o_copy
                      simp only [hos, hoz, hoi, hoj, hon]
                      repeat (first | with_reducible rfl | (refine (if_pos ?_).trans ?_; ((try simp only [inB_t, inB_f, i_lt, i_le, i_eq, ne_eq, Bool.not_eq_true, Bool.not_eq_false, hpB, decide_eq_true_eq, decide_eq_false_iff_not, li_0, li_1, li_2, li_3, li_4, li_5, li_6, li_7, li_8, li_9, li_10, li_20, li_40, li_99, li_100, li_255, li_899, li_999, li_m1, li_m2, li_m3, li_m4, li_m11, li_m12, li_m13, li_m14, li_m100] at h4 hts h11 htz h38 h46 h62 h76 h88 hti htj htn ⊢) <;> omega)) | (refine (if_neg ?_).trans ?_; ((try simp only [inB_t, inB_f, i_lt, i_le, i_eq, ne_eq, Bool.not_eq_true, Bool.not_eq_false, hpB, decide_eq_true_eq, decide_eq_false_iff_not, li_0, li_1, li_2, li_3, li_4, li_5, li_6, li_7, li_8, li_9, li_10, li_20, li_40, li_99, li_100, li_255, li_899, li_999, li_m1, li_m2, li_m3, li_m4, li_m11, li_m12, li_m13, li_m14, li_m100] at h4 hts h11 htz h38 h46 h62 h76 h88 hti htj htn ⊢) <;> omega)) | fail)
                      all_goals (first | with_reducible rfl | (exfalso; ((try simp only [inB_t, inB_f, i_lt, i_le, i_eq, ne_eq, Bool.not_eq_true, Bool.not_eq_false, hpB, decide_eq_true_eq, decide_eq_false_iff_not, li_0, li_1, li_2, li_3, li_4, li_5, li_6, li_7, li_8, li_9, li_10, li_20, li_40, li_99, li_100, li_255, li_899, li_999, li_m1, li_m2, li_m3, li_m4, li_m11, li_m12, li_m13, li_m14, li_m100] at h4 hts h11 htz h38 h46 h62 h76 h88 hti htj htn ⊢) <;> omega)))) (rc_cpy h hs hz hss hsz (by omega) (by omega)))
              · refine x_bipush (pc := 91) (v := (-12)) C dX11_copy_91 rfl ?_
                exact x_iret (pc := 93) C X dX11_copy_93 (fin (by
                      unfold o_copy
                      simp only [hos, hoz]
                      repeat (first | with_reducible rfl | (refine (if_pos ?_).trans ?_; ((try simp only [inB_t, inB_f, i_lt, i_le, i_eq, ne_eq, Bool.not_eq_true, Bool.not_eq_false, hpB, decide_eq_true_eq, decide_eq_false_iff_not, li_0, li_1, li_2, li_3, li_4, li_5, li_6, li_7, li_8, li_9, li_10, li_20, li_40, li_99, li_100, li_255, li_899, li_999, li_m1, li_m2, li_m3, li_m4, li_m11, li_m12, li_m13, li_m14, li_m100] at h4 hts h11 htz h38 h46 h62 h76 h88 ⊢) <;> omega)) | (refine (if_neg ?_).trans ?_; ((try simp only [inB_t, inB_f, i_lt, i_le, i_eq, ne_eq, Bool.not_eq_true, Bool.not_eq_false, hpB, decide_eq_true_eq, decide_eq_false_iff_not, li_0, li_1, li_2, li_3, li_4, li_5, li_6, li_7, li_8, li_9, li_10, li_20, li_40, li_99, li_100, li_255, li_899, li_999, li_m1, li_m2, li_m3, li_m4, li_m11, li_m12, li_m13, li_m14, li_m100] at h4 hts h11 htz h38 h46 h62 h76 h88 ⊢) <;> omega)) | fail)
                      all_goals (first | with_reducible rfl | (exfalso; ((try simp only [inB_t, inB_f, i_lt, i_le, i_eq, ne_eq, Bool.not_eq_true, Bool.not_eq_false, hpB, decide_eq_true_eq, decide_eq_false_iff_not, li_0, li_1, li_2, li_3, li_4, li_5, li_6, li_7, li_8, li_9, li_10, li_20, li_40, li_99, li_100, li_255, li_899, li_999, li_m1, li_m2, li_m3, li_m4, li_m11, li_m12, li_m13, li_m14, li_m100] at h4 hts h11 htz h38 h46 h62 h76 h88 ⊢) <;> omega)))) h)
          · refine x_bipush (pc := 65) (v := (-13)) C dX11_copy_65 rfl ?_
            exact x_iret (pc := 67) C X dX11_copy_67 (fin (by
                  unfold o_copy
                  simp only [hos, hoz]
                  repeat (first | with_reducible rfl | (refine (if_pos ?_).trans ?_; ((try simp only [inB_t, inB_f, i_lt, i_le, i_eq, ne_eq, Bool.not_eq_true, Bool.not_eq_false, hpB, decide_eq_true_eq, decide_eq_false_iff_not, li_0, li_1, li_2, li_3, li_4, li_5, li_6, li_7, li_8, li_9, li_10, li_20, li_40, li_99, li_100, li_255, li_899, li_999, li_m1, li_m2, li_m3, li_m4, li_m11, li_m12, li_m13, li_m14, li_m100] at h4 hts h11 htz h38 h46 h62 ⊢) <;> omega)) | (refine (if_neg ?_).trans ?_; ((try simp only [inB_t, inB_f, i_lt, i_le, i_eq, ne_eq, Bool.not_eq_true, Bool.not_eq_false, hpB, decide_eq_true_eq, decide_eq_false_iff_not, li_0, li_1, li_2, li_3, li_4, li_5, li_6, li_7, li_8, li_9, li_10, li_20, li_40, li_99, li_100, li_255, li_899, li_999, li_m1, li_m2, li_m3, li_m4, li_m11, li_m12, li_m13, li_m14, li_m100] at h4 hts h11 htz h38 h46 h62 ⊢) <;> omega)) | fail)
                  all_goals (first | with_reducible rfl | (exfalso; ((try simp only [inB_t, inB_f, i_lt, i_le, i_eq, ne_eq, Bool.not_eq_true, Bool.not_eq_false, hpB, decide_eq_true_eq, decide_eq_false_iff_not, li_0, li_1, li_2, li_3, li_4, li_5, li_6, li_7, li_8, li_9, li_10, li_20, li_40, li_99, li_100, li_255, li_899, li_999, li_m1, li_m2, li_m3, li_m4, li_m11, li_m12, li_m13, li_m14, li_m100] at h4 hts h11 htz h38 h46 h62 ⊢) <;> omega)))) h)
        · refine x_bipush (pc := 49) (v := (-11)) C dX11_copy_49 rfl ?_
          exact x_iret (pc := 51) C X dX11_copy_51 (fin (by
                unfold o_copy
                simp only [hos, hoz]
                repeat (first | with_reducible rfl | (refine (if_pos ?_).trans ?_; ((try simp only [inB_t, inB_f, i_lt, i_le, i_eq, ne_eq, Bool.not_eq_true, Bool.not_eq_false, hpB, decide_eq_true_eq, decide_eq_false_iff_not, li_0, li_1, li_2, li_3, li_4, li_5, li_6, li_7, li_8, li_9, li_10, li_20, li_40, li_99, li_100, li_255, li_899, li_999, li_m1, li_m2, li_m3, li_m4, li_m11, li_m12, li_m13, li_m14, li_m100] at h4 hts h11 htz h38 h46 ⊢) <;> omega)) | (refine (if_neg ?_).trans ?_; ((try simp only [inB_t, inB_f, i_lt, i_le, i_eq, ne_eq, Bool.not_eq_true, Bool.not_eq_false, hpB, decide_eq_true_eq, decide_eq_false_iff_not, li_0, li_1, li_2, li_3, li_4, li_5, li_6, li_7, li_8, li_9, li_10, li_20, li_40, li_99, li_100, li_255, li_899, li_999, li_m1, li_m2, li_m3, li_m4, li_m11, li_m12, li_m13, li_m14, li_m100] at h4 hts h11 htz h38 h46 ⊢) <;> omega)) | fail)
                all_goals (first | with_reducible rfl | (exfalso; ((try simp only [inB_t, inB_f, i_lt, i_le, i_eq, ne_eq, Bool.not_eq_true, Bool.not_eq_false, hpB, decide_eq_true_eq, decide_eq_false_iff_not, li_0, li_1, li_2, li_3, li_4, li_5, li_6, li_7, li_8, li_9, li_10, li_20, li_40, li_99, li_100, li_255, li_899, li_999, li_m1, li_m2, li_m3, li_m4, li_m11, li_m12, li_m13, li_m14, li_m100] at h4 hts h11 htz h38 h46 ⊢) <;> omega)))) h)
    · refine x_bipush (pc := 14) (v := (-2)) C dX11_copy_14 rfl ?_
      exact x_iret (pc := 16) C X dX11_copy_16 (fin (by
            unfold o_copy
            simp only [hos]
            repeat (first | with_reducible rfl | (refine (if_pos ?_).trans ?_; ((try simp only [inB_t, inB_f, i_lt, i_le, i_eq, ne_eq, Bool.not_eq_true, Bool.not_eq_false, hpB, decide_eq_true_eq, decide_eq_false_iff_not, li_0, li_1, li_2, li_3, li_4, li_5, li_6, li_7, li_8, li_9, li_10, li_20, li_40, li_99, li_100, li_255, li_899, li_999, li_m1, li_m2, li_m3, li_m4, li_m11, li_m12, li_m13, li_m14, li_m100] at h4 hts h11 ⊢) <;> omega)) | (refine (if_neg ?_).trans ?_; ((try simp only [inB_t, inB_f, i_lt, i_le, i_eq, ne_eq, Bool.not_eq_true, Bool.not_eq_false, hpB, decide_eq_true_eq, decide_eq_false_iff_not, li_0, li_1, li_2, li_3, li_4, li_5, li_6, li_7, li_8, li_9, li_10, li_20, li_40, li_99, li_100, li_255, li_899, li_999, li_m1, li_m2, li_m3, li_m4, li_m11, li_m12, li_m13, li_m14, li_m100] at h4 hts h11 ⊢) <;> omega)) | fail)
            all_goals (first | with_reducible rfl | (exfalso; ((try simp only [inB_t, inB_f, i_lt, i_le, i_eq, ne_eq, Bool.not_eq_true, Bool.not_eq_false, hpB, decide_eq_true_eq, decide_eq_false_iff_not, li_0, li_1, li_2, li_3, li_4, li_5, li_6, li_7, li_8, li_9, li_10, li_20, li_40, li_99, li_100, li_255, li_899, li_999, li_m1, li_m2, li_m3, li_m4, li_m11, li_m12, li_m13, li_m14, li_m100] at h4 hts h11 ⊢) <;> omega)))) h)

