def DkR (N f : Nat) (A B : MM) : Prop := (∀ g, g < f → B 6 (8 * N + g) = -1 ∧ B 7 (8 * N + g) = -100) ∧ ∀ a b, (a ≠ 6 ∨ b < 8 * N ∨ 8 * N + 8 ≤ b) → (a ≠ 7 ∨ b < 8 * N ∨ 8 * N + 8 ≤ b) → B a b = A a b
theorem DkR_S {N f : Nat} {A B : MM} (hf : f < 8) (e : DkR N f A B) : DkR N (f + 1) A (mu (mu B 6 (8 * N + f) (-1)) 7 (8 * N + f) (-100)) := by
  refine ⟨fun g hg => ?_, fun a b h1 h2 => ?_⟩
  · by_cases q : g = f
    · subst q
      exact ⟨by rw [mu_n _ _ _ _ (by decide), mu_s], mu_s _ _ _ _⟩
    · have := e.1 g (by omega)
      exact ⟨by rw [mu_n _ _ _ _ (by decide), mu_k _ _ _ _ (by omega)]; exact this.1, by rw [mu_k _ _ _ _ (by omega), mu_n _ _ _ _ (by decide)]; exact this.2⟩
  · rw [mu_at, if_neg (by omega), mu_at, if_neg (by omega)]
    exact e.2 a b h1 h2
theorem rr_new2 {σ : SV} {M N : MM} (h : RR σ M) (hn : vN (sV σ) < 6) {k : Nat} (hk : k < 6) {x : Int32} (e : DkR (vN (sV σ)) 8 (mu (mu (mu M 4 (vN (sV σ)) (nI k)) 5 (2 * vN (sV σ)) x) 5 (2 * vN (sV σ) + 1) (vD (sV σ))) N) : RR (setV σ (vNew (sV σ) k x)) (mu N 0 12 (nI (vN (sV σ) + 1))) := by
  obtain ⟨e1, e2⟩ := e
  refine rr_new h hn hk ?_ ?_ ?_ (fun f hf => ?_) (mu_s _ _ _ _) (fun a b h0 h4 h5 h6 h7 hr => ?_)
  · rw [mu_n _ _ _ _ (by decide), e2 _ _ (by omega) (by omega), mu_n _ _ _ _ (by decide), mu_n _ _ _ _ (by decide), mu_s]
  · rw [mu_n _ _ _ _ (by decide), e2 _ _ (by omega) (by omega), mu_k _ _ _ _ (by omega), mu_s]
  · rw [mu_n _ _ _ _ (by decide), e2 _ _ (by omega) (by omega), mu_s]
  · rw [mu_n _ _ _ _ (by decide), mu_n _ _ _ _ (by decide)]; exact e1 f hf
  · rw [mu_at, if_neg (by omega), e2 _ _ (by omega) (by omega), mu_at, if_neg (by omega), mu_at, if_neg (by omega), mu_at, if_neg (by omega)]
set_option maxRecDepth 100000 in
set_option maxHeartbeats 800000 in
theorem c_X12_disk (t : CT) {σ : SV} {M : MM} (h : RR σ M) (hg : M 0 28 = 0) (x1 x2 : Int32)  : XMet (wR t) yX12_disk cX12_disk 4 (some .int) 2 [.ref (t.1 0), .int x1, .int x2] M (oQ (o_disk σ x1 x2)) := by
  refine x_met RX12 (by decide) rfl (Nat.le_of_ble_eq_true rfl) (fun κ C X E => ?_)
  refine x_L (L' := [(0, .ref (t.1 0)), (1, .int x1), (2, .int x2)]) rfl ?_
  have hn6 := rr_n6 h
  have hN6 := h.1.1
  have hq := rr_q h
  have hB := h.1.2.1
  refine x_iload_n (pc := 0) C 1 dX12_disk_0 rfl ?_
  refine x_i2l (pc := 1) C dX12_disk_1 ?_
  refine x_lconst (pc := 2) (v := 0) C dX12_disk_2 rfl ?_
  refine x_ldc2 (pc := 3) (v := 5) C q19_20 dX12_disk_3 ?_
  refine x_callS (pc := 6) C E [.long (Int32.toInt64 x1), .long 0, .long 5] [] (c_X12_inB t _ x1 (n := 6) (by decide) (by decide)) m_X12_in q13_6 rfl (by decide) (Nat.le_of_ble_eq_true rfl) dX12_disk_6 rfl (k_I ?_)
  refine x_ifb_eq (pc := 9) C 24 dX12_disk_9 (by decide) (fun h9 => ?_) (fun h9 => ?_)
  · refine x_bipush (pc := 24) (v := (-2)) C dX12_disk_24 rfl ?_
    exact x_iret (pc := 26) C X dX12_disk_26 (foq (by
          unfold o_disk
          repeat (first | with_reducible rfl | (refine (if_pos ?_).trans ?_; ((try simp only [inB_t, inB_f, i_lt, i_le, i_eq, ne_eq, Bool.not_eq_true, Bool.not_eq_false, hpB, decide_eq_true_eq, decide_eq_false_iff_not, li_0, li_1, li_2, li_3, li_4, li_5, li_6, li_7, li_8, li_9, li_10, li_20, li_40, li_99, li_100, li_255, li_899, li_999, li_m1, li_m2, li_m3, li_m4, li_m11, li_m12, li_m13, li_m14, li_m100] at h9 ⊢) <;> omega)) | (refine (if_neg ?_).trans ?_; ((try simp only [inB_t, inB_f, i_lt, i_le, i_eq, ne_eq, Bool.not_eq_true, Bool.not_eq_false, hpB, decide_eq_true_eq, decide_eq_false_iff_not, li_0, li_1, li_2, li_3, li_4, li_5, li_6, li_7, li_8, li_9, li_10, li_20, li_40, li_99, li_100, li_255, li_899, li_999, li_m1, li_m2, li_m3, li_m4, li_m11, li_m12, li_m13, li_m14, li_m100] at h9 ⊢) <;> omega)) | fail)
          all_goals (first | with_reducible rfl | (exfalso; ((try simp only [inB_t, inB_f, i_lt, i_le, i_eq, ne_eq, Bool.not_eq_true, Bool.not_eq_false, hpB, decide_eq_true_eq, decide_eq_false_iff_not, li_0, li_1, li_2, li_3, li_4, li_5, li_6, li_7, li_8, li_9, li_10, li_20, li_40, li_99, li_100, li_255, li_899, li_999, li_m1, li_m2, li_m3, li_m4, li_m11, li_m12, li_m13, li_m14, li_m100] at h9 ⊢) <;> omega)))) h hg)
  · refine x_iload_n (pc := 12) C 2 dX12_disk_12 rfl ?_
    refine x_i2l (pc := 13) C dX12_disk_13 ?_
    refine x_lconst (pc := 14) (v := 0) C dX12_disk_14 rfl ?_
    refine x_ldc2 (pc := 15) (v := 9) C q13_4 dX12_disk_15 ?_
    refine x_callS (pc := 18) C E [.long (Int32.toInt64 x2), .long 0, .long 9] [] (c_X12_inB t _ x2 (n := 10) (by decide) (by decide)) m_X12_in q13_6 rfl (by decide) (Nat.le_of_ble_eq_true rfl) dX12_disk_18 rfl (k_I ?_)
    refine x_ifb_ne (pc := 21) C 27 dX12_disk_21 (by decide) (fun h21 => ?_) (fun h21 => ?_)
    · obtain ⟨kd, hkd, ekd⟩ := inB_of h9 (by omega)
      have htkd := nI_toInt (n := kd) (by omega)
      have hokd := oN_nI (n := kd) (by omega)
      subst ekd
      refine x_aload_n (pc := 27) C 0 dX12_disk_27 rfl ?_
      refine g_M_many (pc := 28) C E q13_13 dX12_disk_28 ?_
      refine x_eq (show M 0 12 = nI (vN (sV (σ))) from (rr_size h)) ?_
      refine x_bipush (pc := 31) (v := 6) C dX12_disk_31 rfl ?_
      refine x_icmp_ne (pc := 33) C 39 dX12_disk_33 (by decide) (fun h33 => ?_) (fun h33 => ?_)
      · have hn5 : vN (sV σ) < 6 := Nat.lt_of_le_of_ne hn6 (fun e => h33 (by rw [e]; rfl))
        refine x_aload_n (pc := 39) C 0 dX12_disk_39 rfl ?_
        refine g_M_kinds (pc := 40) C E q11_15 dX12_disk_40 ?_
        refine x_aload_n (pc := 43) C 0 dX12_disk_43 rfl ?_
        refine g_M_many (pc := 44) C E q13_13 dX12_disk_44 ?_
        refine x_eq (show M 0 12 = nI (vN (sV (σ))) from (rr_size h)) ?_
        refine x_iload_n (pc := 47) C 1 dX12_disk_47 rfl ?_
        refine s_Rkinds (pc := 48) C E (by omega) dX12_disk_48 ?_
        refine x_aload_n (pc := 49) C 0 dX12_disk_49 rfl ?_
        refine g_M_rows (pc := 50) C E q11_16 dX12_disk_50 ?_
        refine x_iconst (pc := 53) (v := (nI 2)) C dX12_disk_53 (by decide) ?_
        refine x_aload_n (pc := 54) C 0 dX12_disk_54 rfl ?_
        refine g_M_many (pc := 55) C E q13_13 dX12_disk_55 ?_
        refine x_eq (show (mu M 4 (vN (sV (σ))) (nI kd)) 0 12 = nI (vN (sV (σ))) from ((congrFun (mu_n _ _ _ _ (by decide)) _).trans (rr_size h))) ?_
        refine x_imul (pc := 58) C dX12_disk_58 ?_
        refine x_eq (show (nI 2) * (nI (vN (sV (σ)))) = nI (2 * (vN (sV (σ)))) from pk_mul _ _) ?_
        refine x_iload_n (pc := 59) C 2 dX12_disk_59 rfl ?_
        refine s_Rrows (pc := 60) C E (by omega) dX12_disk_60 ?_
        refine x_aload_n (pc := 61) C 0 dX12_disk_61 rfl ?_
        refine g_M_rows (pc := 62) C E q11_16 dX12_disk_62 ?_
        refine x_iconst (pc := 65) (v := (nI 2)) C dX12_disk_65 (by decide) ?_
        refine x_aload_n (pc := 66) C 0 dX12_disk_66 rfl ?_
        refine g_M_many (pc := 67) C E q13_13 dX12_disk_67 ?_
        refine x_eq (show (mu (mu M 4 (vN (sV (σ))) (nI kd)) 5 (2 * (vN (sV (σ)))) x2) 0 12 = nI (vN (sV (σ))) from ((congrFun (mu_n _ _ _ _ (by decide)) _).trans ((congrFun (mu_n _ _ _ _ (by decide)) _).trans (rr_size h)))) ?_
        refine x_imul (pc := 70) C dX12_disk_70 ?_
        refine x_eq (show (nI 2) * (nI (vN (sV (σ)))) = nI (2 * (vN (sV (σ)))) from pk_mul _ _) ?_
        refine x_iconst (pc := 71) (v := 1) C dX12_disk_71 rfl ?_
        refine x_iadd (pc := 72) C dX12_disk_72 ?_
        refine x_eq (show (nI (2 * (vN (sV (σ))))) + 1 = nI (2 * vN (sV σ) + 1) from nI_1 _) ?_
        refine x_aload_n (pc := 73) C 0 dX12_disk_73 rfl ?_
        refine g_M_dayNow (pc := 74) C E q13_19 dX12_disk_74 ?_
        refine x_eq (show (mu (mu M 4 (vN (sV (σ))) (nI kd)) 5 (2 * (vN (sV (σ)))) x2) 0 7 = vD (sV (σ)) from ((congrFun (mu_n _ _ _ _ (by decide)) _).trans ((congrFun (mu_n _ _ _ _ (by decide)) _).trans (rr_day h)))) ?_
        refine s_Rrows (pc := 77) C E (by omega) dX12_disk_77 ?_
        refine x_iconst (pc := 78) (v := 0) C dX12_disk_78 rfl ?_
        refine x_istore_n (pc := 79) (L' := [(3, .int 0), (0, .ref (t.1 0)), (1, .int (nI kd)), (2, .int x2)]) C dX12_disk_79 (by decide) rfl ?_
        have loop80 : ∀ (k f : Nat) (y : Int32) (Mx : MM) , f + k = 8 → y = nI f → DkR (vN (sV σ)) f (mu (mu (mu M 4 (vN (sV σ)) (nI kd)) 5 (2 * vN (sV σ)) x2) 5 (2 * vN (sV σ) + 1) (vD (sV σ))) Mx → XV κ (xP (wR t) Mx) 80 [(3, .int y), (0, .ref (t.1 0)), (1, .int (nI kd)), (2, .int x2)] [] := by
          intro k
          induction k with
            | zero =>
              intro f y Mx  hcnt ey eMx
              subst ey
              obtain rfl : 8 = f := by omega
              refine x_iload_n (pc := 80) C 0 dX12_disk_80 rfl ?_
              refine x_bipush (pc := 81) (v := (nI 8)) C dX12_disk_81 (by decide) ?_
              refine x_icmp_ge_t (pc := 83) C 101 dX12_disk_83 (by decide) (nI_le (by omega) (by decide)) ?_
              refine x_aload_n (pc := 101) C 1 dX12_disk_101 rfl ?_
              refine x_dup (pc := 102) C dX12_disk_102 rfl ?_
              refine g_M_many (pc := 103) C E q13_13 dX12_disk_103 ?_
              refine x_eq (show Mx 0 12 = nI (vN (sV σ)) from ((eMx.2 _ _ (by omega) (by omega)).trans ((congrFun (mu_n _ _ _ _ (by decide)) _).trans ((congrFun (mu_n _ _ _ _ (by decide)) _).trans ((congrFun (mu_n _ _ _ _ (by decide)) _).trans (rr_size h)))))) ?_
              refine x_iconst (pc := 106) (v := 1) C dX12_disk_106 rfl ?_
              refine x_iadd (pc := 107) C dX12_disk_107 ?_
              refine x_eq (show (nI (vN (sV σ))) + 1 = nI (vN (sV σ) + 1) from nI_1 _) ?_
              refine p_M_many (pc := 108) C E q13_13 dX12_disk_108 ?_
              refine x_aload_n (pc := 111) C 1 dX12_disk_111 rfl ?_
              refine g_M_many (pc := 112) C E q13_13 dX12_disk_112 ?_
              refine x_eq (show (mu Mx 0 12 (nI (vN (sV σ) + 1))) 0 12 = nI (vN (sV σ) + 1) from (mu_s _ _ _ _)) ?_
              refine x_iconst (pc := 115) (v := 1) C dX12_disk_115 rfl ?_
              refine x_isub (pc := 116) C dX12_disk_116 ?_
              refine x_eq (show (nI (vN (sV σ) + 1)) - 1 = nI (vN (sV σ)) from (pk_sub (b := 1) (by omega))) ?_
              exact x_iret (pc := 117) C X dX12_disk_117 (foq (by
                    unfold o_disk
                    simp only [hokd]
                    repeat (first | with_reducible rfl | (refine (if_pos ?_).trans ?_; ((try simp only [inB_t, inB_f, i_lt, i_le, i_eq, ne_eq, Bool.not_eq_true, Bool.not_eq_false, hpB, decide_eq_true_eq, decide_eq_false_iff_not, li_0, li_1, li_2, li_3, li_4, li_5, li_6, li_7, li_8, li_9, li_10, li_20, li_40, li_99, li_100, li_255, li_899, li_999, li_m1, li_m2, li_m3, li_m4, li_m11, li_m12, li_m13, li_m14, li_m100] at h9 h21 htkd h33 ⊢) <;> omega)) | (refine (if_neg ?_).trans ?_; ((try simp only [inB_t, inB_f, i_lt, i_le, i_eq, ne_eq, Bool.not_eq_true, Bool.not_eq_false, hpB, decide_eq_true_eq, decide_eq_false_iff_not, li_0, li_1, li_2, li_3, li_4, li_5, li_6, li_7, li_8, li_9, li_10, li_20, li_40, li_99, li_100, li_255, li_899, li_999, li_m1, li_m2, li_m3, li_m4, li_m11, li_m12, li_m13, li_m14, li_m100] at h9 h21 htkd h33 ⊢) <;> omega)) | fail)
                    all_goals (first | with_reducible rfl | (exfalso; ((try simp only [inB_t, inB_f, i_lt, i_le, i_eq, ne_eq, Bool.not_eq_true, Bool.not_eq_false, hpB, decide_eq_true_eq, decide_eq_false_iff_not, li_0, li_1, li_2, li_3, li_4, li_5, li_6, li_7, li_8, li_9, li_10, li_20, li_40, li_99, li_100, li_255, li_899, li_999, li_m1, li_m2, li_m3, li_m4, li_m11, li_m12, li_m13, li_m14, li_m100] at h9 h21 htkd h33 ⊢) <;> omega)))) (rr_new2 h hn5 hkd eMx) ((mu_k _ _ _ _ (by decide)).trans ((eMx.2 _ _ (by omega) (by omega)).trans ((congrFun (mu_n _ _ _ _ (by decide)) _).trans ((congrFun (mu_n _ _ _ _ (by decide)) _).trans ((congrFun (mu_n _ _ _ _ (by decide)) _).trans hg))))))
            | succ k ih =>
              intro f y Mx  hcnt ey eMx
              subst ey
              have hi80 : f < 8 := by omega
              refine x_iload_n (pc := 80) C 0 dX12_disk_80 rfl ?_
              refine x_bipush (pc := 81) (v := (nI 8)) C dX12_disk_81 (by decide) ?_
              refine x_icmp_ge_f (pc := 83) C 101 dX12_disk_83 (by decide) (nI_ge (by omega) (by decide)) ?_
              refine x_aload_n (pc := 86) C 1 dX12_disk_86 rfl ?_
              refine x_aload_n (pc := 87) C 1 dX12_disk_87 rfl ?_
              refine g_M_many (pc := 88) C E q13_13 dX12_disk_88 ?_
              refine x_eq (show Mx 0 12 = nI (vN (sV σ)) from ((eMx.2 _ _ (by omega) (by omega)).trans ((congrFun (mu_n _ _ _ _ (by decide)) _).trans ((congrFun (mu_n _ _ _ _ (by decide)) _).trans ((congrFun (mu_n _ _ _ _ (by decide)) _).trans (rr_size h)))))) ?_
              refine x_iload_n (pc := 91) C 0 dX12_disk_91 rfl ?_
              refine x_callV (pc := 92) C E [.int (nI (vN (sV σ))), .int (nI f)] [] (c_X12_empties t _ (d := vN (sV σ)) (f := f) (by omega) (by omega)) m_X12_empties q19_21 xo_M rfl (by first | decide | omega) (Nat.le_of_ble_eq_true rfl) dX12_disk_92 rfl (k_U ?_)
              refine x_iinc (pc := 95) (v := nI (f + 1)) (L' := [(3, .int (nI (f + 1))), (0, .ref (t.1 0)), (1, .int (nI kd)), (2, .int x2)]) C 0 dX12_disk_95 rfl (nI_1 _) (by decide) rfl ?_
              refine x_goto (pc := 98) C 80 dX12_disk_98 (by decide) ?_
              refine x_sub [0, 1, 2, 3] rfl ?_
              exact ih (f + 1) _ _ (by omega) rfl (DkR_S (by omega) eMx)
        refine x_sub [0, 1, 2, 3] rfl ?_
        exact loop80 8 0 _ _ (by omega) rfl ⟨fun g hg => absurd hg (Nat.not_lt_zero _), fun _ _ _ _ => rfl⟩
      · have hn7 : vN (sV σ) = 6 := (nI_eq (b := 6) (by omega) (by decide)).mp h33
        refine x_bipush (pc := 36) (v := (-4)) C dX12_disk_36 rfl ?_
        exact x_iret (pc := 38) C X dX12_disk_38 (foq (by
              unfold o_disk
              simp only [hokd]
              repeat (first | with_reducible rfl | (refine (if_pos ?_).trans ?_; ((try simp only [inB_t, inB_f, i_lt, i_le, i_eq, ne_eq, Bool.not_eq_true, Bool.not_eq_false, hpB, decide_eq_true_eq, decide_eq_false_iff_not, li_0, li_1, li_2, li_3, li_4, li_5, li_6, li_7, li_8, li_9, li_10, li_20, li_40, li_99, li_100, li_255, li_899, li_999, li_m1, li_m2, li_m3, li_m4, li_m11, li_m12, li_m13, li_m14, li_m100] at h9 h21 htkd h33 ⊢) <;> omega)) | (refine (if_neg ?_).trans ?_; ((try simp only [inB_t, inB_f, i_lt, i_le, i_eq, ne_eq, Bool.not_eq_true, Bool.not_eq_false, hpB, decide_eq_true_eq, decide_eq_false_iff_not, li_0, li_1, li_2, li_3, li_4, li_5, li_6, li_7, li_8, li_9, li_10, li_20, li_40, li_99, li_100, li_255, li_899, li_999, li_m1, li_m2, li_m3, li_m4, li_m11, li_m12, li_m13, li_m14, li_m100] at h9 h21 htkd h33 ⊢) <;> omega)) | fail)
              all_goals (first | with_reducible rfl | (exfalso; ((try simp only [inB_t, inB_f, i_lt, i_le, i_eq, ne_eq, Bool.not_eq_true, Bool.not_eq_false, hpB, decide_eq_true_eq, decide_eq_false_iff_not, li_0, li_1, li_2, li_3, li_4, li_5, li_6, li_7, li_8, li_9, li_10, li_20, li_40, li_99, li_100, li_255, li_899, li_999, li_m1, li_m2, li_m3, li_m4, li_m11, li_m12, li_m13, li_m14, li_m100] at h9 h21 htkd h33 ⊢) <;> omega)))) h hg)
    · refine x_bipush (pc := 24) (v := (-2)) C dX12_disk_24 rfl ?_
      exact x_iret (pc := 26) C X dX12_disk_26 (foq (by
            unfold o_disk
            repeat (first | with_reducible rfl | (refine (if_pos ?_).trans ?_; ((try simp only [inB_t, inB_f, i_lt, i_le, i_eq, ne_eq, Bool.not_eq_true, Bool.not_eq_false, hpB, decide_eq_true_eq, decide_eq_false_iff_not, li_0, li_1, li_2, li_3, li_4, li_5, li_6, li_7, li_8, li_9, li_10, li_20, li_40, li_99, li_100, li_255, li_899, li_999, li_m1, li_m2, li_m3, li_m4, li_m11, li_m12, li_m13, li_m14, li_m100] at h9 h21 ⊢) <;> omega)) | (refine (if_neg ?_).trans ?_; ((try simp only [inB_t, inB_f, i_lt, i_le, i_eq, ne_eq, Bool.not_eq_true, Bool.not_eq_false, hpB, decide_eq_true_eq, decide_eq_false_iff_not, li_0, li_1, li_2, li_3, li_4, li_5, li_6, li_7, li_8, li_9, li_10, li_20, li_40, li_99, li_100, li_255, li_899, li_999, li_m1, li_m2, li_m3, li_m4, li_m11, li_m12, li_m13, li_m14, li_m100] at h9 h21 ⊢) <;> omega)) | fail)
            all_goals (first | with_reducible rfl | (exfalso; ((try simp only [inB_t, inB_f, i_lt, i_le, i_eq, ne_eq, Bool.not_eq_true, Bool.not_eq_false, hpB, decide_eq_true_eq, decide_eq_false_iff_not, li_0, li_1, li_2, li_3, li_4, li_5, li_6, li_7, li_8, li_9, li_10, li_20, li_40, li_99, li_100, li_255, li_899, li_999, li_m1, li_m2, li_m3, li_m4, li_m11, li_m12, li_m13, li_m14, li_m100] at h9 h21 ⊢) <;> omega)))) h hg)

theorem a_again_ok {σ : SV} (hn : vN (sV σ) ≤ 6) {a b : Nat} (ha : a < vN (sV σ)) (hb : b < vN (sV σ)) (hne : ¬ (nI a = nI b)) : a_again σ (nI a) (nI b) = if (vRd (sV σ) a && vRd (sV σ) b) = false then 0 else mk (vHas (sCp σ (sV σ) a b).1 b) 8 &&& (mk (vHas (sV σ) b) 8 ^^^ (-1)) := by
  unfold a_again
  rw [two_t hn ha hb hne, if_neg (by decide), oN_nI (by omega), oN_nI (by omega)]
set_option maxRecDepth 100000 in
set_option maxHeartbeats 800000 in
theorem c_X12_again (t : CT) {σ : SV} {M : MM} (h : RR σ M) (hg : M 0 28 = 0) (x1 x2 : Int32)  : XMet (wR t) yX12_again cX12_again 5 (some .int) 66 [.ref (t.1 0), .int x1, .int x2] M (oQ (σ, a_again σ x1 x2)) := by
  refine x_met RX12 (by decide) rfl (Nat.le_of_ble_eq_true rfl) (fun κ C X E => ?_)
  refine x_L (L' := [(0, .ref (t.1 0)), (1, .int x1), (2, .int x2)]) rfl ?_
  have hn6 := rr_n6 h
  have hN6 := h.1.1
  have hq := rr_q h
  have hB := h.1.2.1
  refine x_aload_n (pc := 0) C 0 dX12_again_0 rfl ?_
  refine x_iload_n (pc := 1) C 1 dX12_again_1 rfl ?_
  refine x_callV (pc := 2) C E [.int x1] [] ( c_X12_isDisk t h _) m_X12_isDisk q13_9 xo_M rfl (by decide) (Nat.le_of_ble_eq_true rfl) dX12_again_2 rfl (k_I ?_)
  refine x_ifb_eq (pc := 5) C 21 dX12_again_5 (by decide) (fun h5 => ?_) (fun h5 => ?_)
  · refine x_bipush (pc := 21) (v := (-2)) C dX12_again_21 rfl ?_
    exact x_iret (pc := 23) C X dX12_again_23 (faq (by unfold a_again; exact if_pos (two_f (by ((try simp only [inB_t, inB_f, i_lt, i_le, i_eq, ne_eq, Bool.not_eq_true, Bool.not_eq_false, hpB, decide_eq_true_eq, decide_eq_false_iff_not, li_0, li_1, li_2, li_3, li_4, li_5, li_6, li_7, li_8, li_9, li_10, li_20, li_40, li_99, li_100, li_255, li_899, li_999, li_m1, li_m2, li_m3, li_m4, li_m11, li_m12, li_m13, li_m14, li_m100] at h5 ⊢) <;> omega)))) h hg)
  · obtain ⟨a, ha, ea⟩ := inB_of h5 (by omega)
    have hta := nI_toInt (n := a) (by omega)
    have hoa := oN_nI (n := a) (by omega)
    subst ea
    refine x_aload_n (pc := 8) C 0 dX12_again_8 rfl ?_
    refine x_iload_n (pc := 9) C 2 dX12_again_9 rfl ?_
    refine x_callV (pc := 10) C E [.int x2] [] ( c_X12_isDisk t h _) m_X12_isDisk q13_9 xo_M rfl (by decide) (Nat.le_of_ble_eq_true rfl) dX12_again_10 rfl (k_I ?_)
    refine x_ifb_eq (pc := 13) C 21 dX12_again_13 (by decide) (fun h13 => ?_) (fun h13 => ?_)
    · refine x_bipush (pc := 21) (v := (-2)) C dX12_again_21 rfl ?_
      exact x_iret (pc := 23) C X dX12_again_23 (faq (by unfold a_again; exact if_pos (two_f (by ((try simp only [inB_t, inB_f, i_lt, i_le, i_eq, ne_eq, Bool.not_eq_true, Bool.not_eq_false, hpB, decide_eq_true_eq, decide_eq_false_iff_not, li_0, li_1, li_2, li_3, li_4, li_5, li_6, li_7, li_8, li_9, li_10, li_20, li_40, li_99, li_100, li_255, li_899, li_999, li_m1, li_m2, li_m3, li_m4, li_m11, li_m12, li_m13, li_m14, li_m100] at h5 hta h13 ⊢) <;> omega)))) h hg)
    · obtain ⟨b, hb, eb⟩ := inB_of h13 (by omega)
      have htb := nI_toInt (n := b) (by omega)
      have hob := oN_nI (n := b) (by omega)
      subst eb
      refine x_iload_n (pc := 16) C 1 dX12_again_16 rfl ?_
      refine x_iload_n (pc := 17) C 2 dX12_again_17 rfl ?_
      refine x_icmp_ne (pc := 18) C 24 dX12_again_18 (by decide) (fun h18 => ?_) (fun h18 => ?_)
      · refine x_aload_n (pc := 24) C 0 dX12_again_24 rfl ?_
        refine x_iload_n (pc := 25) C 1 dX12_again_25 rfl ?_
        refine x_iload_n (pc := 26) C 2 dX12_again_26 rfl ?_
        refine x_callV (pc := 27) C E [.int (nI a), .int (nI b)] [] ( c_X12_canCopy t h (a := a) (b := b) (by omega) (by omega)) m_X12_canCopy q30_20 xo_M rfl (by decide) (Nat.le_of_ble_eq_true rfl) dX12_again_27 rfl (k_I ?_)
        refine x_ifb_ne (pc := 30) C 35 dX12_again_30 (by decide) (fun h30 => ?_) (fun h30 => ?_)
        · have h31 : (vRd (sV σ) a && vRd (sV σ) b) = true := (by rw [decide_eq_false (fun e => h18 (by rw [e]))] at h30; exact h30)
          refine x_aload_n (pc := 35) C 0 dX12_again_35 rfl ?_
          refine x_iload_n (pc := 36) C 2 dX12_again_36 rfl ?_
          refine x_callV (pc := 37) C E [.int (nI b)] [] ( c_X12_hasSet t h (d := b) (by omega)) m_X12_hasSet q39_5 xo_M rfl (by decide) (Nat.le_of_ble_eq_true rfl) dX12_again_37 rfl (k_I ?_)
          refine x_istore_n (pc := 40) (L' := [(3, .int (mk (vHas (sV (σ)) b) 8)), (0, .ref (t.1 0)), (1, .int (nI a)), (2, .int (nI b))]) C dX12_again_40 (by decide) rfl ?_
          refine x_aload_n (pc := 41) C 1 dX12_again_41 rfl ?_
          refine x_iconst (pc := 42) (v := (nI 0)) C dX12_again_42 (by decide) ?_
          refine x_callV (pc := 43) C E [.int (nI 0)] [] (c_X12_keeps t _ (L := 0) (by omega)) m_X12_keeps q36_19 xo_M rfl (by first | decide | omega) (Nat.le_of_ble_eq_true rfl) dX12_again_43 rfl (fun r M43 hc43 => ?_)
          obtain ⟨rfl, hK43⟩ := hc43
          have hR43 := rr_kp h hK43
          show XV κ (xP (wR t) M43) 46 _ []
          refine x_aload_n (pc := 46) C 1 dX12_again_46 rfl ?_
          have hwn := (sCp_rest σ (sV σ) a b).1
          refine x_iload_n (pc := 47) C 2 dX12_again_47 rfl ?_
          refine x_iload_n (pc := 48) C 3 dX12_again_48 rfl ?_
          refine x_callV (pc := 49) C E [.int (nI a), .int (nI b)] [] (c_X12_copiesAll t hR43 (a := a) (b := b) (by omega) (by omega)) m_X12_copiesAll q31_0 xo_M rfl (by first | decide | omega) (Nat.le_of_ble_eq_true rfl) dX12_again_49 rfl (fun r M49 hc49 => ?_)
          obtain ⟨rfl, hR49, hF49⟩ := hc49
          show XV κ (xP (wR t) M49) 52 _ [.int (nI (sCp (σ) (sV (σ)) a b).2)]
          refine x_pop (pc := 52) C dX12_again_52 rfl ?_
          refine x_aload_n (pc := 53) C 1 dX12_again_53 rfl ?_
          refine x_iload_n (pc := 54) C 3 dX12_again_54 rfl ?_
          refine x_callV (pc := 55) C E [.int (nI b)] [] ( c_X12_hasSet t hR49 (d := b) (show b < vN ((sCp (σ) (sV (σ)) a b).1) by omega)) m_X12_hasSet q39_5 xo_M rfl (by decide) (Nat.le_of_ble_eq_true rfl) dX12_again_55 rfl (k_I ?_)
          refine x_istore (pc := 58) (L' := [(4, .int (mk (vHas ((sCp (σ) (sV (σ)) a b).1) b) 8)), (3, .int (mk (vHas (sV (σ)) b) 8)), (0, .ref (t.1 0)), (1, .int (nI a)), (2, .int (nI b))]) C dX12_again_58 (by decide) rfl ?_
          refine x_aload_n (pc := 60) C 2 dX12_again_60 rfl ?_
          refine x_iconst (pc := 61) (v := (nI 0)) C dX12_again_61 (by decide) ?_
          refine x_callV (pc := 62) C E [.int (nI 0)] [] (c_X12_laysBack t _ (L := 0) (by omega)) m_X12_laysBack q36_23 xo_M rfl (by first | decide | omega) (Nat.le_of_ble_eq_true rfl) dX12_again_62 rfl (fun r M62 hc62 => ?_)
          obtain ⟨rfl, hL62⟩ := hc62
          obtain ⟨hB62, hZ62⟩ := rr_back h hK43 (FrK.c hF49) hL62
          show XV κ (xP (wR t) M62) 65 _ []
          refine x_iload (pc := 65) C 0 dX12_again_65 rfl ?_
          refine x_iload_n (pc := 67) C 1 dX12_again_67 rfl ?_
          refine x_iconst (pc := 68) (v := (-1)) C dX12_again_68 rfl ?_
          refine x_ixor (pc := 69) C dX12_again_69 ?_
          refine x_iand (pc := 70) C dX12_again_70 ?_
          exact x_iret (pc := 71) C X dX12_again_71 (faq ((a_again_ok (σ := σ) hn6 ha hb h18).trans (if_neg (by rw [h31]; decide))) hB62 ((hZ62 _ _ (by decide) (by decide) (by omega) (by omega)).trans hg))
        · have h31 : (vRd (sV σ) a && vRd (sV σ) b) = false := (by rw [decide_eq_false (fun e => h18 (by rw [e]))] at h30; exact h30)
          refine x_iconst (pc := 33) (v := 0) C dX12_again_33 rfl ?_
          exact x_iret (pc := 34) C X dX12_again_34 (faq ((a_again_ok (σ := σ) hn6 ha hb h18).trans (if_pos h31)) h hg)
      · refine x_bipush (pc := 21) (v := (-2)) C dX12_again_21 rfl ?_
        exact x_iret (pc := 23) C X dX12_again_23 (faq (by unfold a_again; exact if_pos (two_f (by ((try simp only [inB_t, inB_f, i_lt, i_le, i_eq, ne_eq, Bool.not_eq_true, Bool.not_eq_false, hpB, decide_eq_true_eq, decide_eq_false_iff_not, li_0, li_1, li_2, li_3, li_4, li_5, li_6, li_7, li_8, li_9, li_10, li_20, li_40, li_99, li_100, li_255, li_899, li_999, li_m1, li_m2, li_m3, li_m4, li_m11, li_m12, li_m13, li_m14, li_m100] at h5 hta h13 htb h18 ⊢) <;> omega)))) h hg)

theorem bt_1sh {d e : Nat} (hd : d < 32) (he : e < 32) : bt (1 <<< (nI d &&& 31)) e = decide (e = d) := bt_b2i (b := true) hd he
theorem bt_wo (x : Int32) {d e : Nat} (hd : d < 32) (he : e < 32) : bt (wo x d) e = (bt x e && !decide (e = d)) := by
  unfold wo
  rw [b_and, b_xor, bt_1sh hd he, b_m1 _ he]
  cases bt x e <;> cases decide (e = d) <;> rfl
theorem wo_1 {σ : SV} (hn : vN (sV σ) ≤ 6) {d : Nat} (hd : d < vN (sV σ)) : ∀ e, e < vN (sV σ) → bt (wo (sRs σ) d) e = (vRd (sV σ) e && !bt (1 <<< (nI d &&& 31)) e) := fun e he => by
  rw [bt_wo _ (by omega) (by omega), bt_1sh (by omega) (by omega), sRs_bt hn he]
theorem sWs_or {σ : SV} (hn : vN (sV σ) ≤ 6) {gn S : Int32} (hS : ∀ d, d < vN (sV σ) → bt S d = (vRd (sV σ) d && !bt gn d)) : sWs σ (woP (sV σ) gn) 8 = sWs σ (bt (vOr (sV σ) (bt S))) 8 := sWs_cg 8 fun f hf => wo_or hn hS hf
theorem saP_wo (v : WV) (gn : Int32) (hn : vN v ≤ 6) (f : Nat) : saP v gn 1 f = woP v gn f := by
  unfold saP woP
  cases h : anyN (vOnG v gn f) (vN v) with
  | true =>
    obtain ⟨d, hd, g⟩ := anyN_of h
    refine decide_eq_true ?_
    have : 1 ≤ cnt (vOnG v gn f) (vN v) := by
      have := cnt_mono (p := vOnG v gn f) (q := fun e => decide (e = d)) (vN v) (fun e _ he => by rw [of_decide_eq_true he]; exact g)
      have h1 : ∀ n, d < n → 1 ≤ cnt (fun e => decide (e = d)) n := by
        intro n
        induction n with
        | zero => intro h; omega
        | succ n ih =>
          intro h
          rw [cnt_S]
          by_cases q : n = d
          · rw [decide_eq_true q]; exact Nat.le_add_left _ _
          · have := ih (by omega); omega
      exact Nat.le_trans (h1 _ hd) this
    have h2 := nI_toInt (n := cnt (vOnG v gn f) (vN v)) (by have := cnt_le (vOnG v gn f) (vN v); omega)
    rw [i_le, h2]
    show (1 : Int) ≤ _
    omega
  | false =>
    refine decide_eq_false ?_
    have : cnt (vOnG v gn f) (vN v) = 0 := by
      have h1 : ∀ n, n ≤ vN v → cnt (vOnG v gn f) n = 0 := by
        intro n
        induction n with
        | zero => intro _; rfl
        | succ n ih => intro hn; rw [cnt_S, ih (by omega), anyN_f h (by omega)]; rfl
      exact h1 _ (Nat.le_refl _)
    rw [this]
    decide
theorem saG_or {v : WV} {gn S : Int32} (hn : vN v ≤ 6) (hS : ∀ d, d < vN v → bt S d = (vRd v d && !bt gn d)) : vSafeG v gn 1 = vOr v (bt S) := by
  refine b_ext fun i hi => ?_
  by_cases g : i < 8
  · rw [← wo_or hn hS g, ← saP_wo v gn hn]
    show bt (mk (saP v gn 1) 8) i = _
    rw [bt_mk _ 8 (by decide) i hi, decide_eq_true g, Bool.true_and]
  · show bt (mk (saP v gn 1) 8) i = bt (mk _ 8) i
    rw [bt_mk _ 8 (by decide) i hi, bt_mk _ 8 (by decide) i hi, decide_eq_false g]
    rfl
theorem cnt_sub_eq {p q : Nat → Bool} : ∀ n, (∀ i, i < n → q i = true → p i = true) → cnt p n ≤ cnt q n → ∀ i, i < n → q i = p i := by
  intro n
  induction n with
  | zero => intro _ _ i hi; omega
  | succ n ih =>
    intro h hc i hi
    have h1 := cnt_mono n (fun d hd => h d (by omega))
    rw [cnt_S, cnt_S] at hc
    have h2 := h n (by omega)
    have h3 : cnt p n ≤ cnt q n := by
      cases a : p n <;> cases b : q n <;> rw [a, b] at hc <;> simp at hc <;> first | omega | (rw [a] at h2; rw [b] at h2; cases h2 rfl)
    by_cases g : i = n
    · subst g
      cases a : p i <;> cases b : q i <;> rw [a, b] at hc <;> simp at hc <;> first | rfl | omega | (rw [a] at h2; rw [b] at h2; cases h2 rfl)
    · exact ih (fun d hd => h d (by omega)) h3 i (by omega)
theorem lg_iff {σ : SV} (hn : vN (sV σ) ≤ 6) {d : Nat} (hd : d < vN (sV σ)) : (¬ nI (cnt (saP (sV σ) (1 <<< (nI d &&& 31)) 1) 8) < nI (cnt (saP (sV σ) 0 1) 8)) ↔ vOr (sV σ) (bt (wo (sRs σ) d)) = vOr (sV σ) (bt (sRs σ)) := by
  rw [← saG_or hn (wo_1 hn hd), ← saG_or (gn := 0) hn (fun e he => by rw [sRs_bt hn he, b_0]; exact (Bool.and_true _).symm)]
  have h1 := nI_toInt (n := cnt (saP (sV σ) (1 <<< (nI d &&& 31)) 1) 8) (by have := cnt_le (saP (sV σ) (1 <<< (nI d &&& 31)) 1) 8; omega)
  have h2 := nI_toInt (n := cnt (saP (sV σ) 0 1) 8) (by have := cnt_le (saP (sV σ) 0 1) 8; omega)
  rw [i_lt, h1, h2]
  constructor
  · intro h
    refine mk_congr (p := saP (sV σ) (1 <<< (nI d &&& 31)) 1) (q := saP (sV σ) 0 1) (cnt_sub_eq 8 (fun i _ hi => ?_) (by omega))
    rw [saP_wo _ _ hn] at hi ⊢
    unfold woP at hi ⊢
    obtain ⟨e, he, g⟩ := anyN_of hi
    refine anyN_t he ?_
    rw [vOnG_0]
    unfold vOnG at g
    rw [Bool.and_eq_true] at g
    exact g.1
  · intro h
    have h3 : mk (saP (sV σ) (1 <<< (nI d &&& 31)) 1) 8 = mk (saP (sV σ) 0 1) 8 := h
    have h4 : cnt (saP (sV σ) (1 <<< (nI d &&& 31)) 1) 8 = cnt (saP (sV σ) 0 1) 8 := cnt_congr fun i hi => by
      have := congrArg (fun z => bt z i) h3
      simp only [bt_mk _ 8 (by decide) i (show i < 32 by omega), decide_eq_true hi, Bool.true_and] at this
      exact this
    rw [h4]
    omega
