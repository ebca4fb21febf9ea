/-! what the reference's disks do -/
theorem nmO_6 (M : MM) (a b c d e f : Int32) : nmO (mu (mu (mu (mu (mu (mu M 0 13 a) 0 14 b) 0 15 c) 0 16 d) 0 17 e) 0 18 f) = nm6 a b c d e f := by
  unfold nmO
  simp [mu_at]
theorem clamp_w {m : Nat} (hm : m < 1000) (x : Int32) : clampI (nI m) x = if x < 0 then 0 else if nI m < x then nI m else x := by
  have hm2 := nI_toInt (n := m) (by omega)
  have h0 : (0 : Int32).toInt = 0 := rfl
  unfold clampI
  by_cases h2 : x < nI m
  · rw [if_pos h2]
    by_cases h1 : x < 0
    · rw [if_pos h1, if_neg (by rw [i_lt] at *; omega)]
    · rw [if_neg h1, if_neg (show ¬ nI m < x by rw [i_lt] at *; omega)]
      by_cases h3 : (0 : Int32) < x
      · rw [if_pos h3]
      · rw [if_neg h3]
        apply Int32.toInt_inj.mp
        rw [i_lt] at *
        omega
  · rw [if_neg h2]
    have h1 : ¬ x < 0 := by rw [i_lt] at *; omega
    rw [if_neg h1]
    have h4 : (if (0 : Int32) < nI m then nI m else 0) = nI m := by
      by_cases h3 : (0 : Int32) < nI m
      · rw [if_pos h3]
      · rw [if_neg h3]
        apply Int32.toInt_inj.mp
        rw [i_lt] at h3
        omega
    rw [h4]
    by_cases h3 : nI m < x
    · rw [if_pos h3]
    · rw [if_neg h3]
      apply Int32.toInt_inj.mp
      rw [i_lt] at *
      omega
set_option maxRecDepth 100000 in
set_option maxHeartbeats 800000 in
theorem c_X12_within (t : CT) (M : MM) (x : Int32) {m : Nat} (hm : m < 1000) : XMet (wR t) yX12_within cX12_within 3 (some .int) 1 [.int x, .int 0, .int (nI m)] M (rI (clampI (nI m) x) M) := by
  refine x_met RX12 (by decide) rfl (Nat.le_of_ble_eq_true rfl) (fun κ C X E => ?_)
  refine x_L (L' := [(0, .int x), (1, .int 0), (2, .int (nI m))]) rfl ?_
  refine x_iload_n (pc := 0) C 0 dX12_within_0 rfl ?_
  refine x_iload_n (pc := 1) C 1 dX12_within_1 rfl ?_
  refine x_icmp_ge (pc := 2) C 9 dX12_within_2 (by decide) (fun h2 => ?_) (fun h2 => ?_)
  · refine x_iload_n (pc := 9) C 0 dX12_within_9 rfl ?_
    refine x_iload_n (pc := 10) C 2 dX12_within_10 rfl ?_
    refine x_icmp_le (pc := 11) C 18 dX12_within_11 (by decide) (fun h11 => ?_) (fun h11 => ?_)
    · refine x_iload_n (pc := 18) C 0 dX12_within_18 rfl ?_
      exact x_iret (pc := 19) C X dX12_within_19 (rI_i (by rw [clamp_w hm]; rw [if_neg (show ¬ x < 0 from Int32.not_lt.mpr h2)]; rw [if_neg (Int32.not_lt.mpr h11)]))
    · refine x_iload_n (pc := 14) C 2 dX12_within_14 rfl ?_
      refine x_goto (pc := 15) C 19 dX12_within_15 (by decide) ?_
      exact x_iret (pc := 19) C X dX12_within_19 (rI_i (by rw [clamp_w hm]; rw [if_neg (show ¬ x < 0 from Int32.not_lt.mpr h2)]; rw [if_pos (Int32.not_le.mp h11)]))
  · refine x_iload_n (pc := 5) C 1 dX12_within_5 rfl ?_
    refine x_goto (pc := 6) C 19 dX12_within_6 (by decide) ?_
    exact x_iret (pc := 19) C X dX12_within_19 (rI_i (by rw [clamp_w hm]; rw [if_pos (Int32.not_le.mp h2)]))

set_option maxRecDepth 100000 in
set_option maxHeartbeats 800000 in
theorem c_X12_takes (t : CT) {σ : SV} {M : MM} (h : RR σ M) {a b : Nat} (ha : a < vN (sV σ)) (hb : b < vN (sV σ)) {f : Nat} (hf : f < 8)  : XMet (wR t) yX12_takes cX12_takes 6 (some .boolean) 63 [.ref (t.1 0), .int (nI a), .int (nI b), .int (nI f)] M (fun r B => r = some (.int (b2i (decide (sT σ (vR (sV σ)) 0 (nm6 (vT (sV σ) b f) (vT (sV σ) a f) (b2i (decide (vC (sV σ) a f = vC (sV σ) b f))) (vU (sV σ) b) (nI f) (vD (sV σ))) ≠ 0)))) ∧ Sc M B) := by
  refine x_met RX12 (by decide) rfl (Nat.le_of_ble_eq_true rfl) (fun κ C X E => ?_)
  refine x_L (L' := [(0, .ref (t.1 0)), (1, .int (nI a)), (2, .int (nI b)), (3, .int (nI f))]) rfl ?_
  have hn6 := rr_n6 h
  have hN6 := h.1.1
  have hq := rr_q h
  refine x_bipush (pc := 0) (v := (nI 8)) C dX12_takes_0 (by decide) ?_
  refine x_iload_n (pc := 2) C 1 dX12_takes_2 rfl ?_
  refine x_imul (pc := 3) C dX12_takes_3 ?_
  refine x_eq (show (nI 8) * (nI a) = nI (8 * a) from pk_mul _ _) ?_
  refine x_iload_n (pc := 4) C 3 dX12_takes_4 rfl ?_
  refine x_iadd (pc := 5) C dX12_takes_5 ?_
  refine x_eq (show (nI (8 * a)) + (nI f) = nI (8 * a + f) from nI_add _ _) ?_
  refine x_istore (pc := 6) (L' := [(4, .int (nI (8 * a + f))), (0, .ref (t.1 0)), (1, .int (nI a)), (2, .int (nI b)), (3, .int (nI f))]) C dX12_takes_6 (by decide) rfl ?_
  refine x_bipush (pc := 8) (v := (nI 8)) C dX12_takes_8 (by decide) ?_
  refine x_iload_n (pc := 10) C 3 dX12_takes_10 rfl ?_
  refine x_imul (pc := 11) C dX12_takes_11 ?_
  refine x_eq (show (nI 8) * (nI b) = nI (8 * b) from pk_mul _ _) ?_
  refine x_iload_n (pc := 12) C 4 dX12_takes_12 rfl ?_
  refine x_iadd (pc := 13) C dX12_takes_13 ?_
  refine x_eq (show (nI (8 * b)) + (nI f) = nI (8 * b + f) from nI_add _ _) ?_
  refine x_istore (pc := 14) (L' := [(5, .int (nI (8 * b + f))), (4, .int (nI (8 * a + f))), (0, .ref (t.1 0)), (1, .int (nI a)), (2, .int (nI b)), (3, .int (nI f))]) C dX12_takes_14 (by decide) rfl ?_
  refine x_aload_n (pc := 16) C 2 dX12_takes_16 rfl ?_
  refine x_aload_n (pc := 17) C 2 dX12_takes_17 rfl ?_
  refine g_M_stamps (pc := 18) C E q11_18 dX12_takes_18 ?_
  refine x_iload (pc := 21) C 0 dX12_takes_21 rfl ?_
  refine l_Rstamps (pc := 23) C E (by omega) dX12_takes_23 ?_
  refine x_eq (show M 7 (8 * b + f) = vT (sV (σ)) b f from (rr_st h (by omega) (by omega))) ?_
  refine p_M_ofHere (pc := 24) C E q14_20 dX12_takes_24 ?_
  refine x_aload_n (pc := 27) C 2 dX12_takes_27 rfl ?_
  refine x_aload_n (pc := 28) C 2 dX12_takes_28 rfl ?_
  refine g_M_stamps (pc := 29) C E q11_18 dX12_takes_29 ?_
  refine x_iload (pc := 32) C 1 dX12_takes_32 rfl ?_
  refine l_Rstamps (pc := 34) C E (by omega) dX12_takes_34 ?_
  refine x_eq (show (mu M 0 13 (vT (sV (σ)) b f)) 7 (8 * a + f) = vT (sV (σ)) a f from ((congrFun (mu_n _ _ _ _ (by decide)) _).trans (rr_st h (by omega) (by omega)))) ?_
  refine p_M_ofThere (pc := 35) C E q14_21 dX12_takes_35 ?_
  refine x_aload_n (pc := 38) C 2 dX12_takes_38 rfl ?_
  refine x_aload_n (pc := 39) C 2 dX12_takes_39 rfl ?_
  refine g_M_contents (pc := 40) C E q11_17 dX12_takes_40 ?_
  refine x_iload (pc := 43) C 1 dX12_takes_43 rfl ?_
  refine l_Rcontents (pc := 45) C E (by omega) dX12_takes_45 ?_
  refine x_eq (show (mu (mu M 0 13 (vT (sV (σ)) b f)) 0 14 (vT (sV (σ)) a f)) 6 (8 * a + f) = vC (sV (σ)) a f from ((congrFun (mu_n _ _ _ _ (by decide)) _).trans ((congrFun (mu_n _ _ _ _ (by decide)) _).trans (rr_ct h (by omega) (by omega))))) ?_
  refine x_aload_n (pc := 46) C 2 dX12_takes_46 rfl ?_
  refine g_M_contents (pc := 47) C E q11_17 dX12_takes_47 ?_
  refine x_iload (pc := 50) C 0 dX12_takes_50 rfl ?_
  refine l_Rcontents (pc := 52) C E (by omega) dX12_takes_52 ?_
  refine x_eq (show (mu (mu M 0 13 (vT (sV (σ)) b f)) 0 14 (vT (sV (σ)) a f)) 6 (8 * b + f) = vC (sV (σ)) b f from ((congrFun (mu_n _ _ _ _ (by decide)) _).trans ((congrFun (mu_n _ _ _ _ (by decide)) _).trans (rr_ct h (by omega) (by omega))))) ?_
  refine x_icmp_ne (pc := 53) C 60 dX12_takes_53 (by decide) (fun h53 => ?_) (fun h53 => ?_)
  · refine x_iconst (pc := 60) (v := (nI 0)) C dX12_takes_60 (by decide) ?_
    refine x_eq (show nI 0 = b2i (decide (vC (sV σ) a f = vC (sV σ) b f)) from (by rw [decide_eq_false h53]; rfl)) ?_
    refine p_M_ofSame (pc := 61) C E q14_22 dX12_takes_61 ?_
    refine x_aload_n (pc := 64) C 2 dX12_takes_64 rfl ?_
    refine x_aload_n (pc := 65) C 2 dX12_takes_65 rfl ?_
    refine g_M_rows (pc := 66) C E q11_16 dX12_takes_66 ?_
    refine x_iconst (pc := 69) (v := (nI 2)) C dX12_takes_69 (by decide) ?_
    refine x_iload_n (pc := 70) C 4 dX12_takes_70 rfl ?_
    refine x_imul (pc := 71) C dX12_takes_71 ?_
    refine x_eq (show (nI 2) * (nI b) = nI (2 * b) from pk_mul _ _) ?_
    refine l_Rrows (pc := 72) C E (by omega) dX12_takes_72 ?_
    refine x_eq (show (mu (mu (mu M 0 13 (vT (sV (σ)) b f)) 0 14 (vT (sV (σ)) a f)) 0 15 (b2i (decide (vC (sV σ) a f = vC (sV σ) b f)))) 5 (2 * b) = vU (sV (σ)) b from ((congrFun (mu_n _ _ _ _ (by decide)) _).trans ((congrFun (mu_n _ _ _ _ (by decide)) _).trans ((congrFun (mu_n _ _ _ _ (by decide)) _).trans (rr_num h (by omega)))))) ?_
    refine p_M_ofNumber (pc := 73) C E q14_23 dX12_takes_73 ?_
    refine x_aload_n (pc := 76) C 2 dX12_takes_76 rfl ?_
    refine x_iload_n (pc := 77) C 5 dX12_takes_77 rfl ?_
    refine p_M_ofFile (pc := 78) C E q15_0 dX12_takes_78 ?_
    refine x_aload_n (pc := 81) C 2 dX12_takes_81 rfl ?_
    refine x_aload_n (pc := 82) C 2 dX12_takes_82 rfl ?_
    refine g_M_dayNow (pc := 83) C E q13_19 dX12_takes_83 ?_
    refine x_eq (show (mu (mu (mu (mu (mu M 0 13 (vT (sV (σ)) b f)) 0 14 (vT (sV (σ)) a f)) 0 15 (b2i (decide (vC (sV σ) a f = vC (sV σ) b f)))) 0 16 (vU (sV (σ)) b)) 0 17 (nI f)) 0 7 = vD (sV (σ)) from ((mu_k _ _ _ _ (by decide)).trans ((mu_k _ _ _ _ (by decide)).trans ((mu_k _ _ _ _ (by decide)).trans ((mu_k _ _ _ _ (by decide)).trans ((mu_k _ _ _ _ (by decide)).trans (rr_day h))))))) ?_
    refine p_M_ofDay (pc := 86) C E q15_1 dX12_takes_86 ?_
    refine x_aload_n (pc := 89) C 2 dX12_takes_89 rfl ?_
    refine x_aload_n (pc := 90) C 2 dX12_takes_90 rfl ?_
    refine g_M_rule (pc := 91) C E q15_2 dX12_takes_91 ?_
    refine x_eq (show (mu (mu (mu (mu (mu (mu M 0 13 (vT (sV (σ)) b f)) 0 14 (vT (sV (σ)) a f)) 0 15 (b2i (decide (vC (sV σ) a f = vC (sV σ) b f)))) 0 16 (vU (sV (σ)) b)) 0 17 (nI f)) 0 18 (vD (sV (σ)))) 0 4 = nI (vR (sV (σ))) from ((mu_k _ _ _ _ (by decide)).trans ((mu_k _ _ _ _ (by decide)).trans ((mu_k _ _ _ _ (by decide)).trans ((mu_k _ _ _ _ (by decide)).trans ((mu_k _ _ _ _ (by decide)).trans ((mu_k _ _ _ _ (by decide)).trans (rr_rule h)))))))) ?_
    refine x_iconst (pc := 94) (v := (nI 0)) C dX12_takes_94 (by decide) ?_
    have hrr95 : RR (σ) (mu (mu (mu (mu (mu (mu M 0 13 (vT (sV (σ)) b f)) 0 14 (vT (sV (σ)) a f)) 0 15 (b2i (decide (vC (sV σ) a f = vC (sV σ) b f)))) 0 16 (vU (sV (σ)) b)) 0 17 (nI f)) 0 18 (vD (sV (σ)))) := (rr_cell (b := 18) (rr_cell (b := 17) (rr_cell (b := 16) (rr_cell (b := 15) (rr_cell (b := 14) (rr_cell (b := 13) h _ (by unfold relR; omega)) _ (by unfold relR; omega)) _ (by unfold relR; omega)) _ (by unfold relR; omega)) _ (by unfold relR; omega)) _ (by unfold relR; omega))
    obtain ⟨n95, Y95, u1, u2, u5, u3, u4⟩ := hrr95.2.2.2.2.1 _ (rr_q h)
    refine x_callV (pc := 95) C E [.int (nI (vR (sV (σ)))), .int (nI 0)] [] (c_X12_read0 t (q := vR (sV σ)) u1 (by omega) u2 (fun k hk => (u5 k hk).1) (fun k hk => (u5 k hk).2)) m_X12_read q15_3 xo_M rfl (by first | decide | omega) (Nat.le_of_ble_eq_true rfl) dX12_takes_95 rfl (fun r M95 hc95 => ?_)
    obtain ⟨w95, rfl, hS95, hv95, -⟩ := hc95
    have hw95 := (hv95 u3).2
    rw [u4 0 (by decide), nmO_6] at hw95
    subst hw95
    show XV κ (xP (wR t) M95) 98 _ [.int (sT (σ) (vR (sV σ)) 0 (nm6 (vT (sV (σ)) b f) (vT (sV (σ)) a f) (b2i (decide (vC (sV σ) a f = vC (sV σ) b f))) (vU (sV (σ)) b) (nI f) (vD (sV (σ)))))]
    have hSc95 : Sc M M95 := fun a b hab => (hS95 a b hab).trans (by rw [mu_at, if_neg (by omega), mu_at, if_neg (by omega), mu_at, if_neg (by omega), mu_at, if_neg (by omega), mu_at, if_neg (by omega), mu_at, if_neg (by omega)])
    refine x_if_eq (pc := 98) C 105 dX12_takes_98 (by decide) (fun h98 => ?_) (fun h98 => ?_)
    · refine x_iconst (pc := 105) (v := (nI 0)) C dX12_takes_105 (by decide) ?_
      exact x_bret (pc := 106) C X (b := false) rfl dX12_takes_106 ⟨by rw [decide_eq_false (fun g => g h98)], hSc95⟩
    · refine x_iconst (pc := 101) (v := (nI 1)) C dX12_takes_101 (by decide) ?_
      refine x_goto (pc := 102) C 106 dX12_takes_102 (by decide) ?_
      exact x_bret (pc := 106) C X (b := true) rfl dX12_takes_106 ⟨by rw [decide_eq_true h98], hSc95⟩
  · refine x_iconst (pc := 56) (v := (nI 1)) C dX12_takes_56 (by decide) ?_
    refine x_goto (pc := 57) C 61 dX12_takes_57 (by decide) ?_
    refine x_eq (show nI 1 = b2i (decide (vC (sV σ) a f = vC (sV σ) b f)) from (by rw [decide_eq_true h53]; rfl)) ?_
    refine p_M_ofSame (pc := 61) C E q14_22 dX12_takes_61 ?_
    refine x_aload_n (pc := 64) C 2 dX12_takes_64 rfl ?_
    refine x_aload_n (pc := 65) C 2 dX12_takes_65 rfl ?_
    refine g_M_rows (pc := 66) C E q11_16 dX12_takes_66 ?_
    refine x_iconst (pc := 69) (v := (nI 2)) C dX12_takes_69 (by decide) ?_
    refine x_iload_n (pc := 70) C 4 dX12_takes_70 rfl ?_
    refine x_imul (pc := 71) C dX12_takes_71 ?_
    refine x_eq (show (nI 2) * (nI b) = nI (2 * b) from pk_mul _ _) ?_
    refine l_Rrows (pc := 72) C E (by omega) dX12_takes_72 ?_
    refine x_eq (show (mu (mu (mu M 0 13 (vT (sV (σ)) b f)) 0 14 (vT (sV (σ)) a f)) 0 15 (b2i (decide (vC (sV σ) a f = vC (sV σ) b f)))) 5 (2 * b) = vU (sV (σ)) b from ((congrFun (mu_n _ _ _ _ (by decide)) _).trans ((congrFun (mu_n _ _ _ _ (by decide)) _).trans ((congrFun (mu_n _ _ _ _ (by decide)) _).trans (rr_num h (by omega)))))) ?_
    refine p_M_ofNumber (pc := 73) C E q14_23 dX12_takes_73 ?_
    refine x_aload_n (pc := 76) C 2 dX12_takes_76 rfl ?_
    refine x_iload_n (pc := 77) C 5 dX12_takes_77 rfl ?_
    refine p_M_ofFile (pc := 78) C E q15_0 dX12_takes_78 ?_
    refine x_aload_n (pc := 81) C 2 dX12_takes_81 rfl ?_
    refine x_aload_n (pc := 82) C 2 dX12_takes_82 rfl ?_
    refine g_M_dayNow (pc := 83) C E q13_19 dX12_takes_83 ?_
    refine x_eq (show (mu (mu (mu (mu (mu M 0 13 (vT (sV (σ)) b f)) 0 14 (vT (sV (σ)) a f)) 0 15 (b2i (decide (vC (sV σ) a f = vC (sV σ) b f)))) 0 16 (vU (sV (σ)) b)) 0 17 (nI f)) 0 7 = vD (sV (σ)) from ((mu_k _ _ _ _ (by decide)).trans ((mu_k _ _ _ _ (by decide)).trans ((mu_k _ _ _ _ (by decide)).trans ((mu_k _ _ _ _ (by decide)).trans ((mu_k _ _ _ _ (by decide)).trans (rr_day h))))))) ?_
    refine p_M_ofDay (pc := 86) C E q15_1 dX12_takes_86 ?_
    refine x_aload_n (pc := 89) C 2 dX12_takes_89 rfl ?_
    refine x_aload_n (pc := 90) C 2 dX12_takes_90 rfl ?_
    refine g_M_rule (pc := 91) C E q15_2 dX12_takes_91 ?_
    refine x_eq (show (mu (mu (mu (mu (mu (mu M 0 13 (vT (sV (σ)) b f)) 0 14 (vT (sV (σ)) a f)) 0 15 (b2i (decide (vC (sV σ) a f = vC (sV σ) b f)))) 0 16 (vU (sV (σ)) b)) 0 17 (nI f)) 0 18 (vD (sV (σ)))) 0 4 = nI (vR (sV (σ))) from ((mu_k _ _ _ _ (by decide)).trans ((mu_k _ _ _ _ (by decide)).trans ((mu_k _ _ _ _ (by decide)).trans ((mu_k _ _ _ _ (by decide)).trans ((mu_k _ _ _ _ (by decide)).trans ((mu_k _ _ _ _ (by decide)).trans (rr_rule h)))))))) ?_
    refine x_iconst (pc := 94) (v := (nI 0)) C dX12_takes_94 (by decide) ?_
    have hrr95 : RR (σ) (mu (mu (mu (mu (mu (mu M 0 13 (vT (sV (σ)) b f)) 0 14 (vT (sV (σ)) a f)) 0 15 (b2i (decide (vC (sV σ) a f = vC (sV σ) b f)))) 0 16 (vU (sV (σ)) b)) 0 17 (nI f)) 0 18 (vD (sV (σ)))) := (rr_cell (b := 18) (rr_cell (b := 17) (rr_cell (b := 16) (rr_cell (b := 15) (rr_cell (b := 14) (rr_cell (b := 13) h _ (by unfold relR; omega)) _ (by unfold relR; omega)) _ (by unfold relR; omega)) _ (by unfold relR; omega)) _ (by unfold relR; omega)) _ (by unfold relR; omega))
    obtain ⟨n95, Y95, u1, u2, u5, u3, u4⟩ := hrr95.2.2.2.2.1 _ (rr_q h)
    refine x_callV (pc := 95) C E [.int (nI (vR (sV (σ)))), .int (nI 0)] [] (c_X12_read0 t (q := vR (sV σ)) u1 (by omega) u2 (fun k hk => (u5 k hk).1) (fun k hk => (u5 k hk).2)) m_X12_read q15_3 xo_M rfl (by first | decide | omega) (Nat.le_of_ble_eq_true rfl) dX12_takes_95 rfl (fun r M95 hc95 => ?_)
    obtain ⟨w95, rfl, hS95, hv95, -⟩ := hc95
    have hw95 := (hv95 u3).2
    rw [u4 0 (by decide), nmO_6] at hw95
    subst hw95
    show XV κ (xP (wR t) M95) 98 _ [.int (sT (σ) (vR (sV σ)) 0 (nm6 (vT (sV (σ)) b f) (vT (sV (σ)) a f) (b2i (decide (vC (sV σ) a f = vC (sV σ) b f))) (vU (sV (σ)) b) (nI f) (vD (sV (σ)))))]
    have hSc95 : Sc M M95 := fun a b hab => (hS95 a b hab).trans (by rw [mu_at, if_neg (by omega), mu_at, if_neg (by omega), mu_at, if_neg (by omega), mu_at, if_neg (by omega), mu_at, if_neg (by omega), mu_at, if_neg (by omega)])
    refine x_if_eq (pc := 98) C 105 dX12_takes_98 (by decide) (fun h98 => ?_) (fun h98 => ?_)
    · refine x_iconst (pc := 105) (v := (nI 0)) C dX12_takes_105 (by decide) ?_
      exact x_bret (pc := 106) C X (b := false) rfl dX12_takes_106 ⟨by rw [decide_eq_false (fun g => g h98)], hSc95⟩
    · refine x_iconst (pc := 101) (v := (nI 1)) C dX12_takes_101 (by decide) ?_
      refine x_goto (pc := 102) C 106 dX12_takes_102 (by decide) ?_
      exact x_bret (pc := 106) C X (b := true) rfl dX12_takes_106 ⟨by rw [decide_eq_true h98], hSc95⟩

set_option maxRecDepth 100000 in
set_option maxHeartbeats 800000 in
theorem c_X12_plainOf1 (t : CT) {σ : SV} {M : MM} (h : RR σ M) (x2 x3 : Int32) {m : Nat} (hm : m < 1000) : XMet (wR t) yX12_plainOf cX12_plainOf 5 (some .int) 63 [.ref (t.1 0), .int (nI 1), .int x2, .int x3, .int (nI m)] M (sQ M (clampI (nI m) (sT σ (vR (sV σ)) 1 (nm6 0 0 0 x2 x3 (vD (sV σ)))))) := by
  refine x_met RX12 (by decide) rfl (Nat.le_of_ble_eq_true rfl) (fun κ C X E => ?_)
  refine x_L (L' := [(0, .ref (t.1 0)), (1, .int (nI 1)), (2, .int x2), (3, .int x3), (4, .int (nI m))]) rfl ?_
  have hn6 := rr_n6 h
  have hN6 := h.1.1
  have hq := rr_q h
  refine x_aload_n (pc := 0) C 0 dX12_plainOf_0 rfl ?_
  refine x_iconst (pc := 1) (v := 0) C dX12_plainOf_1 rfl ?_
  refine p_M_ofHere (pc := 2) C E q14_20 dX12_plainOf_2 ?_
  refine x_aload_n (pc := 5) C 0 dX12_plainOf_5 rfl ?_
  refine x_iconst (pc := 6) (v := 0) C dX12_plainOf_6 rfl ?_
  refine p_M_ofThere (pc := 7) C E q14_21 dX12_plainOf_7 ?_
  refine x_aload_n (pc := 10) C 0 dX12_plainOf_10 rfl ?_
  refine x_iconst (pc := 11) (v := 0) C dX12_plainOf_11 rfl ?_
  refine p_M_ofSame (pc := 12) C E q14_22 dX12_plainOf_12 ?_
  refine x_aload_n (pc := 15) C 0 dX12_plainOf_15 rfl ?_
  refine x_iload_n (pc := 16) C 2 dX12_plainOf_16 rfl ?_
  refine p_M_ofNumber (pc := 17) C E q14_23 dX12_plainOf_17 ?_
  refine x_aload_n (pc := 20) C 0 dX12_plainOf_20 rfl ?_
  refine x_iload_n (pc := 21) C 3 dX12_plainOf_21 rfl ?_
  refine p_M_ofFile (pc := 22) C E q15_0 dX12_plainOf_22 ?_
  refine x_aload_n (pc := 25) C 0 dX12_plainOf_25 rfl ?_
  refine x_aload_n (pc := 26) C 0 dX12_plainOf_26 rfl ?_
  refine g_M_dayNow (pc := 27) C E q13_19 dX12_plainOf_27 ?_
  refine x_eq (show (mu (mu (mu (mu (mu M 0 13 0) 0 14 0) 0 15 0) 0 16 x2) 0 17 x3) 0 7 = vD (sV (σ)) from ((mu_k _ _ _ _ (by decide)).trans ((mu_k _ _ _ _ (by decide)).trans ((mu_k _ _ _ _ (by decide)).trans ((mu_k _ _ _ _ (by decide)).trans ((mu_k _ _ _ _ (by decide)).trans (rr_day h))))))) ?_
  refine p_M_ofDay (pc := 30) C E q15_1 dX12_plainOf_30 ?_
  refine x_aload_n (pc := 33) C 0 dX12_plainOf_33 rfl ?_
  refine x_aload_n (pc := 34) C 0 dX12_plainOf_34 rfl ?_
  refine g_M_rule (pc := 35) C E q15_2 dX12_plainOf_35 ?_
  refine x_eq (show (mu (mu (mu (mu (mu (mu M 0 13 0) 0 14 0) 0 15 0) 0 16 x2) 0 17 x3) 0 18 (vD (sV (σ)))) 0 4 = nI (vR (sV (σ))) from ((mu_k _ _ _ _ (by decide)).trans ((mu_k _ _ _ _ (by decide)).trans ((mu_k _ _ _ _ (by decide)).trans ((mu_k _ _ _ _ (by decide)).trans ((mu_k _ _ _ _ (by decide)).trans ((mu_k _ _ _ _ (by decide)).trans (rr_rule h)))))))) ?_
  refine x_iload_n (pc := 38) C 1 dX12_plainOf_38 rfl ?_
  have hrr39 : RR (σ) (mu (mu (mu (mu (mu (mu M 0 13 0) 0 14 0) 0 15 0) 0 16 x2) 0 17 x3) 0 18 (vD (sV (σ)))) := (rr_cell (b := 18) (rr_cell (b := 17) (rr_cell (b := 16) (rr_cell (b := 15) (rr_cell (b := 14) (rr_cell (b := 13) h _ (by unfold relR; omega)) _ (by unfold relR; omega)) _ (by unfold relR; omega)) _ (by unfold relR; omega)) _ (by unfold relR; omega)) _ (by unfold relR; omega))
  obtain ⟨n39, Y39, u1, u2, u5, u3, u4⟩ := hrr39.2.2.2.2.1 _ (rr_q h)
  refine x_callV (pc := 39) C E [.int (nI (vR (sV (σ)))), .int (nI 1)] [] (c_X12_read1 t (q := vR (sV σ)) u1 (by omega) u2 (fun k hk => (u5 k hk).1) (fun k hk => (u5 k hk).2)) m_X12_read q15_3 xo_M rfl (by first | decide | omega) (Nat.le_of_ble_eq_true rfl) dX12_plainOf_39 rfl (fun r M39 hc39 => ?_)
  obtain ⟨w39, rfl, hS39, hv39, -⟩ := hc39
  have hw39 := (hv39 u3).2
  rw [u4 1 (by decide), nmO_6] at hw39
  subst hw39
  show XV κ (xP (wR t) M39) 42 _ [.int (sT (σ) (vR (sV σ)) 1 (nm6 0 0 0 x2 x3 (vD (sV (σ)))))]
  have hSc39 : Sc M M39 := fun a b hab => (hS39 a b hab).trans (by rw [mu_at, if_neg (by omega), mu_at, if_neg (by omega), mu_at, if_neg (by omega), mu_at, if_neg (by omega), mu_at, if_neg (by omega), mu_at, if_neg (by omega)])
  refine x_iconst (pc := 42) (v := 0) C dX12_plainOf_42 rfl ?_
  refine x_iload (pc := 43) C 4 dX12_plainOf_43 rfl ?_
  refine x_callS (pc := 45) C E [.int (sT (σ) (vR (sV σ)) 1 (nm6 0 0 0 x2 x3 (vD (sV (σ))))), .int 0, .int (nI m)] [] (c_X12_within t _ (sT (σ) (vR (sV σ)) 1 (nm6 0 0 0 x2 x3 (vD (sV (σ))))) hm) m_X12_within q18_11 rfl (by decide) (Nat.le_of_ble_eq_true rfl) dX12_plainOf_45 rfl (k_I ?_)
  exact x_iret (pc := 48) C X dX12_plainOf_48 ⟨rfl, hSc39⟩

set_option maxRecDepth 100000 in
set_option maxHeartbeats 800000 in
theorem c_X12_plainOf2 (t : CT) {σ : SV} {M : MM} (h : RR σ M) (x2 x3 : Int32) {m : Nat} (hm : m < 1000) : XMet (wR t) yX12_plainOf cX12_plainOf 5 (some .int) 63 [.ref (t.1 0), .int (nI 2), .int x2, .int x3, .int (nI m)] M (sQ M (clampI (nI m) (sT σ (vR (sV σ)) 2 (nm6 0 0 0 x2 x3 (vD (sV σ)))))) := by
  refine x_met RX12 (by decide) rfl (Nat.le_of_ble_eq_true rfl) (fun κ C X E => ?_)
  refine x_L (L' := [(0, .ref (t.1 0)), (1, .int (nI 2)), (2, .int x2), (3, .int x3), (4, .int (nI m))]) rfl ?_
  have hn6 := rr_n6 h
  have hN6 := h.1.1
  have hq := rr_q h
  refine x_aload_n (pc := 0) C 0 dX12_plainOf_0 rfl ?_
  refine x_iconst (pc := 1) (v := 0) C dX12_plainOf_1 rfl ?_
  refine p_M_ofHere (pc := 2) C E q14_20 dX12_plainOf_2 ?_
  refine x_aload_n (pc := 5) C 0 dX12_plainOf_5 rfl ?_
  refine x_iconst (pc := 6) (v := 0) C dX12_plainOf_6 rfl ?_
  refine p_M_ofThere (pc := 7) C E q14_21 dX12_plainOf_7 ?_
  refine x_aload_n (pc := 10) C 0 dX12_plainOf_10 rfl ?_
  refine x_iconst (pc := 11) (v := 0) C dX12_plainOf_11 rfl ?_
  refine p_M_ofSame (pc := 12) C E q14_22 dX12_plainOf_12 ?_
  refine x_aload_n (pc := 15) C 0 dX12_plainOf_15 rfl ?_
  refine x_iload_n (pc := 16) C 2 dX12_plainOf_16 rfl ?_
  refine p_M_ofNumber (pc := 17) C E q14_23 dX12_plainOf_17 ?_
  refine x_aload_n (pc := 20) C 0 dX12_plainOf_20 rfl ?_
  refine x_iload_n (pc := 21) C 3 dX12_plainOf_21 rfl ?_
  refine p_M_ofFile (pc := 22) C E q15_0 dX12_plainOf_22 ?_
  refine x_aload_n (pc := 25) C 0 dX12_plainOf_25 rfl ?_
  refine x_aload_n (pc := 26) C 0 dX12_plainOf_26 rfl ?_
  refine g_M_dayNow (pc := 27) C E q13_19 dX12_plainOf_27 ?_
  refine x_eq (show (mu (mu (mu (mu (mu M 0 13 0) 0 14 0) 0 15 0) 0 16 x2) 0 17 x3) 0 7 = vD (sV (σ)) from ((mu_k _ _ _ _ (by decide)).trans ((mu_k _ _ _ _ (by decide)).trans ((mu_k _ _ _ _ (by decide)).trans ((mu_k _ _ _ _ (by decide)).trans ((mu_k _ _ _ _ (by decide)).trans (rr_day h))))))) ?_
  refine p_M_ofDay (pc := 30) C E q15_1 dX12_plainOf_30 ?_
  refine x_aload_n (pc := 33) C 0 dX12_plainOf_33 rfl ?_
  refine x_aload_n (pc := 34) C 0 dX12_plainOf_34 rfl ?_
  refine g_M_rule (pc := 35) C E q15_2 dX12_plainOf_35 ?_
  refine x_eq (show (mu (mu (mu (mu (mu (mu M 0 13 0) 0 14 0) 0 15 0) 0 16 x2) 0 17 x3) 0 18 (vD (sV (σ)))) 0 4 = nI (vR (sV (σ))) from ((mu_k _ _ _ _ (by decide)).trans ((mu_k _ _ _ _ (by decide)).trans ((mu_k _ _ _ _ (by decide)).trans ((mu_k _ _ _ _ (by decide)).trans ((mu_k _ _ _ _ (by decide)).trans ((mu_k _ _ _ _ (by decide)).trans (rr_rule h)))))))) ?_
  refine x_iload_n (pc := 38) C 1 dX12_plainOf_38 rfl ?_
  have hrr39 : RR (σ) (mu (mu (mu (mu (mu (mu M 0 13 0) 0 14 0) 0 15 0) 0 16 x2) 0 17 x3) 0 18 (vD (sV (σ)))) := (rr_cell (b := 18) (rr_cell (b := 17) (rr_cell (b := 16) (rr_cell (b := 15) (rr_cell (b := 14) (rr_cell (b := 13) h _ (by unfold relR; omega)) _ (by unfold relR; omega)) _ (by unfold relR; omega)) _ (by unfold relR; omega)) _ (by unfold relR; omega)) _ (by unfold relR; omega))
  obtain ⟨n39, Y39, u1, u2, u5, u3, u4⟩ := hrr39.2.2.2.2.1 _ (rr_q h)
  refine x_callV (pc := 39) C E [.int (nI (vR (sV (σ)))), .int (nI 2)] [] (c_X12_read2 t (q := vR (sV σ)) u1 (by omega) u2 (fun k hk => (u5 k hk).1) (fun k hk => (u5 k hk).2)) m_X12_read q15_3 xo_M rfl (by first | decide | omega) (Nat.le_of_ble_eq_true rfl) dX12_plainOf_39 rfl (fun r M39 hc39 => ?_)
  obtain ⟨w39, rfl, hS39, hv39, -⟩ := hc39
  have hw39 := (hv39 u3).2
  rw [u4 2 (by decide), nmO_6] at hw39
  subst hw39
  show XV κ (xP (wR t) M39) 42 _ [.int (sT (σ) (vR (sV σ)) 2 (nm6 0 0 0 x2 x3 (vD (sV (σ)))))]
  have hSc39 : Sc M M39 := fun a b hab => (hS39 a b hab).trans (by rw [mu_at, if_neg (by omega), mu_at, if_neg (by omega), mu_at, if_neg (by omega), mu_at, if_neg (by omega), mu_at, if_neg (by omega), mu_at, if_neg (by omega)])
  refine x_iconst (pc := 42) (v := 0) C dX12_plainOf_42 rfl ?_
  refine x_iload (pc := 43) C 4 dX12_plainOf_43 rfl ?_
  refine x_callS (pc := 45) C E [.int (sT (σ) (vR (sV σ)) 2 (nm6 0 0 0 x2 x3 (vD (sV (σ))))), .int 0, .int (nI m)] [] (c_X12_within t _ (sT (σ) (vR (sV σ)) 2 (nm6 0 0 0 x2 x3 (vD (sV (σ))))) hm) m_X12_within q18_11 rfl (by decide) (Nat.le_of_ble_eq_true rfl) dX12_plainOf_45 rfl (k_I ?_)
  exact x_iret (pc := 48) C X dX12_plainOf_48 ⟨rfl, hSc39⟩

set_option maxRecDepth 100000 in
set_option maxHeartbeats 800000 in
theorem c_X12_goesOf (t : CT) {σ : SV} {M : MM} (h : RR σ M) {d : Nat} (hd : d < vN (sV σ))  : XMet (wR t) yX12_goesOf cX12_goesOf 2 (some .int) 64 [.ref (t.1 0), .int (nI d)] M (sQ M (sLi σ (vR (sV σ)) (vU (sV σ) d))) := by
  refine x_met RX12 (by decide) rfl (Nat.le_of_ble_eq_true rfl) (fun κ C X E => ?_)
  refine x_L (L' := [(0, .ref (t.1 0)), (1, .int (nI d))]) rfl ?_
  have hn6 := rr_n6 h
  have hN6 := h.1.1
  have hq := rr_q h
  refine x_aload_n (pc := 0) C 0 dX12_goesOf_0 rfl ?_
  refine x_iconst (pc := 1) (v := (nI 1)) C dX12_goesOf_1 (by decide) ?_
  refine x_aload_n (pc := 2) C 0 dX12_goesOf_2 rfl ?_
  refine g_M_rows (pc := 3) C E q11_16 dX12_goesOf_3 ?_
  refine x_iconst (pc := 6) (v := (nI 2)) C dX12_goesOf_6 (by decide) ?_
  refine x_iload_n (pc := 7) C 1 dX12_goesOf_7 rfl ?_
  refine x_imul (pc := 8) C dX12_goesOf_8 ?_
  refine x_eq (show (nI 2) * (nI d) = nI (2 * d) from pk_mul _ _) ?_
  refine l_Rrows (pc := 9) C E (by omega) dX12_goesOf_9 ?_
  refine x_eq (show M 5 (2 * d) = vU (sV (σ)) d from (rr_num h (by omega))) ?_
  refine x_iconst (pc := 10) (v := 0) C dX12_goesOf_10 rfl ?_
  refine x_bipush (pc := 11) (v := (nI 100)) C dX12_goesOf_11 (by decide) ?_
  refine x_callV (pc := 13) C E [.int (nI 1), .int (vU (sV (σ)) d), .int 0, .int (nI 100)] [] (c_X12_plainOf1 t h (vU (sV (σ)) d) 0 (m := 100) (by decide)) m_X12_plainOf q14_16 xo_M rfl (by first | decide | omega) (Nat.le_of_ble_eq_true rfl) dX12_goesOf_13 rfl (fun r M13 hc13 => ?_)
  obtain ⟨rfl, hS13⟩ := hc13
  show XV κ (xP (wR t) M13) 16 _ [.int (clampI (nI 100) (sT (σ) (vR (sV (σ))) 1 (nm6 0 0 0 (vU (sV (σ)) d) 0 (vD (sV (σ))))))]
  exact x_iret (pc := 16) C X dX12_goesOf_16 ⟨rfl, hS13⟩

set_option maxRecDepth 100000 in
set_option maxHeartbeats 800000 in
theorem c_X12_canCopy (t : CT) {σ : SV} {M : MM} (h : RR σ M) {a b : Nat} (ha : a < vN (sV σ)) (hb : b < vN (sV σ))  : XMet (wR t) yX12_canCopy cX12_canCopy 3 (some .boolean) 2 [.ref (t.1 0), .int (nI a), .int (nI b)] M (rI (b2i (!decide (a = b) && (vRd (sV σ) a && vRd (sV σ) b))) M) := by
  refine x_met RX12 (by decide) rfl (Nat.le_of_ble_eq_true rfl) (fun κ C X E => ?_)
  refine x_L (L' := [(0, .ref (t.1 0)), (1, .int (nI a)), (2, .int (nI b))]) rfl ?_
  have hn6 := rr_n6 h
  refine x_iload_n (pc := 0) C 1 dX12_canCopy_0 rfl ?_
  refine x_iload_n (pc := 1) C 2 dX12_canCopy_1 rfl ?_
  refine x_icmp_eq (pc := 2) C 25 dX12_canCopy_2 (by decide) (fun h2 => ?_) (fun h2 => ?_)
  · refine x_iconst (pc := 25) (v := (nI 0)) C dX12_canCopy_25 (by decide) ?_
    exact x_bret (pc := 26) C X (b := false) rfl dX12_canCopy_26 (rI_b (Eq.symm (by rw [decide_eq_true ((nI_eq (by omega) (by omega)).mp h2)]; rfl)))
  · refine x_aload_n (pc := 5) C 0 dX12_canCopy_5 rfl ?_
    refine x_iload_n (pc := 6) C 1 dX12_canCopy_6 rfl ?_
    refine x_callV (pc := 7) C E [.int (nI a)] [] ( c_X12_reads t h (d := a) (by omega)) m_X12_reads q13_20 xo_M rfl (by decide) (Nat.le_of_ble_eq_true rfl) dX12_canCopy_7 rfl (k_I ?_)
    refine x_ifb_eq (pc := 10) C 25 dX12_canCopy_10 (by decide) (fun h10 => ?_) (fun h10 => ?_)
    · refine x_iconst (pc := 25) (v := (nI 0)) C dX12_canCopy_25 (by decide) ?_
      exact x_bret (pc := 26) C X (b := false) rfl dX12_canCopy_26 (rI_b (Eq.symm (by rw [decide_eq_false (fun e => h2 (by rw [e])), h10]; rfl)))
    · refine x_aload_n (pc := 13) C 0 dX12_canCopy_13 rfl ?_
      refine x_iload_n (pc := 14) C 2 dX12_canCopy_14 rfl ?_
      refine x_callV (pc := 15) C E [.int (nI b)] [] ( c_X12_reads t h (d := b) (by omega)) m_X12_reads q13_20 xo_M rfl (by decide) (Nat.le_of_ble_eq_true rfl) dX12_canCopy_15 rfl (k_I ?_)
      refine x_ifb_eq (pc := 18) C 25 dX12_canCopy_18 (by decide) (fun h18 => ?_) (fun h18 => ?_)
      · refine x_iconst (pc := 25) (v := (nI 0)) C dX12_canCopy_25 (by decide) ?_
        exact x_bret (pc := 26) C X (b := false) rfl dX12_canCopy_26 (rI_b (Eq.symm (by rw [decide_eq_false (fun e => h2 (by rw [e])), h10, h18]; rfl)))
      · refine x_iconst (pc := 21) (v := (nI 1)) C dX12_canCopy_21 (by decide) ?_
        refine x_goto (pc := 22) C 26 dX12_canCopy_22 (by decide) ?_
        exact x_bret (pc := 26) C X (b := true) rfl dX12_canCopy_26 (rI_b (Eq.symm (by rw [decide_eq_false (fun e => h2 (by rw [e])), h10, h18]; rfl)))

theorem rr_set {σ : SV} {M : MM} (h : RR σ M) {d f : Nat} (hd : d < vN (sV σ)) (hf : f < 8) {c s : Int32} (hc : -1 ≤ c.toInt) : RR (setV σ (vSet (sV σ) d f c s)) (mu (mu M 6 (8 * d + f) c) 7 (8 * d + f) s) := by
  refine rr_V (v' := vSet (sV σ) d f c s) h ⟨h.2.1.1, ?_, ?_, ?_, fun x hx => ?_⟩ (fun a b _ _ _ _ g6 g7 => by rw [mu_n _ _ _ _ g7, mu_n _ _ _ _ g6]) h.1.2.2.1 (kOk_same h.1.2.2.2.1 rfl rfl)
  · rw [mu_n _ _ _ _ (by decide), mu_n _ _ _ _ (by decide)]; exact rr_day h
  · rw [mu_n _ _ _ _ (by decide), mu_n _ _ _ _ (by decide)]; exact rr_rule h
  · rw [mu_n _ _ _ _ (by decide), mu_n _ _ _ _ (by decide)]; exact rr_size h
  · obtain ⟨a1, a2, a3, a4, a5⟩ := h.2.1.2.2.2.2 x hx
    refine ⟨by rw [mu_n _ _ _ _ (by decide), mu_n _ _ _ _ (by decide)]; exact a1, a2, by rw [mu_n _ _ _ _ (by decide), mu_n _ _ _ _ (by decide)]; exact a3, by rw [mu_n _ _ _ _ (by decide), mu_n _ _ _ _ (by decide)]; exact a4, fun y hy => ?_⟩
    obtain ⟨b1, b2, b3⟩ := a5 y hy
    rw [vC_set, vT_set, mu_n _ _ _ _ (show (6 : Nat) ≠ 7 by decide)]
    by_cases g : x = d ∧ y = f
    · obtain ⟨rfl, rfl⟩ := g
      rw [if_pos ⟨rfl, rfl⟩, if_pos ⟨rfl, rfl⟩, mu_s, mu_s]
      exact ⟨rfl, rfl, hc⟩
    · rw [if_neg g, if_neg g, mu_k _ _ _ _ (by omega), mu_k _ _ _ _ (by omega), mu_n _ _ _ _ (by decide)]
      exact ⟨b1, b2, b3⟩
def vEv (σ : SV) : (Nat → Int32) → Int32 := sT σ (vR (sV σ)) 0
def wCp (σ : SV) (a b f : Nat) : WV × Nat := vCp (sV σ) a b (vEv σ) f
theorem wCp_R (σ : SV) (a b f : Nat) : vR (wCp σ a b f).1 = vR (sV σ) ∧ vN (wCp σ a b f).1 = vN (sV σ) := ⟨(vCp_n f).2.2.1, (vCp_n f).1⟩
theorem wCp_t {σ : SV} {a b f : Nat} (h : vCpC (wCp σ a b f).1 a b f (vEv σ) = true) : wCp σ a b (f + 1) = (vCpD (wCp σ a b f).1 a b f, (wCp σ a b f).2 + 1) := by
  show vCp (sV σ) a b (vEv σ) (f + 1) = _
  rw [vCp]
  exact if_pos h
theorem wCp_f {σ : SV} {a b f : Nat} (h : vCpC (wCp σ a b f).1 a b f (vEv σ) = false) : wCp σ a b (f + 1) = wCp σ a b f := by
  show vCp (sV σ) a b (vEv σ) (f + 1) = _
  rw [vCp]
  exact if_neg (by rw [show vCpC (vCp (sV σ) a b (vEv σ) f).1 a b f (vEv σ) = false from h]; decide)
theorem wCp_8 (σ : SV) (a b : Nat) : wCp σ a b 8 = sCp σ (sV σ) a b := sCp_eq σ (sV σ) a b
set_option maxRecDepth 100000 in
set_option maxHeartbeats 800000 in
theorem c_X12_copiesAll (t : CT) {σ : SV} {M : MM} (h : RR σ M) {a b : Nat} (ha : a < vN (sV σ)) (hb : b < vN (sV σ))  : XMet (wR t) yX12_copiesAll cX12_copiesAll 6 (some .int) 65 [.ref (t.1 0), .int (nI a), .int (nI b)] M (fun r B => r = some (.int (nI (sCp σ (sV σ) a b).2)) ∧ RR (setV σ (sCp σ (sV σ) a b).1) B ∧ Cq M B) := by
  refine x_met RX12 (by decide) rfl (Nat.le_of_ble_eq_true rfl) (fun κ C X E => ?_)
  refine x_L (L' := [(0, .ref (t.1 0)), (1, .int (nI a)), (2, .int (nI b))]) rfl ?_
  have hn6 := rr_n6 h
  have hN6 := h.1.1
  have hq := rr_q h
  refine x_iconst (pc := 0) (v := (nI 0)) C dX12_copiesAll_0 (by decide) ?_
  refine x_istore_n (pc := 1) (L' := [(3, .int (nI 0)), (0, .ref (t.1 0)), (1, .int (nI a)), (2, .int (nI b))]) C dX12_copiesAll_1 (by decide) rfl ?_
  refine x_iconst (pc := 2) (v := (nI 0)) C dX12_copiesAll_2 (by decide) ?_
  refine x_istore (pc := 3) (L' := [(4, .int (nI 0)), (3, .int (nI 0)), (0, .ref (t.1 0)), (1, .int (nI a)), (2, .int (nI b))]) C dX12_copiesAll_3 (by decide) rfl ?_
  have loop5 : ∀ (k f : Nat) (x : Int32) (y : Int32) (Mx : MM) , f + k = 8 → x = nI (wCp σ a b f).2 → y = nI f → (RR (setV σ (wCp σ a b f).1) Mx ∧ Cq M Mx) → XV κ (xP (wR t) Mx) 5 [(0, .ref (t.1 0)), (1, .int (nI a)), (2, .int (nI b)), (3, .int x), (4, .int y)] [] := by
    intro k
    induction k with
      | zero =>
        intro f x y Mx  hcnt ex ey eMx
        subst ex
        subst ey
        obtain rfl : 8 = f := by omega
        have hwn := (wCp_R σ a b 8).2
        refine x_iload (pc := 5) C 4 dX12_copiesAll_5 rfl ?_
        refine x_bipush (pc := 7) (v := (nI 8)) C dX12_copiesAll_7 (by decide) ?_
        refine x_icmp_ge_t (pc := 9) C 105 dX12_copiesAll_9 (by decide) (nI_le (by omega) (by decide)) ?_
        refine x_iload_n (pc := 105) C 3 dX12_copiesAll_105 rfl ?_
        exact x_iret (pc := 106) C X dX12_copiesAll_106 ⟨by rw [wCp_8], by rw [← wCp_8]; exact eMx.1, eMx.2⟩
      | succ k ih =>
        intro f x y Mx  hcnt ex ey eMx
        subst ex
        subst ey
        have hi5 : f < 8 := by omega
        have hwn := (wCp_R σ a b f).2
        have hn6w := hwn
        refine x_iload (pc := 5) C 4 dX12_copiesAll_5 rfl ?_
        refine x_bipush (pc := 7) (v := (nI 8)) C dX12_copiesAll_7 (by decide) ?_
        refine x_icmp_ge_f (pc := 9) C 105 dX12_copiesAll_9 (by decide) (nI_ge (by omega) (by decide)) ?_
        refine x_bipush (pc := 12) (v := (nI 8)) C dX12_copiesAll_12 (by decide) ?_
        refine x_iload_n (pc := 14) C 1 dX12_copiesAll_14 rfl ?_
        refine x_imul (pc := 15) C dX12_copiesAll_15 ?_
        refine x_eq (show (nI 8) * (nI a) = nI (8 * a) from pk_mul _ _) ?_
        refine x_iload (pc := 16) C 4 dX12_copiesAll_16 rfl ?_
        refine x_iadd (pc := 18) C dX12_copiesAll_18 ?_
        refine x_eq (show (nI (8 * a)) + (nI f) = nI (8 * a + f) from nI_add _ _) ?_
        refine x_istore (pc := 19) (L' := [(5, .int (nI (8 * a + f))), (0, .ref (t.1 0)), (1, .int (nI a)), (2, .int (nI b)), (3, .int (nI (wCp σ a b f).2)), (4, .int (nI f))]) C dX12_copiesAll_19 (by decide) rfl ?_
        refine x_aload_n (pc := 21) C 1 dX12_copiesAll_21 rfl ?_
        refine g_M_contents (pc := 22) C E q11_17 dX12_copiesAll_22 ?_
        refine x_iload (pc := 25) C 0 dX12_copiesAll_25 rfl ?_
        refine l_Rcontents (pc := 27) C E (by omega) dX12_copiesAll_27 ?_
        refine x_eq (show Mx 6 (8 * a + f) = vC ((wCp σ a b f).1) a f from (rr_ct eMx.1 (show a < vN ((wCp σ a b f).1) by omega) (by omega))) ?_
        refine x_iconst (pc := 28) (v := (-1)) C dX12_copiesAll_28 rfl ?_
        refine x_icmp_eq (pc := 29) C 99 dX12_copiesAll_29 (by decide) (fun h29 => ?_) (fun h29 => ?_)
        · refine x_iinc (pc := 99) (v := nI (f + 1)) (L' := [(4, .int (nI (f + 1))), (5, .int (nI (8 * a + f))), (0, .ref (t.1 0)), (1, .int (nI a)), (2, .int (nI b)), (3, .int (nI (wCp σ a b f).2))]) C 5 dX12_copiesAll_99 rfl (nI_1 _) (by decide) rfl ?_
          refine x_goto (pc := 102) C 5 dX12_copiesAll_102 (by decide) ?_
          refine x_sub [2, 3, 4, 5, 0] rfl ?_
          have hcf : vCpC (wCp σ a b f).1 a b f (vEv σ) = false := by unfold vCpC vHas; rw [decide_eq_true h29]; rfl
          refine ih (f + 1) _ _ _ (by omega) (by rw [wCp_f hcf]) rfl (by rw [wCp_f hcf]; exact eMx)
        · refine x_aload_n (pc := 32) C 1 dX12_copiesAll_32 rfl ?_
          refine x_iload_n (pc := 33) C 3 dX12_copiesAll_33 rfl ?_
          refine x_iload (pc := 34) C 5 dX12_copiesAll_34 rfl ?_
          refine x_callV (pc := 36) C E [.int (nI b), .int (nI f)] [] ( c_X12_hasRoom t eMx.1 (d := b) (show b < vN ((wCp σ a b f).1) by omega) (f := f) (by omega)) m_X12_hasRoom q28_19 xo_M rfl (by decide) (Nat.le_of_ble_eq_true rfl) dX12_copiesAll_36 rfl (k_I ?_)
          refine x_ifb_eq (pc := 39) C 99 dX12_copiesAll_39 (by decide) (fun h39 => ?_) (fun h39 => ?_)
          · refine x_iinc (pc := 99) (v := nI (f + 1)) (L' := [(4, .int (nI (f + 1))), (5, .int (nI (8 * a + f))), (0, .ref (t.1 0)), (1, .int (nI a)), (2, .int (nI b)), (3, .int (nI (wCp σ a b f).2))]) C 5 dX12_copiesAll_99 rfl (nI_1 _) (by decide) rfl ?_
            refine x_goto (pc := 102) C 5 dX12_copiesAll_102 (by decide) ?_
            refine x_sub [2, 3, 4, 5, 0] rfl ?_
            have hcf : vCpC (wCp σ a b f).1 a b f (vEv σ) = false := by unfold vCpC vHas; rw [decide_eq_false h29, show vTi (wCp σ a b f).1 b f = false from h39]; rfl
            refine ih (f + 1) _ _ _ (by omega) (by rw [wCp_f hcf]) rfl (by rw [wCp_f hcf]; exact eMx)
          · refine x_aload_n (pc := 42) C 1 dX12_copiesAll_42 rfl ?_
            refine x_iload_n (pc := 43) C 2 dX12_copiesAll_43 rfl ?_
            refine x_iload_n (pc := 44) C 3 dX12_copiesAll_44 rfl ?_
            refine x_iload (pc := 45) C 5 dX12_copiesAll_45 rfl ?_
            refine x_callV (pc := 47) C E [.int (nI a), .int (nI b), .int (nI f)] [] (c_X12_takes t eMx.1 (a := a) (b := b) (show a < vN (wCp σ a b f).1 by omega) (show b < vN (wCp σ a b f).1 by omega) (f := f) (by omega)) m_X12_takes q31_4 xo_M rfl (by decide) (Nat.le_of_ble_eq_true rfl) dX12_copiesAll_47 rfl (fun r M47 hc47 => ?_)
            obtain ⟨rfl, hS47⟩ := hc47
            rw [show sT (setV σ (wCp σ a b f).1) (vR (sV (setV σ (wCp σ a b f).1))) 0 = vEv σ from by show sT σ (vR (wCp σ a b f).1) 0 = _; rw [(wCp_R σ a b f).1]; rfl]
            show XV κ (xP (wR t) M47) 50 _ [.int (b2i (decide (vEv σ (nm6 (vT (wCp σ a b f).1 b f) (vT (wCp σ a b f).1 a f) (b2i (decide (vC (wCp σ a b f).1 a f = vC (wCp σ a b f).1 b f))) (vU (wCp σ a b f).1 b) (nI f) (vD (wCp σ a b f).1)) ≠ 0)))]
            refine x_ifb_eq (pc := 50) C 99 dX12_copiesAll_50 (by decide) (fun h50 => ?_) (fun h50 => ?_)
            · refine x_iinc (pc := 99) (v := nI (f + 1)) (L' := [(4, .int (nI (f + 1))), (5, .int (nI (8 * a + f))), (0, .ref (t.1 0)), (1, .int (nI a)), (2, .int (nI b)), (3, .int (nI (wCp σ a b f).2))]) C 5 dX12_copiesAll_99 rfl (nI_1 _) (by decide) rfl ?_
              refine x_goto (pc := 102) C 5 dX12_copiesAll_102 (by decide) ?_
              refine x_sub [2, 3, 4, 5, 0] rfl ?_
              have hcf : vCpC (wCp σ a b f).1 a b f (vEv σ) = false := by unfold vCpC vHas; rw [decide_eq_false h29, show vTi (wCp σ a b f).1 b f = true from h39, h50]; rfl
              refine ih (f + 1) _ _ _ (by omega) (by rw [wCp_f hcf]) rfl (by rw [wCp_f hcf]; exact ⟨rr_Sc eMx.1 hS47, fun x y g6 g7 g => (hS47 x y g).trans (eMx.2 x y g6 g7 g)⟩)
            · refine x_aload_n (pc := 53) C 1 dX12_copiesAll_53 rfl ?_
              refine g_M_contents (pc := 54) C E q11_17 dX12_copiesAll_54 ?_
              refine x_bipush (pc := 57) (v := (nI 8)) C dX12_copiesAll_57 (by decide) ?_
              refine x_iload_n (pc := 59) C 3 dX12_copiesAll_59 rfl ?_
              refine x_imul (pc := 60) C dX12_copiesAll_60 ?_
              refine x_eq (show (nI 8) * (nI b) = nI (8 * b) from pk_mul _ _) ?_
              refine x_iload (pc := 61) C 5 dX12_copiesAll_61 rfl ?_
              refine x_iadd (pc := 63) C dX12_copiesAll_63 ?_
              refine x_eq (show (nI (8 * b)) + (nI f) = nI (8 * b + f) from nI_add _ _) ?_
              refine x_aload_n (pc := 64) C 1 dX12_copiesAll_64 rfl ?_
              refine x_iload_n (pc := 65) C 3 dX12_copiesAll_65 rfl ?_
              refine x_aload_n (pc := 66) C 1 dX12_copiesAll_66 rfl ?_
              refine g_M_contents (pc := 67) C E q11_17 dX12_copiesAll_67 ?_
              refine x_iload (pc := 70) C 0 dX12_copiesAll_70 rfl ?_
              refine l_Rcontents (pc := 72) C E (by omega) dX12_copiesAll_72 ?_
              refine x_eq (show M47 6 (8 * a + f) = vC ((wCp σ a b f).1) a f from (rr_ct (rr_Sc eMx.1 hS47) (show a < vN ((wCp σ a b f).1) by omega) (by omega))) ?_
              refine x_callV (pc := 73) C E [.int (nI b), .int (vC ((wCp σ a b f).1) a f)] [.int (nI (8 * b + f)), .ref (t.1 6)] ( c_X12_keepsOf t (rr_Sc eMx.1 hS47) (d := b) (show b < vN ((wCp σ a b f).1) by omega) _) m_X12_keepsOf q28_23 xo_M rfl (by decide) (Nat.le_of_ble_eq_true rfl) dX12_copiesAll_73 rfl (k_I ?_)
              refine s_Rcontents (pc := 76) C E (by omega) dX12_copiesAll_76 ?_
              refine x_aload_n (pc := 77) C 1 dX12_copiesAll_77 rfl ?_
              refine g_M_stamps (pc := 78) C E q11_18 dX12_copiesAll_78 ?_
              refine x_bipush (pc := 81) (v := (nI 8)) C dX12_copiesAll_81 (by decide) ?_
              refine x_iload_n (pc := 83) C 3 dX12_copiesAll_83 rfl ?_
              refine x_imul (pc := 84) C dX12_copiesAll_84 ?_
              refine x_eq (show (nI 8) * (nI b) = nI (8 * b) from pk_mul _ _) ?_
              refine x_iload (pc := 85) C 5 dX12_copiesAll_85 rfl ?_
              refine x_iadd (pc := 87) C dX12_copiesAll_87 ?_
              refine x_eq (show (nI (8 * b)) + (nI f) = nI (8 * b + f) from nI_add _ _) ?_
              refine x_aload_n (pc := 88) C 1 dX12_copiesAll_88 rfl ?_
              refine g_M_stamps (pc := 89) C E q11_18 dX12_copiesAll_89 ?_
              refine x_iload (pc := 92) C 0 dX12_copiesAll_92 rfl ?_
              refine l_Rstamps (pc := 94) C E (by omega) dX12_copiesAll_94 ?_
              refine x_eq (show (mu M47 6 (8 * b + f) (kKeeps (vK ((wCp σ a b f).1) b) (vC ((wCp σ a b f).1) a f))) 7 (8 * a + f) = vT ((wCp σ a b f).1) a f from ((congrFun (mu_n _ _ _ _ (by decide)) _).trans (rr_st (rr_Sc eMx.1 hS47) (show a < vN ((wCp σ a b f).1) by omega) (by omega)))) ?_
              refine s_Rstamps (pc := 95) C E (by omega) dX12_copiesAll_95 ?_
              refine x_iinc (pc := 96) (v := (nI (wCp σ a b f).2) + 1) (L' := [(3, .int ((nI (wCp σ a b f).2) + 1)), (5, .int (nI (8 * a + f))), (0, .ref (t.1 0)), (1, .int (nI a)), (2, .int (nI b)), (4, .int (nI f))]) C 4 dX12_copiesAll_96 rfl rfl (by decide) rfl ?_
              refine x_iinc (pc := 99) (v := nI (f + 1)) (L' := [(4, .int (nI (f + 1))), (3, .int ((nI (wCp σ a b f).2) + 1)), (5, .int (nI (8 * a + f))), (0, .ref (t.1 0)), (1, .int (nI a)), (2, .int (nI b))]) C 5 dX12_copiesAll_99 rfl (nI_1 _) (by decide) rfl ?_
              refine x_goto (pc := 102) C 5 dX12_copiesAll_102 (by decide) ?_
              refine x_sub [3, 4, 5, 1, 0] rfl ?_
              have hcc : vCpC (wCp σ a b f).1 a b f (vEv σ) = true := by unfold vCpC vHas; rw [decide_eq_false h29, show vTi (wCp σ a b f).1 b f = true from h39, h50]; rfl
              have hst := rr_set (rr_Sc eMx.1 hS47) (d := b) (f := f) (show b < vN (wCp σ a b f).1 by omega) (by omega) (c := kKeeps (vK (wCp σ a b f).1 b) (vC (wCp σ a b f).1 a f)) (s := vT (wCp σ a b f).1 a f) (Int.le_trans (by decide) (keeps_nn (k := vK (wCp σ a b f).1 b) (c := vC (wCp σ a b f).1 a f) (by have h1 := rr_nn eMx.1 (d := a) (f := f) (show a < vN (wCp σ a b f).1 by omega) (by omega); have h2 : (vC (wCp σ a b f).1 a f).toInt ≠ -1 := fun e => h29 (Int32.toInt_inj.mp (e.trans rfl)); have h3 : (sV (setV σ (wCp σ a b f).1)) = (wCp σ a b f).1 := rfl; rw [h3] at h1; omega)))
              refine ih (f + 1) _ _ _ (by omega) (by rw [wCp_t hcc]; exact nI_1 _) rfl ⟨by rw [wCp_t hcc]; exact hst, fun x y g6 g7 g => by rw [mu_n _ _ _ _ g7, mu_n _ _ _ _ g6, hS47 x y g]; exact eMx.2 x y g6 g7 g⟩
  refine x_sub [2, 3, 4, 1, 0] rfl ?_
  exact loop5 8 0 _ _ M (by omega) rfl rfl ⟨h, Cq.rf⟩

