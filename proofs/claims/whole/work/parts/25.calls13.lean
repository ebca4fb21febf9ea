theorem c_X11_isUnder (t : CT) (M : MM) (hu : ∀ (U : State) (H : Heap), t.2.2.2 U H → iuF U) {k : Nat} (hk : k < 6) (x2 : Int32) : XMet (wC t) yX11_isUnder cX11_isUnder 2 (some .boolean) 1 [.ref (t.1 (13 + k)), .int x2] M (rI (b2i (iuX k x2)) M) := by
  match k, hk with
  | 0, _ => exact c_isUnder_0 t M hu x2
  | 1, _ => exact c_isUnder_1 t M hu x2
  | 2, _ => exact c_isUnder_2 t M hu x2
  | 3, _ => exact c_isUnder_3 t M hu x2
  | 4, _ => exact c_isUnder_4 t M hu x2
  | 5, _ => exact c_isUnder_5 t M hu x2
theorem iuX_t {k : Nat} {x : Int32} (h : inB x 6 = true) (ht : iuX k x = true) : x = 0 ∨ x = nI k ∨ (x = 1 ∧ k = 3) ∨ (x = 2 ∧ k = 4) := by
  unfold iuX at ht
  simp only [Bool.or_eq_true, Bool.not_eq_true', decide_eq_true_eq, decide_eq_false_iff_not, Bool.and_eq_true] at ht
  rw [inB_t] at h
  rcases ht with ((h1 | h1) | h1) | h1
  · left
    rw [i_eq, li_0]
    omega
  · exact Or.inr (Or.inl h1)
  · exact Or.inr (Or.inr (Or.inl h1))
  · exact Or.inr (Or.inr (Or.inr h1))
theorem iuX_f {k : Nat} {x : Int32} (ht : iuX k x = false) : ¬ (x = 0 ∨ x = nI k ∨ (x = 1 ∧ k = 3) ∨ (x = 2 ∧ k = 4)) := by
  intro h
  have e : iuX k x = true := by
    unfold iuX
    rcases h with rfl | rfl | ⟨rfl, rfl⟩ | ⟨rfl, rfl⟩
    · rfl
    · simp
    · simp
    · simp
  rw [e] at ht
  cases ht
set_option maxRecDepth 100000 in
set_option maxHeartbeats 800000 in
theorem c_X11_taken (t : CT) {σ : SV} {M : MM} (h : RC σ M)(hu : ∀ (U : State) (H : Heap), t.2.2.2 U H → iuF U) (x1 x2 : Int32) : XMet (wC t) yX11_taken cX11_taken 3 (some .int) 3 [.ref (t.1 0), .int x1, .int x2] M (aR σ (a_taken σ x1 x2)) := by
  refine x_met RX11 (by decide) rfl (Nat.le_of_ble_eq_true rfl) (fun κ C X E => ?_)
  refine x_L (L' := [(0, .ref (t.1 0)), (1, .int x1), (2, .int x2)]) rfl ?_
  have hn6 := rc_n6 h
  have hq6 := rc_q6 h
  have hq := rc_q h
  have hN6 := h.1.1
  have hB := h.1.2.1
  refine x_iload_n (pc := 0) C 2 dX11_taken_0 rfl ?_
  refine x_if_lt (pc := 1) C 10 dX11_taken_1 (by decide) (fun h1 => ?_) (fun h1 => ?_)
  · refine x_bipush (pc := 10) (v := (-2)) C dX11_taken_10 rfl ?_
    exact x_iret (pc := 12) C X dX11_taken_12 (fia (by
          unfold a_taken
          repeat (first | with_reducible rfl | (refine (if_pos ?_).trans ?_; ((try simp only [inB_t, inB_f, i_lt, i_le, i_eq, ne_eq, Bool.not_eq_true, Bool.not_eq_false, hpB, decide_eq_true_eq, decide_eq_false_iff_not, li_0, li_1, li_2, li_3, li_4, li_5, li_6, li_7, li_8, li_9, li_10, li_20, li_40, li_99, li_100, li_255, li_899, li_999, li_m1, li_m2, li_m3, li_m4, li_m11, li_m12, li_m13, li_m14, li_m100] at h1 ⊢) <;> omega)) | (refine (if_neg ?_).trans ?_; ((try simp only [inB_t, inB_f, i_lt, i_le, i_eq, ne_eq, Bool.not_eq_true, Bool.not_eq_false, hpB, decide_eq_true_eq, decide_eq_false_iff_not, li_0, li_1, li_2, li_3, li_4, li_5, li_6, li_7, li_8, li_9, li_10, li_20, li_40, li_99, li_100, li_255, li_899, li_999, li_m1, li_m2, li_m3, li_m4, li_m11, li_m12, li_m13, li_m14, li_m100] at h1 ⊢) <;> omega)) | fail)
          all_goals (first | with_reducible rfl | (exfalso; ((try simp only [inB_t, inB_f, i_lt, i_le, i_eq, ne_eq, Bool.not_eq_true, Bool.not_eq_false, hpB, decide_eq_true_eq, decide_eq_false_iff_not, li_0, li_1, li_2, li_3, li_4, li_5, li_6, li_7, li_8, li_9, li_10, li_20, li_40, li_99, li_100, li_255, li_899, li_999, li_m1, li_m2, li_m3, li_m4, li_m11, li_m12, li_m13, li_m14, li_m100] at h1 ⊢) <;> omega)))) h)
  · refine x_iload_n (pc := 4) C 2 dX11_taken_4 rfl ?_
    refine x_bipush (pc := 5) (v := 6) C dX11_taken_5 rfl ?_
    refine x_icmp_lt (pc := 7) C 13 dX11_taken_7 (by decide) (fun h7 => ?_) (fun h7 => ?_)
    · have hk6 : inB x2 6 = true := (by ((try simp only [inB_t, inB_f, i_lt, i_le, i_eq, ne_eq, Bool.not_eq_true, Bool.not_eq_false, hpB, decide_eq_true_eq, decide_eq_false_iff_not, li_0, li_1, li_2, li_3, li_4, li_5, li_6, li_7, li_8, li_9, li_10, li_20, li_40, li_99, li_100, li_255, li_899, li_999, li_m1, li_m2, li_m3, li_m4, li_m11, li_m12, li_m13, li_m14, li_m100] at h1 h7 ⊢) <;> omega))
      refine x_aload_n (pc := 13) C 0 dX11_taken_13 rfl ?_
      refine g_main_now (pc := 14) C E q2_1 dX11_taken_14 ?_
      refine x_iload_n (pc := 17) C 1 dX11_taken_17 rfl ?_
      refine x_callV (pc := 18) C E [.int x1] [] (w_has t (by decide : 0 < 3) h.2.1 _) m_X10_has q12_18 (xo_World (i := 0) (by omega)) rfl (by decide) (Nat.le_of_ble_eq_true rfl) dX11_taken_18 rfl (k_I ?_)
      refine x_ifb_ne (pc := 21) C 27 dX11_taken_21 (by decide) (fun h21 => ?_) (fun h21 => ?_)
      · obtain ⟨d, hd, ed⟩ := inB_of h21 (by omega)
        have htd := nI_toInt (n := d) (by omega)
        have hod := oN_nI (n := d) (by omega)
        subst ed
        refine x_aload_n (pc := 27) C 0 dX11_taken_27 rfl ?_
        refine g_main_now (pc := 28) C E q2_1 dX11_taken_28 ?_
        refine g_World_disks (pc := 31) C E (i := 0) (by omega) q12_15 dX11_taken_31 ?_
        refine x_iload_n (pc := 34) C 1 dX11_taken_34 rfl ?_
        refine l_disks (pc := 35) C E (i := 0) (by omega) (by omega) dX11_taken_35 ?_
        refine g_Disk_kind (pc := 36) C E (by omega) q20_5 dX11_taken_36 ?_
        refine x_iload_n (pc := 39) C 2 dX11_taken_39 rfl ?_
        refine x_callS (pc := 40) C E [.ref (t.1 (13 + ((M (62 + 3 * (6 * 0 + d)) 0).toNatClampNeg))), .int x2] [] (c_X11_isUnder t _ hu (rc_k6 h hd) _) m_X11_isUnder q48_6 rfl (by decide) (Nat.le_of_ble_eq_true rfl) dX11_taken_40 rfl (k_I ?_)
        refine x_eq (show _ = b2i (iuX (vK (sV σ) d) x2) from by rw [rc_kd h hd]) ?_
        refine x_ifb_eq (pc := 43) C 61 dX11_taken_43 (by decide) (fun h43 => ?_) (fun h43 => ?_)
        · refine x_bipush (pc := 61) (v := (-13)) C dX11_taken_61 rfl ?_
          exact x_iret (pc := 63) C X dX11_taken_63 (fia (by
                unfold a_taken
                simp only [hod]
                refine (if_neg (by rw [hk6]; decide)).trans ?_
                refine (if_neg (by rw [h21]; decide)).trans ?_
                exact if_neg (iuX_f h43)) h)
        · refine x_aload_n (pc := 46) C 0 dX11_taken_46 rfl ?_
          refine g_main_now (pc := 47) C E q2_1 dX11_taken_47 ?_
          refine g_World_disks (pc := 50) C E (i := 0) (by omega) q12_15 dX11_taken_50 ?_
          refine x_iload_n (pc := 53) C 1 dX11_taken_53 rfl ?_
          refine l_disks (pc := 54) C E (i := 0) (by omega) (by omega) dX11_taken_54 ?_
          refine g_Disk_number (pc := 55) C E (by omega) q12_16 dX11_taken_55 ?_
          refine x_eq (show M (62 + 3 * (6 * 0 + d)) 1 = vU (sV σ) d from rc_num h (by omega)) ?_
          refine x_goto (pc := 58) C 63 dX11_taken_58 (by decide) ?_
          exact x_iret (pc := 63) C X dX11_taken_63 (fia (by
                unfold a_taken
                simp only [hod]
                refine (if_neg (by rw [hk6]; decide)).trans ?_
                refine (if_neg (by rw [h21]; decide)).trans ?_
                exact if_pos (iuX_t hk6 h43)) h)
      · refine x_bipush (pc := 24) (v := (-11)) C dX11_taken_24 rfl ?_
        exact x_iret (pc := 26) C X dX11_taken_26 (fia (by
              unfold a_taken
              repeat (first | with_reducible rfl | (refine (if_pos ?_).trans ?_; ((try simp only [inB_t, inB_f, i_lt, i_le, i_eq, ne_eq, Bool.not_eq_true, Bool.not_eq_false, hpB, decide_eq_true_eq, decide_eq_false_iff_not, li_0, li_1, li_2, li_3, li_4, li_5, li_6, li_7, li_8, li_9, li_10, li_20, li_40, li_99, li_100, li_255, li_899, li_999, li_m1, li_m2, li_m3, li_m4, li_m11, li_m12, li_m13, li_m14, li_m100] at h1 h7 h21 ⊢) <;> omega)) | (refine (if_neg ?_).trans ?_; ((try simp only [inB_t, inB_f, i_lt, i_le, i_eq, ne_eq, Bool.not_eq_true, Bool.not_eq_false, hpB, decide_eq_true_eq, decide_eq_false_iff_not, li_0, li_1, li_2, li_3, li_4, li_5, li_6, li_7, li_8, li_9, li_10, li_20, li_40, li_99, li_100, li_255, li_899, li_999, li_m1, li_m2, li_m3, li_m4, li_m11, li_m12, li_m13, li_m14, li_m100] at h1 h7 h21 ⊢) <;> omega)) | fail)
              all_goals (first | with_reducible rfl | (exfalso; ((try simp only [inB_t, inB_f, i_lt, i_le, i_eq, ne_eq, Bool.not_eq_true, Bool.not_eq_false, hpB, decide_eq_true_eq, decide_eq_false_iff_not, li_0, li_1, li_2, li_3, li_4, li_5, li_6, li_7, li_8, li_9, li_10, li_20, li_40, li_99, li_100, li_255, li_899, li_999, li_m1, li_m2, li_m3, li_m4, li_m11, li_m12, li_m13, li_m14, li_m100] at h1 h7 h21 ⊢) <;> omega)))) h)
    · refine x_bipush (pc := 10) (v := (-2)) C dX11_taken_10 rfl ?_
      exact x_iret (pc := 12) C X dX11_taken_12 (fia (by
            unfold a_taken
            repeat (first | with_reducible rfl | (refine (if_pos ?_).trans ?_; ((try simp only [inB_t, inB_f, i_lt, i_le, i_eq, ne_eq, Bool.not_eq_true, Bool.not_eq_false, hpB, decide_eq_true_eq, decide_eq_false_iff_not, li_0, li_1, li_2, li_3, li_4, li_5, li_6, li_7, li_8, li_9, li_10, li_20, li_40, li_99, li_100, li_255, li_899, li_999, li_m1, li_m2, li_m3, li_m4, li_m11, li_m12, li_m13, li_m14, li_m100] at h1 h7 ⊢) <;> omega)) | (refine (if_neg ?_).trans ?_; ((try simp only [inB_t, inB_f, i_lt, i_le, i_eq, ne_eq, Bool.not_eq_true, Bool.not_eq_false, hpB, decide_eq_true_eq, decide_eq_false_iff_not, li_0, li_1, li_2, li_3, li_4, li_5, li_6, li_7, li_8, li_9, li_10, li_20, li_40, li_99, li_100, li_255, li_899, li_999, li_m1, li_m2, li_m3, li_m4, li_m11, li_m12, li_m13, li_m14, li_m100] at h1 h7 ⊢) <;> omega)) | fail)
            all_goals (first | with_reducible rfl | (exfalso; ((try simp only [inB_t, inB_f, i_lt, i_le, i_eq, ne_eq, Bool.not_eq_true, Bool.not_eq_false, hpB, decide_eq_true_eq, decide_eq_false_iff_not, li_0, li_1, li_2, li_3, li_4, li_5, li_6, li_7, li_8, li_9, li_10, li_20, li_40, li_99, li_100, li_255, li_899, li_999, li_m1, li_m2, li_m3, li_m4, li_m11, li_m12, li_m13, li_m14, li_m100] at h1 h7 ⊢) <;> omega)))) h)

