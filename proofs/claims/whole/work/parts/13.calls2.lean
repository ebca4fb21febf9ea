theorem vNh_lt {v : WV} {f e : Nat} : ∀ {n : Nat}, vNh v f n = some e → e < n := by
  intro n
  induction n with
  | zero => intro h; cases h
  | succ n ih =>
    intro h
    rw [vNh] at h
    have key : ∀ c : Bool, (if c = true then some n else vNh v f n) = some e → e < n + 1 := by
      intro c h
      cases c
      · have := ih h; omega
      · cases h; omega
    exact key _ h
theorem a_newest_n {σ : SV} {x1 x2 : Int32} (h1 : ¬ (inB x1 8 = false ∨ inB x2 3 = false)) (ho : vNh (sV σ) (oN x1) (vN (sV σ)) = none) : a_newest σ x1 x2 = if x2 = 2 then -100 else -1 := by
  unfold a_newest
  rw [if_neg h1, ho]
theorem a_newest_s {σ : SV} {x1 x2 : Int32} {d : Nat} (h1 : ¬ (inB x1 8 = false ∨ inB x2 3 = false)) (ho : vNh (sV σ) (oN x1) (vN (sV σ)) = some d) : a_newest σ x1 x2 = if x2 = 0 then nI d else if x2 = 1 then vC (sV σ) d (oN x1) else vT (sV σ) d (oN x1) := by
  unfold a_newest
  rw [if_neg h1, ho]
set_option maxRecDepth 100000 in
set_option maxHeartbeats 800000 in
theorem c_X11_write (t : CT) {σ : SV} {M : MM} (h : RC σ M)(x1 x2 x3 : Int32) : XMet (wC t) yX11_write cX11_write 5 (some .int) 5 [.ref (t.1 0), .int x1, .int x2, .int x3] M (oR (o_write σ x1 x2 x3)) := by
  refine x_met RX11 (by decide) rfl (Nat.le_of_ble_eq_true rfl) (fun κ C X E => ?_)
  refine x_L (L' := [(0, .ref (t.1 0)), (1, .int x1), (2, .int x2), (3, .int x3)]) rfl ?_
  have hn6 := rc_n6 h
  have hq6 := rc_q6 h
  have hq := rc_q h
  have hN6 := h.1.1
  have hB := h.1.2.1
  refine x_aload_n (pc := 0) C 0 dX11_write_0 rfl ?_
  refine g_main_now (pc := 1) C E q2_1 dX11_write_1 ?_
  refine x_iload_n (pc := 4) C 1 dX11_write_4 rfl ?_
  refine x_callV (pc := 5) C E [.int x1] [] (w_has t (by decide : 0 < 3) h.2.1 _) m_X10_has q12_18 (xo_World (i := 0) (by omega)) rfl (by decide) (Nat.le_of_ble_eq_true rfl) dX11_write_5 rfl (k_I ?_)
  refine x_ifb_eq (pc := 8) C 29 dX11_write_8 (by decide) (fun h8 => ?_) (fun h8 => ?_)
  · refine x_bipush (pc := 29) (v := (-2)) C dX11_write_29 rfl ?_
    exact x_iret (pc := 31) C X dX11_write_31 (fin (by
          unfold o_write
          repeat (first | with_reducible rfl | (refine (if_pos ?_).trans ?_; ((try simp only [inB_t, inB_f, i_lt, i_le, i_eq, ne_eq, Bool.not_eq_true, Bool.not_eq_false, hpB, decide_eq_true_eq, decide_eq_false_iff_not, li_0, li_1, li_2, li_3, li_4, li_5, li_6, li_7, li_8, li_9, li_10, li_20, li_40, li_99, li_100, li_255, li_899, li_999, li_m1, li_m2, li_m3, li_m4, li_m11, li_m12, li_m13, li_m14, li_m100] at h8 ⊢) <;> omega)) | (refine (if_neg ?_).trans ?_; ((try simp only [inB_t, inB_f, i_lt, i_le, i_eq, ne_eq, Bool.not_eq_true, Bool.not_eq_false, hpB, decide_eq_true_eq, decide_eq_false_iff_not, li_0, li_1, li_2, li_3, li_4, li_5, li_6, li_7, li_8, li_9, li_10, li_20, li_40, li_99, li_100, li_255, li_899, li_999, li_m1, li_m2, li_m3, li_m4, li_m11, li_m12, li_m13, li_m14, li_m100] at h8 ⊢) <;> omega)) | fail)
          all_goals (first | with_reducible rfl | (exfalso; ((try simp only [inB_t, inB_f, i_lt, i_le, i_eq, ne_eq, Bool.not_eq_true, Bool.not_eq_false, hpB, decide_eq_true_eq, decide_eq_false_iff_not, li_0, li_1, li_2, li_3, li_4, li_5, li_6, li_7, li_8, li_9, li_10, li_20, li_40, li_99, li_100, li_255, li_899, li_999, li_m1, li_m2, li_m3, li_m4, li_m11, li_m12, li_m13, li_m14, li_m100] at h8 ⊢) <;> omega)))) h)
  · obtain ⟨d, hd, ed⟩ := inB_of h8 (by omega)
    have htd := nI_toInt (n := d) (by omega)
    have hod := oN_nI (n := d) (by omega)
    subst ed
    refine x_iload_n (pc := 11) C 2 dX11_write_11 rfl ?_
    refine x_callS (pc := 12) C E [.int x2] [] (c_X11_isFile t _ _) m_X11_isFile q25_15 rfl (by decide) (Nat.le_of_ble_eq_true rfl) dX11_write_12 rfl (k_I ?_)
    refine x_ifb_eq (pc := 15) C 29 dX11_write_15 (by decide) (fun h15 => ?_) (fun h15 => ?_)
    · refine x_bipush (pc := 29) (v := (-2)) C dX11_write_29 rfl ?_
      exact x_iret (pc := 31) C X dX11_write_31 (fin (by
            unfold o_write
            simp only [hod]
            repeat (first | with_reducible rfl | (refine (if_pos ?_).trans ?_; ((try simp only [inB_t, inB_f, i_lt, i_le, i_eq, ne_eq, Bool.not_eq_true, Bool.not_eq_false, hpB, decide_eq_true_eq, decide_eq_false_iff_not, li_0, li_1, li_2, li_3, li_4, li_5, li_6, li_7, li_8, li_9, li_10, li_20, li_40, li_99, li_100, li_255, li_899, li_999, li_m1, li_m2, li_m3, li_m4, li_m11, li_m12, li_m13, li_m14, li_m100] at h8 htd h15 ⊢) <;> omega)) | (refine (if_neg ?_).trans ?_; ((try simp only [inB_t, inB_f, i_lt, i_le, i_eq, ne_eq, Bool.not_eq_true, Bool.not_eq_false, hpB, decide_eq_true_eq, decide_eq_false_iff_not, li_0, li_1, li_2, li_3, li_4, li_5, li_6, li_7, li_8, li_9, li_10, li_20, li_40, li_99, li_100, li_255, li_899, li_999, li_m1, li_m2, li_m3, li_m4, li_m11, li_m12, li_m13, li_m14, li_m100] at h8 htd h15 ⊢) <;> omega)) | fail)
            all_goals (first | with_reducible rfl | (exfalso; ((try simp only [inB_t, inB_f, i_lt, i_le, i_eq, ne_eq, Bool.not_eq_true, Bool.not_eq_false, hpB, decide_eq_true_eq, decide_eq_false_iff_not, li_0, li_1, li_2, li_3, li_4, li_5, li_6, li_7, li_8, li_9, li_10, li_20, li_40, li_99, li_100, li_255, li_899, li_999, li_m1, li_m2, li_m3, li_m4, li_m11, li_m12, li_m13, li_m14, li_m100] at h8 htd h15 ⊢) <;> omega)))) h)
    · obtain ⟨f, hf, ef⟩ := inB_of h15 (by omega)
      have htf := nI_toInt (n := f) (by omega)
      have hof := oN_nI (n := f) (by omega)
      subst ef
      refine x_iload_n (pc := 18) C 3 dX11_write_18 rfl ?_
      refine x_if_lt (pc := 19) C 29 dX11_write_19 (by decide) (fun h19 => ?_) (fun h19 => ?_)
      · refine x_bipush (pc := 29) (v := (-2)) C dX11_write_29 rfl ?_
        exact x_iret (pc := 31) C X dX11_write_31 (fin (by
              unfold o_write
              simp only [hod, hof]
              repeat (first | with_reducible rfl | (refine (if_pos ?_).trans ?_; ((try simp only [inB_t, inB_f, i_lt, i_le, i_eq, ne_eq, Bool.not_eq_true, Bool.not_eq_false, hpB, decide_eq_true_eq, decide_eq_false_iff_not, li_0, li_1, li_2, li_3, li_4, li_5, li_6, li_7, li_8, li_9, li_10, li_20, li_40, li_99, li_100, li_255, li_899, li_999, li_m1, li_m2, li_m3, li_m4, li_m11, li_m12, li_m13, li_m14, li_m100] at h8 htd h15 htf h19 ⊢) <;> omega)) | (refine (if_neg ?_).trans ?_; ((try simp only [inB_t, inB_f, i_lt, i_le, i_eq, ne_eq, Bool.not_eq_true, Bool.not_eq_false, hpB, decide_eq_true_eq, decide_eq_false_iff_not, li_0, li_1, li_2, li_3, li_4, li_5, li_6, li_7, li_8, li_9, li_10, li_20, li_40, li_99, li_100, li_255, li_899, li_999, li_m1, li_m2, li_m3, li_m4, li_m11, li_m12, li_m13, li_m14, li_m100] at h8 htd h15 htf h19 ⊢) <;> omega)) | fail)
              all_goals (first | with_reducible rfl | (exfalso; ((try simp only [inB_t, inB_f, i_lt, i_le, i_eq, ne_eq, Bool.not_eq_true, Bool.not_eq_false, hpB, decide_eq_true_eq, decide_eq_false_iff_not, li_0, li_1, li_2, li_3, li_4, li_5, li_6, li_7, li_8, li_9, li_10, li_20, li_40, li_99, li_100, li_255, li_899, li_999, li_m1, li_m2, li_m3, li_m4, li_m11, li_m12, li_m13, li_m14, li_m100] at h8 htd h15 htf h19 ⊢) <;> omega)))) h)
      · refine x_iload_n (pc := 22) C 3 dX11_write_22 rfl ?_
        refine x_sipush (pc := 23) (v := 999) C dX11_write_23 rfl ?_
        refine x_icmp_le (pc := 26) C 32 dX11_write_26 (by decide) (fun h26 => ?_) (fun h26 => ?_)
        · have hc0 : 0 ≤ x3.toInt := (by ((try simp only [inB_t, inB_f, i_lt, i_le, i_eq, ne_eq, Bool.not_eq_true, Bool.not_eq_false, hpB, decide_eq_true_eq, decide_eq_false_iff_not, li_0, li_1, li_2, li_3, li_4, li_5, li_6, li_7, li_8, li_9, li_10, li_20, li_40, li_99, li_100, li_255, li_899, li_999, li_m1, li_m2, li_m3, li_m4, li_m11, li_m12, li_m13, li_m14, li_m100] at h8 htd h15 htf h19 h26 ⊢) <;> omega))
          refine x_aload_n (pc := 32) C 0 dX11_write_32 rfl ?_
          refine g_main_now (pc := 33) C E q2_1 dX11_write_33 ?_
          refine g_World_disks (pc := 36) C E (i := 0) (by omega) q12_15 dX11_write_36 ?_
          refine x_iload_n (pc := 39) C 1 dX11_write_39 rfl ?_
          refine l_disks (pc := 40) C E (i := 0) (by omega) (by omega) dX11_write_40 ?_
          refine x_astore (pc := 41) (L' := [(4, .ref (t.1 (62 + 3 * (6 * 0 + d)))), (0, .ref (t.1 0)), (1, .int (nI d)), (2, .int (nI f)), (3, .int x3)]) C dX11_write_41 (by decide) rfl ?_
          refine x_aload (pc := 43) C 0 dX11_write_43 rfl ?_
          refine x_aload_n (pc := 45) C 1 dX11_write_45 rfl ?_
          refine g_main_now (pc := 46) C E q2_1 dX11_write_46 ?_
          refine g_World_day (pc := 49) C E (i := 0) (by omega) q12_14 dX11_write_49 ?_
          refine x_eq (show M (7 + 0) 0 = vD (sV σ) from rc_day h) ?_
          refine x_callV (pc := 52) C E [.int (vD (sV σ))] [] (w_readsOn t (by decide : 0 < 3) h.2.1 (by omega) rfl) m_X2_readsOn q20_8 (xo_Disk (by omega)) rfl (by decide) (Nat.le_of_ble_eq_true rfl) dX11_write_52 rfl (k_I ?_)
          refine x_ifb_ne (pc := 55) C 61 dX11_write_55 (by decide) (fun h55 => ?_) (fun h55 => ?_)
          · refine x_aload (pc := 61) C 0 dX11_write_61 rfl ?_
            refine x_iload_n (pc := 63) C 3 dX11_write_63 rfl ?_
            refine x_callV (pc := 64) C E [.int (nI f)] [] (w_takesIn t (by decide : 0 < 3) h.2.1 (by omega) (by omega)) m_X2_takesIn q27_9 (xo_Disk (by omega)) rfl (by decide) (Nat.le_of_ble_eq_true rfl) dX11_write_64 rfl (k_I ?_)
            refine x_ifb_ne (pc := 67) C 73 dX11_write_67 (by decide) (fun h67 => ?_) (fun h67 => ?_)
            · refine x_aload (pc := 73) C 0 dX11_write_73 rfl ?_
              refine x_iload_n (pc := 75) C 3 dX11_write_75 rfl ?_
              refine x_iload_n (pc := 76) C 4 dX11_write_76 rfl ?_
              refine x_aload (pc := 77) C 0 dX11_write_77 rfl ?_
              have hk := rc_k6 h hd
              refine g_Disk_kind (pc := 79) C E (by omega) q20_5 dX11_write_79 ?_
              refine x_aload_n (pc := 82) C 1 dX11_write_82 rfl ?_
              refine g_main_now (pc := 83) C E q2_1 dX11_write_83 ?_
              refine g_World_day (pc := 86) C E (i := 0) (by omega) q12_14 dX11_write_86 ?_
              refine x_eq (show M (7 + 0) 0 = vD (sV σ) from rc_day h) ?_
              refine x_aload (pc := 89) C 0 dX11_write_89 rfl ?_
              refine g_Disk_number (pc := 91) C E (by omega) q12_16 dX11_write_91 ?_
              refine x_eq (show M (62 + 3 * (6 * 0 + d)) 1 = vU (sV σ) d from rc_num h (by omega)) ?_
              refine x_kstampOn (pc := 94) C E hk (vD (sV σ)) (vU (sV σ) d) q22_3 (by decide) (Nat.le_of_ble_eq_true rfl) dX11_write_94 ?_
              refine x_eq (show kStamp ((M (62 + 3 * (6 * 0 + d)) 0).toNatClampNeg) (vD (sV σ)) (vU (sV σ) d) = kStamp (vK (sV σ) d) (vD (sV σ)) (vU (sV σ) d) from by rw [rc_kd h (by omega)]) ?_
              refine x_callV (pc := 97) C E [.int (nI f), .int x3, .int (kStamp (vK (sV σ) d) (vD (sV σ)) (vU (sV σ) d))] [] (c_X2_put t _ (j := 6 * 0 + d) (by omega) (rc_k6 h hd) (by omega) _ _) m_X2_put q27_18 (xo_Disk (j := 6 * 0 + d) (by omega)) rfl (by decide) (Nat.le_of_ble_eq_true rfl) dX11_write_97 rfl (k_U ?_)
              refine x_aload (pc := 100) C 0 dX11_write_100 rfl ?_
              refine g_Disk_contents (pc := 102) C E (by omega) q25_13 dX11_write_102 ?_
              refine x_iload_n (pc := 105) C 3 dX11_write_105 rfl ?_
              refine l_ct (pc := 106) C E (by omega) (by omega) dX11_write_106 ?_
              refine x_eq (show (dPut M (6 * 0 + d) f x3 (kStamp (vK (sV σ) d) (vD (sV σ)) (vU (sV σ) d))) (63 + 3 * (6 * 0 + d)) f = kKeeps (vK (sV σ) d) x3 from (by unfold dPut; rw [mu_n _ _ _ _ (by omega), mu_n _ _ _ _ (by omega), mu_s, rc_kd h hd])) ?_
              exact x_iret (pc := 107) C X dX11_write_107 (fin (by
                    unfold o_write
                    simp only [hod, hof]
                    repeat (first | with_reducible rfl | (refine (if_pos ?_).trans ?_; ((try simp only [inB_t, inB_f, i_lt, i_le, i_eq, ne_eq, Bool.not_eq_true, Bool.not_eq_false, hpB, decide_eq_true_eq, decide_eq_false_iff_not, li_0, li_1, li_2, li_3, li_4, li_5, li_6, li_7, li_8, li_9, li_10, li_20, li_40, li_99, li_100, li_255, li_899, li_999, li_m1, li_m2, li_m3, li_m4, li_m11, li_m12, li_m13, li_m14, li_m100] at h8 htd h15 htf h19 h26 h55 h67 ⊢) <;> omega)) | (refine (if_neg ?_).trans ?_; ((try simp only [inB_t, inB_f, i_lt, i_le, i_eq, ne_eq, Bool.not_eq_true, Bool.not_eq_false, hpB, decide_eq_true_eq, decide_eq_false_iff_not, li_0, li_1, li_2, li_3, li_4, li_5, li_6, li_7, li_8, li_9, li_10, li_20, li_40, li_99, li_100, li_255, li_899, li_999, li_m1, li_m2, li_m3, li_m4, li_m11, li_m12, li_m13, li_m14, li_m100] at h8 htd h15 htf h19 h26 h55 h67 ⊢) <;> omega)) | fail)
                    all_goals (first | with_reducible rfl | (exfalso; ((try simp only [inB_t, inB_f, i_lt, i_le, i_eq, ne_eq, Bool.not_eq_true, Bool.not_eq_false, hpB, decide_eq_true_eq, decide_eq_false_iff_not, li_0, li_1, li_2, li_3, li_4, li_5, li_6, li_7, li_8, li_9, li_10, li_20, li_40, li_99, li_100, li_255, li_899, li_999, li_m1, li_m2, li_m3, li_m4, li_m11, li_m12, li_m13, li_m14, li_m100] at h8 htd h15 htf h19 h26 h55 h67 ⊢) <;> omega)))) (rc_put_ h hd hf hc0))
            · refine x_bipush (pc := 70) (v := (-4)) C dX11_write_70 rfl ?_
              exact x_iret (pc := 72) C X dX11_write_72 (fin (by
                    unfold o_write
                    simp only [hod, hof]
                    repeat (first | with_reducible rfl | (refine (if_pos ?_).trans ?_; ((try simp only [inB_t, inB_f, i_lt, i_le, i_eq, ne_eq, Bool.not_eq_true, Bool.not_eq_false, hpB, decide_eq_true_eq, decide_eq_false_iff_not, li_0, li_1, li_2, li_3, li_4, li_5, li_6, li_7, li_8, li_9, li_10, li_20, li_40, li_99, li_100, li_255, li_899, li_999, li_m1, li_m2, li_m3, li_m4, li_m11, li_m12, li_m13, li_m14, li_m100] at h8 htd h15 htf h19 h26 h55 h67 ⊢) <;> omega)) | (refine (if_neg ?_).trans ?_; ((try simp only [inB_t, inB_f, i_lt, i_le, i_eq, ne_eq, Bool.not_eq_true, Bool.not_eq_false, hpB, decide_eq_true_eq, decide_eq_false_iff_not, li_0, li_1, li_2, li_3, li_4, li_5, li_6, li_7, li_8, li_9, li_10, li_20, li_40, li_99, li_100, li_255, li_899, li_999, li_m1, li_m2, li_m3, li_m4, li_m11, li_m12, li_m13, li_m14, li_m100] at h8 htd h15 htf h19 h26 h55 h67 ⊢) <;> omega)) | fail)
                    all_goals (first | with_reducible rfl | (exfalso; ((try simp only [inB_t, inB_f, i_lt, i_le, i_eq, ne_eq, Bool.not_eq_true, Bool.not_eq_false, hpB, decide_eq_true_eq, decide_eq_false_iff_not, li_0, li_1, li_2, li_3, li_4, li_5, li_6, li_7, li_8, li_9, li_10, li_20, li_40, li_99, li_100, li_255, li_899, li_999, li_m1, li_m2, li_m3, li_m4, li_m11, li_m12, li_m13, li_m14, li_m100] at h8 htd h15 htf h19 h26 h55 h67 ⊢) <;> omega)))) h)
          · refine x_bipush (pc := 58) (v := (-3)) C dX11_write_58 rfl ?_
            exact x_iret (pc := 60) C X dX11_write_60 (fin (by
                  unfold o_write
                  simp only [hod, hof]
                  repeat (first | with_reducible rfl | (refine (if_pos ?_).trans ?_; ((try simp only [inB_t, inB_f, i_lt, i_le, i_eq, ne_eq, Bool.not_eq_true, Bool.not_eq_false, hpB, decide_eq_true_eq, decide_eq_false_iff_not, li_0, li_1, li_2, li_3, li_4, li_5, li_6, li_7, li_8, li_9, li_10, li_20, li_40, li_99, li_100, li_255, li_899, li_999, li_m1, li_m2, li_m3, li_m4, li_m11, li_m12, li_m13, li_m14, li_m100] at h8 htd h15 htf h19 h26 h55 ⊢) <;> omega)) | (refine (if_neg ?_).trans ?_; ((try simp only [inB_t, inB_f, i_lt, i_le, i_eq, ne_eq, Bool.not_eq_true, Bool.not_eq_false, hpB, decide_eq_true_eq, decide_eq_false_iff_not, li_0, li_1, li_2, li_3, li_4, li_5, li_6, li_7, li_8, li_9, li_10, li_20, li_40, li_99, li_100, li_255, li_899, li_999, li_m1, li_m2, li_m3, li_m4, li_m11, li_m12, li_m13, li_m14, li_m100] at h8 htd h15 htf h19 h26 h55 ⊢) <;> omega)) | fail)
                  all_goals (first | with_reducible rfl | (exfalso; ((try simp only [inB_t, inB_f, i_lt, i_le, i_eq, ne_eq, Bool.not_eq_true, Bool.not_eq_false, hpB, decide_eq_true_eq, decide_eq_false_iff_not, li_0, li_1, li_2, li_3, li_4, li_5, li_6, li_7, li_8, li_9, li_10, li_20, li_40, li_99, li_100, li_255, li_899, li_999, li_m1, li_m2, li_m3, li_m4, li_m11, li_m12, li_m13, li_m14, li_m100] at h8 htd h15 htf h19 h26 h55 ⊢) <;> omega)))) h)
        · refine x_bipush (pc := 29) (v := (-2)) C dX11_write_29 rfl ?_
          exact x_iret (pc := 31) C X dX11_write_31 (fin (by
                unfold o_write
                simp only [hod, hof]
                repeat (first | with_reducible rfl | (refine (if_pos ?_).trans ?_; ((try simp only [inB_t, inB_f, i_lt, i_le, i_eq, ne_eq, Bool.not_eq_true, Bool.not_eq_false, hpB, decide_eq_true_eq, decide_eq_false_iff_not, li_0, li_1, li_2, li_3, li_4, li_5, li_6, li_7, li_8, li_9, li_10, li_20, li_40, li_99, li_100, li_255, li_899, li_999, li_m1, li_m2, li_m3, li_m4, li_m11, li_m12, li_m13, li_m14, li_m100] at h8 htd h15 htf h19 h26 ⊢) <;> omega)) | (refine (if_neg ?_).trans ?_; ((try simp only [inB_t, inB_f, i_lt, i_le, i_eq, ne_eq, Bool.not_eq_true, Bool.not_eq_false, hpB, decide_eq_true_eq, decide_eq_false_iff_not, li_0, li_1, li_2, li_3, li_4, li_5, li_6, li_7, li_8, li_9, li_10, li_20, li_40, li_99, li_100, li_255, li_899, li_999, li_m1, li_m2, li_m3, li_m4, li_m11, li_m12, li_m13, li_m14, li_m100] at h8 htd h15 htf h19 h26 ⊢) <;> omega)) | fail)
                all_goals (first | with_reducible rfl | (exfalso; ((try simp only [inB_t, inB_f, i_lt, i_le, i_eq, ne_eq, Bool.not_eq_true, Bool.not_eq_false, hpB, decide_eq_true_eq, decide_eq_false_iff_not, li_0, li_1, li_2, li_3, li_4, li_5, li_6, li_7, li_8, li_9, li_10, li_20, li_40, li_99, li_100, li_255, li_899, li_999, li_m1, li_m2, li_m3, li_m4, li_m11, li_m12, li_m13, li_m14, li_m100] at h8 htd h15 htf h19 h26 ⊢) <;> omega)))) h)

set_option maxRecDepth 100000 in
set_option maxHeartbeats 800000 in
theorem c_X11_lose (t : CT) {σ : SV} {M : MM} (h : RC σ M)(x1 x2 : Int32) : XMet (wC t) yX11_lose cX11_lose 5 (some .int) 5 [.ref (t.1 0), .int x1, .int x2] M (oR (o_lose σ x1 x2)) := by
  refine x_met RX11 (by decide) rfl (Nat.le_of_ble_eq_true rfl) (fun κ C X E => ?_)
  refine x_L (L' := [(0, .ref (t.1 0)), (1, .int x1), (2, .int x2)]) rfl ?_
  have hn6 := rc_n6 h
  have hq6 := rc_q6 h
  have hq := rc_q h
  have hN6 := h.1.1
  have hB := h.1.2.1
  refine x_aload_n (pc := 0) C 0 dX11_lose_0 rfl ?_
  refine g_main_now (pc := 1) C E q2_1 dX11_lose_1 ?_
  refine x_iload_n (pc := 4) C 1 dX11_lose_4 rfl ?_
  refine x_callV (pc := 5) C E [.int x1] [] (w_has t (by decide : 0 < 3) h.2.1 _) m_X10_has q12_18 (xo_World (i := 0) (by omega)) rfl (by decide) (Nat.le_of_ble_eq_true rfl) dX11_lose_5 rfl (k_I ?_)
  refine x_ifb_eq (pc := 8) C 18 dX11_lose_8 (by decide) (fun h8 => ?_) (fun h8 => ?_)
  · refine x_bipush (pc := 18) (v := (-2)) C dX11_lose_18 rfl ?_
    exact x_iret (pc := 20) C X dX11_lose_20 (fin (by
          unfold o_lose
          repeat (first | with_reducible rfl | (refine (if_pos ?_).trans ?_; ((try simp only [inB_t, inB_f, i_lt, i_le, i_eq, ne_eq, Bool.not_eq_true, Bool.not_eq_false, hpB, decide_eq_true_eq, decide_eq_false_iff_not, li_0, li_1, li_2, li_3, li_4, li_5, li_6, li_7, li_8, li_9, li_10, li_20, li_40, li_99, li_100, li_255, li_899, li_999, li_m1, li_m2, li_m3, li_m4, li_m11, li_m12, li_m13, li_m14, li_m100] at h8 ⊢) <;> omega)) | (refine (if_neg ?_).trans ?_; ((try simp only [inB_t, inB_f, i_lt, i_le, i_eq, ne_eq, Bool.not_eq_true, Bool.not_eq_false, hpB, decide_eq_true_eq, decide_eq_false_iff_not, li_0, li_1, li_2, li_3, li_4, li_5, li_6, li_7, li_8, li_9, li_10, li_20, li_40, li_99, li_100, li_255, li_899, li_999, li_m1, li_m2, li_m3, li_m4, li_m11, li_m12, li_m13, li_m14, li_m100] at h8 ⊢) <;> omega)) | fail)
          all_goals (first | with_reducible rfl | (exfalso; ((try simp only [inB_t, inB_f, i_lt, i_le, i_eq, ne_eq, Bool.not_eq_true, Bool.not_eq_false, hpB, decide_eq_true_eq, decide_eq_false_iff_not, li_0, li_1, li_2, li_3, li_4, li_5, li_6, li_7, li_8, li_9, li_10, li_20, li_40, li_99, li_100, li_255, li_899, li_999, li_m1, li_m2, li_m3, li_m4, li_m11, li_m12, li_m13, li_m14, li_m100] at h8 ⊢) <;> omega)))) h)
  · obtain ⟨d, hd, ed⟩ := inB_of h8 (by omega)
    have htd := nI_toInt (n := d) (by omega)
    have hod := oN_nI (n := d) (by omega)
    subst ed
    refine x_iload_n (pc := 11) C 2 dX11_lose_11 rfl ?_
    refine x_callS (pc := 12) C E [.int x2] [] (c_X11_isFile t _ _) m_X11_isFile q25_15 rfl (by decide) (Nat.le_of_ble_eq_true rfl) dX11_lose_12 rfl (k_I ?_)
    refine x_ifb_ne (pc := 15) C 21 dX11_lose_15 (by decide) (fun h15 => ?_) (fun h15 => ?_)
    · obtain ⟨f, hf, ef⟩ := inB_of h15 (by omega)
      have htf := nI_toInt (n := f) (by omega)
      have hof := oN_nI (n := f) (by omega)
      subst ef
      refine x_aload_n (pc := 21) C 0 dX11_lose_21 rfl ?_
      refine g_main_now (pc := 22) C E q2_1 dX11_lose_22 ?_
      refine g_World_disks (pc := 25) C E (i := 0) (by omega) q12_15 dX11_lose_25 ?_
      refine x_iload_n (pc := 28) C 1 dX11_lose_28 rfl ?_
      refine l_disks (pc := 29) C E (i := 0) (by omega) (by omega) dX11_lose_29 ?_
      refine x_astore_n (pc := 30) (L' := [(3, .ref (t.1 (62 + 3 * (6 * 0 + d)))), (0, .ref (t.1 0)), (1, .int (nI d)), (2, .int (nI f))]) C dX11_lose_30 (by decide) rfl ?_
      refine x_aload_n (pc := 31) C 0 dX11_lose_31 rfl ?_
      refine x_aload_n (pc := 32) C 1 dX11_lose_32 rfl ?_
      refine g_main_now (pc := 33) C E q2_1 dX11_lose_33 ?_
      refine g_World_day (pc := 36) C E (i := 0) (by omega) q12_14 dX11_lose_36 ?_
      refine x_eq (show M (7 + 0) 0 = vD (sV σ) from rc_day h) ?_
      refine x_callV (pc := 39) C E [.int (vD (sV σ))] [] (w_readsOn t (by decide : 0 < 3) h.2.1 (by omega) rfl) m_X2_readsOn q20_8 (xo_Disk (by omega)) rfl (by decide) (Nat.le_of_ble_eq_true rfl) dX11_lose_39 rfl (k_I ?_)
      refine x_ifb_ne (pc := 42) C 48 dX11_lose_42 (by decide) (fun h42 => ?_) (fun h42 => ?_)
      · refine x_aload_n (pc := 48) C 0 dX11_lose_48 rfl ?_
        refine g_Disk_contents (pc := 49) C E (by omega) q25_13 dX11_lose_49 ?_
        refine x_iload_n (pc := 52) C 3 dX11_lose_52 rfl ?_
        refine l_ct (pc := 53) C E (by omega) (by omega) dX11_lose_53 ?_
        refine x_eq (show M (63 + 3 * (6 * 0 + d)) f = vC (sV σ) d f from rc_ct h (by omega) (by omega)) ?_
        refine x_istore (pc := 54) (L' := [(4, .int (vC (sV σ) d f)), (3, .ref (t.1 (62 + 3 * (6 * 0 + d)))), (0, .ref (t.1 0)), (1, .int (nI d)), (2, .int (nI f))]) C dX11_lose_54 (by decide) rfl ?_
        refine x_aload_n (pc := 56) C 1 dX11_lose_56 rfl ?_
        refine x_iload_n (pc := 57) C 4 dX11_lose_57 rfl ?_
        refine x_callV (pc := 58) C E [.int (nI f)] [] (c_X2_drop t _ (j := 6 * 0 + d) (by omega) (by omega)) m_X2_drop q29_7 (xo_Disk (j := 6 * 0 + d) (by omega)) rfl (by decide) (Nat.le_of_ble_eq_true rfl) dX11_lose_58 rfl (k_U ?_)
        refine x_iload (pc := 61) C 0 dX11_lose_61 rfl ?_
        exact x_iret (pc := 63) C X dX11_lose_63 (fin (by
              unfold o_lose
              simp only [hod, hof]
              repeat (first | with_reducible rfl | (refine (if_pos ?_).trans ?_; ((try simp only [inB_t, inB_f, i_lt, i_le, i_eq, ne_eq, Bool.not_eq_true, Bool.not_eq_false, hpB, decide_eq_true_eq, decide_eq_false_iff_not, li_0, li_1, li_2, li_3, li_4, li_5, li_6, li_7, li_8, li_9, li_10, li_20, li_40, li_99, li_100, li_255, li_899, li_999, li_m1, li_m2, li_m3, li_m4, li_m11, li_m12, li_m13, li_m14, li_m100] at h8 htd h15 htf h42 ⊢) <;> omega)) | (refine (if_neg ?_).trans ?_; ((try simp only [inB_t, inB_f, i_lt, i_le, i_eq, ne_eq, Bool.not_eq_true, Bool.not_eq_false, hpB, decide_eq_true_eq, decide_eq_false_iff_not, li_0, li_1, li_2, li_3, li_4, li_5, li_6, li_7, li_8, li_9, li_10, li_20, li_40, li_99, li_100, li_255, li_899, li_999, li_m1, li_m2, li_m3, li_m4, li_m11, li_m12, li_m13, li_m14, li_m100] at h8 htd h15 htf h42 ⊢) <;> omega)) | fail)
              all_goals (first | with_reducible rfl | (exfalso; ((try simp only [inB_t, inB_f, i_lt, i_le, i_eq, ne_eq, Bool.not_eq_true, Bool.not_eq_false, hpB, decide_eq_true_eq, decide_eq_false_iff_not, li_0, li_1, li_2, li_3, li_4, li_5, li_6, li_7, li_8, li_9, li_10, li_20, li_40, li_99, li_100, li_255, li_899, li_999, li_m1, li_m2, li_m3, li_m4, li_m11, li_m12, li_m13, li_m14, li_m100] at h8 htd h15 htf h42 ⊢) <;> omega)))) (rc_drop_ h hd hf))
      · refine x_bipush (pc := 45) (v := (-3)) C dX11_lose_45 rfl ?_
        exact x_iret (pc := 47) C X dX11_lose_47 (fin (by
              unfold o_lose
              simp only [hod, hof]
              repeat (first | with_reducible rfl | (refine (if_pos ?_).trans ?_; ((try simp only [inB_t, inB_f, i_lt, i_le, i_eq, ne_eq, Bool.not_eq_true, Bool.not_eq_false, hpB, decide_eq_true_eq, decide_eq_false_iff_not, li_0, li_1, li_2, li_3, li_4, li_5, li_6, li_7, li_8, li_9, li_10, li_20, li_40, li_99, li_100, li_255, li_899, li_999, li_m1, li_m2, li_m3, li_m4, li_m11, li_m12, li_m13, li_m14, li_m100] at h8 htd h15 htf h42 ⊢) <;> omega)) | (refine (if_neg ?_).trans ?_; ((try simp only [inB_t, inB_f, i_lt, i_le, i_eq, ne_eq, Bool.not_eq_true, Bool.not_eq_false, hpB, decide_eq_true_eq, decide_eq_false_iff_not, li_0, li_1, li_2, li_3, li_4, li_5, li_6, li_7, li_8, li_9, li_10, li_20, li_40, li_99, li_100, li_255, li_899, li_999, li_m1, li_m2, li_m3, li_m4, li_m11, li_m12, li_m13, li_m14, li_m100] at h8 htd h15 htf h42 ⊢) <;> omega)) | fail)
              all_goals (first | with_reducible rfl | (exfalso; ((try simp only [inB_t, inB_f, i_lt, i_le, i_eq, ne_eq, Bool.not_eq_true, Bool.not_eq_false, hpB, decide_eq_true_eq, decide_eq_false_iff_not, li_0, li_1, li_2, li_3, li_4, li_5, li_6, li_7, li_8, li_9, li_10, li_20, li_40, li_99, li_100, li_255, li_899, li_999, li_m1, li_m2, li_m3, li_m4, li_m11, li_m12, li_m13, li_m14, li_m100] at h8 htd h15 htf h42 ⊢) <;> omega)))) h)
    · refine x_bipush (pc := 18) (v := (-2)) C dX11_lose_18 rfl ?_
      exact x_iret (pc := 20) C X dX11_lose_20 (fin (by
            unfold o_lose
            simp only [hod]
            repeat (first | with_reducible rfl | (refine (if_pos ?_).trans ?_; ((try simp only [inB_t, inB_f, i_lt, i_le, i_eq, ne_eq, Bool.not_eq_true, Bool.not_eq_false, hpB, decide_eq_true_eq, decide_eq_false_iff_not, li_0, li_1, li_2, li_3, li_4, li_5, li_6, li_7, li_8, li_9, li_10, li_20, li_40, li_99, li_100, li_255, li_899, li_999, li_m1, li_m2, li_m3, li_m4, li_m11, li_m12, li_m13, li_m14, li_m100] at h8 htd h15 ⊢) <;> omega)) | (refine (if_neg ?_).trans ?_; ((try simp only [inB_t, inB_f, i_lt, i_le, i_eq, ne_eq, Bool.not_eq_true, Bool.not_eq_false, hpB, decide_eq_true_eq, decide_eq_false_iff_not, li_0, li_1, li_2, li_3, li_4, li_5, li_6, li_7, li_8, li_9, li_10, li_20, li_40, li_99, li_100, li_255, li_899, li_999, li_m1, li_m2, li_m3, li_m4, li_m11, li_m12, li_m13, li_m14, li_m100] at h8 htd h15 ⊢) <;> omega)) | fail)
            all_goals (first | with_reducible rfl | (exfalso; ((try simp only [inB_t, inB_f, i_lt, i_le, i_eq, ne_eq, Bool.not_eq_true, Bool.not_eq_false, hpB, decide_eq_true_eq, decide_eq_false_iff_not, li_0, li_1, li_2, li_3, li_4, li_5, li_6, li_7, li_8, li_9, li_10, li_20, li_40, li_99, li_100, li_255, li_899, li_999, li_m1, li_m2, li_m3, li_m4, li_m11, li_m12, li_m13, li_m14, li_m100] at h8 htd h15 ⊢) <;> omega)))) h)

set_option maxRecDepth 100000 in
set_option maxHeartbeats 800000 in
theorem c_X11_copies (t : CT) {σ : SV} {M : MM} (h : RC σ M)(x1 x2 : Int32) : XMet (wC t) yX11_copies cX11_copies 3 (some .int) 7 [.ref (t.1 0), .int x1, .int x2] M (oR (o_copies σ x1 x2)) := by
  refine x_met RX11 (by decide) rfl (Nat.le_of_ble_eq_true rfl) (fun κ C X E => ?_)
  refine x_L (L' := [(0, .ref (t.1 0)), (1, .int x1), (2, .int x2)]) rfl ?_
  have hn6 := rc_n6 h
  have hq6 := rc_q6 h
  have hq := rc_q h
  have hN6 := h.1.1
  have hB := h.1.2.1
  refine x_aload_n (pc := 0) C 0 dX11_copies_0 rfl ?_
  refine x_iload_n (pc := 1) C 1 dX11_copies_1 rfl ?_
  refine x_iload_n (pc := 2) C 2 dX11_copies_2 rfl ?_
  refine x_callV (pc := 3) C E [.int x1, .int x2] [] ( c_X11_areTwo t h _ _) m_X11_areTwo q29_16 xo_main rfl (by decide) (Nat.le_of_ble_eq_true rfl) dX11_copies_3 rfl (k_I ?_)
  refine x_ifb_ne (pc := 6) C 12 dX11_copies_6 (by decide) (fun h6 => ?_) (fun h6 => ?_)
  · have htw := h6
    unfold two at htw
    rw [Bool.and_eq_true, Bool.and_eq_true] at htw
    obtain ⟨⟨hta, htb⟩, htc⟩ := htw
    obtain ⟨a, ha, ea⟩ := inB_of hta (by omega)
    have hta := nI_toInt (n := a) (by omega)
    have hoa := oN_nI (n := a) (by omega)
    subst ea
    obtain ⟨b, hb, eb⟩ := inB_of htb (by omega)
    have htb := nI_toInt (n := b) (by omega)
    have hob := oN_nI (n := b) (by omega)
    subst eb
    refine x_aload_n (pc := 12) C 0 dX11_copies_12 rfl ?_
    refine g_main_now (pc := 13) C E q2_1 dX11_copies_13 ?_
    refine x_iload_n (pc := 16) C 1 dX11_copies_16 rfl ?_
    refine x_iload_n (pc := 17) C 2 dX11_copies_17 rfl ?_
    refine x_callV (pc := 18) C E [.int (nI a), .int (nI b)] [] (w_canCopy t (by decide : 0 < 3) h.2.1 (by omega) (by omega)) m_X10_canCopy q29_20 (xo_World (i := 0) (by omega)) rfl (by decide) (Nat.le_of_ble_eq_true rfl) dX11_copies_18 rfl (k_I ?_)
    refine x_ifb_eq (pc := 21) C 40 dX11_copies_21 (by decide) (fun h21 => ?_) (fun h21 => ?_)
    · refine x_bipush (pc := 40) (v := (-3)) C dX11_copies_40 rfl ?_
      exact x_iret (pc := 42) C X dX11_copies_42 (fin (by
            unfold o_copies
            simp only [hoa, hob]
            repeat (first | with_reducible rfl | (refine (if_pos ?_).trans ?_; ((try simp only [inB_t, inB_f, i_lt, i_le, i_eq, ne_eq, Bool.not_eq_true, Bool.not_eq_false, hpB, decide_eq_true_eq, decide_eq_false_iff_not, li_0, li_1, li_2, li_3, li_4, li_5, li_6, li_7, li_8, li_9, li_10, li_20, li_40, li_99, li_100, li_255, li_899, li_999, li_m1, li_m2, li_m3, li_m4, li_m11, li_m12, li_m13, li_m14, li_m100] at h6 hta htb h21 ⊢) <;> omega)) | (refine (if_neg ?_).trans ?_; ((try simp only [inB_t, inB_f, i_lt, i_le, i_eq, ne_eq, Bool.not_eq_true, Bool.not_eq_false, hpB, decide_eq_true_eq, decide_eq_false_iff_not, li_0, li_1, li_2, li_3, li_4, li_5, li_6, li_7, li_8, li_9, li_10, li_20, li_40, li_99, li_100, li_255, li_899, li_999, li_m1, li_m2, li_m3, li_m4, li_m11, li_m12, li_m13, li_m14, li_m100] at h6 hta htb h21 ⊢) <;> omega)) | fail)
            all_goals (first | with_reducible rfl | (exfalso; ((try simp only [inB_t, inB_f, i_lt, i_le, i_eq, ne_eq, Bool.not_eq_true, Bool.not_eq_false, hpB, decide_eq_true_eq, decide_eq_false_iff_not, li_0, li_1, li_2, li_3, li_4, li_5, li_6, li_7, li_8, li_9, li_10, li_20, li_40, li_99, li_100, li_255, li_899, li_999, li_m1, li_m2, li_m3, li_m4, li_m11, li_m12, li_m13, li_m14, li_m100] at h6 hta htb h21 ⊢) <;> omega)))) h)
    · refine x_aload_n (pc := 24) C 0 dX11_copies_24 rfl ?_
      refine g_main_now (pc := 25) C E q2_1 dX11_copies_25 ?_
      refine x_iload_n (pc := 28) C 1 dX11_copies_28 rfl ?_
      refine x_iload_n (pc := 29) C 2 dX11_copies_29 rfl ?_
      refine x_aload_n (pc := 30) C 0 dX11_copies_30 rfl ?_
      refine x_callV (pc := 31) C E [] [.int (nI b), .int (nI a), .ref (t.1 (7 + 0))] (c_X11_rule t h) m_X11_rule q23_15 xo_main rfl (by decide) (Nat.le_of_ble_eq_true rfl) dX11_copies_31 rfl (k_A ?_)
      refine x_callV (pc := 34) C E [.int (nI a), .int (nI b), .ref (t.1 (19 + 5 * (vR (sV σ))))] [] (c_copy t h (by decide : 0 < 3) h.2.1 (by omega) (by omega) (rc_q h)) m_X10_copyOnto q30_2 (xo_World (i := 0) (by omega)) rfl (by decide) (Nat.le_of_ble_eq_true rfl) dX11_copies_34 rfl (fun r M34 hc34 => ?_)
      obtain ⟨rfl, hv34, hM34⟩ := hc34
      rw [sCp_eq] at hv34 ⊢
      have hR34 := rc_cp_ h (b := b) (by omega) (sCp_rest σ (sV σ) a b) hv34 hM34
      show XV κ (xP (wC t) M34) 37 _ [.int (nI (sCp σ (sV σ) a b).2)]
      refine x_goto (pc := 37) C 42 dX11_copies_37 (by decide) ?_
      exact x_iret (pc := 42) C X dX11_copies_42 (fin (by
            unfold o_copies
            simp only [hoa, hob]
            repeat (first | with_reducible rfl | (refine (if_pos ?_).trans ?_; ((try simp only [inB_t, inB_f, i_lt, i_le, i_eq, ne_eq, Bool.not_eq_true, Bool.not_eq_false, hpB, decide_eq_true_eq, decide_eq_false_iff_not, li_0, li_1, li_2, li_3, li_4, li_5, li_6, li_7, li_8, li_9, li_10, li_20, li_40, li_99, li_100, li_255, li_899, li_999, li_m1, li_m2, li_m3, li_m4, li_m11, li_m12, li_m13, li_m14, li_m100] at h6 hta htb h21 ⊢) <;> omega)) | (refine (if_neg ?_).trans ?_; ((try simp only [inB_t, inB_f, i_lt, i_le, i_eq, ne_eq, Bool.not_eq_true, Bool.not_eq_false, hpB, decide_eq_true_eq, decide_eq_false_iff_not, li_0, li_1, li_2, li_3, li_4, li_5, li_6, li_7, li_8, li_9, li_10, li_20, li_40, li_99, li_100, li_255, li_899, li_999, li_m1, li_m2, li_m3, li_m4, li_m11, li_m12, li_m13, li_m14, li_m100] at h6 hta htb h21 ⊢) <;> omega)) | fail)
            all_goals (first | with_reducible rfl | (exfalso; ((try simp only [inB_t, inB_f, i_lt, i_le, i_eq, ne_eq, Bool.not_eq_true, Bool.not_eq_false, hpB, decide_eq_true_eq, decide_eq_false_iff_not, li_0, li_1, li_2, li_3, li_4, li_5, li_6, li_7, li_8, li_9, li_10, li_20, li_40, li_99, li_100, li_255, li_899, li_999, li_m1, li_m2, li_m3, li_m4, li_m11, li_m12, li_m13, li_m14, li_m100] at h6 hta htb h21 ⊢) <;> omega)))) hR34)
  · refine x_bipush (pc := 9) (v := (-2)) C dX11_copies_9 rfl ?_
    exact x_iret (pc := 11) C X dX11_copies_11 (fin (by
          unfold o_copies
          repeat (first | with_reducible rfl | (refine (if_pos ?_).trans ?_; ((try simp only [inB_t, inB_f, i_lt, i_le, i_eq, ne_eq, Bool.not_eq_true, Bool.not_eq_false, hpB, decide_eq_true_eq, decide_eq_false_iff_not, li_0, li_1, li_2, li_3, li_4, li_5, li_6, li_7, li_8, li_9, li_10, li_20, li_40, li_99, li_100, li_255, li_899, li_999, li_m1, li_m2, li_m3, li_m4, li_m11, li_m12, li_m13, li_m14, li_m100] at h6 ⊢) <;> omega)) | (refine (if_neg ?_).trans ?_; ((try simp only [inB_t, inB_f, i_lt, i_le, i_eq, ne_eq, Bool.not_eq_true, Bool.not_eq_false, hpB, decide_eq_true_eq, decide_eq_false_iff_not, li_0, li_1, li_2, li_3, li_4, li_5, li_6, li_7, li_8, li_9, li_10, li_20, li_40, li_99, li_100, li_255, li_899, li_999, li_m1, li_m2, li_m3, li_m4, li_m11, li_m12, li_m13, li_m14, li_m100] at h6 ⊢) <;> omega)) | fail)
          all_goals (first | with_reducible rfl | (exfalso; ((try simp only [inB_t, inB_f, i_lt, i_le, i_eq, ne_eq, Bool.not_eq_true, Bool.not_eq_false, hpB, decide_eq_true_eq, decide_eq_false_iff_not, li_0, li_1, li_2, li_3, li_4, li_5, li_6, li_7, li_8, li_9, li_10, li_20, li_40, li_99, li_100, li_255, li_899, li_999, li_m1, li_m2, li_m3, li_m4, li_m11, li_m12, li_m13, li_m14, li_m100] at h6 ⊢) <;> omega)))) h)

set_option maxRecDepth 100000 in
set_option maxHeartbeats 800000 in
theorem c_X11_newest (t : CT) {σ : SV} {M : MM} (h : RC σ M)(x1 x2 : Int32) : XMet (wC t) yX11_newest cX11_newest 4 (some .int) 8 [.ref (t.1 0), .int x1, .int x2] M (aR σ (a_newest σ x1 x2)) := by
  refine x_met RX11 (by decide) rfl (Nat.le_of_ble_eq_true rfl) (fun κ C X E => ?_)
  refine x_L (L' := [(0, .ref (t.1 0)), (1, .int x1), (2, .int x2)]) rfl ?_
  have hn6 := rc_n6 h
  have hq6 := rc_q6 h
  have hq := rc_q h
  have hN6 := h.1.1
  have hB := h.1.2.1
  refine x_iload_n (pc := 0) C 1 dX11_newest_0 rfl ?_
  refine x_callS (pc := 1) C E [.int x1] [] (c_X11_isFile t _ _) m_X11_isFile q25_15 rfl (by decide) (Nat.le_of_ble_eq_true rfl) dX11_newest_1 rfl (k_I ?_)
  refine x_ifb_eq (pc := 4) C 16 dX11_newest_4 (by decide) (fun h4 => ?_) (fun h4 => ?_)
  · refine x_bipush (pc := 16) (v := (-2)) C dX11_newest_16 rfl ?_
    exact x_iret (pc := 18) C X dX11_newest_18 (fia (by
          unfold a_newest
          repeat (first | with_reducible rfl | (refine (if_pos ?_).trans ?_; ((try simp only [inB_t, inB_f, i_lt, i_le, i_eq, ne_eq, Bool.not_eq_true, Bool.not_eq_false, hpB, decide_eq_true_eq, decide_eq_false_iff_not, li_0, li_1, li_2, li_3, li_4, li_5, li_6, li_7, li_8, li_9, li_10, li_20, li_40, li_99, li_100, li_255, li_899, li_999, li_m1, li_m2, li_m3, li_m4, li_m11, li_m12, li_m13, li_m14, li_m100] at h4 ⊢) <;> omega)) | (refine (if_neg ?_).trans ?_; ((try simp only [inB_t, inB_f, i_lt, i_le, i_eq, ne_eq, Bool.not_eq_true, Bool.not_eq_false, hpB, decide_eq_true_eq, decide_eq_false_iff_not, li_0, li_1, li_2, li_3, li_4, li_5, li_6, li_7, li_8, li_9, li_10, li_20, li_40, li_99, li_100, li_255, li_899, li_999, li_m1, li_m2, li_m3, li_m4, li_m11, li_m12, li_m13, li_m14, li_m100] at h4 ⊢) <;> omega)) | fail)
          all_goals (first | with_reducible rfl | (exfalso; ((try simp only [inB_t, inB_f, i_lt, i_le, i_eq, ne_eq, Bool.not_eq_true, Bool.not_eq_false, hpB, decide_eq_true_eq, decide_eq_false_iff_not, li_0, li_1, li_2, li_3, li_4, li_5, li_6, li_7, li_8, li_9, li_10, li_20, li_40, li_99, li_100, li_255, li_899, li_999, li_m1, li_m2, li_m3, li_m4, li_m11, li_m12, li_m13, li_m14, li_m100] at h4 ⊢) <;> omega)))) h)
  · obtain ⟨f, hf, ef⟩ := inB_of h4 (by omega)
    have htf := nI_toInt (n := f) (by omega)
    have hof := oN_nI (n := f) (by omega)
    subst ef
    refine x_iload_n (pc := 7) C 2 dX11_newest_7 rfl ?_
    refine x_if_lt (pc := 8) C 16 dX11_newest_8 (by decide) (fun h8 => ?_) (fun h8 => ?_)
    · refine x_bipush (pc := 16) (v := (-2)) C dX11_newest_16 rfl ?_
      exact x_iret (pc := 18) C X dX11_newest_18 (fia (by
            unfold a_newest
            simp only [hof]
            repeat (first | with_reducible rfl | (refine (if_pos ?_).trans ?_; ((try simp only [inB_t, inB_f, i_lt, i_le, i_eq, ne_eq, Bool.not_eq_true, Bool.not_eq_false, hpB, decide_eq_true_eq, decide_eq_false_iff_not, li_0, li_1, li_2, li_3, li_4, li_5, li_6, li_7, li_8, li_9, li_10, li_20, li_40, li_99, li_100, li_255, li_899, li_999, li_m1, li_m2, li_m3, li_m4, li_m11, li_m12, li_m13, li_m14, li_m100] at h4 htf h8 ⊢) <;> omega)) | (refine (if_neg ?_).trans ?_; ((try simp only [inB_t, inB_f, i_lt, i_le, i_eq, ne_eq, Bool.not_eq_true, Bool.not_eq_false, hpB, decide_eq_true_eq, decide_eq_false_iff_not, li_0, li_1, li_2, li_3, li_4, li_5, li_6, li_7, li_8, li_9, li_10, li_20, li_40, li_99, li_100, li_255, li_899, li_999, li_m1, li_m2, li_m3, li_m4, li_m11, li_m12, li_m13, li_m14, li_m100] at h4 htf h8 ⊢) <;> omega)) | fail)
            all_goals (first | with_reducible rfl | (exfalso; ((try simp only [inB_t, inB_f, i_lt, i_le, i_eq, ne_eq, Bool.not_eq_true, Bool.not_eq_false, hpB, decide_eq_true_eq, decide_eq_false_iff_not, li_0, li_1, li_2, li_3, li_4, li_5, li_6, li_7, li_8, li_9, li_10, li_20, li_40, li_99, li_100, li_255, li_899, li_999, li_m1, li_m2, li_m3, li_m4, li_m11, li_m12, li_m13, li_m14, li_m100] at h4 htf h8 ⊢) <;> omega)))) h)
    · refine x_iload_n (pc := 11) C 2 dX11_newest_11 rfl ?_
      refine x_iconst (pc := 12) (v := 2) C dX11_newest_12 rfl ?_
      refine x_icmp_le (pc := 13) C 19 dX11_newest_13 (by decide) (fun h13 => ?_) (fun h13 => ?_)
      · refine x_aload_n (pc := 19) C 0 dX11_newest_19 rfl ?_
        refine g_main_now (pc := 20) C E q2_1 dX11_newest_20 ?_
        refine x_iload_n (pc := 23) C 1 dX11_newest_23 rfl ?_
        refine x_callV (pc := 24) C E [.int (nI f)] [] (w_newest t (by decide : 0 < 3) h.2.1 (by omega)) m_X10_newestHolder q32_13 (xo_World (i := 0) (by omega)) rfl (by decide) (Nat.le_of_ble_eq_true rfl) dX11_newest_24 rfl (k_I ?_)
        refine x_istore_n (pc := 27) (L' := [(3, .int (encO (vNh (sV σ) f (vN (sV σ))))), (0, .ref (t.1 0)), (1, .int (nI f)), (2, .int x2)]) C dX11_newest_27 (by decide) rfl ?_
        cases ho : vNh (sV σ) f (vN (sV σ)) with
        | none =>
          refine x_L (L' := [(3, .int (-1)), (0, .ref (t.1 0)), (1, .int (nI f)), (2, .int x2)]) rfl ?_
          refine x_iload_n (pc := 28) C 0 dX11_newest_28 rfl ?_
          refine x_iconst (pc := 29) (v := (-1)) C dX11_newest_29 rfl ?_
          refine x_icmp_ne_f (pc := 30) C 45 dX11_newest_30 (by decide) rfl ?_
          refine x_iload_n (pc := 33) C 3 dX11_newest_33 rfl ?_
          refine x_iconst (pc := 34) (v := 2) C dX11_newest_34 rfl ?_
          refine x_icmp_ne (pc := 35) C 43 dX11_newest_35 (by decide) (fun h35 => ?_) (fun h35 => ?_)
          · refine x_iconst (pc := 43) (v := (-1)) C dX11_newest_43 rfl ?_
            exact x_iret (pc := 44) C X dX11_newest_44 (fia (by
                  refine (a_newest_n ?_ (by rw [hof]; exact ho)).trans ?_
                  · ((try simp only [inB_t, inB_f, i_lt, i_le, i_eq, ne_eq, Bool.not_eq_true, Bool.not_eq_false, hpB, decide_eq_true_eq, decide_eq_false_iff_not, li_0, li_1, li_2, li_3, li_4, li_5, li_6, li_7, li_8, li_9, li_10, li_20, li_40, li_99, li_100, li_255, li_899, li_999, li_m1, li_m2, li_m3, li_m4, li_m11, li_m12, li_m13, li_m14, li_m100] at h4 htf h8 h13 h35 ⊢) <;> omega)
                  (try simp only [hof])
                  repeat (first | with_reducible rfl | (refine (if_pos ?_).trans ?_; ((try simp only [inB_t, inB_f, i_lt, i_le, i_eq, ne_eq, Bool.not_eq_true, Bool.not_eq_false, hpB, decide_eq_true_eq, decide_eq_false_iff_not, li_0, li_1, li_2, li_3, li_4, li_5, li_6, li_7, li_8, li_9, li_10, li_20, li_40, li_99, li_100, li_255, li_899, li_999, li_m1, li_m2, li_m3, li_m4, li_m11, li_m12, li_m13, li_m14, li_m100] at h4 htf h8 h13 h35 ⊢) <;> omega)) | (refine (if_neg ?_).trans ?_; ((try simp only [inB_t, inB_f, i_lt, i_le, i_eq, ne_eq, Bool.not_eq_true, Bool.not_eq_false, hpB, decide_eq_true_eq, decide_eq_false_iff_not, li_0, li_1, li_2, li_3, li_4, li_5, li_6, li_7, li_8, li_9, li_10, li_20, li_40, li_99, li_100, li_255, li_899, li_999, li_m1, li_m2, li_m3, li_m4, li_m11, li_m12, li_m13, li_m14, li_m100] at h4 htf h8 h13 h35 ⊢) <;> omega)) | fail)
                  all_goals (first | rfl | (exfalso; ((try simp only [inB_t, inB_f, i_lt, i_le, i_eq, ne_eq, Bool.not_eq_true, Bool.not_eq_false, hpB, decide_eq_true_eq, decide_eq_false_iff_not, li_0, li_1, li_2, li_3, li_4, li_5, li_6, li_7, li_8, li_9, li_10, li_20, li_40, li_99, li_100, li_255, li_899, li_999, li_m1, li_m2, li_m3, li_m4, li_m11, li_m12, li_m13, li_m14, li_m100] at h4 htf h8 h13 h35 ⊢) <;> omega)))) h)
          · refine x_bipush (pc := 38) (v := (-100)) C dX11_newest_38 rfl ?_
            refine x_goto (pc := 40) C 44 dX11_newest_40 (by decide) ?_
            exact x_iret (pc := 44) C X dX11_newest_44 (fia (by
                  refine (a_newest_n ?_ (by rw [hof]; exact ho)).trans ?_
                  · ((try simp only [inB_t, inB_f, i_lt, i_le, i_eq, ne_eq, Bool.not_eq_true, Bool.not_eq_false, hpB, decide_eq_true_eq, decide_eq_false_iff_not, li_0, li_1, li_2, li_3, li_4, li_5, li_6, li_7, li_8, li_9, li_10, li_20, li_40, li_99, li_100, li_255, li_899, li_999, li_m1, li_m2, li_m3, li_m4, li_m11, li_m12, li_m13, li_m14, li_m100] at h4 htf h8 h13 h35 ⊢) <;> omega)
                  (try simp only [hof])
                  repeat (first | with_reducible rfl | (refine (if_pos ?_).trans ?_; ((try simp only [inB_t, inB_f, i_lt, i_le, i_eq, ne_eq, Bool.not_eq_true, Bool.not_eq_false, hpB, decide_eq_true_eq, decide_eq_false_iff_not, li_0, li_1, li_2, li_3, li_4, li_5, li_6, li_7, li_8, li_9, li_10, li_20, li_40, li_99, li_100, li_255, li_899, li_999, li_m1, li_m2, li_m3, li_m4, li_m11, li_m12, li_m13, li_m14, li_m100] at h4 htf h8 h13 h35 ⊢) <;> omega)) | (refine (if_neg ?_).trans ?_; ((try simp only [inB_t, inB_f, i_lt, i_le, i_eq, ne_eq, Bool.not_eq_true, Bool.not_eq_false, hpB, decide_eq_true_eq, decide_eq_false_iff_not, li_0, li_1, li_2, li_3, li_4, li_5, li_6, li_7, li_8, li_9, li_10, li_20, li_40, li_99, li_100, li_255, li_899, li_999, li_m1, li_m2, li_m3, li_m4, li_m11, li_m12, li_m13, li_m14, li_m100] at h4 htf h8 h13 h35 ⊢) <;> omega)) | fail)
                  all_goals (first | rfl | (exfalso; ((try simp only [inB_t, inB_f, i_lt, i_le, i_eq, ne_eq, Bool.not_eq_true, Bool.not_eq_false, hpB, decide_eq_true_eq, decide_eq_false_iff_not, li_0, li_1, li_2, li_3, li_4, li_5, li_6, li_7, li_8, li_9, li_10, li_20, li_40, li_99, li_100, li_255, li_899, li_999, li_m1, li_m2, li_m3, li_m4, li_m11, li_m12, li_m13, li_m14, li_m100] at h4 htf h8 h13 h35 ⊢) <;> omega)))) h)
        | some d =>
          have hd : d < vN (sV σ) := vNh_lt ho
          have htd := nI_toInt (n := d) (by omega)
          refine x_L (L' := [(3, .int (nI d)), (0, .ref (t.1 0)), (1, .int (nI f)), (2, .int x2)]) rfl ?_
          refine x_iload_n (pc := 28) C 0 dX11_newest_28 rfl ?_
          refine x_iconst (pc := 29) (v := (-1)) C dX11_newest_29 rfl ?_
          refine x_icmp_ne_t (pc := 30) C 45 dX11_newest_30 (by decide) (fun h => absurd (nI_toInt (n := d) (by omega)) (by rw [h]; simp)) ?_
          refine x_iload_n (pc := 45) C 3 dX11_newest_45 rfl ?_
          refine x_if_ne (pc := 46) C 51 dX11_newest_46 (by decide) (fun h46 => ?_) (fun h46 => ?_)
          · refine x_iload_n (pc := 51) C 3 dX11_newest_51 rfl ?_
            refine x_iconst (pc := 52) (v := 1) C dX11_newest_52 rfl ?_
            refine x_icmp_ne (pc := 53) C 73 dX11_newest_53 (by decide) (fun h53 => ?_) (fun h53 => ?_)
            · refine x_aload_n (pc := 73) C 1 dX11_newest_73 rfl ?_
              refine g_main_now (pc := 74) C E q2_1 dX11_newest_74 ?_
              refine g_World_disks (pc := 77) C E (i := 0) (by omega) q12_15 dX11_newest_77 ?_
              refine x_iload_n (pc := 80) C 0 dX11_newest_80 rfl ?_
              refine l_disks (pc := 81) C E (i := 0) (by omega) (by omega) dX11_newest_81 ?_
              refine g_Disk_stamps (pc := 82) C E (by omega) q25_14 dX11_newest_82 ?_
              refine x_iload_n (pc := 85) C 2 dX11_newest_85 rfl ?_
              refine l_st (pc := 86) C E (by omega) (by omega) dX11_newest_86 ?_
              refine x_eq (show M (64 + 3 * (6 * 0 + d)) f = vT (sV σ) d f from rc_st h (by omega) (by omega)) ?_
              exact x_iret (pc := 87) C X dX11_newest_87 (fia (by
                    refine (a_newest_s ?_ (by rw [hof]; exact ho)).trans ?_
                    · ((try simp only [inB_t, inB_f, i_lt, i_le, i_eq, ne_eq, Bool.not_eq_true, Bool.not_eq_false, hpB, decide_eq_true_eq, decide_eq_false_iff_not, li_0, li_1, li_2, li_3, li_4, li_5, li_6, li_7, li_8, li_9, li_10, li_20, li_40, li_99, li_100, li_255, li_899, li_999, li_m1, li_m2, li_m3, li_m4, li_m11, li_m12, li_m13, li_m14, li_m100] at h4 htf h8 h13 h46 h53 ⊢) <;> omega)
                    (try simp only [hof])
                    repeat (first | with_reducible rfl | (refine (if_pos ?_).trans ?_; ((try simp only [inB_t, inB_f, i_lt, i_le, i_eq, ne_eq, Bool.not_eq_true, Bool.not_eq_false, hpB, decide_eq_true_eq, decide_eq_false_iff_not, li_0, li_1, li_2, li_3, li_4, li_5, li_6, li_7, li_8, li_9, li_10, li_20, li_40, li_99, li_100, li_255, li_899, li_999, li_m1, li_m2, li_m3, li_m4, li_m11, li_m12, li_m13, li_m14, li_m100] at h4 htf h8 h13 h46 h53 ⊢) <;> omega)) | (refine (if_neg ?_).trans ?_; ((try simp only [inB_t, inB_f, i_lt, i_le, i_eq, ne_eq, Bool.not_eq_true, Bool.not_eq_false, hpB, decide_eq_true_eq, decide_eq_false_iff_not, li_0, li_1, li_2, li_3, li_4, li_5, li_6, li_7, li_8, li_9, li_10, li_20, li_40, li_99, li_100, li_255, li_899, li_999, li_m1, li_m2, li_m3, li_m4, li_m11, li_m12, li_m13, li_m14, li_m100] at h4 htf h8 h13 h46 h53 ⊢) <;> omega)) | fail)
                    all_goals (first | rfl | (exfalso; ((try simp only [inB_t, inB_f, i_lt, i_le, i_eq, ne_eq, Bool.not_eq_true, Bool.not_eq_false, hpB, decide_eq_true_eq, decide_eq_false_iff_not, li_0, li_1, li_2, li_3, li_4, li_5, li_6, li_7, li_8, li_9, li_10, li_20, li_40, li_99, li_100, li_255, li_899, li_999, li_m1, li_m2, li_m3, li_m4, li_m11, li_m12, li_m13, li_m14, li_m100] at h4 htf h8 h13 h46 h53 ⊢) <;> omega)))) h)
            · refine x_aload_n (pc := 56) C 1 dX11_newest_56 rfl ?_
              refine g_main_now (pc := 57) C E q2_1 dX11_newest_57 ?_
              refine g_World_disks (pc := 60) C E (i := 0) (by omega) q12_15 dX11_newest_60 ?_
              refine x_iload_n (pc := 63) C 0 dX11_newest_63 rfl ?_
              refine l_disks (pc := 64) C E (i := 0) (by omega) (by omega) dX11_newest_64 ?_
              refine g_Disk_contents (pc := 65) C E (by omega) q25_13 dX11_newest_65 ?_
              refine x_iload_n (pc := 68) C 2 dX11_newest_68 rfl ?_
              refine l_ct (pc := 69) C E (by omega) (by omega) dX11_newest_69 ?_
              refine x_eq (show M (63 + 3 * (6 * 0 + d)) f = vC (sV σ) d f from rc_ct h (by omega) (by omega)) ?_
              refine x_goto (pc := 70) C 87 dX11_newest_70 (by decide) ?_
              exact x_iret (pc := 87) C X dX11_newest_87 (fia (by
                    refine (a_newest_s ?_ (by rw [hof]; exact ho)).trans ?_
                    · ((try simp only [inB_t, inB_f, i_lt, i_le, i_eq, ne_eq, Bool.not_eq_true, Bool.not_eq_false, hpB, decide_eq_true_eq, decide_eq_false_iff_not, li_0, li_1, li_2, li_3, li_4, li_5, li_6, li_7, li_8, li_9, li_10, li_20, li_40, li_99, li_100, li_255, li_899, li_999, li_m1, li_m2, li_m3, li_m4, li_m11, li_m12, li_m13, li_m14, li_m100] at h4 htf h8 h13 h46 h53 ⊢) <;> omega)
                    (try simp only [hof])
                    repeat (first | with_reducible rfl | (refine (if_pos ?_).trans ?_; ((try simp only [inB_t, inB_f, i_lt, i_le, i_eq, ne_eq, Bool.not_eq_true, Bool.not_eq_false, hpB, decide_eq_true_eq, decide_eq_false_iff_not, li_0, li_1, li_2, li_3, li_4, li_5, li_6, li_7, li_8, li_9, li_10, li_20, li_40, li_99, li_100, li_255, li_899, li_999, li_m1, li_m2, li_m3, li_m4, li_m11, li_m12, li_m13, li_m14, li_m100] at h4 htf h8 h13 h46 h53 ⊢) <;> omega)) | (refine (if_neg ?_).trans ?_; ((try simp only [inB_t, inB_f, i_lt, i_le, i_eq, ne_eq, Bool.not_eq_true, Bool.not_eq_false, hpB, decide_eq_true_eq, decide_eq_false_iff_not, li_0, li_1, li_2, li_3, li_4, li_5, li_6, li_7, li_8, li_9, li_10, li_20, li_40, li_99, li_100, li_255, li_899, li_999, li_m1, li_m2, li_m3, li_m4, li_m11, li_m12, li_m13, li_m14, li_m100] at h4 htf h8 h13 h46 h53 ⊢) <;> omega)) | fail)
                    all_goals (first | rfl | (exfalso; ((try simp only [inB_t, inB_f, i_lt, i_le, i_eq, ne_eq, Bool.not_eq_true, Bool.not_eq_false, hpB, decide_eq_true_eq, decide_eq_false_iff_not, li_0, li_1, li_2, li_3, li_4, li_5, li_6, li_7, li_8, li_9, li_10, li_20, li_40, li_99, li_100, li_255, li_899, li_999, li_m1, li_m2, li_m3, li_m4, li_m11, li_m12, li_m13, li_m14, li_m100] at h4 htf h8 h13 h46 h53 ⊢) <;> omega)))) h)
          · refine x_iload_n (pc := 49) C 0 dX11_newest_49 rfl ?_
            exact x_iret (pc := 50) C X dX11_newest_50 (fia (by
                  refine (a_newest_s ?_ (by rw [hof]; exact ho)).trans ?_
                  · ((try simp only [inB_t, inB_f, i_lt, i_le, i_eq, ne_eq, Bool.not_eq_true, Bool.not_eq_false, hpB, decide_eq_true_eq, decide_eq_false_iff_not, li_0, li_1, li_2, li_3, li_4, li_5, li_6, li_7, li_8, li_9, li_10, li_20, li_40, li_99, li_100, li_255, li_899, li_999, li_m1, li_m2, li_m3, li_m4, li_m11, li_m12, li_m13, li_m14, li_m100] at h4 htf h8 h13 h46 ⊢) <;> omega)
                  (try simp only [hof])
                  repeat (first | with_reducible rfl | (refine (if_pos ?_).trans ?_; ((try simp only [inB_t, inB_f, i_lt, i_le, i_eq, ne_eq, Bool.not_eq_true, Bool.not_eq_false, hpB, decide_eq_true_eq, decide_eq_false_iff_not, li_0, li_1, li_2, li_3, li_4, li_5, li_6, li_7, li_8, li_9, li_10, li_20, li_40, li_99, li_100, li_255, li_899, li_999, li_m1, li_m2, li_m3, li_m4, li_m11, li_m12, li_m13, li_m14, li_m100] at h4 htf h8 h13 h46 ⊢) <;> omega)) | (refine (if_neg ?_).trans ?_; ((try simp only [inB_t, inB_f, i_lt, i_le, i_eq, ne_eq, Bool.not_eq_true, Bool.not_eq_false, hpB, decide_eq_true_eq, decide_eq_false_iff_not, li_0, li_1, li_2, li_3, li_4, li_5, li_6, li_7, li_8, li_9, li_10, li_20, li_40, li_99, li_100, li_255, li_899, li_999, li_m1, li_m2, li_m3, li_m4, li_m11, li_m12, li_m13, li_m14, li_m100] at h4 htf h8 h13 h46 ⊢) <;> omega)) | fail)
                  all_goals (first | rfl | (exfalso; ((try simp only [inB_t, inB_f, i_lt, i_le, i_eq, ne_eq, Bool.not_eq_true, Bool.not_eq_false, hpB, decide_eq_true_eq, decide_eq_false_iff_not, li_0, li_1, li_2, li_3, li_4, li_5, li_6, li_7, li_8, li_9, li_10, li_20, li_40, li_99, li_100, li_255, li_899, li_999, li_m1, li_m2, li_m3, li_m4, li_m11, li_m12, li_m13, li_m14, li_m100] at h4 htf h8 h13 h46 ⊢) <;> omega)))) h)
      · refine x_bipush (pc := 16) (v := (-2)) C dX11_newest_16 rfl ?_
        exact x_iret (pc := 18) C X dX11_newest_18 (fia (by
              unfold a_newest
              simp only [hof]
              repeat (first | with_reducible rfl | (refine (if_pos ?_).trans ?_; ((try simp only [inB_t, inB_f, i_lt, i_le, i_eq, ne_eq, Bool.not_eq_true, Bool.not_eq_false, hpB, decide_eq_true_eq, decide_eq_false_iff_not, li_0, li_1, li_2, li_3, li_4, li_5, li_6, li_7, li_8, li_9, li_10, li_20, li_40, li_99, li_100, li_255, li_899, li_999, li_m1, li_m2, li_m3, li_m4, li_m11, li_m12, li_m13, li_m14, li_m100] at h4 htf h8 h13 ⊢) <;> omega)) | (refine (if_neg ?_).trans ?_; ((try simp only [inB_t, inB_f, i_lt, i_le, i_eq, ne_eq, Bool.not_eq_true, Bool.not_eq_false, hpB, decide_eq_true_eq, decide_eq_false_iff_not, li_0, li_1, li_2, li_3, li_4, li_5, li_6, li_7, li_8, li_9, li_10, li_20, li_40, li_99, li_100, li_255, li_899, li_999, li_m1, li_m2, li_m3, li_m4, li_m11, li_m12, li_m13, li_m14, li_m100] at h4 htf h8 h13 ⊢) <;> omega)) | fail)
              all_goals (first | with_reducible rfl | (exfalso; ((try simp only [inB_t, inB_f, i_lt, i_le, i_eq, ne_eq, Bool.not_eq_true, Bool.not_eq_false, hpB, decide_eq_true_eq, decide_eq_false_iff_not, li_0, li_1, li_2, li_3, li_4, li_5, li_6, li_7, li_8, li_9, li_10, li_20, li_40, li_99, li_100, li_255, li_899, li_999, li_m1, li_m2, li_m3, li_m4, li_m11, li_m12, li_m13, li_m14, li_m100] at h4 htf h8 h13 ⊢) <;> omega)))) h)

set_option maxRecDepth 100000 in
set_option maxHeartbeats 800000 in
theorem c_X11_worthOf (t : CT) {σ : SV} {M : MM} (h : RC σ M)(x1 : Int32) : XMet (wC t) yX11_worthOf cX11_worthOf 4 (some .int) 6 [.ref (t.1 0), .int x1] M (aR σ (sWs σ (bt x1) 8)) := by
  refine x_met RX11 (by decide) rfl (Nat.le_of_ble_eq_true rfl) (fun κ C X E => ?_)
  refine x_L (L' := [(0, .ref (t.1 0)), (1, .int x1)]) rfl ?_
  have hn6 := rc_n6 h
  have hq6 := rc_q6 h
  have hq := rc_q h
  have hN6 := h.1.1
  have hB := h.1.2.1
  refine x_iconst (pc := 0) (v := 0) C dX11_worthOf_0 rfl ?_
  refine x_istore_n (pc := 1) (L' := [(2, .int 0), (0, .ref (t.1 0)), (1, .int x1)]) C dX11_worthOf_1 (by decide) rfl ?_
  refine x_iconst (pc := 2) (v := (nI 0)) C dX11_worthOf_2 (by decide) ?_
  refine x_istore_n (pc := 3) (L' := [(3, .int (nI 0)), (2, .int 0), (0, .ref (t.1 0)), (1, .int x1)]) C dX11_worthOf_3 (by decide) rfl ?_
  have loop4 : ∀ (k f : Nat) (x : Int32) (y : Int32) (Mx : MM) , f + k = 8 → x = sWs σ (bt x1) f → y = nI f → RC σ Mx → XV κ (xP (wC t) Mx) 4 [(3, .int y), (2, .int x), (0, .ref (t.1 0)), (1, .int x1)] [] := by
    intro k
    induction k with
      | zero =>
        intro f x y Mx  hcnt ex ey eMx
        subst ex
        subst ey
        obtain rfl : 8 = f := by omega
        refine x_iload_n (pc := 4) C 0 dX11_worthOf_4 rfl ?_
        refine x_bipush (pc := 5) (v := (nI 8)) C dX11_worthOf_5 (by decide) ?_
        refine x_icmp_ge_t (pc := 7) C 42 dX11_worthOf_7 (by decide) (nI_le (by omega) (by omega)) ?_
        refine x_iload_n (pc := 42) C 1 dX11_worthOf_42 rfl ?_
        exact x_iret (pc := 43) C X dX11_worthOf_43 ⟨rfl, eMx⟩
      | succ k ih =>
        intro f x y Mx  hcnt ex ey eMx
        subst ex
        subst ey
        have hi4 : f < 8 := by omega
        refine x_iload_n (pc := 4) C 0 dX11_worthOf_4 rfl ?_
        refine x_bipush (pc := 5) (v := (nI 8)) C dX11_worthOf_5 (by decide) ?_
        refine x_icmp_ge_f (pc := 7) C 42 dX11_worthOf_7 (by decide) (nI_ge (by omega) (by omega)) ?_
        refine x_iload_n (pc := 10) C 3 dX11_worthOf_10 rfl ?_
        refine x_iload_n (pc := 11) C 0 dX11_worthOf_11 rfl ?_
        refine x_callS (pc := 12) C E [.int x1, .int (nI f)] [] (c_X11_isIn t _ _ (by omega)) m_X11_isIn q34_4 rfl (by decide) (Nat.le_of_ble_eq_true rfl) dX11_worthOf_12 rfl (k_I ?_)
        refine x_ifb_eq (pc := 15) C 36 dX11_worthOf_15 (by decide) (fun h15 => ?_) (fun h15 => ?_)
        · refine x_iinc (pc := 36) (v := nI (f + 1)) (L' := [(3, .int (nI (f + 1))), (2, .int (sWs σ (bt x1) f)), (0, .ref (t.1 0)), (1, .int x1)]) C 0 dX11_worthOf_36 rfl (nI_1 _) (by decide) rfl ?_
          refine x_goto (pc := 39) C 4 dX11_worthOf_39 (by decide) ?_
          refine x_sub [0, 1, 2, 3] rfl ?_
          exact ih (f + 1) _ _ _ (by omega) (by rw [sWs, h15]; rfl) rfl (by assumption)
        · refine x_iload_n (pc := 18) C 1 dX11_worthOf_18 rfl ?_
          refine x_aload_n (pc := 19) C 2 dX11_worthOf_19 rfl ?_
          refine x_callV (pc := 20) C E [] [.int (sWs σ (bt x1) f)] (c_X11_rule t eMx) m_X11_rule q23_15 xo_main rfl (by decide) (Nat.le_of_ble_eq_true rfl) dX11_worthOf_20 rfl (k_A ?_)
          refine x_iload_n (pc := 23) C 0 dX11_worthOf_23 rfl ?_
          refine x_aload_n (pc := 24) C 2 dX11_worthOf_24 rfl ?_
          refine g_main_now (pc := 25) C E q2_1 dX11_worthOf_25 ?_
          refine g_World_day (pc := 28) C E (i := 0) (by omega) q12_14 dX11_worthOf_28 ?_
          refine x_eq (show Mx (7 + 0) 0 = vD (sV σ) from rc_day eMx) ?_
          refine x_callV (pc := 31) C E [.int (nI f), .int (vD (sV σ))] [.int (sWs σ (bt x1) f)] (c_worth t eMx (rc_q eMx) _ rfl) m_X6_worth q34_5 (xo_Rule (by omega)) rfl (by decide) (Nat.le_of_ble_eq_true rfl) dX11_worthOf_31 rfl (fun r M31 hc31 => ?_)
          obtain ⟨rfl, hR31⟩ := hc31
          show XV κ (xP (wC t) M31) 34 _ [.int (sWo σ (vR (sV σ)) f), .int (sWs σ (bt x1) f)]
          refine x_iadd (pc := 34) C dX11_worthOf_34 ?_
          refine x_istore_n (pc := 35) (L' := [(2, .int ((sWs σ (bt x1) f) + (sWo σ (vR (sV σ)) f))), (3, .int (nI f)), (0, .ref (t.1 0)), (1, .int x1)]) C dX11_worthOf_35 (by decide) rfl ?_
          refine x_iinc (pc := 36) (v := nI (f + 1)) (L' := [(3, .int (nI (f + 1))), (2, .int ((sWs σ (bt x1) f) + (sWo σ (vR (sV σ)) f))), (0, .ref (t.1 0)), (1, .int x1)]) C 1 dX11_worthOf_36 rfl (nI_1 _) (by decide) rfl ?_
          refine x_goto (pc := 39) C 4 dX11_worthOf_39 (by decide) ?_
          refine x_sub [0, 1, 2, 3] rfl ?_
          exact ih (f + 1) _ _ _ (by omega) (by rw [sWs, h15]; rfl) rfl (by assumption)
  refine x_sub [0, 1, 2, 3] rfl ?_
  exact loop4 8 0 _ _ M (by omega) rfl rfl h

set_option maxRecDepth 100000 in
set_option maxHeartbeats 800000 in
theorem c_X11_all (t : CT) {σ : SV} {M : MM} (h : RC σ M)(x1 : Int32) : XMet (wC t) yX11_all cX11_all 2 (some .int) 7 [.ref (t.1 0), .int x1] M (aR σ (a_all σ x1)) := by
  refine x_met RX11 (by decide) rfl (Nat.le_of_ble_eq_true rfl) (fun κ C X E => ?_)
  refine x_L (L' := [(0, .ref (t.1 0)), (1, .int x1)]) rfl ?_
  have hn6 := rc_n6 h
  have hq6 := rc_q6 h
  have hq := rc_q h
  have hN6 := h.1.1
  have hB := h.1.2.1
  refine x_iload_n (pc := 0) C 1 dX11_all_0 rfl ?_
  refine x_if_lt (pc := 1) C 10 dX11_all_1 (by decide) (fun h1 => ?_) (fun h1 => ?_)
  · refine x_bipush (pc := 10) (v := (-2)) C dX11_all_10 rfl ?_
    exact x_iret (pc := 12) C X dX11_all_12 (fia (by
          unfold a_all
          repeat (first | with_reducible rfl | (refine (if_pos ?_).trans ?_; ((try simp only [inB_t, inB_f, i_lt, i_le, i_eq, ne_eq, Bool.not_eq_true, Bool.not_eq_false, hpB, decide_eq_true_eq, decide_eq_false_iff_not, li_0, li_1, li_2, li_3, li_4, li_5, li_6, li_7, li_8, li_9, li_10, li_20, li_40, li_99, li_100, li_255, li_899, li_999, li_m1, li_m2, li_m3, li_m4, li_m11, li_m12, li_m13, li_m14, li_m100] at h1 ⊢) <;> omega)) | (refine (if_neg ?_).trans ?_; ((try simp only [inB_t, inB_f, i_lt, i_le, i_eq, ne_eq, Bool.not_eq_true, Bool.not_eq_false, hpB, decide_eq_true_eq, decide_eq_false_iff_not, li_0, li_1, li_2, li_3, li_4, li_5, li_6, li_7, li_8, li_9, li_10, li_20, li_40, li_99, li_100, li_255, li_899, li_999, li_m1, li_m2, li_m3, li_m4, li_m11, li_m12, li_m13, li_m14, li_m100] at h1 ⊢) <;> omega)) | fail)
          all_goals (first | with_reducible (unfold sRs; rfl) | (exfalso; ((try simp only [inB_t, inB_f, i_lt, i_le, i_eq, ne_eq, Bool.not_eq_true, Bool.not_eq_false, hpB, decide_eq_true_eq, decide_eq_false_iff_not, li_0, li_1, li_2, li_3, li_4, li_5, li_6, li_7, li_8, li_9, li_10, li_20, li_40, li_99, li_100, li_255, li_899, li_999, li_m1, li_m2, li_m3, li_m4, li_m11, li_m12, li_m13, li_m14, li_m100] at h1 ⊢) <;> omega)))) h)
  · refine x_iload_n (pc := 4) C 1 dX11_all_4 rfl ?_
    refine x_bipush (pc := 5) (v := 8) C dX11_all_5 rfl ?_
    refine x_icmp_le (pc := 7) C 13 dX11_all_7 (by decide) (fun h7 => ?_) (fun h7 => ?_)
    · refine x_iload_n (pc := 13) C 1 dX11_all_13 rfl ?_
      refine x_if_ne (pc := 14) C 25 dX11_all_14 (by decide) (fun h14 => ?_) (fun h14 => ?_)
      · refine x_iload_n (pc := 25) C 1 dX11_all_25 rfl ?_
        refine x_bipush (pc := 26) (v := 7) C dX11_all_26 rfl ?_
        refine x_icmp_ne (pc := 28) C 39 dX11_all_28 (by decide) (fun h28 => ?_) (fun h28 => ?_)
        · refine x_iload_n (pc := 39) C 1 dX11_all_39 rfl ?_
          refine x_bipush (pc := 40) (v := 8) C dX11_all_40 rfl ?_
          refine x_icmp_ne (pc := 42) C 66 dX11_all_42 (by decide) (fun h42 => ?_) (fun h42 => ?_)
          · refine x_aload_n (pc := 66) C 0 dX11_all_66 rfl ?_
            refine g_main_now (pc := 67) C E q2_1 dX11_all_67 ?_
            refine x_iload_n (pc := 70) C 1 dX11_all_70 rfl ?_
            refine x_callV (pc := 71) C E [.int x1] [] (w_safe t (by decide : 0 < 3) h.2.1 _) m_X10_safe q34_9 (xo_World (i := 0) (by omega)) rfl (by decide) (Nat.le_of_ble_eq_true rfl) dX11_all_71 rfl (k_I ?_)
            exact x_iret (pc := 74) C X dX11_all_74 (fia (by
                  unfold a_all
                  repeat (first | with_reducible rfl | (refine (if_pos ?_).trans ?_; ((try simp only [inB_t, inB_f, i_lt, i_le, i_eq, ne_eq, Bool.not_eq_true, Bool.not_eq_false, hpB, decide_eq_true_eq, decide_eq_false_iff_not, li_0, li_1, li_2, li_3, li_4, li_5, li_6, li_7, li_8, li_9, li_10, li_20, li_40, li_99, li_100, li_255, li_899, li_999, li_m1, li_m2, li_m3, li_m4, li_m11, li_m12, li_m13, li_m14, li_m100] at h1 h7 h14 h28 h42 ⊢) <;> omega)) | (refine (if_neg ?_).trans ?_; ((try simp only [inB_t, inB_f, i_lt, i_le, i_eq, ne_eq, Bool.not_eq_true, Bool.not_eq_false, hpB, decide_eq_true_eq, decide_eq_false_iff_not, li_0, li_1, li_2, li_3, li_4, li_5, li_6, li_7, li_8, li_9, li_10, li_20, li_40, li_99, li_100, li_255, li_899, li_999, li_m1, li_m2, li_m3, li_m4, li_m11, li_m12, li_m13, li_m14, li_m100] at h1 h7 h14 h28 h42 ⊢) <;> omega)) | fail)
                  all_goals (first | with_reducible (unfold sRs; rfl) | (exfalso; ((try simp only [inB_t, inB_f, i_lt, i_le, i_eq, ne_eq, Bool.not_eq_true, Bool.not_eq_false, hpB, decide_eq_true_eq, decide_eq_false_iff_not, li_0, li_1, li_2, li_3, li_4, li_5, li_6, li_7, li_8, li_9, li_10, li_20, li_40, li_99, li_100, li_255, li_899, li_999, li_m1, li_m2, li_m3, li_m4, li_m11, li_m12, li_m13, li_m14, li_m100] at h1 h7 h14 h28 h42 ⊢) <;> omega)))) h)
          · refine x_aload_n (pc := 45) C 0 dX11_all_45 rfl ?_
            refine x_aload_n (pc := 46) C 0 dX11_all_46 rfl ?_
            refine g_main_now (pc := 47) C E q2_1 dX11_all_47 ?_
            refine x_aload_n (pc := 50) C 0 dX11_all_50 rfl ?_
            refine g_main_now (pc := 51) C E q2_1 dX11_all_51 ?_
            refine x_callV (pc := 54) C E [] [.ref (t.1 (7 + 0)), .ref (t.1 0)] (w_readers t (by decide : 0 < 3) h.2.1 ) m_X10_readers q33_22 (xo_World (i := 0) (by omega)) rfl (by decide) (Nat.le_of_ble_eq_true rfl) dX11_all_54 rfl (k_I ?_)
            refine x_callV (pc := 57) C E [.int (mk (vRd (sV σ)) (vN (sV σ)))] [.ref (t.1 0)] (w_filesOn t (by decide : 0 < 3) h.2.1 _) m_X10_filesOn q33_23 (xo_World (i := 0) (by omega)) rfl (by decide) (Nat.le_of_ble_eq_true rfl) dX11_all_57 rfl (k_I ?_)
            refine x_callV (pc := 60) C E [.int (vOr (sV σ) (bt (mk (vRd (sV σ)) (vN (sV σ)))))] [] (c_X11_worthOf t h _) m_X11_worthOf q34_0 xo_main rfl (by decide) (Nat.le_of_ble_eq_true rfl) dX11_all_60 rfl (fun r M60 hc60 => ?_)
            obtain ⟨rfl, hR60⟩ := hc60
            show XV κ (xP (wC t) M60) 63 _ [.int (sWs σ (bt (vOr (sV σ) (bt (mk (vRd (sV σ)) (vN (sV σ)))))) 8)]
            refine x_goto (pc := 63) C 74 dX11_all_63 (by decide) ?_
            exact x_iret (pc := 74) C X dX11_all_74 (fia (by
                  unfold a_all
                  repeat (first | with_reducible rfl | (refine (if_pos ?_).trans ?_; ((try simp only [inB_t, inB_f, i_lt, i_le, i_eq, ne_eq, Bool.not_eq_true, Bool.not_eq_false, hpB, decide_eq_true_eq, decide_eq_false_iff_not, li_0, li_1, li_2, li_3, li_4, li_5, li_6, li_7, li_8, li_9, li_10, li_20, li_40, li_99, li_100, li_255, li_899, li_999, li_m1, li_m2, li_m3, li_m4, li_m11, li_m12, li_m13, li_m14, li_m100] at h1 h7 h14 h28 h42 ⊢) <;> omega)) | (refine (if_neg ?_).trans ?_; ((try simp only [inB_t, inB_f, i_lt, i_le, i_eq, ne_eq, Bool.not_eq_true, Bool.not_eq_false, hpB, decide_eq_true_eq, decide_eq_false_iff_not, li_0, li_1, li_2, li_3, li_4, li_5, li_6, li_7, li_8, li_9, li_10, li_20, li_40, li_99, li_100, li_255, li_899, li_999, li_m1, li_m2, li_m3, li_m4, li_m11, li_m12, li_m13, li_m14, li_m100] at h1 h7 h14 h28 h42 ⊢) <;> omega)) | fail)
                  all_goals (first | with_reducible (unfold sRs; rfl) | (exfalso; ((try simp only [inB_t, inB_f, i_lt, i_le, i_eq, ne_eq, Bool.not_eq_true, Bool.not_eq_false, hpB, decide_eq_true_eq, decide_eq_false_iff_not, li_0, li_1, li_2, li_3, li_4, li_5, li_6, li_7, li_8, li_9, li_10, li_20, li_40, li_99, li_100, li_255, li_899, li_999, li_m1, li_m2, li_m3, li_m4, li_m11, li_m12, li_m13, li_m14, li_m100] at h1 h7 h14 h28 h42 ⊢) <;> omega)))) hR60)
        · refine x_aload_n (pc := 31) C 0 dX11_all_31 rfl ?_
          refine g_main_now (pc := 32) C E q2_1 dX11_all_32 ?_
          refine x_callV (pc := 35) C E [] [] (w_lost t (by decide : 0 < 3) h.2.1 ) m_X10_lost q33_14 (xo_World (i := 0) (by omega)) rfl (by decide) (Nat.le_of_ble_eq_true rfl) dX11_all_35 rfl (k_I ?_)
          exact x_iret (pc := 38) C X dX11_all_38 (fia (by
                unfold a_all
                repeat (first | with_reducible rfl | (refine (if_pos ?_).trans ?_; ((try simp only [inB_t, inB_f, i_lt, i_le, i_eq, ne_eq, Bool.not_eq_true, Bool.not_eq_false, hpB, decide_eq_true_eq, decide_eq_false_iff_not, li_0, li_1, li_2, li_3, li_4, li_5, li_6, li_7, li_8, li_9, li_10, li_20, li_40, li_99, li_100, li_255, li_899, li_999, li_m1, li_m2, li_m3, li_m4, li_m11, li_m12, li_m13, li_m14, li_m100] at h1 h7 h14 h28 ⊢) <;> omega)) | (refine (if_neg ?_).trans ?_; ((try simp only [inB_t, inB_f, i_lt, i_le, i_eq, ne_eq, Bool.not_eq_true, Bool.not_eq_false, hpB, decide_eq_true_eq, decide_eq_false_iff_not, li_0, li_1, li_2, li_3, li_4, li_5, li_6, li_7, li_8, li_9, li_10, li_20, li_40, li_99, li_100, li_255, li_899, li_999, li_m1, li_m2, li_m3, li_m4, li_m11, li_m12, li_m13, li_m14, li_m100] at h1 h7 h14 h28 ⊢) <;> omega)) | fail)
                all_goals (first | with_reducible (unfold sRs; rfl) | (exfalso; ((try simp only [inB_t, inB_f, i_lt, i_le, i_eq, ne_eq, Bool.not_eq_true, Bool.not_eq_false, hpB, decide_eq_true_eq, decide_eq_false_iff_not, li_0, li_1, li_2, li_3, li_4, li_5, li_6, li_7, li_8, li_9, li_10, li_20, li_40, li_99, li_100, li_255, li_899, li_999, li_m1, li_m2, li_m3, li_m4, li_m11, li_m12, li_m13, li_m14, li_m100] at h1 h7 h14 h28 ⊢) <;> omega)))) h)
      · refine x_aload_n (pc := 17) C 0 dX11_all_17 rfl ?_
        refine g_main_now (pc := 18) C E q2_1 dX11_all_18 ?_
        refine x_callV (pc := 21) C E [] [] (w_differing t (by decide : 0 < 3) h.2.1 ) m_X10_differing q33_6 (xo_World (i := 0) (by omega)) rfl (by decide) (Nat.le_of_ble_eq_true rfl) dX11_all_21 rfl (k_I ?_)
        exact x_iret (pc := 24) C X dX11_all_24 (fia (by
              unfold a_all
              repeat (first | with_reducible rfl | (refine (if_pos ?_).trans ?_; ((try simp only [inB_t, inB_f, i_lt, i_le, i_eq, ne_eq, Bool.not_eq_true, Bool.not_eq_false, hpB, decide_eq_true_eq, decide_eq_false_iff_not, li_0, li_1, li_2, li_3, li_4, li_5, li_6, li_7, li_8, li_9, li_10, li_20, li_40, li_99, li_100, li_255, li_899, li_999, li_m1, li_m2, li_m3, li_m4, li_m11, li_m12, li_m13, li_m14, li_m100] at h1 h7 h14 ⊢) <;> omega)) | (refine (if_neg ?_).trans ?_; ((try simp only [inB_t, inB_f, i_lt, i_le, i_eq, ne_eq, Bool.not_eq_true, Bool.not_eq_false, hpB, decide_eq_true_eq, decide_eq_false_iff_not, li_0, li_1, li_2, li_3, li_4, li_5, li_6, li_7, li_8, li_9, li_10, li_20, li_40, li_99, li_100, li_255, li_899, li_999, li_m1, li_m2, li_m3, li_m4, li_m11, li_m12, li_m13, li_m14, li_m100] at h1 h7 h14 ⊢) <;> omega)) | fail)
              all_goals (first | with_reducible (unfold sRs; rfl) | (exfalso; ((try simp only [inB_t, inB_f, i_lt, i_le, i_eq, ne_eq, Bool.not_eq_true, Bool.not_eq_false, hpB, decide_eq_true_eq, decide_eq_false_iff_not, li_0, li_1, li_2, li_3, li_4, li_5, li_6, li_7, li_8, li_9, li_10, li_20, li_40, li_99, li_100, li_255, li_899, li_999, li_m1, li_m2, li_m3, li_m4, li_m11, li_m12, li_m13, li_m14, li_m100] at h1 h7 h14 ⊢) <;> omega)))) h)
    · refine x_bipush (pc := 10) (v := (-2)) C dX11_all_10 rfl ?_
      exact x_iret (pc := 12) C X dX11_all_12 (fia (by
            unfold a_all
            repeat (first | with_reducible rfl | (refine (if_pos ?_).trans ?_; ((try simp only [inB_t, inB_f, i_lt, i_le, i_eq, ne_eq, Bool.not_eq_true, Bool.not_eq_false, hpB, decide_eq_true_eq, decide_eq_false_iff_not, li_0, li_1, li_2, li_3, li_4, li_5, li_6, li_7, li_8, li_9, li_10, li_20, li_40, li_99, li_100, li_255, li_899, li_999, li_m1, li_m2, li_m3, li_m4, li_m11, li_m12, li_m13, li_m14, li_m100] at h1 h7 ⊢) <;> omega)) | (refine (if_neg ?_).trans ?_; ((try simp only [inB_t, inB_f, i_lt, i_le, i_eq, ne_eq, Bool.not_eq_true, Bool.not_eq_false, hpB, decide_eq_true_eq, decide_eq_false_iff_not, li_0, li_1, li_2, li_3, li_4, li_5, li_6, li_7, li_8, li_9, li_10, li_20, li_40, li_99, li_100, li_255, li_899, li_999, li_m1, li_m2, li_m3, li_m4, li_m11, li_m12, li_m13, li_m14, li_m100] at h1 h7 ⊢) <;> omega)) | fail)
            all_goals (first | with_reducible (unfold sRs; rfl) | (exfalso; ((try simp only [inB_t, inB_f, i_lt, i_le, i_eq, ne_eq, Bool.not_eq_true, Bool.not_eq_false, hpB, decide_eq_true_eq, decide_eq_false_iff_not, li_0, li_1, li_2, li_3, li_4, li_5, li_6, li_7, li_8, li_9, li_10, li_20, li_40, li_99, li_100, li_255, li_899, li_999, li_m1, li_m2, li_m3, li_m4, li_m11, li_m12, li_m13, li_m14, li_m100] at h1 h7 ⊢) <;> omega)))) h)

