def setB1 (σ : SV) (x : Int32) : SV := setB σ (sB σ + 1) (fun k => if k = sB σ then x else sY σ k)
theorem rc_add {σ : SV} {M : MM} (h : RC σ M) (hb : sB σ < 160) (x : Int32) : RC (setB1 σ x) (mu (mu M 6 (sB σ) x) 5 2 (nI (sB σ + 1))) := by
  refine rc_tape_ h (fun a c h6 h5 _ => ?_) (mu_s _ _ _ _) (fun k hk => ?_) (by omega)
  · rw [mu_at, if_neg (by omega), mu_n _ _ _ _ h6]
  · rw [mu_n _ _ _ _ (by decide)]
    by_cases g : k = sB σ
    · rw [g, mu_s, if_pos rfl]
    · rw [mu_k _ _ _ _ g, if_neg g]
      exact h.2.2.2.2.2.2.1.2 k (by omega)
theorem rc_nob {σ : SV} {M : MM} (h : RC σ M) : RC (setB σ 0 (sY σ)) (mu M 5 2 0) :=
  rc_tape_ h (fun a c _ h5 _ => by rw [mu_at, if_neg (by omega)]) (mu_s _ _ _ _) (fun k hk => absurd hk (by omega)) (by omega)
set_option maxRecDepth 100000 in
set_option maxHeartbeats 800000 in
theorem c_X9_add (t : CT) {σ : SV} {M : MM} (h : RC σ M)(x1 : Int32) : XMet (wC t) yX9_add cX9_add 2 (some .boolean) 1 [.ref (t.1 5), .int x1] M (fun r M' => r = some (.int (b2i (decide (sB σ < 160)))) ∧ RC (if sB σ < 160 then setB1 σ x1 else σ) M') := by
  refine x_met RX9 (by decide) rfl (Nat.le_of_ble_eq_true rfl) (fun κ C X E => ?_)
  refine x_L (L' := [(0, .ref (t.1 5)), (1, .int x1)]) rfl ?_
  have hB := h.1.2.1
  have hlb := nI_toInt (n := sB σ) (by omega)
  refine x_aload_n (pc := 0) C 0 dX9_add_0 rfl ?_
  refine g_Tape_size (pc := 1) C E q7_23 dX9_add_1 ?_
  refine x_eq (show M 5 2 = nI (sB σ) from rc_tb h) ?_
  refine x_aload_n (pc := 4) C 0 dX9_add_4 rfl ?_
  refine g_Tape_bytes (pc := 5) C E q3_12 dX9_add_5 ?_
  refine n_bytes (pc := 8) C E dX9_add_8 ?_
  refine x_eq (show 160 = nI 160 from rfl) ?_
  have hl160 := nI_toInt (n := 160) (by decide)
  refine x_icmp_lt (pc := 9) C 14 dX9_add_9 (by decide) (fun h9 => ?_) (fun h9 => ?_)
  · have hb : sB σ < 160 := (by ((try simp only [inB_t, inB_f, i_lt, i_le, i_eq, ne_eq, Bool.not_eq_true, Bool.not_eq_false, hpB, decide_eq_true_eq, decide_eq_false_iff_not, li_0, li_1, li_2, li_3, li_4, li_5, li_6, li_7, li_8, li_9, li_10, li_20, li_40, li_99, li_100, li_255, li_899, li_999, li_m1, li_m2, li_m3, li_m4, li_m11, li_m12, li_m13, li_m14, li_m100] at hlb hl160 h9 ⊢) <;> omega))
    refine x_aload_n (pc := 14) C 0 dX9_add_14 rfl ?_
    refine g_Tape_bytes (pc := 15) C E q3_12 dX9_add_15 ?_
    refine x_aload_n (pc := 18) C 0 dX9_add_18 rfl ?_
    refine g_Tape_size (pc := 19) C E q7_23 dX9_add_19 ?_
    refine x_eq (show M 5 2 = nI (sB σ) from rc_tb h) ?_
    refine x_iload_n (pc := 22) C 1 dX9_add_22 rfl ?_
    refine s_bytes (pc := 23) C E (by omega) dX9_add_23 ?_
    refine x_aload_n (pc := 24) C 0 dX9_add_24 rfl ?_
    refine x_dup (pc := 25) C dX9_add_25 rfl ?_
    refine g_Tape_size (pc := 26) C E q7_23 dX9_add_26 ?_
    refine x_eq (show (mu M 6 (sB σ) x1) 5 2 = nI (sB σ) from (congrFun (mu_n _ _ _ _ (by decide)) _).trans (rc_tb h)) ?_
    refine x_iconst (pc := 29) (v := 1) C dX9_add_29 rfl ?_
    refine x_iadd (pc := 30) C dX9_add_30 ?_
    refine x_eq (show (nI (sB σ)) + 1 = nI (sB σ + 1) from (nI_1 _)) ?_
    refine p_Tape_size (pc := 31) C E q7_23 dX9_add_31 ?_
    refine x_iconst (pc := 34) (v := 1) C dX9_add_34 rfl ?_
    exact x_bret (pc := 35) C X (b := true) rfl dX9_add_35 ⟨by rw [decide_eq_true hb], by rw [if_pos hb]; exact rc_add h hb x1⟩
  · have hb : ¬ sB σ < 160 := (by ((try simp only [inB_t, inB_f, i_lt, i_le, i_eq, ne_eq, Bool.not_eq_true, Bool.not_eq_false, hpB, decide_eq_true_eq, decide_eq_false_iff_not, li_0, li_1, li_2, li_3, li_4, li_5, li_6, li_7, li_8, li_9, li_10, li_20, li_40, li_99, li_100, li_255, li_899, li_999, li_m1, li_m2, li_m3, li_m4, li_m11, li_m12, li_m13, li_m14, li_m100] at hlb hl160 h9 ⊢) <;> omega))
    refine x_iconst (pc := 12) (v := 0) C dX9_add_12 rfl ?_
    exact x_bret (pc := 13) C X (b := false) rfl dX9_add_13 ⟨by rw [decide_eq_false hb], by rw [if_neg hb]; exact h⟩

set_option maxRecDepth 100000 in
set_option maxHeartbeats 800000 in
theorem c_X9_clear (t : CT) {σ : SV} {M : MM} (h : RC σ M) : XMet (wC t) yX9_clear cX9_clear 1 none 1 [.ref (t.1 5)] M (fun r M' => r = none ∧ RC (setB σ 0 (sY σ)) M') := by
  refine x_met RX9 (by decide) rfl (Nat.le_of_ble_eq_true rfl) (fun κ C X E => ?_)
  refine x_L (L' := [(0, .ref (t.1 5))]) rfl ?_
  have hB := h.1.2.1
  refine x_aload_n (pc := 0) C 0 dX9_clear_0 rfl ?_
  refine x_iconst (pc := 1) (v := 0) C dX9_clear_1 rfl ?_
  refine p_Tape_size (pc := 2) C E q7_23 dX9_clear_2 ?_
  exact x_vret (pc := 5) C X dX9_clear_5 ⟨rfl, rc_nob h⟩

set_option maxRecDepth 100000 in
set_option maxHeartbeats 800000 in
theorem c_X11_feed (t : CT) {σ : SV} {M : MM} (h : RC σ M)(x1 : Int32) : XMet (wC t) yX11_feed cX11_feed 2 (some .int) 2 [.ref (t.1 0), .int x1] M (oR (o_feed σ x1)) := by
  refine x_met RX11 (by decide) rfl (Nat.le_of_ble_eq_true rfl) (fun κ C X E => ?_)
  refine x_L (L' := [(0, .ref (t.1 0)), (1, .int x1)]) rfl ?_
  have hn6 := rc_n6 h
  have hq6 := rc_q6 h
  have hq := rc_q h
  have hN6 := h.1.1
  have hB := h.1.2.1
  refine x_iload_n (pc := 0) C 1 dX11_feed_0 rfl ?_
  refine x_if_lt (pc := 1) C 11 dX11_feed_1 (by decide) (fun h1 => ?_) (fun h1 => ?_)
  · refine x_bipush (pc := 11) (v := (-2)) C dX11_feed_11 rfl ?_
    exact x_iret (pc := 13) C X dX11_feed_13 (fin (by
          unfold o_feed
          repeat (first | with_reducible rfl | (refine (if_pos ?_).trans ?_; ((try simp only [inB_t, inB_f, i_lt, i_le, i_eq, ne_eq, Bool.not_eq_true, Bool.not_eq_false, hpB, decide_eq_true_eq, decide_eq_false_iff_not, li_0, li_1, li_2, li_3, li_4, li_5, li_6, li_7, li_8, li_9, li_10, li_20, li_40, li_99, li_100, li_255, li_899, li_999, li_m1, li_m2, li_m3, li_m4, li_m11, li_m12, li_m13, li_m14, li_m100] at h1 ⊢) <;> omega)) | (refine (if_neg ?_).trans ?_; ((try simp only [inB_t, inB_f, i_lt, i_le, i_eq, ne_eq, Bool.not_eq_true, Bool.not_eq_false, hpB, decide_eq_true_eq, decide_eq_false_iff_not, li_0, li_1, li_2, li_3, li_4, li_5, li_6, li_7, li_8, li_9, li_10, li_20, li_40, li_99, li_100, li_255, li_899, li_999, li_m1, li_m2, li_m3, li_m4, li_m11, li_m12, li_m13, li_m14, li_m100] at h1 ⊢) <;> omega)) | fail)
          all_goals (first | with_reducible rfl | (exfalso; ((try simp only [inB_t, inB_f, i_lt, i_le, i_eq, ne_eq, Bool.not_eq_true, Bool.not_eq_false, hpB, decide_eq_true_eq, decide_eq_false_iff_not, li_0, li_1, li_2, li_3, li_4, li_5, li_6, li_7, li_8, li_9, li_10, li_20, li_40, li_99, li_100, li_255, li_899, li_999, li_m1, li_m2, li_m3, li_m4, li_m11, li_m12, li_m13, li_m14, li_m100] at h1 ⊢) <;> omega)))) h)
  · refine x_iload_n (pc := 4) C 1 dX11_feed_4 rfl ?_
    refine x_sipush (pc := 5) (v := 255) C dX11_feed_5 rfl ?_
    refine x_icmp_le (pc := 8) C 14 dX11_feed_8 (by decide) (fun h8 => ?_) (fun h8 => ?_)
    · refine x_aload_n (pc := 14) C 0 dX11_feed_14 rfl ?_
      refine g_main_tape (pc := 15) C E q1_21 dX11_feed_15 ?_
      refine x_iload_n (pc := 18) C 1 dX11_feed_18 rfl ?_
      refine x_callV (pc := 19) C E [.int x1] [] (c_X9_add t h _) m_X9_add q7_19 xo_Tape rfl (by decide) (Nat.le_of_ble_eq_true rfl) dX11_feed_19 rfl (fun r M19 hc19 => ?_)
      obtain ⟨rfl, hR19⟩ := hc19
      show XV κ (xP (wC t) M19) 22 _ [.int (b2i (decide (sB σ < 160)))]
      refine x_ifb_eq (pc := 22) C 35 dX11_feed_22 (by decide) (fun h22 => ?_) (fun h22 => ?_)
      · have hb := of_decide_eq_false h22
        rw [if_neg hb] at hR19
        have hb2 : sB σ = 160 := by omega
        refine x_bipush (pc := 35) (v := (-4)) C dX11_feed_35 rfl ?_
        exact x_iret (pc := 37) C X dX11_feed_37 (fin (by
              unfold o_feed
              repeat (first | with_reducible rfl | (refine (if_pos ?_).trans ?_; ((try simp only [inB_t, inB_f, i_lt, i_le, i_eq, ne_eq, Bool.not_eq_true, Bool.not_eq_false, hpB, decide_eq_true_eq, decide_eq_false_iff_not, li_0, li_1, li_2, li_3, li_4, li_5, li_6, li_7, li_8, li_9, li_10, li_20, li_40, li_99, li_100, li_255, li_899, li_999, li_m1, li_m2, li_m3, li_m4, li_m11, li_m12, li_m13, li_m14, li_m100] at h1 h8 h22 hb2 ⊢) <;> omega)) | (refine (if_neg ?_).trans ?_; ((try simp only [inB_t, inB_f, i_lt, i_le, i_eq, ne_eq, Bool.not_eq_true, Bool.not_eq_false, hpB, decide_eq_true_eq, decide_eq_false_iff_not, li_0, li_1, li_2, li_3, li_4, li_5, li_6, li_7, li_8, li_9, li_10, li_20, li_40, li_99, li_100, li_255, li_899, li_999, li_m1, li_m2, li_m3, li_m4, li_m11, li_m12, li_m13, li_m14, li_m100] at h1 h8 h22 hb2 ⊢) <;> omega)) | fail)
              all_goals (first | with_reducible (first | rfl | (unfold setB1; rfl)) | (exfalso; ((try simp only [inB_t, inB_f, i_lt, i_le, i_eq, ne_eq, Bool.not_eq_true, Bool.not_eq_false, hpB, decide_eq_true_eq, decide_eq_false_iff_not, li_0, li_1, li_2, li_3, li_4, li_5, li_6, li_7, li_8, li_9, li_10, li_20, li_40, li_99, li_100, li_255, li_899, li_999, li_m1, li_m2, li_m3, li_m4, li_m11, li_m12, li_m13, li_m14, li_m100] at h1 h8 h22 hb2 ⊢) <;> omega)))) hR19)
      · have hb := of_decide_eq_true h22
        rw [if_pos hb] at hR19
        have hb2 : ¬ sB σ = 160 := by omega
        refine x_aload_n (pc := 25) C 0 dX11_feed_25 rfl ?_
        refine g_main_tape (pc := 26) C E q1_21 dX11_feed_26 ?_
        refine g_Tape_size (pc := 29) C E q26_6 dX11_feed_29 ?_
        refine x_eq (show M19 5 2 = nI (sB σ + 1) from (rc_tb (σ := setB1 σ x1) hR19)) ?_
        refine x_goto (pc := 32) C 37 dX11_feed_32 (by decide) ?_
        exact x_iret (pc := 37) C X dX11_feed_37 (fin (by
              unfold o_feed
              repeat (first | with_reducible rfl | (refine (if_pos ?_).trans ?_; ((try simp only [inB_t, inB_f, i_lt, i_le, i_eq, ne_eq, Bool.not_eq_true, Bool.not_eq_false, hpB, decide_eq_true_eq, decide_eq_false_iff_not, li_0, li_1, li_2, li_3, li_4, li_5, li_6, li_7, li_8, li_9, li_10, li_20, li_40, li_99, li_100, li_255, li_899, li_999, li_m1, li_m2, li_m3, li_m4, li_m11, li_m12, li_m13, li_m14, li_m100] at h1 h8 h22 hb2 ⊢) <;> omega)) | (refine (if_neg ?_).trans ?_; ((try simp only [inB_t, inB_f, i_lt, i_le, i_eq, ne_eq, Bool.not_eq_true, Bool.not_eq_false, hpB, decide_eq_true_eq, decide_eq_false_iff_not, li_0, li_1, li_2, li_3, li_4, li_5, li_6, li_7, li_8, li_9, li_10, li_20, li_40, li_99, li_100, li_255, li_899, li_999, li_m1, li_m2, li_m3, li_m4, li_m11, li_m12, li_m13, li_m14, li_m100] at h1 h8 h22 hb2 ⊢) <;> omega)) | fail)
              all_goals (first | with_reducible (first | rfl | (unfold setB1; rfl)) | (exfalso; ((try simp only [inB_t, inB_f, i_lt, i_le, i_eq, ne_eq, Bool.not_eq_true, Bool.not_eq_false, hpB, decide_eq_true_eq, decide_eq_false_iff_not, li_0, li_1, li_2, li_3, li_4, li_5, li_6, li_7, li_8, li_9, li_10, li_20, li_40, li_99, li_100, li_255, li_899, li_999, li_m1, li_m2, li_m3, li_m4, li_m11, li_m12, li_m13, li_m14, li_m100] at h1 h8 h22 hb2 ⊢) <;> omega)))) hR19)
    · refine x_bipush (pc := 11) (v := (-2)) C dX11_feed_11 rfl ?_
      exact x_iret (pc := 13) C X dX11_feed_13 (fin (by
            unfold o_feed
            repeat (first | with_reducible rfl | (refine (if_pos ?_).trans ?_; ((try simp only [inB_t, inB_f, i_lt, i_le, i_eq, ne_eq, Bool.not_eq_true, Bool.not_eq_false, hpB, decide_eq_true_eq, decide_eq_false_iff_not, li_0, li_1, li_2, li_3, li_4, li_5, li_6, li_7, li_8, li_9, li_10, li_20, li_40, li_99, li_100, li_255, li_899, li_999, li_m1, li_m2, li_m3, li_m4, li_m11, li_m12, li_m13, li_m14, li_m100] at h1 h8 ⊢) <;> omega)) | (refine (if_neg ?_).trans ?_; ((try simp only [inB_t, inB_f, i_lt, i_le, i_eq, ne_eq, Bool.not_eq_true, Bool.not_eq_false, hpB, decide_eq_true_eq, decide_eq_false_iff_not, li_0, li_1, li_2, li_3, li_4, li_5, li_6, li_7, li_8, li_9, li_10, li_20, li_40, li_99, li_100, li_255, li_899, li_999, li_m1, li_m2, li_m3, li_m4, li_m11, li_m12, li_m13, li_m14, li_m100] at h1 h8 ⊢) <;> omega)) | fail)
            all_goals (first | with_reducible rfl | (exfalso; ((try simp only [inB_t, inB_f, i_lt, i_le, i_eq, ne_eq, Bool.not_eq_true, Bool.not_eq_false, hpB, decide_eq_true_eq, decide_eq_false_iff_not, li_0, li_1, li_2, li_3, li_4, li_5, li_6, li_7, li_8, li_9, li_10, li_20, li_40, li_99, li_100, li_255, li_899, li_999, li_m1, li_m2, li_m3, li_m4, li_m11, li_m12, li_m13, li_m14, li_m100] at h1 h8 ⊢) <;> omega)))) h)

def a_again (σ : SV) (a b : Int32) : Int32 :=
  if two σ a b = false then -2
  else if (vRd (sV σ) (oN a) && vRd (sV σ) (oN b)) = false then 0
  else mk (vHas (sCp σ (sV σ) (oN a) (oN b)).1 (oN b)) 8 &&& (mk (vHas (sV σ) (oN b)) 8 ^^^ (-1))
set_option maxRecDepth 100000 in
set_option maxHeartbeats 800000 in
theorem c_X11_again (t : CT) {σ : SV} {M : MM} (h : RC σ M)(x1 x2 : Int32) : XMet (wC t) yX11_again cX11_again 3 (some .int) 7 [.ref (t.1 0), .int x1, .int x2] M (aR σ (a_again σ x1 x2)) := by
  refine x_met RX11 (by decide) rfl (Nat.le_of_ble_eq_true rfl) (fun κ C X E => ?_)
  refine x_L (L' := [(0, .ref (t.1 0)), (1, .int x1), (2, .int x2)]) rfl ?_
  have hn6 := rc_n6 h
  have hq6 := rc_q6 h
  have hq := rc_q h
  have hN6 := h.1.1
  have hB := h.1.2.1
  refine x_aload_n (pc := 0) C 0 dX11_again_0 rfl ?_
  refine x_iload_n (pc := 1) C 1 dX11_again_1 rfl ?_
  refine x_iload_n (pc := 2) C 2 dX11_again_2 rfl ?_
  refine x_callV (pc := 3) C E [.int x1, .int x2] [] ( c_X11_areTwo t h _ _) m_X11_areTwo q29_16 xo_main rfl (by decide) (Nat.le_of_ble_eq_true rfl) dX11_again_3 rfl (k_I ?_)
  refine x_ifb_ne (pc := 6) C 12 dX11_again_6 (by decide) (fun h6 => ?_) (fun h6 => ?_)
  · have htw := h6
    unfold two at htw
    rw [Bool.and_eq_true, Bool.and_eq_true] at htw
    obtain ⟨⟨hta, htb⟩, htc⟩ := htw
    obtain ⟨a, ha, ea⟩ := inB_of hta (by omega)
    have hta := nI_toInt (n := a) (by omega)
    have hoa := oN_nI (n := a) (by omega)
    subst ea
    obtain ⟨b, hb, eb⟩ := inB_of htb (by omega)
    have htb := nI_toInt (n := b) (by omega)
    have hob := oN_nI (n := b) (by omega)
    subst eb
    refine x_aload_n (pc := 12) C 0 dX11_again_12 rfl ?_
    refine g_main_now (pc := 13) C E q2_1 dX11_again_13 ?_
    refine x_iload_n (pc := 16) C 1 dX11_again_16 rfl ?_
    refine x_iload_n (pc := 17) C 2 dX11_again_17 rfl ?_
    refine x_callV (pc := 18) C E [.int (nI a), .int (nI b)] [] (w_canCopy t (by decide : 0 < 3) h.2.1 (by omega) (by omega)) m_X10_canCopy q29_20 (xo_World (i := 0) (by omega)) rfl (by decide) (Nat.le_of_ble_eq_true rfl) dX11_again_18 rfl (k_I ?_)
    refine x_ifb_ne (pc := 21) C 26 dX11_again_21 (by decide) (fun h21 => ?_) (fun h21 => ?_)
    · refine x_aload_n (pc := 26) C 0 dX11_again_26 rfl ?_
      refine g_main_thought (pc := 27) C E q2_3 dX11_again_27 ?_
      refine x_aload_n (pc := 30) C 0 dX11_again_30 rfl ?_
      refine g_main_now (pc := 31) C E q2_1 dX11_again_31 ?_
      refine x_callV (pc := 34) C E [.ref (t.1 (7 + 0))] [] (c_think t h) m_X10_become q36_4 (xo_World (i := 2) (by omega)) rfl (by decide) (Nat.le_of_ble_eq_true rfl) dX11_again_34 rfl (fun r M34 hc34 => ?_)
      obtain ⟨rfl, hR34, hV34, hO34⟩ := hc34
      show XV κ (xP (wC t) M34) 37 _ []
      refine x_aload_n (pc := 37) C 0 dX11_again_37 rfl ?_
      refine g_main_thought (pc := 38) C E q2_3 dX11_again_38 ?_
      refine x_iload_n (pc := 41) C 1 dX11_again_41 rfl ?_
      refine x_iload_n (pc := 42) C 2 dX11_again_42 rfl ?_
      refine x_aload_n (pc := 43) C 0 dX11_again_43 rfl ?_
      refine x_callV (pc := 44) C E [] [.int (nI b), .int (nI a), .ref (t.1 (7 + 2))] (c_X11_rule t hR34) m_X11_rule q23_15 xo_main rfl (by decide) (Nat.le_of_ble_eq_true rfl) dX11_again_44 rfl (k_A ?_)
      refine x_callV (pc := 47) C E [.int (nI a), .int (nI b), .ref (t.1 (19 + 5 * (vR (sV σ))))] [] (c_copyT t hR34 hV34 (a := a) (b := b) (by omega) (by omega) (rc_q hR34)) m_X10_copyOnto q30_2 (xo_World (i := 2) (by omega)) rfl (by decide) (Nat.le_of_ble_eq_true rfl) dX11_again_47 rfl (fun r M47 hc47 => ?_)
      rw [sCp_eq] at hc47
      obtain ⟨rfl, hR47, hV47, hO47⟩ := hc47
      show XV κ (xP (wC t) M47) 50 _ [.int (nI (sCp σ (sV σ) a b).2)]
      refine x_pop (pc := 50) C dX11_again_50 rfl ?_
      refine x_aload_n (pc := 51) C 0 dX11_again_51 rfl ?_
      refine g_main_thought (pc := 52) C E q2_3 dX11_again_52 ?_
      refine g_World_disks (pc := 55) C E (i := 2) (by omega) q12_15 dX11_again_55 ?_
      refine x_iload_n (pc := 58) C 2 dX11_again_58 rfl ?_
      refine l_disks (pc := 59) C E (i := 2) (by omega) (by omega) dX11_again_59 ?_
      refine g_Disk_held (pc := 60) C E (by omega) q20_7 dX11_again_60 ?_
      refine x_eq (show M47 (62 + 3 * (6 * 2 + b)) 3 = mk (vHas (sCp σ (sV σ) a b).1 b) 8 from (hV47.2.2.2.2 b (by rw [(sCp_rest σ (sV σ) a b).1]; exact hb)).2.2.2.2.1) ?_
      refine x_aload_n (pc := 63) C 0 dX11_again_63 rfl ?_
      refine g_main_now (pc := 64) C E q2_1 dX11_again_64 ?_
      refine g_World_disks (pc := 67) C E (i := 0) (by omega) q12_15 dX11_again_67 ?_
      refine x_iload_n (pc := 70) C 2 dX11_again_70 rfl ?_
      refine l_disks (pc := 71) C E (i := 0) (by omega) (by omega) dX11_again_71 ?_
      refine g_Disk_held (pc := 72) C E (by omega) q20_7 dX11_again_72 ?_
      refine x_eq (show M47 (62 + 3 * (6 * 0 + b)) 3 = mk (vHas (sV σ) b) 8 from rc_held hR47 (by omega)) ?_
      refine x_iconst (pc := 75) (v := (-1)) C dX11_again_75 rfl ?_
      refine x_ixor (pc := 76) C dX11_again_76 ?_
      refine x_iand (pc := 77) C dX11_again_77 ?_
      exact x_iret (pc := 78) C X dX11_again_78 (fia (by
            unfold a_again
            simp only [hoa, hob]
            repeat (first | with_reducible rfl | (refine (if_pos ?_).trans ?_; ((try simp only [inB_t, inB_f, i_lt, i_le, i_eq, ne_eq, Bool.not_eq_true, Bool.not_eq_false, hpB, decide_eq_true_eq, decide_eq_false_iff_not, li_0, li_1, li_2, li_3, li_4, li_5, li_6, li_7, li_8, li_9, li_10, li_20, li_40, li_99, li_100, li_255, li_899, li_999, li_m1, li_m2, li_m3, li_m4, li_m11, li_m12, li_m13, li_m14, li_m100] at h6 hta htb h21 ⊢) <;> omega)) | (refine (if_neg ?_).trans ?_; ((try simp only [inB_t, inB_f, i_lt, i_le, i_eq, ne_eq, Bool.not_eq_true, Bool.not_eq_false, hpB, decide_eq_true_eq, decide_eq_false_iff_not, li_0, li_1, li_2, li_3, li_4, li_5, li_6, li_7, li_8, li_9, li_10, li_20, li_40, li_99, li_100, li_255, li_899, li_999, li_m1, li_m2, li_m3, li_m4, li_m11, li_m12, li_m13, li_m14, li_m100] at h6 hta htb h21 ⊢) <;> omega)) | fail)
            all_goals (first | with_reducible rfl | (exfalso; ((try simp only [inB_t, inB_f, i_lt, i_le, i_eq, ne_eq, Bool.not_eq_true, Bool.not_eq_false, hpB, decide_eq_true_eq, decide_eq_false_iff_not, li_0, li_1, li_2, li_3, li_4, li_5, li_6, li_7, li_8, li_9, li_10, li_20, li_40, li_99, li_100, li_255, li_899, li_999, li_m1, li_m2, li_m3, li_m4, li_m11, li_m12, li_m13, li_m14, li_m100] at h6 hta htb h21 ⊢) <;> omega)))) hR47)
    · refine x_iconst (pc := 24) (v := 0) C dX11_again_24 rfl ?_
      exact x_iret (pc := 25) C X dX11_again_25 (fia (by
            unfold a_again
            simp only [hoa, hob]
            repeat (first | with_reducible rfl | (refine (if_pos ?_).trans ?_; ((try simp only [inB_t, inB_f, i_lt, i_le, i_eq, ne_eq, Bool.not_eq_true, Bool.not_eq_false, hpB, decide_eq_true_eq, decide_eq_false_iff_not, li_0, li_1, li_2, li_3, li_4, li_5, li_6, li_7, li_8, li_9, li_10, li_20, li_40, li_99, li_100, li_255, li_899, li_999, li_m1, li_m2, li_m3, li_m4, li_m11, li_m12, li_m13, li_m14, li_m100] at h6 hta htb h21 ⊢) <;> omega)) | (refine (if_neg ?_).trans ?_; ((try simp only [inB_t, inB_f, i_lt, i_le, i_eq, ne_eq, Bool.not_eq_true, Bool.not_eq_false, hpB, decide_eq_true_eq, decide_eq_false_iff_not, li_0, li_1, li_2, li_3, li_4, li_5, li_6, li_7, li_8, li_9, li_10, li_20, li_40, li_99, li_100, li_255, li_899, li_999, li_m1, li_m2, li_m3, li_m4, li_m11, li_m12, li_m13, li_m14, li_m100] at h6 hta htb h21 ⊢) <;> omega)) | fail)
            all_goals (first | with_reducible rfl | (exfalso; ((try simp only [inB_t, inB_f, i_lt, i_le, i_eq, ne_eq, Bool.not_eq_true, Bool.not_eq_false, hpB, decide_eq_true_eq, decide_eq_false_iff_not, li_0, li_1, li_2, li_3, li_4, li_5, li_6, li_7, li_8, li_9, li_10, li_20, li_40, li_99, li_100, li_255, li_899, li_999, li_m1, li_m2, li_m3, li_m4, li_m11, li_m12, li_m13, li_m14, li_m100] at h6 hta htb h21 ⊢) <;> omega)))) h)
  · refine x_bipush (pc := 9) (v := (-2)) C dX11_again_9 rfl ?_
    exact x_iret (pc := 11) C X dX11_again_11 (fia (by
          unfold a_again
          repeat (first | with_reducible rfl | (refine (if_pos ?_).trans ?_; ((try simp only [inB_t, inB_f, i_lt, i_le, i_eq, ne_eq, Bool.not_eq_true, Bool.not_eq_false, hpB, decide_eq_true_eq, decide_eq_false_iff_not, li_0, li_1, li_2, li_3, li_4, li_5, li_6, li_7, li_8, li_9, li_10, li_20, li_40, li_99, li_100, li_255, li_899, li_999, li_m1, li_m2, li_m3, li_m4, li_m11, li_m12, li_m13, li_m14, li_m100] at h6 ⊢) <;> omega)) | (refine (if_neg ?_).trans ?_; ((try simp only [inB_t, inB_f, i_lt, i_le, i_eq, ne_eq, Bool.not_eq_true, Bool.not_eq_false, hpB, decide_eq_true_eq, decide_eq_false_iff_not, li_0, li_1, li_2, li_3, li_4, li_5, li_6, li_7, li_8, li_9, li_10, li_20, li_40, li_99, li_100, li_255, li_899, li_999, li_m1, li_m2, li_m3, li_m4, li_m11, li_m12, li_m13, li_m14, li_m100] at h6 ⊢) <;> omega)) | fail)
          all_goals (first | with_reducible rfl | (exfalso; ((try simp only [inB_t, inB_f, i_lt, i_le, i_eq, ne_eq, Bool.not_eq_true, Bool.not_eq_false, hpB, decide_eq_true_eq, decide_eq_false_iff_not, li_0, li_1, li_2, li_3, li_4, li_5, li_6, li_7, li_8, li_9, li_10, li_20, li_40, li_99, li_100, li_255, li_899, li_999, li_m1, li_m2, li_m3, li_m4, li_m11, li_m12, li_m13, li_m14, li_m100] at h6 ⊢) <;> omega)))) h)

def goF (v : WV) (d D : Nat) : Nat → Int32
  | 0 => -1
  | k + 1 => if kReads (vK v d) (nI D - vS v d) (nI D) (vU v d) then goF v d (D + 1) k else nI D
def a_goes (σ : SV) (d : Int32) : Int32 :=
  if inB d (vN (sV σ)) = false then -2 else goF (sV σ) (oN d) (oN (vD (sV σ))) (1000 - oN (vD (sV σ)))
theorem rdJ_v {σ : SV} {M : MM} (h : RC σ M) {d : Nat} (hd : d < vN (sV σ)) (x : Int32) : rdJ M (6 * 0 + d) x = kReads (vK (sV σ) d) (x - vS (sV σ) d) x (vU (sV σ) d) := by
  unfold rdJ
  rw [rc_kd h hd, rc_num h hd, rc_since h hd]
set_option maxRecDepth 100000 in
set_option maxHeartbeats 800000 in
theorem c_X11_goes (t : CT) {σ : SV} {M : MM} (h : RC σ M)(x1 : Int32) : XMet (wC t) yX11_goes cX11_goes 3 (some .int) 5 [.ref (t.1 0), .int x1] M (aR σ (a_goes σ x1)) := by
  refine x_met RX11 (by decide) rfl (Nat.le_of_ble_eq_true rfl) (fun κ C X E => ?_)
  refine x_L (L' := [(0, .ref (t.1 0)), (1, .int x1)]) rfl ?_
  have hn6 := rc_n6 h
  have hq6 := rc_q6 h
  have hq := rc_q h
  have hN6 := h.1.1
  have hB := h.1.2.1
  refine x_aload_n (pc := 0) C 0 dX11_goes_0 rfl ?_
  refine g_main_now (pc := 1) C E q2_1 dX11_goes_1 ?_
  refine x_iload_n (pc := 4) C 1 dX11_goes_4 rfl ?_
  refine x_callV (pc := 5) C E [.int x1] [] (w_has t (by decide : 0 < 3) h.2.1 _) m_X10_has q12_18 (xo_World (i := 0) (by omega)) rfl (by decide) (Nat.le_of_ble_eq_true rfl) dX11_goes_5 rfl (k_I ?_)
  refine x_ifb_ne (pc := 8) C 14 dX11_goes_8 (by decide) (fun h8 => ?_) (fun h8 => ?_)
  · obtain ⟨d, hd, ed⟩ := inB_of h8 (by omega)
    have htd := nI_toInt (n := d) (by omega)
    have hod := oN_nI (n := d) (by omega)
    subst ed
    obtain ⟨D, hD, eD⟩ := h.1.2.2.1.2.2
    refine x_aload_n (pc := 14) C 0 dX11_goes_14 rfl ?_
    refine g_main_now (pc := 15) C E q2_1 dX11_goes_15 ?_
    refine g_World_day (pc := 18) C E (i := 0) (by omega) q12_14 dX11_goes_18 ?_
    refine x_eq (show M (7 + 0) 0 = vD (sV σ) from rc_day h) ?_
    refine x_eq (show vD (sV σ) = nI D from eD) ?_
    refine x_istore_n (pc := 21) (L' := [(2, .int (nI D)), (0, .ref (t.1 0)), (1, .int (nI d))]) C dX11_goes_21 (by decide) rfl ?_
    have loop22 : ∀ (k i : Nat) (y : Int32) , i + k = 1000 → y = nI i → goF (sV σ) d i k = a_goes σ (nI d) → XV κ (xP (wC t) M) 22 [(2, .int y), (0, .ref (t.1 0)), (1, .int (nI d))] [] := by
      intro k
      induction k with
        | zero =>
          intro i y  hcnt ey hg
          subst ey
          obtain rfl : 1000 = i := by omega
          refine x_iload_n (pc := 22) C 0 dX11_goes_22 rfl ?_
          refine x_sipush (pc := 23) (v := 999) C dX11_goes_23 rfl ?_
          refine x_icmp_gt_t (pc := 26) C 53 dX11_goes_26 (by decide) (i_lt.mpr (by rw [nI_toInt (by decide)]; decide)) ?_
          refine x_iconst (pc := 53) (v := (-1)) C dX11_goes_53 rfl ?_
          exact x_iret (pc := 54) C X dX11_goes_54 (fia hg.symm h)
        | succ k ih =>
          intro i y  hcnt ey hg
          subst ey
          have hi22 : i < 1000 := by omega
          refine x_iload_n (pc := 22) C 0 dX11_goes_22 rfl ?_
          refine x_sipush (pc := 23) (v := 999) C dX11_goes_23 rfl ?_
          refine x_icmp_gt_f (pc := 26) C 53 dX11_goes_26 (by decide) (fun hh => by rw [i_lt, nI_toInt (by omega), li_999] at hh; omega) ?_
          refine x_aload_n (pc := 29) C 1 dX11_goes_29 rfl ?_
          refine g_main_now (pc := 30) C E q2_1 dX11_goes_30 ?_
          refine g_World_disks (pc := 33) C E (i := 0) (by omega) q12_15 dX11_goes_33 ?_
          refine x_iload_n (pc := 36) C 2 dX11_goes_36 rfl ?_
          refine l_disks (pc := 37) C E (i := 0) (by omega) (by omega) dX11_goes_37 ?_
          refine x_iload_n (pc := 38) C 0 dX11_goes_38 rfl ?_
          refine x_callV (pc := 39) C E [.int (nI i)] [] (c_X2_readsOn t _ (j := 6 * 0 + d) (by omega) (rc_k6 h hd) _) m_X2_readsOn q20_8 (xo_Disk (j := 6 * 0 + d) (by omega)) rfl (by decide) (Nat.le_of_ble_eq_true rfl) dX11_goes_39 rfl (k_I ?_)
          refine x_eq (show _ = b2i (kReads (vK (sV σ) d) (nI i - vS (sV σ) d) (nI i) (vU (sV σ) d)) from by rw [rdJ_v h hd]) ?_
          refine x_ifb_ne (pc := 42) C 47 dX11_goes_42 (by decide) (fun h42 => ?_) (fun h42 => ?_)
          · refine x_iinc (pc := 47) (v := nI (i + 1)) (L' := [(2, .int (nI (i + 1))), (0, .ref (t.1 0)), (1, .int (nI d))]) C 0 dX11_goes_47 rfl (nI_1 _) (by decide) rfl ?_
            refine x_goto (pc := 50) C 22 dX11_goes_50 (by decide) ?_
            refine x_sub [0, 1, 2] rfl ?_
            exact ih (i + 1) _ (by omega) rfl (by rw [← hg, goF, if_pos h42])
          · refine x_iload_n (pc := 45) C 0 dX11_goes_45 rfl ?_
            exact x_iret (pc := 46) C X dX11_goes_46 (fia (hg.symm.trans (by rw [goF, if_neg (by rw [h42]; decide)])) h)
    refine x_sub [0, 1, 2] rfl ?_
    exact loop22 (1000 - D) D _ (by omega) rfl (by unfold a_goes; rw [if_neg (by rw [h8]; decide), eD, hod, oN_nI (by omega)])
  · refine x_bipush (pc := 11) (v := (-2)) C dX11_goes_11 rfl ?_
    exact x_iret (pc := 13) C X dX11_goes_13 (fia (by
          unfold a_goes
          repeat (first | with_reducible rfl | (refine (if_pos ?_).trans ?_; ((try simp only [inB_t, inB_f, i_lt, i_le, i_eq, ne_eq, Bool.not_eq_true, Bool.not_eq_false, hpB, decide_eq_true_eq, decide_eq_false_iff_not, li_0, li_1, li_2, li_3, li_4, li_5, li_6, li_7, li_8, li_9, li_10, li_20, li_40, li_99, li_100, li_255, li_899, li_999, li_m1, li_m2, li_m3, li_m4, li_m11, li_m12, li_m13, li_m14, li_m100] at h8 ⊢) <;> omega)) | (refine (if_neg ?_).trans ?_; ((try simp only [inB_t, inB_f, i_lt, i_le, i_eq, ne_eq, Bool.not_eq_true, Bool.not_eq_false, hpB, decide_eq_true_eq, decide_eq_false_iff_not, li_0, li_1, li_2, li_3, li_4, li_5, li_6, li_7, li_8, li_9, li_10, li_20, li_40, li_99, li_100, li_255, li_899, li_999, li_m1, li_m2, li_m3, li_m4, li_m11, li_m12, li_m13, li_m14, li_m100] at h8 ⊢) <;> omega)) | fail)
          all_goals (first | with_reducible rfl | (exfalso; ((try simp only [inB_t, inB_f, i_lt, i_le, i_eq, ne_eq, Bool.not_eq_true, Bool.not_eq_false, hpB, decide_eq_true_eq, decide_eq_false_iff_not, li_0, li_1, li_2, li_3, li_4, li_5, li_6, li_7, li_8, li_9, li_10, li_20, li_40, li_99, li_100, li_255, li_899, li_999, li_m1, li_m2, li_m3, li_m4, li_m11, li_m12, li_m13, li_m14, li_m100] at h8 ⊢) <;> omega)))) h)

